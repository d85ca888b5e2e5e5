/-! the other acts of the class -/
theorem fq_okc {n : Int} {G : FpG} (h : fq_I n G) {p : Nat} (hp : (p : Int) < G 1 4) : fp_okc2 G p := ⟨fun j hj => (h.2.1 p j hp hj).2, h.1.2.2.2.1.1, h.1.2.2.2.1.2, h.1.2.2.2.2.1.1, h.1.2.2.2.2.1.2⟩
theorem fq_sml {n : Int} {G : FpG} (h : fq_I n G) (hn : n ≤ 600) : fp_sml G := by
  refine ⟨fun p hp => ?_, fun k h1 h2 => ?_⟩
  · have := h.2.2.1 p hp
    omega
  · have := h.2.2.2.2.2.2 k h1 h2
    omega
theorem fq_hc {n : Int} {G : FpG} (h : fq_I n G) (hn : n ≤ 600) : fp_hc G 12 := by
  have h4 := h.2.2.2.2.2.2 4 (by omega) (by omega)
  have h6 := h.2.2.2.2.2.2 6 (by omega) (by omega)
  refine ⟨h.1.1, h.1.2.2.1.2, fun t ht => ?_, fun p hp => ?_, h4.1, by omega, h6.1, by omega⟩
  · have := (h.2.2.2.2.2.1 t ht).1
    have := h.1.1
    omega
  · have := h.2.2.1 p hp
    omega
set_option maxHeartbeats 600000 in
set_option maxRecDepth 100000 in
theorem sp_part {L d : Nat} {n s l : Int} {H : FpH} {Q : FpQ} (hn : 1 ≤ n ∧ n ≤ 600) (hI : fq_I n (H 0)) (hY : fq_Y H) (hq : Q (some (.inl (fq_part (H 0) s l).1)) (fq_do H (fq_part (H 0) s l).2)) : fp_Wp L (d + 3) 53 0 (fp_en 53 [.inr (7, 14), .inl s, .inl l]) [] H Q := by
  unfold fq_part at hq
  have hns := hI.1.2.1
  refine fp_go 1000 [] (fun KN KC hN hC => ?_)
  conv => whnf
  (try simp only [Int.reduceToNat, Int.toNat_natCast, fp_up_c, fp_up_s, fp_up_i, fp_cp_c, fp_g_s, Nat.reduceBEq, Int.reduceAdd, Int.reduceSub, Int.reduceNeg, Int.reduceMul, fp_gu_c, fp_gu_s, fp_lose_o, fp_scut_o, fp_tk_o, fp_lrem_o, fp_push_0])
  (repeat' first
      | (refine And.intro (by first | omega | (unfold fp_rg; omega)) ?_; (try intro _); (conv => whnf); (try simp only [Int.reduceToNat, Int.toNat_natCast, fp_up_c, fp_up_s, fp_up_i, fp_cp_c, fp_g_s, Nat.reduceBEq, Int.reduceAdd, Int.reduceSub, Int.reduceNeg, Int.reduceMul, fp_gu_c, fp_gu_s, fp_lose_o, fp_scut_o, fp_tk_o, fp_lrem_o, fp_push_0]))
      | (refine And.intro (fun _ => ?_) (fun _ => ?_) <;> first | (exfalso; omega) | (rename_i hz_; exact absurd trivial hz_) | ((conv => whnf); (try simp only [Int.reduceToNat, Int.toNat_natCast, fp_up_c, fp_up_s, fp_up_i, fp_cp_c, fp_g_s, Nat.reduceBEq, Int.reduceAdd, Int.reduceSub, Int.reduceNeg, Int.reduceMul, fp_gu_c, fp_gu_s, fp_lose_o, fp_scut_o, fp_tk_o, fp_lrem_o, fp_push_0])))
      | (refine And.intro (by simp [fp_rg, fp_up, fp_cp] <;> omega) ?_; (conv => whnf); (try simp only [Int.reduceToNat, Int.toNat_natCast, fp_up_c, fp_up_s, fp_up_i, fp_cp_c, fp_g_s, Nat.reduceBEq, Int.reduceAdd, Int.reduceSub, Int.reduceNeg, Int.reduceMul, fp_gu_c, fp_gu_s, fp_lose_o, fp_scut_o, fp_tk_o, fp_lrem_o, fp_push_0]))
      | fail)
  refine hC _ _ _ _ ⟨_, rfl, ?_⟩
  refine sp_shas (fun h1 => ?_) (fun h1 => ?_)
  rotate_left
  · conv => whnf
    (try simp only [Int.reduceToNat, Int.toNat_natCast, fp_up_c, fp_up_s, fp_up_i, fp_cp_c, fp_g_s, Nat.reduceBEq, Int.reduceAdd, Int.reduceSub, Int.reduceNeg, Int.reduceMul, fp_gu_c, fp_gu_s, fp_lose_o, fp_scut_o, fp_tk_o, fp_lrem_o, fp_push_0])
    (repeat' first
        | (refine And.intro (by first | omega | (unfold fp_rg; omega)) ?_; (try intro _); (conv => whnf); (try simp only [Int.reduceToNat, Int.toNat_natCast, fp_up_c, fp_up_s, fp_up_i, fp_cp_c, fp_g_s, Nat.reduceBEq, Int.reduceAdd, Int.reduceSub, Int.reduceNeg, Int.reduceMul, fp_gu_c, fp_gu_s, fp_lose_o, fp_scut_o, fp_tk_o, fp_lrem_o, fp_push_0]))
        | (refine And.intro (fun _ => ?_) (fun _ => ?_) <;> first | (exfalso; omega) | (rename_i hz_; exact absurd trivial hz_) | ((conv => whnf); (try simp only [Int.reduceToNat, Int.toNat_natCast, fp_up_c, fp_up_s, fp_up_i, fp_cp_c, fp_g_s, Nat.reduceBEq, Int.reduceAdd, Int.reduceSub, Int.reduceNeg, Int.reduceMul, fp_gu_c, fp_gu_s, fp_lose_o, fp_scut_o, fp_tk_o, fp_lrem_o, fp_push_0])))
        | (refine And.intro (by simp [fp_rg, fp_up, fp_cp] <;> omega) ?_; (conv => whnf); (try simp only [Int.reduceToNat, Int.toNat_natCast, fp_up_c, fp_up_s, fp_up_i, fp_cp_c, fp_g_s, Nat.reduceBEq, Int.reduceAdd, Int.reduceSub, Int.reduceNeg, Int.reduceMul, fp_gu_c, fp_gu_s, fp_lose_o, fp_scut_o, fp_tk_o, fp_lrem_o, fp_push_0]))
        | fail)
    (repeat' (split at hq)) <;> first | (exfalso; omega) | exact hq | (simp only [fp_up_g, fp_g_s, fp_g_g, fp_push_0, Int.toNat_natCast] at hq ⊢; exact hq)
  have hs7 := hI.2.2.2.2.1 s.toNat (by omega)
  conv => whnf
  (try simp only [Int.reduceToNat, Int.toNat_natCast, fp_up_c, fp_up_s, fp_up_i, fp_cp_c, fp_g_s, Nat.reduceBEq, Int.reduceAdd, Int.reduceSub, Int.reduceNeg, Int.reduceMul, fp_gu_c, fp_gu_s, fp_lose_o, fp_scut_o, fp_tk_o, fp_lrem_o, fp_push_0])
  (repeat' first
      | (refine And.intro (by first | omega | (unfold fp_rg; omega)) ?_; (try intro _); (conv => whnf); (try simp only [Int.reduceToNat, Int.toNat_natCast, fp_up_c, fp_up_s, fp_up_i, fp_cp_c, fp_g_s, Nat.reduceBEq, Int.reduceAdd, Int.reduceSub, Int.reduceNeg, Int.reduceMul, fp_gu_c, fp_gu_s, fp_lose_o, fp_scut_o, fp_tk_o, fp_lrem_o, fp_push_0]))
      | (refine And.intro (fun _ => ?_) (fun _ => ?_) <;> first | (exfalso; omega) | (rename_i hz_; exact absurd trivial hz_) | ((conv => whnf); (try simp only [Int.reduceToNat, Int.toNat_natCast, fp_up_c, fp_up_s, fp_up_i, fp_cp_c, fp_g_s, Nat.reduceBEq, Int.reduceAdd, Int.reduceSub, Int.reduceNeg, Int.reduceMul, fp_gu_c, fp_gu_s, fp_lose_o, fp_scut_o, fp_tk_o, fp_lrem_o, fp_push_0])))
      | (refine And.intro (by simp [fp_rg, fp_up, fp_cp] <;> omega) ?_; (conv => whnf); (try simp only [Int.reduceToNat, Int.toNat_natCast, fp_up_c, fp_up_s, fp_up_i, fp_cp_c, fp_g_s, Nat.reduceBEq, Int.reduceAdd, Int.reduceSub, Int.reduceNeg, Int.reduceMul, fp_gu_c, fp_gu_s, fp_lose_o, fp_scut_o, fp_tk_o, fp_lrem_o, fp_push_0]))
      | fail)
  refine hC _ _ _ _ ⟨_, rfl, ?_⟩
  refine sp_isIn (fun h2 => ?_) (fun h2 => ?_)
  rotate_left
  · conv => whnf
    (try simp only [Int.reduceToNat, Int.toNat_natCast, fp_up_c, fp_up_s, fp_up_i, fp_cp_c, fp_g_s, Nat.reduceBEq, Int.reduceAdd, Int.reduceSub, Int.reduceNeg, Int.reduceMul, fp_gu_c, fp_gu_s, fp_lose_o, fp_scut_o, fp_tk_o, fp_lrem_o, fp_push_0])
    (repeat' first
        | (refine And.intro (by first | omega | (unfold fp_rg; omega)) ?_; (try intro _); (conv => whnf); (try simp only [Int.reduceToNat, Int.toNat_natCast, fp_up_c, fp_up_s, fp_up_i, fp_cp_c, fp_g_s, Nat.reduceBEq, Int.reduceAdd, Int.reduceSub, Int.reduceNeg, Int.reduceMul, fp_gu_c, fp_gu_s, fp_lose_o, fp_scut_o, fp_tk_o, fp_lrem_o, fp_push_0]))
        | (refine And.intro (fun _ => ?_) (fun _ => ?_) <;> first | (exfalso; omega) | (rename_i hz_; exact absurd trivial hz_) | ((conv => whnf); (try simp only [Int.reduceToNat, Int.toNat_natCast, fp_up_c, fp_up_s, fp_up_i, fp_cp_c, fp_g_s, Nat.reduceBEq, Int.reduceAdd, Int.reduceSub, Int.reduceNeg, Int.reduceMul, fp_gu_c, fp_gu_s, fp_lose_o, fp_scut_o, fp_tk_o, fp_lrem_o, fp_push_0])))
        | (refine And.intro (by simp [fp_rg, fp_up, fp_cp] <;> omega) ?_; (conv => whnf); (try simp only [Int.reduceToNat, Int.toNat_natCast, fp_up_c, fp_up_s, fp_up_i, fp_cp_c, fp_g_s, Nat.reduceBEq, Int.reduceAdd, Int.reduceSub, Int.reduceNeg, Int.reduceMul, fp_gu_c, fp_gu_s, fp_lose_o, fp_scut_o, fp_tk_o, fp_lrem_o, fp_push_0]))
        | fail)
    (repeat' (split at hq)) <;> first | (exfalso; omega) | exact hq | (simp only [fp_up_g, fp_g_s, fp_g_g, fp_push_0, Int.toNat_natCast] at hq ⊢; exact hq)
  conv => whnf
  (try simp only [Int.reduceToNat, Int.toNat_natCast, fp_up_c, fp_up_s, fp_up_i, fp_cp_c, fp_g_s, Nat.reduceBEq, Int.reduceAdd, Int.reduceSub, Int.reduceNeg, Int.reduceMul, fp_gu_c, fp_gu_s, fp_lose_o, fp_scut_o, fp_tk_o, fp_lrem_o, fp_push_0])
  (repeat' first
      | (refine And.intro (by first | omega | (unfold fp_rg; omega)) ?_; (try intro _); (conv => whnf); (try simp only [Int.reduceToNat, Int.toNat_natCast, fp_up_c, fp_up_s, fp_up_i, fp_cp_c, fp_g_s, Nat.reduceBEq, Int.reduceAdd, Int.reduceSub, Int.reduceNeg, Int.reduceMul, fp_gu_c, fp_gu_s, fp_lose_o, fp_scut_o, fp_tk_o, fp_lrem_o, fp_push_0]))
      | (refine And.intro (fun _ => ?_) (fun _ => ?_) <;> first | (exfalso; omega) | (rename_i hz_; exact absurd trivial hz_) | ((conv => whnf); (try simp only [Int.reduceToNat, Int.toNat_natCast, fp_up_c, fp_up_s, fp_up_i, fp_cp_c, fp_g_s, Nat.reduceBEq, Int.reduceAdd, Int.reduceSub, Int.reduceNeg, Int.reduceMul, fp_gu_c, fp_gu_s, fp_lose_o, fp_scut_o, fp_tk_o, fp_lrem_o, fp_push_0])))
      | (refine And.intro (by simp [fp_rg, fp_up, fp_cp] <;> omega) ?_; (conv => whnf); (try simp only [Int.reduceToNat, Int.toNat_natCast, fp_up_c, fp_up_s, fp_up_i, fp_cp_c, fp_g_s, Nat.reduceBEq, Int.reduceAdd, Int.reduceSub, Int.reduceNeg, Int.reduceMul, fp_gu_c, fp_gu_s, fp_lose_o, fp_scut_o, fp_tk_o, fp_lrem_o, fp_push_0]))
      | fail)
  refine hC _ _ _ _ ⟨_, rfl, ?_⟩
  refine sp_sfull (fun h3 => ?_) (fun h3 => ?_)
  · conv => whnf
    (try simp only [Int.reduceToNat, Int.toNat_natCast, fp_up_c, fp_up_s, fp_up_i, fp_cp_c, fp_g_s, Nat.reduceBEq, Int.reduceAdd, Int.reduceSub, Int.reduceNeg, Int.reduceMul, fp_gu_c, fp_gu_s, fp_lose_o, fp_scut_o, fp_tk_o, fp_lrem_o, fp_push_0])
    (repeat' first
        | (refine And.intro (by first | omega | (unfold fp_rg; omega)) ?_; (try intro _); (conv => whnf); (try simp only [Int.reduceToNat, Int.toNat_natCast, fp_up_c, fp_up_s, fp_up_i, fp_cp_c, fp_g_s, Nat.reduceBEq, Int.reduceAdd, Int.reduceSub, Int.reduceNeg, Int.reduceMul, fp_gu_c, fp_gu_s, fp_lose_o, fp_scut_o, fp_tk_o, fp_lrem_o, fp_push_0]))
        | (refine And.intro (fun _ => ?_) (fun _ => ?_) <;> first | (exfalso; omega) | (rename_i hz_; exact absurd trivial hz_) | ((conv => whnf); (try simp only [Int.reduceToNat, Int.toNat_natCast, fp_up_c, fp_up_s, fp_up_i, fp_cp_c, fp_g_s, Nat.reduceBEq, Int.reduceAdd, Int.reduceSub, Int.reduceNeg, Int.reduceMul, fp_gu_c, fp_gu_s, fp_lose_o, fp_scut_o, fp_tk_o, fp_lrem_o, fp_push_0])))
        | (refine And.intro (by simp [fp_rg, fp_up, fp_cp] <;> omega) ?_; (conv => whnf); (try simp only [Int.reduceToNat, Int.toNat_natCast, fp_up_c, fp_up_s, fp_up_i, fp_cp_c, fp_g_s, Nat.reduceBEq, Int.reduceAdd, Int.reduceSub, Int.reduceNeg, Int.reduceMul, fp_gu_c, fp_gu_s, fp_lose_o, fp_scut_o, fp_tk_o, fp_lrem_o, fp_push_0]))
        | fail)
    (repeat' (split at hq)) <;> first | (exfalso; omega) | exact hq | (simp only [fp_up_g, fp_g_s, fp_g_g, fp_push_0, Int.toNat_natCast] at hq ⊢; exact hq)
  conv => whnf
  (try simp only [Int.reduceToNat, Int.toNat_natCast, fp_up_c, fp_up_s, fp_up_i, fp_cp_c, fp_g_s, Nat.reduceBEq, Int.reduceAdd, Int.reduceSub, Int.reduceNeg, Int.reduceMul, fp_gu_c, fp_gu_s, fp_lose_o, fp_scut_o, fp_tk_o, fp_lrem_o, fp_push_0])
  (repeat' first
      | (refine And.intro (by first | omega | (unfold fp_rg; omega)) ?_; (try intro _); (conv => whnf); (try simp only [Int.reduceToNat, Int.toNat_natCast, fp_up_c, fp_up_s, fp_up_i, fp_cp_c, fp_g_s, Nat.reduceBEq, Int.reduceAdd, Int.reduceSub, Int.reduceNeg, Int.reduceMul, fp_gu_c, fp_gu_s, fp_lose_o, fp_scut_o, fp_tk_o, fp_lrem_o, fp_push_0]))
      | (refine And.intro (fun _ => ?_) (fun _ => ?_) <;> first | (exfalso; omega) | (rename_i hz_; exact absurd trivial hz_) | ((conv => whnf); (try simp only [Int.reduceToNat, Int.toNat_natCast, fp_up_c, fp_up_s, fp_up_i, fp_cp_c, fp_g_s, Nat.reduceBEq, Int.reduceAdd, Int.reduceSub, Int.reduceNeg, Int.reduceMul, fp_gu_c, fp_gu_s, fp_lose_o, fp_scut_o, fp_tk_o, fp_lrem_o, fp_push_0])))
      | (refine And.intro (by simp [fp_rg, fp_up, fp_cp] <;> omega) ?_; (conv => whnf); (try simp only [Int.reduceToNat, Int.toNat_natCast, fp_up_c, fp_up_s, fp_up_i, fp_cp_c, fp_g_s, Nat.reduceBEq, Int.reduceAdd, Int.reduceSub, Int.reduceNeg, Int.reduceMul, fp_gu_c, fp_gu_s, fp_lose_o, fp_scut_o, fp_tk_o, fp_lrem_o, fp_push_0]))
      | fail)
  rotate_left
  · (repeat' (split at hq)) <;> first | (exfalso; omega) | exact hq | (simp only [fp_up_g, fp_g_s, fp_g_g, fp_push_0, Int.toNat_natCast] at hq ⊢; exact hq)
  refine hC _ _ _ _ ⟨_, rfl, ?_⟩
  refine sp_push hY.1 hY.2 ?_
  conv => whnf
  (try simp only [Int.reduceToNat, Int.toNat_natCast, fp_up_c, fp_up_s, fp_up_i, fp_cp_c, fp_g_s, Nat.reduceBEq, Int.reduceAdd, Int.reduceSub, Int.reduceNeg, Int.reduceMul, fp_gu_c, fp_gu_s, fp_lose_o, fp_scut_o, fp_tk_o, fp_lrem_o, fp_push_0])
  (repeat' first
      | (refine And.intro (by first | omega | (unfold fp_rg; omega)) ?_; (try intro _); (conv => whnf); (try simp only [Int.reduceToNat, Int.toNat_natCast, fp_up_c, fp_up_s, fp_up_i, fp_cp_c, fp_g_s, Nat.reduceBEq, Int.reduceAdd, Int.reduceSub, Int.reduceNeg, Int.reduceMul, fp_gu_c, fp_gu_s, fp_lose_o, fp_scut_o, fp_tk_o, fp_lrem_o, fp_push_0]))
      | (refine And.intro (fun _ => ?_) (fun _ => ?_) <;> first | (exfalso; omega) | (rename_i hz_; exact absurd trivial hz_) | ((conv => whnf); (try simp only [Int.reduceToNat, Int.toNat_natCast, fp_up_c, fp_up_s, fp_up_i, fp_cp_c, fp_g_s, Nat.reduceBEq, Int.reduceAdd, Int.reduceSub, Int.reduceNeg, Int.reduceMul, fp_gu_c, fp_gu_s, fp_lose_o, fp_scut_o, fp_tk_o, fp_lrem_o, fp_push_0])))
      | (refine And.intro (by simp [fp_rg, fp_up, fp_cp] <;> omega) ?_; (conv => whnf); (try simp only [Int.reduceToNat, Int.toNat_natCast, fp_up_c, fp_up_s, fp_up_i, fp_cp_c, fp_g_s, Nat.reduceBEq, Int.reduceAdd, Int.reduceSub, Int.reduceNeg, Int.reduceMul, fp_gu_c, fp_gu_s, fp_lose_o, fp_scut_o, fp_tk_o, fp_lrem_o, fp_push_0]))
      | fail)
  refine hC _ _ _ _ ⟨_, rfl, ?_⟩
  refine sp_sadd (by simp only [fp_up_g, fp_g_s, fp_gu_c, fp_push_0, Nat.reduceBEq]; omega) ?_
  simp only [fp_up_g, fp_g_s, fp_g_g, fp_gu_c, fp_push_0, Nat.reduceBEq]
  conv => whnf
  (try simp only [Int.reduceToNat, Int.toNat_natCast, fp_up_c, fp_up_s, fp_up_i, fp_cp_c, fp_g_s, Nat.reduceBEq, Int.reduceAdd, Int.reduceSub, Int.reduceNeg, Int.reduceMul, fp_gu_c, fp_gu_s, fp_lose_o, fp_scut_o, fp_tk_o, fp_lrem_o, fp_push_0])
  (repeat' first
      | (refine And.intro (by first | omega | (unfold fp_rg; omega)) ?_; (try intro _); (conv => whnf); (try simp only [Int.reduceToNat, Int.toNat_natCast, fp_up_c, fp_up_s, fp_up_i, fp_cp_c, fp_g_s, Nat.reduceBEq, Int.reduceAdd, Int.reduceSub, Int.reduceNeg, Int.reduceMul, fp_gu_c, fp_gu_s, fp_lose_o, fp_scut_o, fp_tk_o, fp_lrem_o, fp_push_0]))
      | (refine And.intro (fun _ => ?_) (fun _ => ?_) <;> first | (exfalso; omega) | (rename_i hz_; exact absurd trivial hz_) | ((conv => whnf); (try simp only [Int.reduceToNat, Int.toNat_natCast, fp_up_c, fp_up_s, fp_up_i, fp_cp_c, fp_g_s, Nat.reduceBEq, Int.reduceAdd, Int.reduceSub, Int.reduceNeg, Int.reduceMul, fp_gu_c, fp_gu_s, fp_lose_o, fp_scut_o, fp_tk_o, fp_lrem_o, fp_push_0])))
      | (refine And.intro (by simp [fp_rg, fp_up, fp_cp] <;> omega) ?_; (conv => whnf); (try simp only [Int.reduceToNat, Int.toNat_natCast, fp_up_c, fp_up_s, fp_up_i, fp_cp_c, fp_g_s, Nat.reduceBEq, Int.reduceAdd, Int.reduceSub, Int.reduceNeg, Int.reduceMul, fp_gu_c, fp_gu_s, fp_lose_o, fp_scut_o, fp_tk_o, fp_lrem_o, fp_push_0]))
      | fail)
  (repeat' (split at hq)) <;> first | (exfalso; omega) | exact hq | (simp only [fp_up_g, fp_g_s, fp_g_g, fp_push_0, Int.toNat_natCast] at hq ⊢; exact hq)
set_option maxHeartbeats 600000 in
set_option maxRecDepth 100000 in
theorem sp_draw {L d : Nat} {n p j w : Int} {H : FpH} {Q : FpQ} (hn : 1 ≤ n ∧ n ≤ 600) (hI : fq_I n (H 0)) (hY : fq_Y H) (hq : Q (some (.inl (fq_draw (H 0) p j w).1)) (fq_do H (fq_draw (H 0) p j w).2)) : fp_Wp L (d + 3) 54 0 (fp_en 54 [.inr (7, 14), .inl p, .inl j, .inl w]) [] H Q := by
  unfold fq_draw at hq
  have hnp := hI.1.1
  refine fp_go 1000 [] (fun KN KC hN hC => ?_)
  conv => whnf
  (try simp only [Int.reduceToNat, Int.toNat_natCast, fp_up_c, fp_up_s, fp_up_i, fp_cp_c, fp_g_s, Nat.reduceBEq, Int.reduceAdd, Int.reduceSub, Int.reduceNeg, Int.reduceMul, fp_gu_c, fp_gu_s, fp_lose_o, fp_scut_o, fp_tk_o, fp_lrem_o, fp_push_0])
  (repeat' first
      | (refine And.intro (by first | omega | (unfold fp_rg; omega)) ?_; (try intro _); (conv => whnf); (try simp only [Int.reduceToNat, Int.toNat_natCast, fp_up_c, fp_up_s, fp_up_i, fp_cp_c, fp_g_s, Nat.reduceBEq, Int.reduceAdd, Int.reduceSub, Int.reduceNeg, Int.reduceMul, fp_gu_c, fp_gu_s, fp_lose_o, fp_scut_o, fp_tk_o, fp_lrem_o, fp_push_0]))
      | (refine And.intro (fun _ => ?_) (fun _ => ?_) <;> first | (exfalso; omega) | (rename_i hz_; exact absurd trivial hz_) | ((conv => whnf); (try simp only [Int.reduceToNat, Int.toNat_natCast, fp_up_c, fp_up_s, fp_up_i, fp_cp_c, fp_g_s, Nat.reduceBEq, Int.reduceAdd, Int.reduceSub, Int.reduceNeg, Int.reduceMul, fp_gu_c, fp_gu_s, fp_lose_o, fp_scut_o, fp_tk_o, fp_lrem_o, fp_push_0])))
      | (refine And.intro (by simp [fp_rg, fp_up, fp_cp] <;> omega) ?_; (conv => whnf); (try simp only [Int.reduceToNat, Int.toNat_natCast, fp_up_c, fp_up_s, fp_up_i, fp_cp_c, fp_g_s, Nat.reduceBEq, Int.reduceAdd, Int.reduceSub, Int.reduceNeg, Int.reduceMul, fp_gu_c, fp_gu_s, fp_lose_o, fp_scut_o, fp_tk_o, fp_lrem_o, fp_push_0]))
      | fail)
  refine hC _ _ _ _ ⟨_, rfl, ?_⟩
  refine sp_phas (fun h1 => ?_) (fun h1 => ?_)
  rotate_left
  · conv => whnf
    (try simp only [Int.reduceToNat, Int.toNat_natCast, fp_up_c, fp_up_s, fp_up_i, fp_cp_c, fp_g_s, Nat.reduceBEq, Int.reduceAdd, Int.reduceSub, Int.reduceNeg, Int.reduceMul, fp_gu_c, fp_gu_s, fp_lose_o, fp_scut_o, fp_tk_o, fp_lrem_o, fp_push_0])
    (repeat' first
        | (refine And.intro (by first | omega | (unfold fp_rg; omega)) ?_; (try intro _); (conv => whnf); (try simp only [Int.reduceToNat, Int.toNat_natCast, fp_up_c, fp_up_s, fp_up_i, fp_cp_c, fp_g_s, Nat.reduceBEq, Int.reduceAdd, Int.reduceSub, Int.reduceNeg, Int.reduceMul, fp_gu_c, fp_gu_s, fp_lose_o, fp_scut_o, fp_tk_o, fp_lrem_o, fp_push_0]))
        | (refine And.intro (fun _ => ?_) (fun _ => ?_) <;> first | (exfalso; omega) | (rename_i hz_; exact absurd trivial hz_) | ((conv => whnf); (try simp only [Int.reduceToNat, Int.toNat_natCast, fp_up_c, fp_up_s, fp_up_i, fp_cp_c, fp_g_s, Nat.reduceBEq, Int.reduceAdd, Int.reduceSub, Int.reduceNeg, Int.reduceMul, fp_gu_c, fp_gu_s, fp_lose_o, fp_scut_o, fp_tk_o, fp_lrem_o, fp_push_0])))
        | (refine And.intro (by simp [fp_rg, fp_up, fp_cp] <;> omega) ?_; (conv => whnf); (try simp only [Int.reduceToNat, Int.toNat_natCast, fp_up_c, fp_up_s, fp_up_i, fp_cp_c, fp_g_s, Nat.reduceBEq, Int.reduceAdd, Int.reduceSub, Int.reduceNeg, Int.reduceMul, fp_gu_c, fp_gu_s, fp_lose_o, fp_scut_o, fp_tk_o, fp_lrem_o, fp_push_0]))
        | fail)
    (repeat' (split at hq)) <;> first | (exfalso; omega) | exact hq | (simp only [fp_up_g, fp_g_s, fp_g_g, fp_push_0, Int.toNat_natCast] at hq ⊢; exact hq)
  conv => whnf
  (try simp only [Int.reduceToNat, Int.toNat_natCast, fp_up_c, fp_up_s, fp_up_i, fp_cp_c, fp_g_s, Nat.reduceBEq, Int.reduceAdd, Int.reduceSub, Int.reduceNeg, Int.reduceMul, fp_gu_c, fp_gu_s, fp_lose_o, fp_scut_o, fp_tk_o, fp_lrem_o, fp_push_0])
  (repeat' first
      | (refine And.intro (by first | omega | (unfold fp_rg; omega)) ?_; (try intro _); (conv => whnf); (try simp only [Int.reduceToNat, Int.toNat_natCast, fp_up_c, fp_up_s, fp_up_i, fp_cp_c, fp_g_s, Nat.reduceBEq, Int.reduceAdd, Int.reduceSub, Int.reduceNeg, Int.reduceMul, fp_gu_c, fp_gu_s, fp_lose_o, fp_scut_o, fp_tk_o, fp_lrem_o, fp_push_0]))
      | (refine And.intro (fun _ => ?_) (fun _ => ?_) <;> first | (exfalso; omega) | (rename_i hz_; exact absurd trivial hz_) | ((conv => whnf); (try simp only [Int.reduceToNat, Int.toNat_natCast, fp_up_c, fp_up_s, fp_up_i, fp_cp_c, fp_g_s, Nat.reduceBEq, Int.reduceAdd, Int.reduceSub, Int.reduceNeg, Int.reduceMul, fp_gu_c, fp_gu_s, fp_lose_o, fp_scut_o, fp_tk_o, fp_lrem_o, fp_push_0])))
      | (refine And.intro (by simp [fp_rg, fp_up, fp_cp] <;> omega) ?_; (conv => whnf); (try simp only [Int.reduceToNat, Int.toNat_natCast, fp_up_c, fp_up_s, fp_up_i, fp_cp_c, fp_g_s, Nat.reduceBEq, Int.reduceAdd, Int.reduceSub, Int.reduceNeg, Int.reduceMul, fp_gu_c, fp_gu_s, fp_lose_o, fp_scut_o, fp_tk_o, fp_lrem_o, fp_push_0]))
      | fail)
  refine hC _ _ _ _ ⟨_, rfl, ?_⟩
  refine sp_isStep (fun h2 => ?_) (fun h2 => ?_)
  rotate_left
  · conv => whnf
    (try simp only [Int.reduceToNat, Int.toNat_natCast, fp_up_c, fp_up_s, fp_up_i, fp_cp_c, fp_g_s, Nat.reduceBEq, Int.reduceAdd, Int.reduceSub, Int.reduceNeg, Int.reduceMul, fp_gu_c, fp_gu_s, fp_lose_o, fp_scut_o, fp_tk_o, fp_lrem_o, fp_push_0])
    (repeat' first
        | (refine And.intro (by first | omega | (unfold fp_rg; omega)) ?_; (try intro _); (conv => whnf); (try simp only [Int.reduceToNat, Int.toNat_natCast, fp_up_c, fp_up_s, fp_up_i, fp_cp_c, fp_g_s, Nat.reduceBEq, Int.reduceAdd, Int.reduceSub, Int.reduceNeg, Int.reduceMul, fp_gu_c, fp_gu_s, fp_lose_o, fp_scut_o, fp_tk_o, fp_lrem_o, fp_push_0]))
        | (refine And.intro (fun _ => ?_) (fun _ => ?_) <;> first | (exfalso; omega) | (rename_i hz_; exact absurd trivial hz_) | ((conv => whnf); (try simp only [Int.reduceToNat, Int.toNat_natCast, fp_up_c, fp_up_s, fp_up_i, fp_cp_c, fp_g_s, Nat.reduceBEq, Int.reduceAdd, Int.reduceSub, Int.reduceNeg, Int.reduceMul, fp_gu_c, fp_gu_s, fp_lose_o, fp_scut_o, fp_tk_o, fp_lrem_o, fp_push_0])))
        | (refine And.intro (by simp [fp_rg, fp_up, fp_cp] <;> omega) ?_; (conv => whnf); (try simp only [Int.reduceToNat, Int.toNat_natCast, fp_up_c, fp_up_s, fp_up_i, fp_cp_c, fp_g_s, Nat.reduceBEq, Int.reduceAdd, Int.reduceSub, Int.reduceNeg, Int.reduceMul, fp_gu_c, fp_gu_s, fp_lose_o, fp_scut_o, fp_tk_o, fp_lrem_o, fp_push_0]))
        | fail)
    (repeat' (split at hq)) <;> first | (exfalso; omega) | exact hq | (simp only [fp_up_g, fp_g_s, fp_g_g, fp_push_0, Int.toNat_natCast] at hq ⊢; exact hq)
  conv => whnf
  (try simp only [Int.reduceToNat, Int.toNat_natCast, fp_up_c, fp_up_s, fp_up_i, fp_cp_c, fp_g_s, Nat.reduceBEq, Int.reduceAdd, Int.reduceSub, Int.reduceNeg, Int.reduceMul, fp_gu_c, fp_gu_s, fp_lose_o, fp_scut_o, fp_tk_o, fp_lrem_o, fp_push_0])
  (repeat' first
      | (refine And.intro (by first | omega | (unfold fp_rg; omega)) ?_; (try intro _); (conv => whnf); (try simp only [Int.reduceToNat, Int.toNat_natCast, fp_up_c, fp_up_s, fp_up_i, fp_cp_c, fp_g_s, Nat.reduceBEq, Int.reduceAdd, Int.reduceSub, Int.reduceNeg, Int.reduceMul, fp_gu_c, fp_gu_s, fp_lose_o, fp_scut_o, fp_tk_o, fp_lrem_o, fp_push_0]))
      | (refine And.intro (fun _ => ?_) (fun _ => ?_) <;> first | (exfalso; omega) | (rename_i hz_; exact absurd trivial hz_) | ((conv => whnf); (try simp only [Int.reduceToNat, Int.toNat_natCast, fp_up_c, fp_up_s, fp_up_i, fp_cp_c, fp_g_s, Nat.reduceBEq, Int.reduceAdd, Int.reduceSub, Int.reduceNeg, Int.reduceMul, fp_gu_c, fp_gu_s, fp_lose_o, fp_scut_o, fp_tk_o, fp_lrem_o, fp_push_0])))
      | (refine And.intro (by simp [fp_rg, fp_up, fp_cp] <;> omega) ?_; (conv => whnf); (try simp only [Int.reduceToNat, Int.toNat_natCast, fp_up_c, fp_up_s, fp_up_i, fp_cp_c, fp_g_s, Nat.reduceBEq, Int.reduceAdd, Int.reduceSub, Int.reduceNeg, Int.reduceMul, fp_gu_c, fp_gu_s, fp_lose_o, fp_scut_o, fp_tk_o, fp_lrem_o, fp_push_0]))
      | fail)
  refine hC _ _ _ _ ⟨_, rfl, ?_⟩
  refine sp_isIn (fun h3 => ?_) (fun h3 => ?_)
  rotate_left
  · conv => whnf
    (try simp only [Int.reduceToNat, Int.toNat_natCast, fp_up_c, fp_up_s, fp_up_i, fp_cp_c, fp_g_s, Nat.reduceBEq, Int.reduceAdd, Int.reduceSub, Int.reduceNeg, Int.reduceMul, fp_gu_c, fp_gu_s, fp_lose_o, fp_scut_o, fp_tk_o, fp_lrem_o, fp_push_0])
    (repeat' first
        | (refine And.intro (by first | omega | (unfold fp_rg; omega)) ?_; (try intro _); (conv => whnf); (try simp only [Int.reduceToNat, Int.toNat_natCast, fp_up_c, fp_up_s, fp_up_i, fp_cp_c, fp_g_s, Nat.reduceBEq, Int.reduceAdd, Int.reduceSub, Int.reduceNeg, Int.reduceMul, fp_gu_c, fp_gu_s, fp_lose_o, fp_scut_o, fp_tk_o, fp_lrem_o, fp_push_0]))
        | (refine And.intro (fun _ => ?_) (fun _ => ?_) <;> first | (exfalso; omega) | (rename_i hz_; exact absurd trivial hz_) | ((conv => whnf); (try simp only [Int.reduceToNat, Int.toNat_natCast, fp_up_c, fp_up_s, fp_up_i, fp_cp_c, fp_g_s, Nat.reduceBEq, Int.reduceAdd, Int.reduceSub, Int.reduceNeg, Int.reduceMul, fp_gu_c, fp_gu_s, fp_lose_o, fp_scut_o, fp_tk_o, fp_lrem_o, fp_push_0])))
        | (refine And.intro (by simp [fp_rg, fp_up, fp_cp] <;> omega) ?_; (conv => whnf); (try simp only [Int.reduceToNat, Int.toNat_natCast, fp_up_c, fp_up_s, fp_up_i, fp_cp_c, fp_g_s, Nat.reduceBEq, Int.reduceAdd, Int.reduceSub, Int.reduceNeg, Int.reduceMul, fp_gu_c, fp_gu_s, fp_lose_o, fp_scut_o, fp_tk_o, fp_lrem_o, fp_push_0]))
        | fail)
    (repeat' (split at hq)) <;> first | (exfalso; omega) | exact hq | (simp only [fp_up_g, fp_g_s, fp_g_g, fp_push_0, Int.toNat_natCast] at hq ⊢; exact hq)
  conv => whnf
  (try simp only [Int.reduceToNat, Int.toNat_natCast, fp_up_c, fp_up_s, fp_up_i, fp_cp_c, fp_g_s, Nat.reduceBEq, Int.reduceAdd, Int.reduceSub, Int.reduceNeg, Int.reduceMul, fp_gu_c, fp_gu_s, fp_lose_o, fp_scut_o, fp_tk_o, fp_lrem_o, fp_push_0])
  (repeat' first
      | (refine And.intro (by first | omega | (unfold fp_rg; omega)) ?_; (try intro _); (conv => whnf); (try simp only [Int.reduceToNat, Int.toNat_natCast, fp_up_c, fp_up_s, fp_up_i, fp_cp_c, fp_g_s, Nat.reduceBEq, Int.reduceAdd, Int.reduceSub, Int.reduceNeg, Int.reduceMul, fp_gu_c, fp_gu_s, fp_lose_o, fp_scut_o, fp_tk_o, fp_lrem_o, fp_push_0]))
      | (refine And.intro (fun _ => ?_) (fun _ => ?_) <;> first | (exfalso; omega) | (rename_i hz_; exact absurd trivial hz_) | ((conv => whnf); (try simp only [Int.reduceToNat, Int.toNat_natCast, fp_up_c, fp_up_s, fp_up_i, fp_cp_c, fp_g_s, Nat.reduceBEq, Int.reduceAdd, Int.reduceSub, Int.reduceNeg, Int.reduceMul, fp_gu_c, fp_gu_s, fp_lose_o, fp_scut_o, fp_tk_o, fp_lrem_o, fp_push_0])))
      | (refine And.intro (by simp [fp_rg, fp_up, fp_cp] <;> omega) ?_; (conv => whnf); (try simp only [Int.reduceToNat, Int.toNat_natCast, fp_up_c, fp_up_s, fp_up_i, fp_cp_c, fp_g_s, Nat.reduceBEq, Int.reduceAdd, Int.reduceSub, Int.reduceNeg, Int.reduceMul, fp_gu_c, fp_gu_s, fp_lose_o, fp_scut_o, fp_tk_o, fp_lrem_o, fp_push_0]))
      | fail)
  refine hC _ _ _ _ ⟨_, rfl, ?_⟩
  refine sp_pfull (fun h4 => ?_) (fun h4 => ?_)
  · conv => whnf
    (try simp only [Int.reduceToNat, Int.toNat_natCast, fp_up_c, fp_up_s, fp_up_i, fp_cp_c, fp_g_s, Nat.reduceBEq, Int.reduceAdd, Int.reduceSub, Int.reduceNeg, Int.reduceMul, fp_gu_c, fp_gu_s, fp_lose_o, fp_scut_o, fp_tk_o, fp_lrem_o, fp_push_0])
    (repeat' first
        | (refine And.intro (by first | omega | (unfold fp_rg; omega)) ?_; (try intro _); (conv => whnf); (try simp only [Int.reduceToNat, Int.toNat_natCast, fp_up_c, fp_up_s, fp_up_i, fp_cp_c, fp_g_s, Nat.reduceBEq, Int.reduceAdd, Int.reduceSub, Int.reduceNeg, Int.reduceMul, fp_gu_c, fp_gu_s, fp_lose_o, fp_scut_o, fp_tk_o, fp_lrem_o, fp_push_0]))
        | (refine And.intro (fun _ => ?_) (fun _ => ?_) <;> first | (exfalso; omega) | (rename_i hz_; exact absurd trivial hz_) | ((conv => whnf); (try simp only [Int.reduceToNat, Int.toNat_natCast, fp_up_c, fp_up_s, fp_up_i, fp_cp_c, fp_g_s, Nat.reduceBEq, Int.reduceAdd, Int.reduceSub, Int.reduceNeg, Int.reduceMul, fp_gu_c, fp_gu_s, fp_lose_o, fp_scut_o, fp_tk_o, fp_lrem_o, fp_push_0])))
        | (refine And.intro (by simp [fp_rg, fp_up, fp_cp] <;> omega) ?_; (conv => whnf); (try simp only [Int.reduceToNat, Int.toNat_natCast, fp_up_c, fp_up_s, fp_up_i, fp_cp_c, fp_g_s, Nat.reduceBEq, Int.reduceAdd, Int.reduceSub, Int.reduceNeg, Int.reduceMul, fp_gu_c, fp_gu_s, fp_lose_o, fp_scut_o, fp_tk_o, fp_lrem_o, fp_push_0]))
        | fail)
    (repeat' (split at hq)) <;> first | (exfalso; omega) | exact hq | (simp only [fp_up_g, fp_g_s, fp_g_g, fp_push_0, Int.toNat_natCast] at hq ⊢; exact hq)
  conv => whnf
  (try simp only [Int.reduceToNat, Int.toNat_natCast, fp_up_c, fp_up_s, fp_up_i, fp_cp_c, fp_g_s, Nat.reduceBEq, Int.reduceAdd, Int.reduceSub, Int.reduceNeg, Int.reduceMul, fp_gu_c, fp_gu_s, fp_lose_o, fp_scut_o, fp_tk_o, fp_lrem_o, fp_push_0])
  (repeat' first
      | (refine And.intro (by first | omega | (unfold fp_rg; omega)) ?_; (try intro _); (conv => whnf); (try simp only [Int.reduceToNat, Int.toNat_natCast, fp_up_c, fp_up_s, fp_up_i, fp_cp_c, fp_g_s, Nat.reduceBEq, Int.reduceAdd, Int.reduceSub, Int.reduceNeg, Int.reduceMul, fp_gu_c, fp_gu_s, fp_lose_o, fp_scut_o, fp_tk_o, fp_lrem_o, fp_push_0]))
      | (refine And.intro (fun _ => ?_) (fun _ => ?_) <;> first | (exfalso; omega) | (rename_i hz_; exact absurd trivial hz_) | ((conv => whnf); (try simp only [Int.reduceToNat, Int.toNat_natCast, fp_up_c, fp_up_s, fp_up_i, fp_cp_c, fp_g_s, Nat.reduceBEq, Int.reduceAdd, Int.reduceSub, Int.reduceNeg, Int.reduceMul, fp_gu_c, fp_gu_s, fp_lose_o, fp_scut_o, fp_tk_o, fp_lrem_o, fp_push_0])))
      | (refine And.intro (by simp [fp_rg, fp_up, fp_cp] <;> omega) ?_; (conv => whnf); (try simp only [Int.reduceToNat, Int.toNat_natCast, fp_up_c, fp_up_s, fp_up_i, fp_cp_c, fp_g_s, Nat.reduceBEq, Int.reduceAdd, Int.reduceSub, Int.reduceNeg, Int.reduceMul, fp_gu_c, fp_gu_s, fp_lose_o, fp_scut_o, fp_tk_o, fp_lrem_o, fp_push_0]))
      | fail)
  refine hC _ _ _ _ ⟨_, rfl, ?_⟩
  refine sp_push hY.1 hY.2 ?_
  conv => whnf
  (try simp only [Int.reduceToNat, Int.toNat_natCast, fp_up_c, fp_up_s, fp_up_i, fp_cp_c, fp_g_s, Nat.reduceBEq, Int.reduceAdd, Int.reduceSub, Int.reduceNeg, Int.reduceMul, fp_gu_c, fp_gu_s, fp_lose_o, fp_scut_o, fp_tk_o, fp_lrem_o, fp_push_0])
  (repeat' first
      | (refine And.intro (by first | omega | (unfold fp_rg; omega)) ?_; (try intro _); (conv => whnf); (try simp only [Int.reduceToNat, Int.toNat_natCast, fp_up_c, fp_up_s, fp_up_i, fp_cp_c, fp_g_s, Nat.reduceBEq, Int.reduceAdd, Int.reduceSub, Int.reduceNeg, Int.reduceMul, fp_gu_c, fp_gu_s, fp_lose_o, fp_scut_o, fp_tk_o, fp_lrem_o, fp_push_0]))
      | (refine And.intro (fun _ => ?_) (fun _ => ?_) <;> first | (exfalso; omega) | (rename_i hz_; exact absurd trivial hz_) | ((conv => whnf); (try simp only [Int.reduceToNat, Int.toNat_natCast, fp_up_c, fp_up_s, fp_up_i, fp_cp_c, fp_g_s, Nat.reduceBEq, Int.reduceAdd, Int.reduceSub, Int.reduceNeg, Int.reduceMul, fp_gu_c, fp_gu_s, fp_lose_o, fp_scut_o, fp_tk_o, fp_lrem_o, fp_push_0])))
      | (refine And.intro (by simp [fp_rg, fp_up, fp_cp] <;> omega) ?_; (conv => whnf); (try simp only [Int.reduceToNat, Int.toNat_natCast, fp_up_c, fp_up_s, fp_up_i, fp_cp_c, fp_g_s, Nat.reduceBEq, Int.reduceAdd, Int.reduceSub, Int.reduceNeg, Int.reduceMul, fp_gu_c, fp_gu_s, fp_lose_o, fp_scut_o, fp_tk_o, fp_lrem_o, fp_push_0]))
      | fail)
  obtain ⟨p', rfl⟩ := Int.eq_ofNat_of_zero_le h1.1
  obtain ⟨j', rfl⟩ := Int.eq_ofNat_of_zero_le h2.1
  refine hC _ _ _ _ ⟨_, rfl, ?_⟩
  refine sp_addLike (by rw [fp_push_0]; omega) (by omega) ?_
  simp only [fp_up_g, fp_g_s, fp_g_g, fp_gu_c, fp_push_0, Nat.reduceBEq]
  conv => whnf
  (try simp only [Int.reduceToNat, Int.toNat_natCast, fp_up_c, fp_up_s, fp_up_i, fp_cp_c, fp_g_s, Nat.reduceBEq, Int.reduceAdd, Int.reduceSub, Int.reduceNeg, Int.reduceMul, fp_gu_c, fp_gu_s, fp_lose_o, fp_scut_o, fp_tk_o, fp_lrem_o, fp_push_0])
  (repeat' first
      | (refine And.intro (by first | omega | (unfold fp_rg; omega)) ?_; (try intro _); (conv => whnf); (try simp only [Int.reduceToNat, Int.toNat_natCast, fp_up_c, fp_up_s, fp_up_i, fp_cp_c, fp_g_s, Nat.reduceBEq, Int.reduceAdd, Int.reduceSub, Int.reduceNeg, Int.reduceMul, fp_gu_c, fp_gu_s, fp_lose_o, fp_scut_o, fp_tk_o, fp_lrem_o, fp_push_0]))
      | (refine And.intro (fun _ => ?_) (fun _ => ?_) <;> first | (exfalso; omega) | (rename_i hz_; exact absurd trivial hz_) | ((conv => whnf); (try simp only [Int.reduceToNat, Int.toNat_natCast, fp_up_c, fp_up_s, fp_up_i, fp_cp_c, fp_g_s, Nat.reduceBEq, Int.reduceAdd, Int.reduceSub, Int.reduceNeg, Int.reduceMul, fp_gu_c, fp_gu_s, fp_lose_o, fp_scut_o, fp_tk_o, fp_lrem_o, fp_push_0])))
      | (refine And.intro (by simp [fp_rg, fp_up, fp_cp] <;> omega) ?_; (conv => whnf); (try simp only [Int.reduceToNat, Int.toNat_natCast, fp_up_c, fp_up_s, fp_up_i, fp_cp_c, fp_g_s, Nat.reduceBEq, Int.reduceAdd, Int.reduceSub, Int.reduceNeg, Int.reduceMul, fp_gu_c, fp_gu_s, fp_lose_o, fp_scut_o, fp_tk_o, fp_lrem_o, fp_push_0]))
      | fail)
  (repeat' (split at hq)) <;> first | (exfalso; omega) | exact hq | (simp only [fp_up_g, fp_g_s, fp_g_g, fp_push_0, Int.toNat_natCast] at hq ⊢; exact hq)
set_option maxHeartbeats 600000 in
set_option maxRecDepth 100000 in
theorem sp_come {L d : Nat} {n p w t : Int} {H : FpH} {Q : FpQ} (hn : 1 ≤ n ∧ n ≤ 600) (hI : fq_I n (H 0)) (hY : fq_Y H) (hq : Q (some (.inl (fq_come (H 0) p w t).1)) (fq_do H (fq_come (H 0) p w t).2)) : fp_Wp L (d + 3) 55 0 (fp_en 55 [.inr (7, 14), .inl p, .inl w, .inl t]) [] H Q := by
  unfold fq_come at hq
  have hnl := hI.1.2.2.1
  refine fp_go 1000 [] (fun KN KC hN hC => ?_)
  conv => whnf
  (try simp only [Int.reduceToNat, Int.toNat_natCast, fp_up_c, fp_up_s, fp_up_i, fp_cp_c, fp_g_s, Nat.reduceBEq, Int.reduceAdd, Int.reduceSub, Int.reduceNeg, Int.reduceMul, fp_gu_c, fp_gu_s, fp_lose_o, fp_scut_o, fp_tk_o, fp_lrem_o, fp_push_0])
  (repeat' first
      | (refine And.intro (by first | omega | (unfold fp_rg; omega)) ?_; (try intro _); (conv => whnf); (try simp only [Int.reduceToNat, Int.toNat_natCast, fp_up_c, fp_up_s, fp_up_i, fp_cp_c, fp_g_s, Nat.reduceBEq, Int.reduceAdd, Int.reduceSub, Int.reduceNeg, Int.reduceMul, fp_gu_c, fp_gu_s, fp_lose_o, fp_scut_o, fp_tk_o, fp_lrem_o, fp_push_0]))
      | (refine And.intro (fun _ => ?_) (fun _ => ?_) <;> first | (exfalso; omega) | (rename_i hz_; exact absurd trivial hz_) | ((conv => whnf); (try simp only [Int.reduceToNat, Int.toNat_natCast, fp_up_c, fp_up_s, fp_up_i, fp_cp_c, fp_g_s, Nat.reduceBEq, Int.reduceAdd, Int.reduceSub, Int.reduceNeg, Int.reduceMul, fp_gu_c, fp_gu_s, fp_lose_o, fp_scut_o, fp_tk_o, fp_lrem_o, fp_push_0])))
      | (refine And.intro (by simp [fp_rg, fp_up, fp_cp] <;> omega) ?_; (conv => whnf); (try simp only [Int.reduceToNat, Int.toNat_natCast, fp_up_c, fp_up_s, fp_up_i, fp_cp_c, fp_g_s, Nat.reduceBEq, Int.reduceAdd, Int.reduceSub, Int.reduceNeg, Int.reduceMul, fp_gu_c, fp_gu_s, fp_lose_o, fp_scut_o, fp_tk_o, fp_lrem_o, fp_push_0]))
      | fail)
  refine hC _ _ _ _ ⟨_, rfl, ?_⟩
  refine sp_phas (fun h1 => ?_) (fun h1 => ?_)
  rotate_left
  · conv => whnf
    (try simp only [Int.reduceToNat, Int.toNat_natCast, fp_up_c, fp_up_s, fp_up_i, fp_cp_c, fp_g_s, Nat.reduceBEq, Int.reduceAdd, Int.reduceSub, Int.reduceNeg, Int.reduceMul, fp_gu_c, fp_gu_s, fp_lose_o, fp_scut_o, fp_tk_o, fp_lrem_o, fp_push_0])
    (repeat' first
        | (refine And.intro (by first | omega | (unfold fp_rg; omega)) ?_; (try intro _); (conv => whnf); (try simp only [Int.reduceToNat, Int.toNat_natCast, fp_up_c, fp_up_s, fp_up_i, fp_cp_c, fp_g_s, Nat.reduceBEq, Int.reduceAdd, Int.reduceSub, Int.reduceNeg, Int.reduceMul, fp_gu_c, fp_gu_s, fp_lose_o, fp_scut_o, fp_tk_o, fp_lrem_o, fp_push_0]))
        | (refine And.intro (fun _ => ?_) (fun _ => ?_) <;> first | (exfalso; omega) | (rename_i hz_; exact absurd trivial hz_) | ((conv => whnf); (try simp only [Int.reduceToNat, Int.toNat_natCast, fp_up_c, fp_up_s, fp_up_i, fp_cp_c, fp_g_s, Nat.reduceBEq, Int.reduceAdd, Int.reduceSub, Int.reduceNeg, Int.reduceMul, fp_gu_c, fp_gu_s, fp_lose_o, fp_scut_o, fp_tk_o, fp_lrem_o, fp_push_0])))
        | (refine And.intro (by simp [fp_rg, fp_up, fp_cp] <;> omega) ?_; (conv => whnf); (try simp only [Int.reduceToNat, Int.toNat_natCast, fp_up_c, fp_up_s, fp_up_i, fp_cp_c, fp_g_s, Nat.reduceBEq, Int.reduceAdd, Int.reduceSub, Int.reduceNeg, Int.reduceMul, fp_gu_c, fp_gu_s, fp_lose_o, fp_scut_o, fp_tk_o, fp_lrem_o, fp_push_0]))
        | fail)
    (repeat' (split at hq)) <;> first | (exfalso; omega) | exact hq | (simp only [fp_up_g, fp_g_s, fp_g_g, fp_push_0, Int.toNat_natCast] at hq ⊢; exact hq)
  conv => whnf
  (try simp only [Int.reduceToNat, Int.toNat_natCast, fp_up_c, fp_up_s, fp_up_i, fp_cp_c, fp_g_s, Nat.reduceBEq, Int.reduceAdd, Int.reduceSub, Int.reduceNeg, Int.reduceMul, fp_gu_c, fp_gu_s, fp_lose_o, fp_scut_o, fp_tk_o, fp_lrem_o, fp_push_0])
  (repeat' first
      | (refine And.intro (by first | omega | (unfold fp_rg; omega)) ?_; (try intro _); (conv => whnf); (try simp only [Int.reduceToNat, Int.toNat_natCast, fp_up_c, fp_up_s, fp_up_i, fp_cp_c, fp_g_s, Nat.reduceBEq, Int.reduceAdd, Int.reduceSub, Int.reduceNeg, Int.reduceMul, fp_gu_c, fp_gu_s, fp_lose_o, fp_scut_o, fp_tk_o, fp_lrem_o, fp_push_0]))
      | (refine And.intro (fun _ => ?_) (fun _ => ?_) <;> first | (exfalso; omega) | (rename_i hz_; exact absurd trivial hz_) | ((conv => whnf); (try simp only [Int.reduceToNat, Int.toNat_natCast, fp_up_c, fp_up_s, fp_up_i, fp_cp_c, fp_g_s, Nat.reduceBEq, Int.reduceAdd, Int.reduceSub, Int.reduceNeg, Int.reduceMul, fp_gu_c, fp_gu_s, fp_lose_o, fp_scut_o, fp_tk_o, fp_lrem_o, fp_push_0])))
      | (refine And.intro (by simp [fp_rg, fp_up, fp_cp] <;> omega) ?_; (conv => whnf); (try simp only [Int.reduceToNat, Int.toNat_natCast, fp_up_c, fp_up_s, fp_up_i, fp_cp_c, fp_g_s, Nat.reduceBEq, Int.reduceAdd, Int.reduceSub, Int.reduceNeg, Int.reduceMul, fp_gu_c, fp_gu_s, fp_lose_o, fp_scut_o, fp_tk_o, fp_lrem_o, fp_push_0]))
      | fail)
  refine hC _ _ _ _ ⟨_, rfl, ?_⟩
  refine sp_isIn (fun h2 => ?_) (fun h2 => ?_)
  rotate_left
  · conv => whnf
    (try simp only [Int.reduceToNat, Int.toNat_natCast, fp_up_c, fp_up_s, fp_up_i, fp_cp_c, fp_g_s, Nat.reduceBEq, Int.reduceAdd, Int.reduceSub, Int.reduceNeg, Int.reduceMul, fp_gu_c, fp_gu_s, fp_lose_o, fp_scut_o, fp_tk_o, fp_lrem_o, fp_push_0])
    (repeat' first
        | (refine And.intro (by first | omega | (unfold fp_rg; omega)) ?_; (try intro _); (conv => whnf); (try simp only [Int.reduceToNat, Int.toNat_natCast, fp_up_c, fp_up_s, fp_up_i, fp_cp_c, fp_g_s, Nat.reduceBEq, Int.reduceAdd, Int.reduceSub, Int.reduceNeg, Int.reduceMul, fp_gu_c, fp_gu_s, fp_lose_o, fp_scut_o, fp_tk_o, fp_lrem_o, fp_push_0]))
        | (refine And.intro (fun _ => ?_) (fun _ => ?_) <;> first | (exfalso; omega) | (rename_i hz_; exact absurd trivial hz_) | ((conv => whnf); (try simp only [Int.reduceToNat, Int.toNat_natCast, fp_up_c, fp_up_s, fp_up_i, fp_cp_c, fp_g_s, Nat.reduceBEq, Int.reduceAdd, Int.reduceSub, Int.reduceNeg, Int.reduceMul, fp_gu_c, fp_gu_s, fp_lose_o, fp_scut_o, fp_tk_o, fp_lrem_o, fp_push_0])))
        | (refine And.intro (by simp [fp_rg, fp_up, fp_cp] <;> omega) ?_; (conv => whnf); (try simp only [Int.reduceToNat, Int.toNat_natCast, fp_up_c, fp_up_s, fp_up_i, fp_cp_c, fp_g_s, Nat.reduceBEq, Int.reduceAdd, Int.reduceSub, Int.reduceNeg, Int.reduceMul, fp_gu_c, fp_gu_s, fp_lose_o, fp_scut_o, fp_tk_o, fp_lrem_o, fp_push_0]))
        | fail)
    (repeat' (split at hq)) <;> first | (exfalso; omega) | exact hq | (simp only [fp_up_g, fp_g_s, fp_g_g, fp_push_0, Int.toNat_natCast] at hq ⊢; exact hq)
  conv => whnf
  (try simp only [Int.reduceToNat, Int.toNat_natCast, fp_up_c, fp_up_s, fp_up_i, fp_cp_c, fp_g_s, Nat.reduceBEq, Int.reduceAdd, Int.reduceSub, Int.reduceNeg, Int.reduceMul, fp_gu_c, fp_gu_s, fp_lose_o, fp_scut_o, fp_tk_o, fp_lrem_o, fp_push_0])
  (repeat' first
      | (refine And.intro (by first | omega | (unfold fp_rg; omega)) ?_; (try intro _); (conv => whnf); (try simp only [Int.reduceToNat, Int.toNat_natCast, fp_up_c, fp_up_s, fp_up_i, fp_cp_c, fp_g_s, Nat.reduceBEq, Int.reduceAdd, Int.reduceSub, Int.reduceNeg, Int.reduceMul, fp_gu_c, fp_gu_s, fp_lose_o, fp_scut_o, fp_tk_o, fp_lrem_o, fp_push_0]))
      | (refine And.intro (fun _ => ?_) (fun _ => ?_) <;> first | (exfalso; omega) | (rename_i hz_; exact absurd trivial hz_) | ((conv => whnf); (try simp only [Int.reduceToNat, Int.toNat_natCast, fp_up_c, fp_up_s, fp_up_i, fp_cp_c, fp_g_s, Nat.reduceBEq, Int.reduceAdd, Int.reduceSub, Int.reduceNeg, Int.reduceMul, fp_gu_c, fp_gu_s, fp_lose_o, fp_scut_o, fp_tk_o, fp_lrem_o, fp_push_0])))
      | (refine And.intro (by simp [fp_rg, fp_up, fp_cp] <;> omega) ?_; (conv => whnf); (try simp only [Int.reduceToNat, Int.toNat_natCast, fp_up_c, fp_up_s, fp_up_i, fp_cp_c, fp_g_s, Nat.reduceBEq, Int.reduceAdd, Int.reduceSub, Int.reduceNeg, Int.reduceMul, fp_gu_c, fp_gu_s, fp_lose_o, fp_scut_o, fp_tk_o, fp_lrem_o, fp_push_0]))
      | fail)
  refine hC _ _ _ _ ⟨_, rfl, ?_⟩
  refine sp_isIn (fun h3 => ?_) (fun h3 => ?_)
  rotate_left
  · conv => whnf
    (try simp only [Int.reduceToNat, Int.toNat_natCast, fp_up_c, fp_up_s, fp_up_i, fp_cp_c, fp_g_s, Nat.reduceBEq, Int.reduceAdd, Int.reduceSub, Int.reduceNeg, Int.reduceMul, fp_gu_c, fp_gu_s, fp_lose_o, fp_scut_o, fp_tk_o, fp_lrem_o, fp_push_0])
    (repeat' first
        | (refine And.intro (by first | omega | (unfold fp_rg; omega)) ?_; (try intro _); (conv => whnf); (try simp only [Int.reduceToNat, Int.toNat_natCast, fp_up_c, fp_up_s, fp_up_i, fp_cp_c, fp_g_s, Nat.reduceBEq, Int.reduceAdd, Int.reduceSub, Int.reduceNeg, Int.reduceMul, fp_gu_c, fp_gu_s, fp_lose_o, fp_scut_o, fp_tk_o, fp_lrem_o, fp_push_0]))
        | (refine And.intro (fun _ => ?_) (fun _ => ?_) <;> first | (exfalso; omega) | (rename_i hz_; exact absurd trivial hz_) | ((conv => whnf); (try simp only [Int.reduceToNat, Int.toNat_natCast, fp_up_c, fp_up_s, fp_up_i, fp_cp_c, fp_g_s, Nat.reduceBEq, Int.reduceAdd, Int.reduceSub, Int.reduceNeg, Int.reduceMul, fp_gu_c, fp_gu_s, fp_lose_o, fp_scut_o, fp_tk_o, fp_lrem_o, fp_push_0])))
        | (refine And.intro (by simp [fp_rg, fp_up, fp_cp] <;> omega) ?_; (conv => whnf); (try simp only [Int.reduceToNat, Int.toNat_natCast, fp_up_c, fp_up_s, fp_up_i, fp_cp_c, fp_g_s, Nat.reduceBEq, Int.reduceAdd, Int.reduceSub, Int.reduceNeg, Int.reduceMul, fp_gu_c, fp_gu_s, fp_lose_o, fp_scut_o, fp_tk_o, fp_lrem_o, fp_push_0]))
        | fail)
    (repeat' (split at hq)) <;> first | (exfalso; omega) | exact hq | (simp only [fp_up_g, fp_g_s, fp_g_g, fp_push_0, Int.toNat_natCast] at hq ⊢; exact hq)
  conv => whnf
  (try simp only [Int.reduceToNat, Int.toNat_natCast, fp_up_c, fp_up_s, fp_up_i, fp_cp_c, fp_g_s, Nat.reduceBEq, Int.reduceAdd, Int.reduceSub, Int.reduceNeg, Int.reduceMul, fp_gu_c, fp_gu_s, fp_lose_o, fp_scut_o, fp_tk_o, fp_lrem_o, fp_push_0])
  (repeat' first
      | (refine And.intro (by first | omega | (unfold fp_rg; omega)) ?_; (try intro _); (conv => whnf); (try simp only [Int.reduceToNat, Int.toNat_natCast, fp_up_c, fp_up_s, fp_up_i, fp_cp_c, fp_g_s, Nat.reduceBEq, Int.reduceAdd, Int.reduceSub, Int.reduceNeg, Int.reduceMul, fp_gu_c, fp_gu_s, fp_lose_o, fp_scut_o, fp_tk_o, fp_lrem_o, fp_push_0]))
      | (refine And.intro (fun _ => ?_) (fun _ => ?_) <;> first | (exfalso; omega) | (rename_i hz_; exact absurd trivial hz_) | ((conv => whnf); (try simp only [Int.reduceToNat, Int.toNat_natCast, fp_up_c, fp_up_s, fp_up_i, fp_cp_c, fp_g_s, Nat.reduceBEq, Int.reduceAdd, Int.reduceSub, Int.reduceNeg, Int.reduceMul, fp_gu_c, fp_gu_s, fp_lose_o, fp_scut_o, fp_tk_o, fp_lrem_o, fp_push_0])))
      | (refine And.intro (by simp [fp_rg, fp_up, fp_cp] <;> omega) ?_; (conv => whnf); (try simp only [Int.reduceToNat, Int.toNat_natCast, fp_up_c, fp_up_s, fp_up_i, fp_cp_c, fp_g_s, Nat.reduceBEq, Int.reduceAdd, Int.reduceSub, Int.reduceNeg, Int.reduceMul, fp_gu_c, fp_gu_s, fp_lose_o, fp_scut_o, fp_tk_o, fp_lrem_o, fp_push_0]))
      | fail)
  refine hC _ _ _ _ ⟨_, rfl, ?_⟩
  refine sp_lfull (fun h4 => ?_) (fun h4 => ?_)
  · conv => whnf
    (try simp only [Int.reduceToNat, Int.toNat_natCast, fp_up_c, fp_up_s, fp_up_i, fp_cp_c, fp_g_s, Nat.reduceBEq, Int.reduceAdd, Int.reduceSub, Int.reduceNeg, Int.reduceMul, fp_gu_c, fp_gu_s, fp_lose_o, fp_scut_o, fp_tk_o, fp_lrem_o, fp_push_0])
    (repeat' first
        | (refine And.intro (by first | omega | (unfold fp_rg; omega)) ?_; (try intro _); (conv => whnf); (try simp only [Int.reduceToNat, Int.toNat_natCast, fp_up_c, fp_up_s, fp_up_i, fp_cp_c, fp_g_s, Nat.reduceBEq, Int.reduceAdd, Int.reduceSub, Int.reduceNeg, Int.reduceMul, fp_gu_c, fp_gu_s, fp_lose_o, fp_scut_o, fp_tk_o, fp_lrem_o, fp_push_0]))
        | (refine And.intro (fun _ => ?_) (fun _ => ?_) <;> first | (exfalso; omega) | (rename_i hz_; exact absurd trivial hz_) | ((conv => whnf); (try simp only [Int.reduceToNat, Int.toNat_natCast, fp_up_c, fp_up_s, fp_up_i, fp_cp_c, fp_g_s, Nat.reduceBEq, Int.reduceAdd, Int.reduceSub, Int.reduceNeg, Int.reduceMul, fp_gu_c, fp_gu_s, fp_lose_o, fp_scut_o, fp_tk_o, fp_lrem_o, fp_push_0])))
        | (refine And.intro (by simp [fp_rg, fp_up, fp_cp] <;> omega) ?_; (conv => whnf); (try simp only [Int.reduceToNat, Int.toNat_natCast, fp_up_c, fp_up_s, fp_up_i, fp_cp_c, fp_g_s, Nat.reduceBEq, Int.reduceAdd, Int.reduceSub, Int.reduceNeg, Int.reduceMul, fp_gu_c, fp_gu_s, fp_lose_o, fp_scut_o, fp_tk_o, fp_lrem_o, fp_push_0]))
        | fail)
    (repeat' (split at hq)) <;> first | (exfalso; omega) | exact hq | (simp only [fp_up_g, fp_g_s, fp_g_g, fp_push_0, Int.toNat_natCast] at hq ⊢; exact hq)
  conv => whnf
  (try simp only [Int.reduceToNat, Int.toNat_natCast, fp_up_c, fp_up_s, fp_up_i, fp_cp_c, fp_g_s, Nat.reduceBEq, Int.reduceAdd, Int.reduceSub, Int.reduceNeg, Int.reduceMul, fp_gu_c, fp_gu_s, fp_lose_o, fp_scut_o, fp_tk_o, fp_lrem_o, fp_push_0])
  (repeat' first
      | (refine And.intro (by first | omega | (unfold fp_rg; omega)) ?_; (try intro _); (conv => whnf); (try simp only [Int.reduceToNat, Int.toNat_natCast, fp_up_c, fp_up_s, fp_up_i, fp_cp_c, fp_g_s, Nat.reduceBEq, Int.reduceAdd, Int.reduceSub, Int.reduceNeg, Int.reduceMul, fp_gu_c, fp_gu_s, fp_lose_o, fp_scut_o, fp_tk_o, fp_lrem_o, fp_push_0]))
      | (refine And.intro (fun _ => ?_) (fun _ => ?_) <;> first | (exfalso; omega) | (rename_i hz_; exact absurd trivial hz_) | ((conv => whnf); (try simp only [Int.reduceToNat, Int.toNat_natCast, fp_up_c, fp_up_s, fp_up_i, fp_cp_c, fp_g_s, Nat.reduceBEq, Int.reduceAdd, Int.reduceSub, Int.reduceNeg, Int.reduceMul, fp_gu_c, fp_gu_s, fp_lose_o, fp_scut_o, fp_tk_o, fp_lrem_o, fp_push_0])))
      | (refine And.intro (by simp [fp_rg, fp_up, fp_cp] <;> omega) ?_; (conv => whnf); (try simp only [Int.reduceToNat, Int.toNat_natCast, fp_up_c, fp_up_s, fp_up_i, fp_cp_c, fp_g_s, Nat.reduceBEq, Int.reduceAdd, Int.reduceSub, Int.reduceNeg, Int.reduceMul, fp_gu_c, fp_gu_s, fp_lose_o, fp_scut_o, fp_tk_o, fp_lrem_o, fp_push_0]))
      | fail)
  refine hC _ _ _ _ ⟨_, rfl, ?_⟩
  refine sp_push hY.1 hY.2 ?_
  conv => whnf
  (try simp only [Int.reduceToNat, Int.toNat_natCast, fp_up_c, fp_up_s, fp_up_i, fp_cp_c, fp_g_s, Nat.reduceBEq, Int.reduceAdd, Int.reduceSub, Int.reduceNeg, Int.reduceMul, fp_gu_c, fp_gu_s, fp_lose_o, fp_scut_o, fp_tk_o, fp_lrem_o, fp_push_0])
  (repeat' first
      | (refine And.intro (by first | omega | (unfold fp_rg; omega)) ?_; (try intro _); (conv => whnf); (try simp only [Int.reduceToNat, Int.toNat_natCast, fp_up_c, fp_up_s, fp_up_i, fp_cp_c, fp_g_s, Nat.reduceBEq, Int.reduceAdd, Int.reduceSub, Int.reduceNeg, Int.reduceMul, fp_gu_c, fp_gu_s, fp_lose_o, fp_scut_o, fp_tk_o, fp_lrem_o, fp_push_0]))
      | (refine And.intro (fun _ => ?_) (fun _ => ?_) <;> first | (exfalso; omega) | (rename_i hz_; exact absurd trivial hz_) | ((conv => whnf); (try simp only [Int.reduceToNat, Int.toNat_natCast, fp_up_c, fp_up_s, fp_up_i, fp_cp_c, fp_g_s, Nat.reduceBEq, Int.reduceAdd, Int.reduceSub, Int.reduceNeg, Int.reduceMul, fp_gu_c, fp_gu_s, fp_lose_o, fp_scut_o, fp_tk_o, fp_lrem_o, fp_push_0])))
      | (refine And.intro (by simp [fp_rg, fp_up, fp_cp] <;> omega) ?_; (conv => whnf); (try simp only [Int.reduceToNat, Int.toNat_natCast, fp_up_c, fp_up_s, fp_up_i, fp_cp_c, fp_g_s, Nat.reduceBEq, Int.reduceAdd, Int.reduceSub, Int.reduceNeg, Int.reduceMul, fp_gu_c, fp_gu_s, fp_lose_o, fp_scut_o, fp_tk_o, fp_lrem_o, fp_push_0]))
      | fail)
  refine hC _ _ _ _ ⟨_, rfl, ?_⟩
  refine sp_ladd (by rw [fp_push_0]; omega) ?_
  simp only [fp_up_g, fp_g_s, fp_g_g, fp_gu_c, fp_push_0, Nat.reduceBEq]
  conv => whnf
  (try simp only [Int.reduceToNat, Int.toNat_natCast, fp_up_c, fp_up_s, fp_up_i, fp_cp_c, fp_g_s, Nat.reduceBEq, Int.reduceAdd, Int.reduceSub, Int.reduceNeg, Int.reduceMul, fp_gu_c, fp_gu_s, fp_lose_o, fp_scut_o, fp_tk_o, fp_lrem_o, fp_push_0])
  (repeat' first
      | (refine And.intro (by first | omega | (unfold fp_rg; omega)) ?_; (try intro _); (conv => whnf); (try simp only [Int.reduceToNat, Int.toNat_natCast, fp_up_c, fp_up_s, fp_up_i, fp_cp_c, fp_g_s, Nat.reduceBEq, Int.reduceAdd, Int.reduceSub, Int.reduceNeg, Int.reduceMul, fp_gu_c, fp_gu_s, fp_lose_o, fp_scut_o, fp_tk_o, fp_lrem_o, fp_push_0]))
      | (refine And.intro (fun _ => ?_) (fun _ => ?_) <;> first | (exfalso; omega) | (rename_i hz_; exact absurd trivial hz_) | ((conv => whnf); (try simp only [Int.reduceToNat, Int.toNat_natCast, fp_up_c, fp_up_s, fp_up_i, fp_cp_c, fp_g_s, Nat.reduceBEq, Int.reduceAdd, Int.reduceSub, Int.reduceNeg, Int.reduceMul, fp_gu_c, fp_gu_s, fp_lose_o, fp_scut_o, fp_tk_o, fp_lrem_o, fp_push_0])))
      | (refine And.intro (by simp [fp_rg, fp_up, fp_cp] <;> omega) ?_; (conv => whnf); (try simp only [Int.reduceToNat, Int.toNat_natCast, fp_up_c, fp_up_s, fp_up_i, fp_cp_c, fp_g_s, Nat.reduceBEq, Int.reduceAdd, Int.reduceSub, Int.reduceNeg, Int.reduceMul, fp_gu_c, fp_gu_s, fp_lose_o, fp_scut_o, fp_tk_o, fp_lrem_o, fp_push_0]))
      | fail)
  (repeat' (split at hq)) <;> first | (exfalso; omega) | exact hq | (simp only [fp_up_g, fp_g_s, fp_g_g, fp_push_0, Int.toNat_natCast] at hq ⊢; exact hq)
theorem fp_fr_in {G : FpG} {t : Nat} (h : 0 ≤ G 1 4 ∧ G 1 4 ≤ 10) : fp_fr G t = -5 ∨ ∃ k : Nat, fp_fr G t = (k : Int) ∧ (k : Int) < G 1 4 ∧ fp_alk G k (G 10 t).toNat ∧ fp_has G k (G 11 t) := by
  unfold fp_fr
  rcases fp_ff_out (f := fp_okB G t) (G 1 4).toNat with ⟨r, h1, h2, h3, h4⟩ | ⟨h1, h2⟩
  · rw [h1]
    have := fp_dc_i h3
    exact Or.inr ⟨r, rfl, by omega, this.1, this.2⟩
  · rw [h1]; exact Or.inl rfl
set_option maxHeartbeats 600000 in
set_option maxRecDepth 100000 in
theorem sp_serve {L d : Nat} {n t : Int} {H : FpH} {Q : FpQ} (hn : 1 ≤ n ∧ n ≤ 600) (hI : fq_I n (H 0)) (hY : fq_Y H) (hq : Q (some (.inl (fq_serve (H 0) t).1)) (fq_do H (fq_serve (H 0) t).2)) : fp_Wp L (d + 4) 57 0 (fp_en 57 [.inr (7, 14), .inl t]) [] H Q := by
  unfold fq_serve at hq
  have hnl := hI.1.2.2.1
  have hnp := hI.1.1
  refine fp_go 1000 [] (fun KN KC hN hC => ?_)
  conv => whnf
  (try simp only [Int.reduceToNat, Int.toNat_natCast, fp_up_c, fp_up_s, fp_up_i, fp_cp_c, fp_g_s, Nat.reduceBEq, Int.reduceAdd, Int.reduceSub, Int.reduceNeg, Int.reduceMul, fp_gu_c, fp_gu_s, fp_lose_o, fp_scut_o, fp_tk_o, fp_lrem_o, fp_push_0])
  (repeat' first
      | (refine And.intro (by first | omega | (unfold fp_rg; omega)) ?_; (try intro _); (conv => whnf); (try simp only [Int.reduceToNat, Int.toNat_natCast, fp_up_c, fp_up_s, fp_up_i, fp_cp_c, fp_g_s, Nat.reduceBEq, Int.reduceAdd, Int.reduceSub, Int.reduceNeg, Int.reduceMul, fp_gu_c, fp_gu_s, fp_lose_o, fp_scut_o, fp_tk_o, fp_lrem_o, fp_push_0]))
      | (refine And.intro (fun _ => ?_) (fun _ => ?_) <;> first | (exfalso; omega) | (rename_i hz_; exact absurd trivial hz_) | ((conv => whnf); (try simp only [Int.reduceToNat, Int.toNat_natCast, fp_up_c, fp_up_s, fp_up_i, fp_cp_c, fp_g_s, Nat.reduceBEq, Int.reduceAdd, Int.reduceSub, Int.reduceNeg, Int.reduceMul, fp_gu_c, fp_gu_s, fp_lose_o, fp_scut_o, fp_tk_o, fp_lrem_o, fp_push_0])))
      | (refine And.intro (by simp [fp_rg, fp_up, fp_cp] <;> omega) ?_; (conv => whnf); (try simp only [Int.reduceToNat, Int.toNat_natCast, fp_up_c, fp_up_s, fp_up_i, fp_cp_c, fp_g_s, Nat.reduceBEq, Int.reduceAdd, Int.reduceSub, Int.reduceNeg, Int.reduceMul, fp_gu_c, fp_gu_s, fp_lose_o, fp_scut_o, fp_tk_o, fp_lrem_o, fp_push_0]))
      | fail)
  refine hC _ _ _ _ ⟨_, rfl, ?_⟩
  refine sp_lhas (fun h1 => ?_) (fun h1 => ?_)
  rotate_left
  · conv => whnf
    (try simp only [Int.reduceToNat, Int.toNat_natCast, fp_up_c, fp_up_s, fp_up_i, fp_cp_c, fp_g_s, Nat.reduceBEq, Int.reduceAdd, Int.reduceSub, Int.reduceNeg, Int.reduceMul, fp_gu_c, fp_gu_s, fp_lose_o, fp_scut_o, fp_tk_o, fp_lrem_o, fp_push_0])
    (repeat' first
        | (refine And.intro (by first | omega | (unfold fp_rg; omega)) ?_; (try intro _); (conv => whnf); (try simp only [Int.reduceToNat, Int.toNat_natCast, fp_up_c, fp_up_s, fp_up_i, fp_cp_c, fp_g_s, Nat.reduceBEq, Int.reduceAdd, Int.reduceSub, Int.reduceNeg, Int.reduceMul, fp_gu_c, fp_gu_s, fp_lose_o, fp_scut_o, fp_tk_o, fp_lrem_o, fp_push_0]))
        | (refine And.intro (fun _ => ?_) (fun _ => ?_) <;> first | (exfalso; omega) | (rename_i hz_; exact absurd trivial hz_) | ((conv => whnf); (try simp only [Int.reduceToNat, Int.toNat_natCast, fp_up_c, fp_up_s, fp_up_i, fp_cp_c, fp_g_s, Nat.reduceBEq, Int.reduceAdd, Int.reduceSub, Int.reduceNeg, Int.reduceMul, fp_gu_c, fp_gu_s, fp_lose_o, fp_scut_o, fp_tk_o, fp_lrem_o, fp_push_0])))
        | (refine And.intro (by simp [fp_rg, fp_up, fp_cp] <;> omega) ?_; (conv => whnf); (try simp only [Int.reduceToNat, Int.toNat_natCast, fp_up_c, fp_up_s, fp_up_i, fp_cp_c, fp_g_s, Nat.reduceBEq, Int.reduceAdd, Int.reduceSub, Int.reduceNeg, Int.reduceMul, fp_gu_c, fp_gu_s, fp_lose_o, fp_scut_o, fp_tk_o, fp_lrem_o, fp_push_0]))
        | fail)
    (repeat' (split at hq)) <;> first | (exfalso; omega) | exact hq | (simp only [fp_up_g, fp_g_s, fp_g_g, fp_push_0, Int.toNat_natCast] at hq ⊢; exact hq)
  obtain ⟨t', rfl⟩ := Int.eq_ofNat_of_zero_le h1.1
  simp only [Int.toNat_natCast] at hq
  have ht := hI.2.2.2.2.2.1 t' h1.2
  conv => whnf
  (try simp only [Int.reduceToNat, Int.toNat_natCast, fp_up_c, fp_up_s, fp_up_i, fp_cp_c, fp_g_s, Nat.reduceBEq, Int.reduceAdd, Int.reduceSub, Int.reduceNeg, Int.reduceMul, fp_gu_c, fp_gu_s, fp_lose_o, fp_scut_o, fp_tk_o, fp_lrem_o, fp_push_0])
  (repeat' first
      | (refine And.intro (by first | omega | (unfold fp_rg; omega)) ?_; (try intro _); (conv => whnf); (try simp only [Int.reduceToNat, Int.toNat_natCast, fp_up_c, fp_up_s, fp_up_i, fp_cp_c, fp_g_s, Nat.reduceBEq, Int.reduceAdd, Int.reduceSub, Int.reduceNeg, Int.reduceMul, fp_gu_c, fp_gu_s, fp_lose_o, fp_scut_o, fp_tk_o, fp_lrem_o, fp_push_0]))
      | (refine And.intro (fun _ => ?_) (fun _ => ?_) <;> first | (exfalso; omega) | (rename_i hz_; exact absurd trivial hz_) | ((conv => whnf); (try simp only [Int.reduceToNat, Int.toNat_natCast, fp_up_c, fp_up_s, fp_up_i, fp_cp_c, fp_g_s, Nat.reduceBEq, Int.reduceAdd, Int.reduceSub, Int.reduceNeg, Int.reduceMul, fp_gu_c, fp_gu_s, fp_lose_o, fp_scut_o, fp_tk_o, fp_lrem_o, fp_push_0])))
      | (refine And.intro (by simp [fp_rg, fp_up, fp_cp] <;> omega) ?_; (conv => whnf); (try simp only [Int.reduceToNat, Int.toNat_natCast, fp_up_c, fp_up_s, fp_up_i, fp_cp_c, fp_g_s, Nat.reduceBEq, Int.reduceAdd, Int.reduceSub, Int.reduceNeg, Int.reduceMul, fp_gu_c, fp_gu_s, fp_lose_o, fp_scut_o, fp_tk_o, fp_lrem_o, fp_push_0]))
      | fail)
  refine hC _ _ _ _ ⟨_, rfl, ?_⟩
  refine sp_findFor (by omega) hnp (by omega) ?_
  rcases fp_fr_in (G := H 0) (t := t') hnp with h2 | ⟨k, h2, h3, h4, h5⟩
  · rw [h2] at hq ⊢
    conv => whnf
    (try simp only [Int.reduceToNat, Int.toNat_natCast, fp_up_c, fp_up_s, fp_up_i, fp_cp_c, fp_g_s, Nat.reduceBEq, Int.reduceAdd, Int.reduceSub, Int.reduceNeg, Int.reduceMul, fp_gu_c, fp_gu_s, fp_lose_o, fp_scut_o, fp_tk_o, fp_lrem_o, fp_push_0])
    (repeat' first
        | (refine And.intro (by first | omega | (unfold fp_rg; omega)) ?_; (try intro _); (conv => whnf); (try simp only [Int.reduceToNat, Int.toNat_natCast, fp_up_c, fp_up_s, fp_up_i, fp_cp_c, fp_g_s, Nat.reduceBEq, Int.reduceAdd, Int.reduceSub, Int.reduceNeg, Int.reduceMul, fp_gu_c, fp_gu_s, fp_lose_o, fp_scut_o, fp_tk_o, fp_lrem_o, fp_push_0]))
        | (refine And.intro (fun _ => ?_) (fun _ => ?_) <;> first | (exfalso; omega) | (rename_i hz_; exact absurd trivial hz_) | ((conv => whnf); (try simp only [Int.reduceToNat, Int.toNat_natCast, fp_up_c, fp_up_s, fp_up_i, fp_cp_c, fp_g_s, Nat.reduceBEq, Int.reduceAdd, Int.reduceSub, Int.reduceNeg, Int.reduceMul, fp_gu_c, fp_gu_s, fp_lose_o, fp_scut_o, fp_tk_o, fp_lrem_o, fp_push_0])))
        | (refine And.intro (by simp [fp_rg, fp_up, fp_cp] <;> omega) ?_; (conv => whnf); (try simp only [Int.reduceToNat, Int.toNat_natCast, fp_up_c, fp_up_s, fp_up_i, fp_cp_c, fp_g_s, Nat.reduceBEq, Int.reduceAdd, Int.reduceSub, Int.reduceNeg, Int.reduceMul, fp_gu_c, fp_gu_s, fp_lose_o, fp_scut_o, fp_tk_o, fp_lrem_o, fp_push_0]))
        | fail)
    (repeat' (split at hq)) <;> first | (exfalso; omega) | exact hq | (simp only [fp_up_g, fp_g_s, fp_g_g, fp_push_0, Int.toNat_natCast] at hq ⊢; exact hq)
  · rw [h2] at hq ⊢
    simp only [Int.toNat_natCast] at hq
    have hs := (fq_sml hI hn.2).1 k (by omega)
    have hs4 := hI.2.2.2.2.2.2 4 (by omega) (by omega)
    have hs6 := hI.2.2.2.2.2.2 6 (by omega) (by omega)
    conv => whnf
    (try simp only [Int.reduceToNat, Int.toNat_natCast, fp_up_c, fp_up_s, fp_up_i, fp_cp_c, fp_g_s, Nat.reduceBEq, Int.reduceAdd, Int.reduceSub, Int.reduceNeg, Int.reduceMul, fp_gu_c, fp_gu_s, fp_lose_o, fp_scut_o, fp_tk_o, fp_lrem_o, fp_push_0])
    (repeat' first
        | (refine And.intro (by first | omega | (unfold fp_rg; omega)) ?_; (try intro _); (conv => whnf); (try simp only [Int.reduceToNat, Int.toNat_natCast, fp_up_c, fp_up_s, fp_up_i, fp_cp_c, fp_g_s, Nat.reduceBEq, Int.reduceAdd, Int.reduceSub, Int.reduceNeg, Int.reduceMul, fp_gu_c, fp_gu_s, fp_lose_o, fp_scut_o, fp_tk_o, fp_lrem_o, fp_push_0]))
        | (refine And.intro (fun _ => ?_) (fun _ => ?_) <;> first | (exfalso; omega) | (rename_i hz_; exact absurd trivial hz_) | ((conv => whnf); (try simp only [Int.reduceToNat, Int.toNat_natCast, fp_up_c, fp_up_s, fp_up_i, fp_cp_c, fp_g_s, Nat.reduceBEq, Int.reduceAdd, Int.reduceSub, Int.reduceNeg, Int.reduceMul, fp_gu_c, fp_gu_s, fp_lose_o, fp_scut_o, fp_tk_o, fp_lrem_o, fp_push_0])))
        | (refine And.intro (by simp [fp_rg, fp_up, fp_cp] <;> omega) ?_; (conv => whnf); (try simp only [Int.reduceToNat, Int.toNat_natCast, fp_up_c, fp_up_s, fp_up_i, fp_cp_c, fp_g_s, Nat.reduceBEq, Int.reduceAdd, Int.reduceSub, Int.reduceNeg, Int.reduceMul, fp_gu_c, fp_gu_s, fp_lose_o, fp_scut_o, fp_tk_o, fp_lrem_o, fp_push_0]))
        | fail)
    refine hC _ _ _ _ ⟨_, rfl, ?_⟩
    refine sp_push hY.1 hY.2 ?_
    conv => whnf
    (try simp only [Int.reduceToNat, Int.toNat_natCast, fp_up_c, fp_up_s, fp_up_i, fp_cp_c, fp_g_s, Nat.reduceBEq, Int.reduceAdd, Int.reduceSub, Int.reduceNeg, Int.reduceMul, fp_gu_c, fp_gu_s, fp_lose_o, fp_scut_o, fp_tk_o, fp_lrem_o, fp_push_0])
    (repeat' first
        | (refine And.intro (by first | omega | (unfold fp_rg; omega)) ?_; (try intro _); (conv => whnf); (try simp only [Int.reduceToNat, Int.toNat_natCast, fp_up_c, fp_up_s, fp_up_i, fp_cp_c, fp_g_s, Nat.reduceBEq, Int.reduceAdd, Int.reduceSub, Int.reduceNeg, Int.reduceMul, fp_gu_c, fp_gu_s, fp_lose_o, fp_scut_o, fp_tk_o, fp_lrem_o, fp_push_0]))
        | (refine And.intro (fun _ => ?_) (fun _ => ?_) <;> first | (exfalso; omega) | (rename_i hz_; exact absurd trivial hz_) | ((conv => whnf); (try simp only [Int.reduceToNat, Int.toNat_natCast, fp_up_c, fp_up_s, fp_up_i, fp_cp_c, fp_g_s, Nat.reduceBEq, Int.reduceAdd, Int.reduceSub, Int.reduceNeg, Int.reduceMul, fp_gu_c, fp_gu_s, fp_lose_o, fp_scut_o, fp_tk_o, fp_lrem_o, fp_push_0])))
        | (refine And.intro (by simp [fp_rg, fp_up, fp_cp] <;> omega) ?_; (conv => whnf); (try simp only [Int.reduceToNat, Int.toNat_natCast, fp_up_c, fp_up_s, fp_up_i, fp_cp_c, fp_g_s, Nat.reduceBEq, Int.reduceAdd, Int.reduceSub, Int.reduceNeg, Int.reduceMul, fp_gu_c, fp_gu_s, fp_lose_o, fp_scut_o, fp_tk_o, fp_lrem_o, fp_push_0]))
        | fail)
    refine hC _ _ _ _ ⟨_, rfl, ?_⟩
    refine sp_handOver (by rw [fp_push_0]; omega) (by omega) (by rw [fp_push_0]; omega) (by rw [fp_push_0]; omega) ?_
    simp only [fp_up_g, fp_g_s, fp_g_g, fp_gu_c, fp_push_0, Nat.reduceBEq]
    conv => whnf
    (try simp only [Int.reduceToNat, Int.toNat_natCast, fp_up_c, fp_up_s, fp_up_i, fp_cp_c, fp_g_s, Nat.reduceBEq, Int.reduceAdd, Int.reduceSub, Int.reduceNeg, Int.reduceMul, fp_gu_c, fp_gu_s, fp_lose_o, fp_scut_o, fp_tk_o, fp_lrem_o, fp_push_0])
    (repeat' first
        | (refine And.intro (by first | omega | (unfold fp_rg; omega)) ?_; (try intro _); (conv => whnf); (try simp only [Int.reduceToNat, Int.toNat_natCast, fp_up_c, fp_up_s, fp_up_i, fp_cp_c, fp_g_s, Nat.reduceBEq, Int.reduceAdd, Int.reduceSub, Int.reduceNeg, Int.reduceMul, fp_gu_c, fp_gu_s, fp_lose_o, fp_scut_o, fp_tk_o, fp_lrem_o, fp_push_0]))
        | (refine And.intro (fun _ => ?_) (fun _ => ?_) <;> first | (exfalso; omega) | (rename_i hz_; exact absurd trivial hz_) | ((conv => whnf); (try simp only [Int.reduceToNat, Int.toNat_natCast, fp_up_c, fp_up_s, fp_up_i, fp_cp_c, fp_g_s, Nat.reduceBEq, Int.reduceAdd, Int.reduceSub, Int.reduceNeg, Int.reduceMul, fp_gu_c, fp_gu_s, fp_lose_o, fp_scut_o, fp_tk_o, fp_lrem_o, fp_push_0])))
        | (refine And.intro (by simp [fp_rg, fp_up, fp_cp] <;> omega) ?_; (conv => whnf); (try simp only [Int.reduceToNat, Int.toNat_natCast, fp_up_c, fp_up_s, fp_up_i, fp_cp_c, fp_g_s, Nat.reduceBEq, Int.reduceAdd, Int.reduceSub, Int.reduceNeg, Int.reduceMul, fp_gu_c, fp_gu_s, fp_lose_o, fp_scut_o, fp_tk_o, fp_lrem_o, fp_push_0]))
        | fail)
    (repeat' (split at hq)) <;> first | (exfalso; omega) | exact hq | (simp only [fp_up_g, fp_g_s, fp_g_g, fp_push_0, Int.toNat_natCast] at hq ⊢; exact hq)
theorem fp_why_in {G : FpG} {p s : Nat} {f : Int} : fp_why G p s f = 0 ∨ fp_why G p s f = 1 ∨ fp_why G p s f = 2 := by
  unfold fp_why
  split
  · exact Or.inr (Or.inl rfl)
  · split
    · exact Or.inr (Or.inr rfl)
    · exact Or.inl rfl
theorem fp_why_0 {G : FpG} {p s : Nat} {f : Int} (h : fp_why G p s f = 0) : fp_tkn G p f ≤ G 7 s := by
  unfold fp_why at h
  split at h
  · cases h
  · split at h
    · cases h
    · omega
set_option maxHeartbeats 600000 in
set_option maxRecDepth 100000 in
theorem sp_cut {L d : Nat} {n p s f : Int} {H : FpH} {Q : FpQ} (hn : 1 ≤ n ∧ n ≤ 600) (hI : fq_I n (H 0)) (hY : fq_Y H) (hq : Q (some (.inl (fq_cut (H 0) p s f).1)) (fq_do H (fq_cut (H 0) p s f).2)) : fp_Wp L (d + 5) 59 0 (fp_en 59 [.inr (7, 14), .inl p, .inl s, .inl f]) [] H Q := by
  unfold fq_cut at hq
  have hnl := hI.1.2.2.1
  have hnp := hI.1.1
  have hns := hI.1.2.1
  refine fp_go 1000 [] (fun KN KC hN hC => ?_)
  conv => whnf
  (try simp only [Int.reduceToNat, Int.toNat_natCast, fp_up_c, fp_up_s, fp_up_i, fp_cp_c, fp_g_s, Nat.reduceBEq, Int.reduceAdd, Int.reduceSub, Int.reduceNeg, Int.reduceMul, fp_gu_c, fp_gu_s, fp_lose_o, fp_scut_o, fp_tk_o, fp_lrem_o, fp_push_0])
  (repeat' first
      | (refine And.intro (by first | omega | (unfold fp_rg; omega)) ?_; (try intro _); (conv => whnf); (try simp only [Int.reduceToNat, Int.toNat_natCast, fp_up_c, fp_up_s, fp_up_i, fp_cp_c, fp_g_s, Nat.reduceBEq, Int.reduceAdd, Int.reduceSub, Int.reduceNeg, Int.reduceMul, fp_gu_c, fp_gu_s, fp_lose_o, fp_scut_o, fp_tk_o, fp_lrem_o, fp_push_0]))
      | (refine And.intro (fun _ => ?_) (fun _ => ?_) <;> first | (exfalso; omega) | (rename_i hz_; exact absurd trivial hz_) | ((conv => whnf); (try simp only [Int.reduceToNat, Int.toNat_natCast, fp_up_c, fp_up_s, fp_up_i, fp_cp_c, fp_g_s, Nat.reduceBEq, Int.reduceAdd, Int.reduceSub, Int.reduceNeg, Int.reduceMul, fp_gu_c, fp_gu_s, fp_lose_o, fp_scut_o, fp_tk_o, fp_lrem_o, fp_push_0])))
      | (refine And.intro (by simp [fp_rg, fp_up, fp_cp] <;> omega) ?_; (conv => whnf); (try simp only [Int.reduceToNat, Int.toNat_natCast, fp_up_c, fp_up_s, fp_up_i, fp_cp_c, fp_g_s, Nat.reduceBEq, Int.reduceAdd, Int.reduceSub, Int.reduceNeg, Int.reduceMul, fp_gu_c, fp_gu_s, fp_lose_o, fp_scut_o, fp_tk_o, fp_lrem_o, fp_push_0]))
      | fail)
  refine hC _ _ _ _ ⟨_, rfl, ?_⟩
  refine sp_phas (fun h1 => ?_) (fun h1 => ?_)
  rotate_left
  · conv => whnf
    (try simp only [Int.reduceToNat, Int.toNat_natCast, fp_up_c, fp_up_s, fp_up_i, fp_cp_c, fp_g_s, Nat.reduceBEq, Int.reduceAdd, Int.reduceSub, Int.reduceNeg, Int.reduceMul, fp_gu_c, fp_gu_s, fp_lose_o, fp_scut_o, fp_tk_o, fp_lrem_o, fp_push_0])
    (repeat' first
        | (refine And.intro (by first | omega | (unfold fp_rg; omega)) ?_; (try intro _); (conv => whnf); (try simp only [Int.reduceToNat, Int.toNat_natCast, fp_up_c, fp_up_s, fp_up_i, fp_cp_c, fp_g_s, Nat.reduceBEq, Int.reduceAdd, Int.reduceSub, Int.reduceNeg, Int.reduceMul, fp_gu_c, fp_gu_s, fp_lose_o, fp_scut_o, fp_tk_o, fp_lrem_o, fp_push_0]))
        | (refine And.intro (fun _ => ?_) (fun _ => ?_) <;> first | (exfalso; omega) | (rename_i hz_; exact absurd trivial hz_) | ((conv => whnf); (try simp only [Int.reduceToNat, Int.toNat_natCast, fp_up_c, fp_up_s, fp_up_i, fp_cp_c, fp_g_s, Nat.reduceBEq, Int.reduceAdd, Int.reduceSub, Int.reduceNeg, Int.reduceMul, fp_gu_c, fp_gu_s, fp_lose_o, fp_scut_o, fp_tk_o, fp_lrem_o, fp_push_0])))
        | (refine And.intro (by simp [fp_rg, fp_up, fp_cp] <;> omega) ?_; (conv => whnf); (try simp only [Int.reduceToNat, Int.toNat_natCast, fp_up_c, fp_up_s, fp_up_i, fp_cp_c, fp_g_s, Nat.reduceBEq, Int.reduceAdd, Int.reduceSub, Int.reduceNeg, Int.reduceMul, fp_gu_c, fp_gu_s, fp_lose_o, fp_scut_o, fp_tk_o, fp_lrem_o, fp_push_0]))
        | fail)
    (repeat' (split at hq)) <;> first | (exfalso; omega) | exact hq | (simp only [fp_up_g, fp_g_s, fp_g_g, fp_push_0, Int.toNat_natCast] at hq ⊢; exact hq)
  conv => whnf
  (try simp only [Int.reduceToNat, Int.toNat_natCast, fp_up_c, fp_up_s, fp_up_i, fp_cp_c, fp_g_s, Nat.reduceBEq, Int.reduceAdd, Int.reduceSub, Int.reduceNeg, Int.reduceMul, fp_gu_c, fp_gu_s, fp_lose_o, fp_scut_o, fp_tk_o, fp_lrem_o, fp_push_0])
  (repeat' first
      | (refine And.intro (by first | omega | (unfold fp_rg; omega)) ?_; (try intro _); (conv => whnf); (try simp only [Int.reduceToNat, Int.toNat_natCast, fp_up_c, fp_up_s, fp_up_i, fp_cp_c, fp_g_s, Nat.reduceBEq, Int.reduceAdd, Int.reduceSub, Int.reduceNeg, Int.reduceMul, fp_gu_c, fp_gu_s, fp_lose_o, fp_scut_o, fp_tk_o, fp_lrem_o, fp_push_0]))
      | (refine And.intro (fun _ => ?_) (fun _ => ?_) <;> first | (exfalso; omega) | (rename_i hz_; exact absurd trivial hz_) | ((conv => whnf); (try simp only [Int.reduceToNat, Int.toNat_natCast, fp_up_c, fp_up_s, fp_up_i, fp_cp_c, fp_g_s, Nat.reduceBEq, Int.reduceAdd, Int.reduceSub, Int.reduceNeg, Int.reduceMul, fp_gu_c, fp_gu_s, fp_lose_o, fp_scut_o, fp_tk_o, fp_lrem_o, fp_push_0])))
      | (refine And.intro (by simp [fp_rg, fp_up, fp_cp] <;> omega) ?_; (conv => whnf); (try simp only [Int.reduceToNat, Int.toNat_natCast, fp_up_c, fp_up_s, fp_up_i, fp_cp_c, fp_g_s, Nat.reduceBEq, Int.reduceAdd, Int.reduceSub, Int.reduceNeg, Int.reduceMul, fp_gu_c, fp_gu_s, fp_lose_o, fp_scut_o, fp_tk_o, fp_lrem_o, fp_push_0]))
      | fail)
  refine hC _ _ _ _ ⟨_, rfl, ?_⟩
  refine sp_shas (fun h2 => ?_) (fun h2 => ?_)
  rotate_left
  · conv => whnf
    (try simp only [Int.reduceToNat, Int.toNat_natCast, fp_up_c, fp_up_s, fp_up_i, fp_cp_c, fp_g_s, Nat.reduceBEq, Int.reduceAdd, Int.reduceSub, Int.reduceNeg, Int.reduceMul, fp_gu_c, fp_gu_s, fp_lose_o, fp_scut_o, fp_tk_o, fp_lrem_o, fp_push_0])
    (repeat' first
        | (refine And.intro (by first | omega | (unfold fp_rg; omega)) ?_; (try intro _); (conv => whnf); (try simp only [Int.reduceToNat, Int.toNat_natCast, fp_up_c, fp_up_s, fp_up_i, fp_cp_c, fp_g_s, Nat.reduceBEq, Int.reduceAdd, Int.reduceSub, Int.reduceNeg, Int.reduceMul, fp_gu_c, fp_gu_s, fp_lose_o, fp_scut_o, fp_tk_o, fp_lrem_o, fp_push_0]))
        | (refine And.intro (fun _ => ?_) (fun _ => ?_) <;> first | (exfalso; omega) | (rename_i hz_; exact absurd trivial hz_) | ((conv => whnf); (try simp only [Int.reduceToNat, Int.toNat_natCast, fp_up_c, fp_up_s, fp_up_i, fp_cp_c, fp_g_s, Nat.reduceBEq, Int.reduceAdd, Int.reduceSub, Int.reduceNeg, Int.reduceMul, fp_gu_c, fp_gu_s, fp_lose_o, fp_scut_o, fp_tk_o, fp_lrem_o, fp_push_0])))
        | (refine And.intro (by simp [fp_rg, fp_up, fp_cp] <;> omega) ?_; (conv => whnf); (try simp only [Int.reduceToNat, Int.toNat_natCast, fp_up_c, fp_up_s, fp_up_i, fp_cp_c, fp_g_s, Nat.reduceBEq, Int.reduceAdd, Int.reduceSub, Int.reduceNeg, Int.reduceMul, fp_gu_c, fp_gu_s, fp_lose_o, fp_scut_o, fp_tk_o, fp_lrem_o, fp_push_0]))
        | fail)
    (repeat' (split at hq)) <;> first | (exfalso; omega) | exact hq | (simp only [fp_up_g, fp_g_s, fp_g_g, fp_push_0, Int.toNat_natCast] at hq ⊢; exact hq)
  conv => whnf
  (try simp only [Int.reduceToNat, Int.toNat_natCast, fp_up_c, fp_up_s, fp_up_i, fp_cp_c, fp_g_s, Nat.reduceBEq, Int.reduceAdd, Int.reduceSub, Int.reduceNeg, Int.reduceMul, fp_gu_c, fp_gu_s, fp_lose_o, fp_scut_o, fp_tk_o, fp_lrem_o, fp_push_0])
  (repeat' first
      | (refine And.intro (by first | omega | (unfold fp_rg; omega)) ?_; (try intro _); (conv => whnf); (try simp only [Int.reduceToNat, Int.toNat_natCast, fp_up_c, fp_up_s, fp_up_i, fp_cp_c, fp_g_s, Nat.reduceBEq, Int.reduceAdd, Int.reduceSub, Int.reduceNeg, Int.reduceMul, fp_gu_c, fp_gu_s, fp_lose_o, fp_scut_o, fp_tk_o, fp_lrem_o, fp_push_0]))
      | (refine And.intro (fun _ => ?_) (fun _ => ?_) <;> first | (exfalso; omega) | (rename_i hz_; exact absurd trivial hz_) | ((conv => whnf); (try simp only [Int.reduceToNat, Int.toNat_natCast, fp_up_c, fp_up_s, fp_up_i, fp_cp_c, fp_g_s, Nat.reduceBEq, Int.reduceAdd, Int.reduceSub, Int.reduceNeg, Int.reduceMul, fp_gu_c, fp_gu_s, fp_lose_o, fp_scut_o, fp_tk_o, fp_lrem_o, fp_push_0])))
      | (refine And.intro (by simp [fp_rg, fp_up, fp_cp] <;> omega) ?_; (conv => whnf); (try simp only [Int.reduceToNat, Int.toNat_natCast, fp_up_c, fp_up_s, fp_up_i, fp_cp_c, fp_g_s, Nat.reduceBEq, Int.reduceAdd, Int.reduceSub, Int.reduceNeg, Int.reduceMul, fp_gu_c, fp_gu_s, fp_lose_o, fp_scut_o, fp_tk_o, fp_lrem_o, fp_push_0]))
      | fail)
  refine hC _ _ _ _ ⟨_, rfl, ?_⟩
  refine sp_areFolds (fun h3 => ?_) (fun h3 => ?_)
  rotate_left
  · conv => whnf
    (try simp only [Int.reduceToNat, Int.toNat_natCast, fp_up_c, fp_up_s, fp_up_i, fp_cp_c, fp_g_s, Nat.reduceBEq, Int.reduceAdd, Int.reduceSub, Int.reduceNeg, Int.reduceMul, fp_gu_c, fp_gu_s, fp_lose_o, fp_scut_o, fp_tk_o, fp_lrem_o, fp_push_0])
    (repeat' first
        | (refine And.intro (by first | omega | (unfold fp_rg; omega)) ?_; (try intro _); (conv => whnf); (try simp only [Int.reduceToNat, Int.toNat_natCast, fp_up_c, fp_up_s, fp_up_i, fp_cp_c, fp_g_s, Nat.reduceBEq, Int.reduceAdd, Int.reduceSub, Int.reduceNeg, Int.reduceMul, fp_gu_c, fp_gu_s, fp_lose_o, fp_scut_o, fp_tk_o, fp_lrem_o, fp_push_0]))
        | (refine And.intro (fun _ => ?_) (fun _ => ?_) <;> first | (exfalso; omega) | (rename_i hz_; exact absurd trivial hz_) | ((conv => whnf); (try simp only [Int.reduceToNat, Int.toNat_natCast, fp_up_c, fp_up_s, fp_up_i, fp_cp_c, fp_g_s, Nat.reduceBEq, Int.reduceAdd, Int.reduceSub, Int.reduceNeg, Int.reduceMul, fp_gu_c, fp_gu_s, fp_lose_o, fp_scut_o, fp_tk_o, fp_lrem_o, fp_push_0])))
        | (refine And.intro (by simp [fp_rg, fp_up, fp_cp] <;> omega) ?_; (conv => whnf); (try simp only [Int.reduceToNat, Int.toNat_natCast, fp_up_c, fp_up_s, fp_up_i, fp_cp_c, fp_g_s, Nat.reduceBEq, Int.reduceAdd, Int.reduceSub, Int.reduceNeg, Int.reduceMul, fp_gu_c, fp_gu_s, fp_lose_o, fp_scut_o, fp_tk_o, fp_lrem_o, fp_push_0]))
        | fail)
    (repeat' (split at hq)) <;> first | (exfalso; omega) | exact hq | (simp only [fp_up_g, fp_g_s, fp_g_g, fp_push_0, Int.toNat_natCast] at hq ⊢; exact hq)
  obtain ⟨p', rfl⟩ := Int.eq_ofNat_of_zero_le h1.1
  obtain ⟨s', rfl⟩ := Int.eq_ofNat_of_zero_le h2.1
  simp only [Int.toNat_natCast] at hq
  have hs7 := hI.2.2.2.2.1 s' h2.2
  have hok := fq_okc hI h1.2
  conv => whnf
  (try simp only [Int.reduceToNat, Int.toNat_natCast, fp_up_c, fp_up_s, fp_up_i, fp_cp_c, fp_g_s, Nat.reduceBEq, Int.reduceAdd, Int.reduceSub, Int.reduceNeg, Int.reduceMul, fp_gu_c, fp_gu_s, fp_lose_o, fp_scut_o, fp_tk_o, fp_lrem_o, fp_push_0])
  (repeat' first
      | (refine And.intro (by first | omega | (unfold fp_rg; omega)) ?_; (try intro _); (conv => whnf); (try simp only [Int.reduceToNat, Int.toNat_natCast, fp_up_c, fp_up_s, fp_up_i, fp_cp_c, fp_g_s, Nat.reduceBEq, Int.reduceAdd, Int.reduceSub, Int.reduceNeg, Int.reduceMul, fp_gu_c, fp_gu_s, fp_lose_o, fp_scut_o, fp_tk_o, fp_lrem_o, fp_push_0]))
      | (refine And.intro (fun _ => ?_) (fun _ => ?_) <;> first | (exfalso; omega) | (rename_i hz_; exact absurd trivial hz_) | ((conv => whnf); (try simp only [Int.reduceToNat, Int.toNat_natCast, fp_up_c, fp_up_s, fp_up_i, fp_cp_c, fp_g_s, Nat.reduceBEq, Int.reduceAdd, Int.reduceSub, Int.reduceNeg, Int.reduceMul, fp_gu_c, fp_gu_s, fp_lose_o, fp_scut_o, fp_tk_o, fp_lrem_o, fp_push_0])))
      | (refine And.intro (by simp [fp_rg, fp_up, fp_cp] <;> omega) ?_; (conv => whnf); (try simp only [Int.reduceToNat, Int.toNat_natCast, fp_up_c, fp_up_s, fp_up_i, fp_cp_c, fp_g_s, Nat.reduceBEq, Int.reduceAdd, Int.reduceSub, Int.reduceNeg, Int.reduceMul, fp_gu_c, fp_gu_s, fp_lose_o, fp_scut_o, fp_tk_o, fp_lrem_o, fp_push_0]))
      | fail)
  refine hC _ _ _ _ ⟨_, rfl, ?_⟩
  refine sp_why (by omega) (by omega) h3 hok (by omega) ?_
  rcases fp_why_in (G := H 0) (p := p') (s := s') (f := f) with hw | hw | hw
  rotate_left
  · rw [hw] at hq ⊢
    conv => whnf
    (try simp only [Int.reduceToNat, Int.toNat_natCast, fp_up_c, fp_up_s, fp_up_i, fp_cp_c, fp_g_s, Nat.reduceBEq, Int.reduceAdd, Int.reduceSub, Int.reduceNeg, Int.reduceMul, fp_gu_c, fp_gu_s, fp_lose_o, fp_scut_o, fp_tk_o, fp_lrem_o, fp_push_0])
    (repeat' first
        | (refine And.intro (by first | omega | (unfold fp_rg; omega)) ?_; (try intro _); (conv => whnf); (try simp only [Int.reduceToNat, Int.toNat_natCast, fp_up_c, fp_up_s, fp_up_i, fp_cp_c, fp_g_s, Nat.reduceBEq, Int.reduceAdd, Int.reduceSub, Int.reduceNeg, Int.reduceMul, fp_gu_c, fp_gu_s, fp_lose_o, fp_scut_o, fp_tk_o, fp_lrem_o, fp_push_0]))
        | (refine And.intro (fun _ => ?_) (fun _ => ?_) <;> first | (exfalso; omega) | (rename_i hz_; exact absurd trivial hz_) | ((conv => whnf); (try simp only [Int.reduceToNat, Int.toNat_natCast, fp_up_c, fp_up_s, fp_up_i, fp_cp_c, fp_g_s, Nat.reduceBEq, Int.reduceAdd, Int.reduceSub, Int.reduceNeg, Int.reduceMul, fp_gu_c, fp_gu_s, fp_lose_o, fp_scut_o, fp_tk_o, fp_lrem_o, fp_push_0])))
        | (refine And.intro (by simp [fp_rg, fp_up, fp_cp] <;> omega) ?_; (conv => whnf); (try simp only [Int.reduceToNat, Int.toNat_natCast, fp_up_c, fp_up_s, fp_up_i, fp_cp_c, fp_g_s, Nat.reduceBEq, Int.reduceAdd, Int.reduceSub, Int.reduceNeg, Int.reduceMul, fp_gu_c, fp_gu_s, fp_lose_o, fp_scut_o, fp_tk_o, fp_lrem_o, fp_push_0]))
        | fail)
    (repeat' (split at hq)) <;> first | (exfalso; omega) | exact hq | (simp only [fp_up_g, fp_g_s, fp_g_g, fp_push_0, Int.toNat_natCast] at hq ⊢; exact hq)
  · rw [hw] at hq ⊢
    conv => whnf
    (try simp only [Int.reduceToNat, Int.toNat_natCast, fp_up_c, fp_up_s, fp_up_i, fp_cp_c, fp_g_s, Nat.reduceBEq, Int.reduceAdd, Int.reduceSub, Int.reduceNeg, Int.reduceMul, fp_gu_c, fp_gu_s, fp_lose_o, fp_scut_o, fp_tk_o, fp_lrem_o, fp_push_0])
    (repeat' first
        | (refine And.intro (by first | omega | (unfold fp_rg; omega)) ?_; (try intro _); (conv => whnf); (try simp only [Int.reduceToNat, Int.toNat_natCast, fp_up_c, fp_up_s, fp_up_i, fp_cp_c, fp_g_s, Nat.reduceBEq, Int.reduceAdd, Int.reduceSub, Int.reduceNeg, Int.reduceMul, fp_gu_c, fp_gu_s, fp_lose_o, fp_scut_o, fp_tk_o, fp_lrem_o, fp_push_0]))
        | (refine And.intro (fun _ => ?_) (fun _ => ?_) <;> first | (exfalso; omega) | (rename_i hz_; exact absurd trivial hz_) | ((conv => whnf); (try simp only [Int.reduceToNat, Int.toNat_natCast, fp_up_c, fp_up_s, fp_up_i, fp_cp_c, fp_g_s, Nat.reduceBEq, Int.reduceAdd, Int.reduceSub, Int.reduceNeg, Int.reduceMul, fp_gu_c, fp_gu_s, fp_lose_o, fp_scut_o, fp_tk_o, fp_lrem_o, fp_push_0])))
        | (refine And.intro (by simp [fp_rg, fp_up, fp_cp] <;> omega) ?_; (conv => whnf); (try simp only [Int.reduceToNat, Int.toNat_natCast, fp_up_c, fp_up_s, fp_up_i, fp_cp_c, fp_g_s, Nat.reduceBEq, Int.reduceAdd, Int.reduceSub, Int.reduceNeg, Int.reduceMul, fp_gu_c, fp_gu_s, fp_lose_o, fp_scut_o, fp_tk_o, fp_lrem_o, fp_push_0]))
        | fail)
    (repeat' (split at hq)) <;> first | (exfalso; omega) | exact hq | (simp only [fp_up_g, fp_g_s, fp_g_g, fp_push_0, Int.toNat_natCast] at hq ⊢; exact hq)
  have hw0 := fp_why_0 hw
  rw [hw] at hq ⊢
  conv => whnf
  (try simp only [Int.reduceToNat, Int.toNat_natCast, fp_up_c, fp_up_s, fp_up_i, fp_cp_c, fp_g_s, Nat.reduceBEq, Int.reduceAdd, Int.reduceSub, Int.reduceNeg, Int.reduceMul, fp_gu_c, fp_gu_s, fp_lose_o, fp_scut_o, fp_tk_o, fp_lrem_o, fp_push_0])
  (repeat' first
      | (refine And.intro (by first | omega | (unfold fp_rg; omega)) ?_; (try intro _); (conv => whnf); (try simp only [Int.reduceToNat, Int.toNat_natCast, fp_up_c, fp_up_s, fp_up_i, fp_cp_c, fp_g_s, Nat.reduceBEq, Int.reduceAdd, Int.reduceSub, Int.reduceNeg, Int.reduceMul, fp_gu_c, fp_gu_s, fp_lose_o, fp_scut_o, fp_tk_o, fp_lrem_o, fp_push_0]))
      | (refine And.intro (fun _ => ?_) (fun _ => ?_) <;> first | (exfalso; omega) | (rename_i hz_; exact absurd trivial hz_) | ((conv => whnf); (try simp only [Int.reduceToNat, Int.toNat_natCast, fp_up_c, fp_up_s, fp_up_i, fp_cp_c, fp_g_s, Nat.reduceBEq, Int.reduceAdd, Int.reduceSub, Int.reduceNeg, Int.reduceMul, fp_gu_c, fp_gu_s, fp_lose_o, fp_scut_o, fp_tk_o, fp_lrem_o, fp_push_0])))
      | (refine And.intro (by simp [fp_rg, fp_up, fp_cp] <;> omega) ?_; (conv => whnf); (try simp only [Int.reduceToNat, Int.toNat_natCast, fp_up_c, fp_up_s, fp_up_i, fp_cp_c, fp_g_s, Nat.reduceBEq, Int.reduceAdd, Int.reduceSub, Int.reduceNeg, Int.reduceMul, fp_gu_c, fp_gu_s, fp_lose_o, fp_scut_o, fp_tk_o, fp_lrem_o, fp_push_0]))
      | fail)
  refine hC _ _ _ _ ⟨_, rfl, ?_⟩
  refine sp_push hY.1 hY.2 ?_
  conv => whnf
  (try simp only [Int.reduceToNat, Int.toNat_natCast, fp_up_c, fp_up_s, fp_up_i, fp_cp_c, fp_g_s, Nat.reduceBEq, Int.reduceAdd, Int.reduceSub, Int.reduceNeg, Int.reduceMul, fp_gu_c, fp_gu_s, fp_lose_o, fp_scut_o, fp_tk_o, fp_lrem_o, fp_push_0])
  (repeat' first
      | (refine And.intro (by first | omega | (unfold fp_rg; omega)) ?_; (try intro _); (conv => whnf); (try simp only [Int.reduceToNat, Int.toNat_natCast, fp_up_c, fp_up_s, fp_up_i, fp_cp_c, fp_g_s, Nat.reduceBEq, Int.reduceAdd, Int.reduceSub, Int.reduceNeg, Int.reduceMul, fp_gu_c, fp_gu_s, fp_lose_o, fp_scut_o, fp_tk_o, fp_lrem_o, fp_push_0]))
      | (refine And.intro (fun _ => ?_) (fun _ => ?_) <;> first | (exfalso; omega) | (rename_i hz_; exact absurd trivial hz_) | ((conv => whnf); (try simp only [Int.reduceToNat, Int.toNat_natCast, fp_up_c, fp_up_s, fp_up_i, fp_cp_c, fp_g_s, Nat.reduceBEq, Int.reduceAdd, Int.reduceSub, Int.reduceNeg, Int.reduceMul, fp_gu_c, fp_gu_s, fp_lose_o, fp_scut_o, fp_tk_o, fp_lrem_o, fp_push_0])))
      | (refine And.intro (by simp [fp_rg, fp_up, fp_cp] <;> omega) ?_; (conv => whnf); (try simp only [Int.reduceToNat, Int.toNat_natCast, fp_up_c, fp_up_s, fp_up_i, fp_cp_c, fp_g_s, Nat.reduceBEq, Int.reduceAdd, Int.reduceSub, Int.reduceNeg, Int.reduceMul, fp_gu_c, fp_gu_s, fp_lose_o, fp_scut_o, fp_tk_o, fp_lrem_o, fp_push_0]))
      | fail)
  refine hC _ _ _ _ ⟨_, rfl, ?_⟩
  refine sp_makeCut (by omega) h3 (by rw [fp_push_0]; exact hok) (by rw [fp_push_0]; omega) (by rw [fp_push_0]; omega) (by rw [fp_push_0]; exact hnl) (by rw [fp_push_0]; exact fun t ht => (hI.2.2.2.2.2.1 t ht).2.2) (by rw [fp_push_0]; exact fq_sml hI hn.2) ?_
  simp only [fp_up_g, fp_g_s, fp_g_g, fp_gu_c, fp_push_0, Nat.reduceBEq]
  conv => whnf
  (try simp only [Int.reduceToNat, Int.toNat_natCast, fp_up_c, fp_up_s, fp_up_i, fp_cp_c, fp_g_s, Nat.reduceBEq, Int.reduceAdd, Int.reduceSub, Int.reduceNeg, Int.reduceMul, fp_gu_c, fp_gu_s, fp_lose_o, fp_scut_o, fp_tk_o, fp_lrem_o, fp_push_0])
  (repeat' first
      | (refine And.intro (by first | omega | (unfold fp_rg; omega)) ?_; (try intro _); (conv => whnf); (try simp only [Int.reduceToNat, Int.toNat_natCast, fp_up_c, fp_up_s, fp_up_i, fp_cp_c, fp_g_s, Nat.reduceBEq, Int.reduceAdd, Int.reduceSub, Int.reduceNeg, Int.reduceMul, fp_gu_c, fp_gu_s, fp_lose_o, fp_scut_o, fp_tk_o, fp_lrem_o, fp_push_0]))
      | (refine And.intro (fun _ => ?_) (fun _ => ?_) <;> first | (exfalso; omega) | (rename_i hz_; exact absurd trivial hz_) | ((conv => whnf); (try simp only [Int.reduceToNat, Int.toNat_natCast, fp_up_c, fp_up_s, fp_up_i, fp_cp_c, fp_g_s, Nat.reduceBEq, Int.reduceAdd, Int.reduceSub, Int.reduceNeg, Int.reduceMul, fp_gu_c, fp_gu_s, fp_lose_o, fp_scut_o, fp_tk_o, fp_lrem_o, fp_push_0])))
      | (refine And.intro (by simp [fp_rg, fp_up, fp_cp] <;> omega) ?_; (conv => whnf); (try simp only [Int.reduceToNat, Int.toNat_natCast, fp_up_c, fp_up_s, fp_up_i, fp_cp_c, fp_g_s, Nat.reduceBEq, Int.reduceAdd, Int.reduceSub, Int.reduceNeg, Int.reduceMul, fp_gu_c, fp_gu_s, fp_lose_o, fp_scut_o, fp_tk_o, fp_lrem_o, fp_push_0]))
      | fail)
  refine hC _ _ _ _ ⟨_, rfl, ?_⟩
  refine sp_layersOf h3 ?_
  conv => whnf
  (try simp only [Int.reduceToNat, Int.toNat_natCast, fp_up_c, fp_up_s, fp_up_i, fp_cp_c, fp_g_s, Nat.reduceBEq, Int.reduceAdd, Int.reduceSub, Int.reduceNeg, Int.reduceMul, fp_gu_c, fp_gu_s, fp_lose_o, fp_scut_o, fp_tk_o, fp_lrem_o, fp_push_0])
  (repeat' first
      | (refine And.intro (by first | omega | (unfold fp_rg; omega)) ?_; (try intro _); (conv => whnf); (try simp only [Int.reduceToNat, Int.toNat_natCast, fp_up_c, fp_up_s, fp_up_i, fp_cp_c, fp_g_s, Nat.reduceBEq, Int.reduceAdd, Int.reduceSub, Int.reduceNeg, Int.reduceMul, fp_gu_c, fp_gu_s, fp_lose_o, fp_scut_o, fp_tk_o, fp_lrem_o, fp_push_0]))
      | (refine And.intro (fun _ => ?_) (fun _ => ?_) <;> first | (exfalso; omega) | (rename_i hz_; exact absurd trivial hz_) | ((conv => whnf); (try simp only [Int.reduceToNat, Int.toNat_natCast, fp_up_c, fp_up_s, fp_up_i, fp_cp_c, fp_g_s, Nat.reduceBEq, Int.reduceAdd, Int.reduceSub, Int.reduceNeg, Int.reduceMul, fp_gu_c, fp_gu_s, fp_lose_o, fp_scut_o, fp_tk_o, fp_lrem_o, fp_push_0])))
      | (refine And.intro (by simp [fp_rg, fp_up, fp_cp] <;> omega) ?_; (conv => whnf); (try simp only [Int.reduceToNat, Int.toNat_natCast, fp_up_c, fp_up_s, fp_up_i, fp_cp_c, fp_g_s, Nat.reduceBEq, Int.reduceAdd, Int.reduceSub, Int.reduceNeg, Int.reduceMul, fp_gu_c, fp_gu_s, fp_lose_o, fp_scut_o, fp_tk_o, fp_lrem_o, fp_push_0]))
      | fail)
  (repeat' (split at hq)) <;> first | (exfalso; omega) | exact hq | (simp only [fp_up_g, fp_g_s, fp_g_g, fp_push_0, Int.toNat_natCast] at hq ⊢; exact hq)
set_option maxHeartbeats 600000 in
set_option maxRecDepth 100000 in
theorem sp_turn {L d : Nat} {n p r : Int} {H : FpH} {Q : FpQ} (hn : 1 ≤ n ∧ n ≤ 600) (hI : fq_I n (H 0)) (hY : fq_Y H) (hq : Q (some (.inl (fq_turn (H 0) p r).1)) (fq_do H (fq_turn (H 0) p r).2)) : fp_Wp L (d + 4) 60 0 (fp_en 60 [.inr (7, 14), .inl p, .inl r]) [] H Q := by
  unfold fq_turn at hq
  have hnl := hI.1.2.2.1
  have hnp := hI.1.1
  have hs5 := hI.2.2.2.2.2.2 5 (by omega) (by omega)
  have hs7 := hI.2.2.2.2.2.2 7 (by omega) (by omega)
  refine fp_go 1000 [] (fun KN KC hN hC => ?_)
  conv => whnf
  (try simp only [Int.reduceToNat, Int.toNat_natCast, fp_up_c, fp_up_s, fp_up_i, fp_cp_c, fp_g_s, Nat.reduceBEq, Int.reduceAdd, Int.reduceSub, Int.reduceNeg, Int.reduceMul, fp_gu_c, fp_gu_s, fp_lose_o, fp_scut_o, fp_tk_o, fp_lrem_o, fp_push_0])
  (repeat' first
      | (refine And.intro (by first | omega | (unfold fp_rg; omega)) ?_; (try intro _); (conv => whnf); (try simp only [Int.reduceToNat, Int.toNat_natCast, fp_up_c, fp_up_s, fp_up_i, fp_cp_c, fp_g_s, Nat.reduceBEq, Int.reduceAdd, Int.reduceSub, Int.reduceNeg, Int.reduceMul, fp_gu_c, fp_gu_s, fp_lose_o, fp_scut_o, fp_tk_o, fp_lrem_o, fp_push_0]))
      | (refine And.intro (fun _ => ?_) (fun _ => ?_) <;> first | (exfalso; omega) | (rename_i hz_; exact absurd trivial hz_) | ((conv => whnf); (try simp only [Int.reduceToNat, Int.toNat_natCast, fp_up_c, fp_up_s, fp_up_i, fp_cp_c, fp_g_s, Nat.reduceBEq, Int.reduceAdd, Int.reduceSub, Int.reduceNeg, Int.reduceMul, fp_gu_c, fp_gu_s, fp_lose_o, fp_scut_o, fp_tk_o, fp_lrem_o, fp_push_0])))
      | (refine And.intro (by simp [fp_rg, fp_up, fp_cp] <;> omega) ?_; (conv => whnf); (try simp only [Int.reduceToNat, Int.toNat_natCast, fp_up_c, fp_up_s, fp_up_i, fp_cp_c, fp_g_s, Nat.reduceBEq, Int.reduceAdd, Int.reduceSub, Int.reduceNeg, Int.reduceMul, fp_gu_c, fp_gu_s, fp_lose_o, fp_scut_o, fp_tk_o, fp_lrem_o, fp_push_0]))
      | fail)
  refine hC _ _ _ _ ⟨_, rfl, ?_⟩
  refine sp_phas (fun h1 => ?_) (fun h1 => ?_)
  rotate_left
  · conv => whnf
    (try simp only [Int.reduceToNat, Int.toNat_natCast, fp_up_c, fp_up_s, fp_up_i, fp_cp_c, fp_g_s, Nat.reduceBEq, Int.reduceAdd, Int.reduceSub, Int.reduceNeg, Int.reduceMul, fp_gu_c, fp_gu_s, fp_lose_o, fp_scut_o, fp_tk_o, fp_lrem_o, fp_push_0])
    (repeat' first
        | (refine And.intro (by first | omega | (unfold fp_rg; omega)) ?_; (try intro _); (conv => whnf); (try simp only [Int.reduceToNat, Int.toNat_natCast, fp_up_c, fp_up_s, fp_up_i, fp_cp_c, fp_g_s, Nat.reduceBEq, Int.reduceAdd, Int.reduceSub, Int.reduceNeg, Int.reduceMul, fp_gu_c, fp_gu_s, fp_lose_o, fp_scut_o, fp_tk_o, fp_lrem_o, fp_push_0]))
        | (refine And.intro (fun _ => ?_) (fun _ => ?_) <;> first | (exfalso; omega) | (rename_i hz_; exact absurd trivial hz_) | ((conv => whnf); (try simp only [Int.reduceToNat, Int.toNat_natCast, fp_up_c, fp_up_s, fp_up_i, fp_cp_c, fp_g_s, Nat.reduceBEq, Int.reduceAdd, Int.reduceSub, Int.reduceNeg, Int.reduceMul, fp_gu_c, fp_gu_s, fp_lose_o, fp_scut_o, fp_tk_o, fp_lrem_o, fp_push_0])))
        | (refine And.intro (by simp [fp_rg, fp_up, fp_cp] <;> omega) ?_; (conv => whnf); (try simp only [Int.reduceToNat, Int.toNat_natCast, fp_up_c, fp_up_s, fp_up_i, fp_cp_c, fp_g_s, Nat.reduceBEq, Int.reduceAdd, Int.reduceSub, Int.reduceNeg, Int.reduceMul, fp_gu_c, fp_gu_s, fp_lose_o, fp_scut_o, fp_tk_o, fp_lrem_o, fp_push_0]))
        | fail)
    (repeat' (split at hq)) <;> first | (exfalso; omega) | exact hq | (simp only [fp_up_g, fp_g_s, fp_g_g, fp_push_0, Int.toNat_natCast] at hq ⊢; exact hq)
  obtain ⟨p', rfl⟩ := Int.eq_ofNat_of_zero_le h1.1
  have hp := (fq_sml hI hn.2).1 p' (by omega)
  simp only [Int.toNat_natCast] at hq
  have e3 : ∀ (G : FpG) (t : Int), fp_tp G t 3 p' = G 3 p' := fun G t => by unfold fp_tp; rw [fp_gu_c (by rfl), fp_lose_o (by rfl) (by rfl) (by rfl) (by rfl), fp_gu_c (by rfl)]
  have e4 : ∀ (G : FpG) (t : Int), fp_tp G t 4 p' = G 4 p' := fun G t => by unfold fp_tp; rw [fp_gu_c (by rfl), fp_lose_o (by rfl) (by rfl) (by rfl) (by rfl), fp_gu_c (by rfl)]
  have hpt : ∀ t : Nat, (t : Int) < H 0 9 3 → 1 ≤ H 0 12 t ∧ H 0 12 t ≤ 99 := fun t ht => (hI.2.2.2.2.2.1 t ht).2.2
  rw [if_neg (by omega)] at hq
  by_cases hr : r = 0
  · subst hr
    simp only [fq_trn, if_true] at hq
    conv => whnf
    (try simp only [Int.reduceToNat, Int.toNat_natCast, fp_up_c, fp_up_s, fp_up_i, fp_cp_c, fp_g_s, Nat.reduceBEq, Int.reduceAdd, Int.reduceSub, Int.reduceNeg, Int.reduceMul, fp_gu_c, fp_gu_s, fp_lose_o, fp_scut_o, fp_tk_o, fp_lrem_o, fp_push_0])
    (repeat' first
        | (refine And.intro (by first | omega | (unfold fp_rg; omega)) ?_; (try intro _); (conv => whnf); (try simp only [Int.reduceToNat, Int.toNat_natCast, fp_up_c, fp_up_s, fp_up_i, fp_cp_c, fp_g_s, Nat.reduceBEq, Int.reduceAdd, Int.reduceSub, Int.reduceNeg, Int.reduceMul, fp_gu_c, fp_gu_s, fp_lose_o, fp_scut_o, fp_tk_o, fp_lrem_o, fp_push_0]))
        | (refine And.intro (fun _ => ?_) (fun _ => ?_) <;> first | (exfalso; omega) | (rename_i hz_; exact absurd trivial hz_) | ((conv => whnf); (try simp only [Int.reduceToNat, Int.toNat_natCast, fp_up_c, fp_up_s, fp_up_i, fp_cp_c, fp_g_s, Nat.reduceBEq, Int.reduceAdd, Int.reduceSub, Int.reduceNeg, Int.reduceMul, fp_gu_c, fp_gu_s, fp_lose_o, fp_scut_o, fp_tk_o, fp_lrem_o, fp_push_0])))
        | (refine And.intro (by simp [fp_rg, fp_up, fp_cp] <;> omega) ?_; (conv => whnf); (try simp only [Int.reduceToNat, Int.toNat_natCast, fp_up_c, fp_up_s, fp_up_i, fp_cp_c, fp_g_s, Nat.reduceBEq, Int.reduceAdd, Int.reduceSub, Int.reduceNeg, Int.reduceMul, fp_gu_c, fp_gu_s, fp_lose_o, fp_scut_o, fp_tk_o, fp_lrem_o, fp_push_0]))
        | fail)
    · rename_i hb
      rw [if_pos hb] at hq
      exact hq
    rename_i hb
    rw [if_neg hb] at hq
    refine hC _ _ _ _ ⟨_, rfl, ?_⟩
    refine sp_push hY.1 hY.2 ?_
    conv => whnf
    (try simp only [Int.reduceToNat, Int.toNat_natCast, fp_up_c, fp_up_s, fp_up_i, fp_cp_c, fp_g_s, Nat.reduceBEq, Int.reduceAdd, Int.reduceSub, Int.reduceNeg, Int.reduceMul, fp_gu_c, fp_gu_s, fp_lose_o, fp_scut_o, fp_tk_o, fp_lrem_o, fp_push_0])
    (repeat' first
        | (refine And.intro (by first | omega | (unfold fp_rg; omega)) ?_; (try intro _); (conv => whnf); (try simp only [Int.reduceToNat, Int.toNat_natCast, fp_up_c, fp_up_s, fp_up_i, fp_cp_c, fp_g_s, Nat.reduceBEq, Int.reduceAdd, Int.reduceSub, Int.reduceNeg, Int.reduceMul, fp_gu_c, fp_gu_s, fp_lose_o, fp_scut_o, fp_tk_o, fp_lrem_o, fp_push_0]))
        | (refine And.intro (fun _ => ?_) (fun _ => ?_) <;> first | (exfalso; omega) | (rename_i hz_; exact absurd trivial hz_) | ((conv => whnf); (try simp only [Int.reduceToNat, Int.toNat_natCast, fp_up_c, fp_up_s, fp_up_i, fp_cp_c, fp_g_s, Nat.reduceBEq, Int.reduceAdd, Int.reduceSub, Int.reduceNeg, Int.reduceMul, fp_gu_c, fp_gu_s, fp_lose_o, fp_scut_o, fp_tk_o, fp_lrem_o, fp_push_0])))
        | (refine And.intro (by simp [fp_rg, fp_up, fp_cp] <;> omega) ?_; (conv => whnf); (try simp only [Int.reduceToNat, Int.toNat_natCast, fp_up_c, fp_up_s, fp_up_i, fp_cp_c, fp_g_s, Nat.reduceBEq, Int.reduceAdd, Int.reduceSub, Int.reduceNeg, Int.reduceMul, fp_gu_c, fp_gu_s, fp_lose_o, fp_scut_o, fp_tk_o, fp_lrem_o, fp_push_0]))
        | fail)
    refine hC _ _ _ _ ⟨_, rfl, ?_⟩
    refine sp_timePass (by omega) (by simp only [fp_up_g, fp_g_s, fp_gu_c, fp_push_0, Nat.reduceBEq]; exact hnl) (fun t ht => by simp only [fp_up_g, fp_g_s, fp_gu_c, fp_push_0, Nat.reduceBEq] at ht ⊢; exact hpt t ht) (by simp only [fp_up_g, fp_g_s, fp_gu_c, fp_push_0, Nat.reduceBEq]; omega) ?_
    simp only [fp_up_g, fp_g_s, fp_g_g, fp_gu_c, fp_push_0, Nat.reduceBEq]
    conv => whnf
    (try simp only [e3, e4, fp_gu_s, Int.reduceToNat, Int.toNat_natCast, fp_up_c, fp_up_s, fp_up_i, fp_cp_c, fp_g_s, Nat.reduceBEq, Int.reduceAdd, Int.reduceSub, Int.reduceNeg, Int.reduceMul, fp_gu_c, fp_gu_s, fp_lose_o, fp_scut_o, fp_tk_o, fp_lrem_o, fp_push_0])
    (repeat' first
        | (refine And.intro (by first | omega | (unfold fp_rg; omega)) ?_; (try intro _); (conv => whnf); (try simp only [e3, e4, fp_gu_s, Int.reduceToNat, Int.toNat_natCast, fp_up_c, fp_up_s, fp_up_i, fp_cp_c, fp_g_s, Nat.reduceBEq, Int.reduceAdd, Int.reduceSub, Int.reduceNeg, Int.reduceMul, fp_gu_c, fp_gu_s, fp_lose_o, fp_scut_o, fp_tk_o, fp_lrem_o, fp_push_0]))
        | (refine And.intro (fun _ => ?_) (fun _ => ?_) <;> first | (exfalso; omega) | (rename_i hz_; exact absurd trivial hz_) | ((conv => whnf); (try simp only [e3, e4, fp_gu_s, Int.reduceToNat, Int.toNat_natCast, fp_up_c, fp_up_s, fp_up_i, fp_cp_c, fp_g_s, Nat.reduceBEq, Int.reduceAdd, Int.reduceSub, Int.reduceNeg, Int.reduceMul, fp_gu_c, fp_gu_s, fp_lose_o, fp_scut_o, fp_tk_o, fp_lrem_o, fp_push_0])))
        | (refine And.intro (by simp [fp_rg, fp_up, fp_cp] <;> omega) ?_; (conv => whnf); (try simp only [e3, e4, fp_gu_s, Int.reduceToNat, Int.toNat_natCast, fp_up_c, fp_up_s, fp_up_i, fp_cp_c, fp_g_s, Nat.reduceBEq, Int.reduceAdd, Int.reduceSub, Int.reduceNeg, Int.reduceMul, fp_gu_c, fp_gu_s, fp_lose_o, fp_scut_o, fp_tk_o, fp_lrem_o, fp_push_0]))
        | fail)
    exact hq
  · simp only [fq_trn, if_neg hr] at hq
    conv => whnf
    (try simp only [Int.reduceToNat, Int.toNat_natCast, fp_up_c, fp_up_s, fp_up_i, fp_cp_c, fp_g_s, Nat.reduceBEq, Int.reduceAdd, Int.reduceSub, Int.reduceNeg, Int.reduceMul, fp_gu_c, fp_gu_s, fp_lose_o, fp_scut_o, fp_tk_o, fp_lrem_o, fp_push_0])
    (repeat' first
        | (refine And.intro (by first | omega | (unfold fp_rg; omega)) ?_; (try intro _); (conv => whnf); (try simp only [Int.reduceToNat, Int.toNat_natCast, fp_up_c, fp_up_s, fp_up_i, fp_cp_c, fp_g_s, Nat.reduceBEq, Int.reduceAdd, Int.reduceSub, Int.reduceNeg, Int.reduceMul, fp_gu_c, fp_gu_s, fp_lose_o, fp_scut_o, fp_tk_o, fp_lrem_o, fp_push_0]))
        | (refine And.intro (fun _ => ?_) (fun _ => ?_) <;> first | (exfalso; omega) | (rename_i hz_; exact absurd trivial hz_) | ((conv => whnf); (try simp only [Int.reduceToNat, Int.toNat_natCast, fp_up_c, fp_up_s, fp_up_i, fp_cp_c, fp_g_s, Nat.reduceBEq, Int.reduceAdd, Int.reduceSub, Int.reduceNeg, Int.reduceMul, fp_gu_c, fp_gu_s, fp_lose_o, fp_scut_o, fp_tk_o, fp_lrem_o, fp_push_0])))
        | (refine And.intro (by simp [fp_rg, fp_up, fp_cp] <;> omega) ?_; (conv => whnf); (try simp only [Int.reduceToNat, Int.toNat_natCast, fp_up_c, fp_up_s, fp_up_i, fp_cp_c, fp_g_s, Nat.reduceBEq, Int.reduceAdd, Int.reduceSub, Int.reduceNeg, Int.reduceMul, fp_gu_c, fp_gu_s, fp_lose_o, fp_scut_o, fp_tk_o, fp_lrem_o, fp_push_0]))
        | fail)
    · rename_i hb
      rw [if_pos hb] at hq
      exact hq
    rename_i hb
    rw [if_neg hb] at hq
    refine hC _ _ _ _ ⟨_, rfl, ?_⟩
    refine sp_push hY.1 hY.2 ?_
    conv => whnf
    (try simp only [Int.reduceToNat, Int.toNat_natCast, fp_up_c, fp_up_s, fp_up_i, fp_cp_c, fp_g_s, Nat.reduceBEq, Int.reduceAdd, Int.reduceSub, Int.reduceNeg, Int.reduceMul, fp_gu_c, fp_gu_s, fp_lose_o, fp_scut_o, fp_tk_o, fp_lrem_o, fp_push_0])
    (repeat' first
        | (refine And.intro (by first | omega | (unfold fp_rg; omega)) ?_; (try intro _); (conv => whnf); (try simp only [Int.reduceToNat, Int.toNat_natCast, fp_up_c, fp_up_s, fp_up_i, fp_cp_c, fp_g_s, Nat.reduceBEq, Int.reduceAdd, Int.reduceSub, Int.reduceNeg, Int.reduceMul, fp_gu_c, fp_gu_s, fp_lose_o, fp_scut_o, fp_tk_o, fp_lrem_o, fp_push_0]))
        | (refine And.intro (fun _ => ?_) (fun _ => ?_) <;> first | (exfalso; omega) | (rename_i hz_; exact absurd trivial hz_) | ((conv => whnf); (try simp only [Int.reduceToNat, Int.toNat_natCast, fp_up_c, fp_up_s, fp_up_i, fp_cp_c, fp_g_s, Nat.reduceBEq, Int.reduceAdd, Int.reduceSub, Int.reduceNeg, Int.reduceMul, fp_gu_c, fp_gu_s, fp_lose_o, fp_scut_o, fp_tk_o, fp_lrem_o, fp_push_0])))
        | (refine And.intro (by simp [fp_rg, fp_up, fp_cp] <;> omega) ?_; (conv => whnf); (try simp only [Int.reduceToNat, Int.toNat_natCast, fp_up_c, fp_up_s, fp_up_i, fp_cp_c, fp_g_s, Nat.reduceBEq, Int.reduceAdd, Int.reduceSub, Int.reduceNeg, Int.reduceMul, fp_gu_c, fp_gu_s, fp_lose_o, fp_scut_o, fp_tk_o, fp_lrem_o, fp_push_0]))
        | fail)
    refine hC _ _ _ _ ⟨_, rfl, ?_⟩
    refine sp_timePass (by omega) (by simp only [fp_up_g, fp_g_s, fp_gu_c, fp_push_0, Nat.reduceBEq]; exact hnl) (fun t ht => by simp only [fp_up_g, fp_g_s, fp_gu_c, fp_push_0, Nat.reduceBEq] at ht ⊢; exact hpt t ht) (by simp only [fp_up_g, fp_g_s, fp_gu_c, fp_push_0, Nat.reduceBEq]; omega) ?_
    simp only [fp_up_g, fp_g_s, fp_g_g, fp_gu_c, fp_push_0, Nat.reduceBEq]
    conv => whnf
    (try simp only [e3, e4, fp_gu_s, Int.reduceToNat, Int.toNat_natCast, fp_up_c, fp_up_s, fp_up_i, fp_cp_c, fp_g_s, Nat.reduceBEq, Int.reduceAdd, Int.reduceSub, Int.reduceNeg, Int.reduceMul, fp_gu_c, fp_gu_s, fp_lose_o, fp_scut_o, fp_tk_o, fp_lrem_o, fp_push_0])
    (repeat' first
        | (refine And.intro (by first | omega | (unfold fp_rg; omega)) ?_; (try intro _); (conv => whnf); (try simp only [e3, e4, fp_gu_s, Int.reduceToNat, Int.toNat_natCast, fp_up_c, fp_up_s, fp_up_i, fp_cp_c, fp_g_s, Nat.reduceBEq, Int.reduceAdd, Int.reduceSub, Int.reduceNeg, Int.reduceMul, fp_gu_c, fp_gu_s, fp_lose_o, fp_scut_o, fp_tk_o, fp_lrem_o, fp_push_0]))
        | (refine And.intro (fun _ => ?_) (fun _ => ?_) <;> first | (exfalso; omega) | (rename_i hz_; exact absurd trivial hz_) | ((conv => whnf); (try simp only [e3, e4, fp_gu_s, Int.reduceToNat, Int.toNat_natCast, fp_up_c, fp_up_s, fp_up_i, fp_cp_c, fp_g_s, Nat.reduceBEq, Int.reduceAdd, Int.reduceSub, Int.reduceNeg, Int.reduceMul, fp_gu_c, fp_gu_s, fp_lose_o, fp_scut_o, fp_tk_o, fp_lrem_o, fp_push_0])))
        | (refine And.intro (by simp [fp_rg, fp_up, fp_cp] <;> omega) ?_; (conv => whnf); (try simp only [e3, e4, fp_gu_s, Int.reduceToNat, Int.toNat_natCast, fp_up_c, fp_up_s, fp_up_i, fp_cp_c, fp_g_s, Nat.reduceBEq, Int.reduceAdd, Int.reduceSub, Int.reduceNeg, Int.reduceMul, fp_gu_c, fp_gu_s, fp_lose_o, fp_scut_o, fp_tk_o, fp_lrem_o, fp_push_0]))
        | fail)
    exact hq
set_option maxHeartbeats 600000 in
set_option maxRecDepth 100000 in
theorem sp_set {L d : Nat} {n k v : Int} {H : FpH} {Q : FpQ} (hn : 1 ≤ n ∧ n ≤ 600) (hI : fq_I n (H 0)) (hY : fq_Y H) (hst : H 9 27 0 = 0 ∧ H 9 27 1 = 0 ∧ H 9 27 2 = 1 ∧ H 9 28 0 = 9 ∧ H 9 28 1 = 3 ∧ H 9 28 2 = 24) (hq : Q (some (.inl (fq_set (H 0) k v).1)) (fq_do H (fq_set (H 0) k v).2)) : fp_Wp L (d + 3) 61 0 (fp_en 61 [.inr (7, 14), .inl k, .inl v]) [] H Q := by
  unfold fq_set fq_lo fq_hi at hq
  obtain ⟨a1, a2, a3, a4, a5, a6⟩ := hst
  refine fp_go 1000 [] (fun KN KC hN hC => ?_)
  conv => whnf
  (try simp only [Int.reduceToNat, Int.toNat_natCast, fp_up_c, fp_up_s, fp_up_i, fp_cp_c, fp_g_s, Nat.reduceBEq, Int.reduceAdd, Int.reduceSub, Int.reduceNeg, Int.reduceMul, fp_gu_c, fp_gu_s, fp_lose_o, fp_scut_o, fp_tk_o, fp_lrem_o, fp_push_0])
  (repeat' first
      | (refine And.intro (by first | omega | (unfold fp_rg; omega)) ?_; (try intro _); (conv => whnf); (try simp only [Int.reduceToNat, Int.toNat_natCast, fp_up_c, fp_up_s, fp_up_i, fp_cp_c, fp_g_s, Nat.reduceBEq, Int.reduceAdd, Int.reduceSub, Int.reduceNeg, Int.reduceMul, fp_gu_c, fp_gu_s, fp_lose_o, fp_scut_o, fp_tk_o, fp_lrem_o, fp_push_0]))
      | (refine And.intro (fun _ => ?_) (fun _ => ?_) <;> first | (exfalso; omega) | (rename_i hz_; exact absurd trivial hz_) | ((conv => whnf); (try simp only [Int.reduceToNat, Int.toNat_natCast, fp_up_c, fp_up_s, fp_up_i, fp_cp_c, fp_g_s, Nat.reduceBEq, Int.reduceAdd, Int.reduceSub, Int.reduceNeg, Int.reduceMul, fp_gu_c, fp_gu_s, fp_lose_o, fp_scut_o, fp_tk_o, fp_lrem_o, fp_push_0])))
      | (refine And.intro (by simp [fp_rg, fp_up, fp_cp] <;> omega) ?_; (conv => whnf); (try simp only [Int.reduceToNat, Int.toNat_natCast, fp_up_c, fp_up_s, fp_up_i, fp_cp_c, fp_g_s, Nat.reduceBEq, Int.reduceAdd, Int.reduceSub, Int.reduceNeg, Int.reduceMul, fp_gu_c, fp_gu_s, fp_lose_o, fp_scut_o, fp_tk_o, fp_lrem_o, fp_push_0]))
      | fail)
  refine hC _ _ _ _ ⟨_, rfl, ?_⟩
  refine sp_isIn (fun h1 => ?_) (fun h1 => ?_)
  rotate_left
  · conv => whnf
    (try simp only [Int.reduceToNat, Int.toNat_natCast, fp_up_c, fp_up_s, fp_up_i, fp_cp_c, fp_g_s, Nat.reduceBEq, Int.reduceAdd, Int.reduceSub, Int.reduceNeg, Int.reduceMul, fp_gu_c, fp_gu_s, fp_lose_o, fp_scut_o, fp_tk_o, fp_lrem_o, fp_push_0])
    (repeat' first
        | (refine And.intro (by first | omega | (unfold fp_rg; omega)) ?_; (try intro _); (conv => whnf); (try simp only [Int.reduceToNat, Int.toNat_natCast, fp_up_c, fp_up_s, fp_up_i, fp_cp_c, fp_g_s, Nat.reduceBEq, Int.reduceAdd, Int.reduceSub, Int.reduceNeg, Int.reduceMul, fp_gu_c, fp_gu_s, fp_lose_o, fp_scut_o, fp_tk_o, fp_lrem_o, fp_push_0]))
        | (refine And.intro (fun _ => ?_) (fun _ => ?_) <;> first | (exfalso; omega) | (rename_i hz_; exact absurd trivial hz_) | ((conv => whnf); (try simp only [Int.reduceToNat, Int.toNat_natCast, fp_up_c, fp_up_s, fp_up_i, fp_cp_c, fp_g_s, Nat.reduceBEq, Int.reduceAdd, Int.reduceSub, Int.reduceNeg, Int.reduceMul, fp_gu_c, fp_gu_s, fp_lose_o, fp_scut_o, fp_tk_o, fp_lrem_o, fp_push_0])))
        | (refine And.intro (by simp [fp_rg, fp_up, fp_cp] <;> omega) ?_; (conv => whnf); (try simp only [Int.reduceToNat, Int.toNat_natCast, fp_up_c, fp_up_s, fp_up_i, fp_cp_c, fp_g_s, Nat.reduceBEq, Int.reduceAdd, Int.reduceSub, Int.reduceNeg, Int.reduceMul, fp_gu_c, fp_gu_s, fp_lose_o, fp_scut_o, fp_tk_o, fp_lrem_o, fp_push_0]))
        | fail)
    rw [if_pos (by omega)] at hq
    (repeat' (split at hq)) <;> first | (exfalso; omega) | exact hq | (simp only [fp_up_g, fp_g_s, fp_g_g, fp_push_0, Int.toNat_natCast] at hq ⊢; exact hq)
  rw [if_neg (by omega)] at hq
  have hk : k = 0 ∨ k = 1 ∨ k = 2 := by omega
  rcases hk with rfl | rfl | rfl
  all_goals
    simp only [a1, a2, a3, a4, a5, a6, Int.reduceToNat, Int.reduceEq, if_true, if_false] at hq
    conv => whnf
    (try simp only [a1, a2, a3, a4, a5, a6, Int.reduceToNat, Int.toNat_natCast, fp_up_c, fp_up_s, fp_up_i, fp_cp_c, fp_g_s, Nat.reduceBEq, Int.reduceAdd, Int.reduceSub, Int.reduceNeg, Int.reduceMul, fp_gu_c, fp_gu_s, fp_lose_o, fp_scut_o, fp_tk_o, fp_lrem_o, fp_push_0])
    (repeat' first
        | (refine And.intro (by first | omega | (unfold fp_rg; omega)) ?_; (try intro _); (conv => whnf); (try simp only [a1, a2, a3, a4, a5, a6, Int.reduceToNat, Int.toNat_natCast, fp_up_c, fp_up_s, fp_up_i, fp_cp_c, fp_g_s, Nat.reduceBEq, Int.reduceAdd, Int.reduceSub, Int.reduceNeg, Int.reduceMul, fp_gu_c, fp_gu_s, fp_lose_o, fp_scut_o, fp_tk_o, fp_lrem_o, fp_push_0]))
        | (refine And.intro (fun _ => ?_) (fun _ => ?_) <;> first | (exfalso; omega) | (rename_i hz_; exact absurd trivial hz_) | ((conv => whnf); (try simp only [a1, a2, a3, a4, a5, a6, Int.reduceToNat, Int.toNat_natCast, fp_up_c, fp_up_s, fp_up_i, fp_cp_c, fp_g_s, Nat.reduceBEq, Int.reduceAdd, Int.reduceSub, Int.reduceNeg, Int.reduceMul, fp_gu_c, fp_gu_s, fp_lose_o, fp_scut_o, fp_tk_o, fp_lrem_o, fp_push_0])))
        | (refine And.intro (by simp [fp_rg, fp_up, fp_cp] <;> omega) ?_; (conv => whnf); (try simp only [a1, a2, a3, a4, a5, a6, Int.reduceToNat, Int.toNat_natCast, fp_up_c, fp_up_s, fp_up_i, fp_cp_c, fp_g_s, Nat.reduceBEq, Int.reduceAdd, Int.reduceSub, Int.reduceNeg, Int.reduceMul, fp_gu_c, fp_gu_s, fp_lose_o, fp_scut_o, fp_tk_o, fp_lrem_o, fp_push_0]))
        | fail)
    refine hC _ _ _ _ ⟨_, rfl, ?_⟩
    refine sp_isIn (fun h2 => ?_) (fun h2 => ?_)
    rotate_left
    · conv => whnf
      (try simp only [Int.reduceToNat, Int.toNat_natCast, fp_up_c, fp_up_s, fp_up_i, fp_cp_c, fp_g_s, Nat.reduceBEq, Int.reduceAdd, Int.reduceSub, Int.reduceNeg, Int.reduceMul, fp_gu_c, fp_gu_s, fp_lose_o, fp_scut_o, fp_tk_o, fp_lrem_o, fp_push_0])
      (repeat' first
          | (refine And.intro (by first | omega | (unfold fp_rg; omega)) ?_; (try intro _); (conv => whnf); (try simp only [Int.reduceToNat, Int.toNat_natCast, fp_up_c, fp_up_s, fp_up_i, fp_cp_c, fp_g_s, Nat.reduceBEq, Int.reduceAdd, Int.reduceSub, Int.reduceNeg, Int.reduceMul, fp_gu_c, fp_gu_s, fp_lose_o, fp_scut_o, fp_tk_o, fp_lrem_o, fp_push_0]))
          | (refine And.intro (fun _ => ?_) (fun _ => ?_) <;> first | (exfalso; omega) | (rename_i hz_; exact absurd trivial hz_) | ((conv => whnf); (try simp only [Int.reduceToNat, Int.toNat_natCast, fp_up_c, fp_up_s, fp_up_i, fp_cp_c, fp_g_s, Nat.reduceBEq, Int.reduceAdd, Int.reduceSub, Int.reduceNeg, Int.reduceMul, fp_gu_c, fp_gu_s, fp_lose_o, fp_scut_o, fp_tk_o, fp_lrem_o, fp_push_0])))
          | (refine And.intro (by simp [fp_rg, fp_up, fp_cp] <;> omega) ?_; (conv => whnf); (try simp only [Int.reduceToNat, Int.toNat_natCast, fp_up_c, fp_up_s, fp_up_i, fp_cp_c, fp_g_s, Nat.reduceBEq, Int.reduceAdd, Int.reduceSub, Int.reduceNeg, Int.reduceMul, fp_gu_c, fp_gu_s, fp_lose_o, fp_scut_o, fp_tk_o, fp_lrem_o, fp_push_0]))
          | fail)
      (repeat' (split at hq)) <;> first | (exfalso; omega) | exact hq | (simp only [fp_up_g, fp_g_s, fp_g_g, fp_push_0, Int.toNat_natCast] at hq ⊢; exact hq)
    conv => whnf
    (try simp only [Int.reduceToNat, Int.toNat_natCast, fp_up_c, fp_up_s, fp_up_i, fp_cp_c, fp_g_s, Nat.reduceBEq, Int.reduceAdd, Int.reduceSub, Int.reduceNeg, Int.reduceMul, fp_gu_c, fp_gu_s, fp_lose_o, fp_scut_o, fp_tk_o, fp_lrem_o, fp_push_0])
    (repeat' first
        | (refine And.intro (by first | omega | (unfold fp_rg; omega)) ?_; (try intro _); (conv => whnf); (try simp only [Int.reduceToNat, Int.toNat_natCast, fp_up_c, fp_up_s, fp_up_i, fp_cp_c, fp_g_s, Nat.reduceBEq, Int.reduceAdd, Int.reduceSub, Int.reduceNeg, Int.reduceMul, fp_gu_c, fp_gu_s, fp_lose_o, fp_scut_o, fp_tk_o, fp_lrem_o, fp_push_0]))
        | (refine And.intro (fun _ => ?_) (fun _ => ?_) <;> first | (exfalso; omega) | (rename_i hz_; exact absurd trivial hz_) | ((conv => whnf); (try simp only [Int.reduceToNat, Int.toNat_natCast, fp_up_c, fp_up_s, fp_up_i, fp_cp_c, fp_g_s, Nat.reduceBEq, Int.reduceAdd, Int.reduceSub, Int.reduceNeg, Int.reduceMul, fp_gu_c, fp_gu_s, fp_lose_o, fp_scut_o, fp_tk_o, fp_lrem_o, fp_push_0])))
        | (refine And.intro (by simp [fp_rg, fp_up, fp_cp] <;> omega) ?_; (conv => whnf); (try simp only [Int.reduceToNat, Int.toNat_natCast, fp_up_c, fp_up_s, fp_up_i, fp_cp_c, fp_g_s, Nat.reduceBEq, Int.reduceAdd, Int.reduceSub, Int.reduceNeg, Int.reduceMul, fp_gu_c, fp_gu_s, fp_lose_o, fp_scut_o, fp_tk_o, fp_lrem_o, fp_push_0]))
        | fail)
    · (repeat' (split at hq)) <;> first | (exfalso; omega) | exact hq | (simp only [fp_up_g, fp_g_s, fp_g_g, fp_push_0, Int.toNat_natCast] at hq ⊢; exact hq)
    refine hC _ _ _ _ ⟨_, rfl, ?_⟩
    refine sp_push hY.1 hY.2 ?_
    conv => whnf
    (try simp only [Int.reduceToNat, Int.toNat_natCast, fp_up_c, fp_up_s, fp_up_i, fp_cp_c, fp_g_s, Nat.reduceBEq, Int.reduceAdd, Int.reduceSub, Int.reduceNeg, Int.reduceMul, fp_gu_c, fp_gu_s, fp_lose_o, fp_scut_o, fp_tk_o, fp_lrem_o, fp_push_0])
    (repeat' first
        | (refine And.intro (by first | omega | (unfold fp_rg; omega)) ?_; (try intro _); (conv => whnf); (try simp only [Int.reduceToNat, Int.toNat_natCast, fp_up_c, fp_up_s, fp_up_i, fp_cp_c, fp_g_s, Nat.reduceBEq, Int.reduceAdd, Int.reduceSub, Int.reduceNeg, Int.reduceMul, fp_gu_c, fp_gu_s, fp_lose_o, fp_scut_o, fp_tk_o, fp_lrem_o, fp_push_0]))
        | (refine And.intro (fun _ => ?_) (fun _ => ?_) <;> first | (exfalso; omega) | (rename_i hz_; exact absurd trivial hz_) | ((conv => whnf); (try simp only [Int.reduceToNat, Int.toNat_natCast, fp_up_c, fp_up_s, fp_up_i, fp_cp_c, fp_g_s, Nat.reduceBEq, Int.reduceAdd, Int.reduceSub, Int.reduceNeg, Int.reduceMul, fp_gu_c, fp_gu_s, fp_lose_o, fp_scut_o, fp_tk_o, fp_lrem_o, fp_push_0])))
        | (refine And.intro (by simp [fp_rg, fp_up, fp_cp] <;> omega) ?_; (conv => whnf); (try simp only [Int.reduceToNat, Int.toNat_natCast, fp_up_c, fp_up_s, fp_up_i, fp_cp_c, fp_g_s, Nat.reduceBEq, Int.reduceAdd, Int.reduceSub, Int.reduceNeg, Int.reduceMul, fp_gu_c, fp_gu_s, fp_lose_o, fp_scut_o, fp_tk_o, fp_lrem_o, fp_push_0]))
        | fail)
    (repeat' (split at hq)) <;> first | (exfalso; omega) | exact hq | (simp only [fp_up_g, fp_g_s, fp_g_g, fp_push_0, Int.toNat_natCast] at hq ⊢; exact hq)
