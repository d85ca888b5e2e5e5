/-! serving all, sums, the history -/
theorem fp_ho_1 {G : FpG} {t k : Nat} : fp_ho G t k 1 4 = G 1 4 := by
  unfold fp_ho
  rw [fp_lrem_o (by rfl) (by rfl) (by rfl) (by rfl), fp_gu_c (by rfl), fp_gu_c (by rfl), fp_tk_o (by rfl) (by rfl)]
theorem fp_ho_o {G : FpG} {t k c i : Nat} (h0 : (c == 0) = false) (h3 : (c == 3) = false) (h4 : (c == 4) = false) (h9 : (c == 9) = false) (h10 : (c == 10) = false) (h11 : (c == 11) = false) (h12 : (c == 12) = false) : fp_ho G t k c i = G c i := by
  unfold fp_ho
  rw [fp_lrem_o h9 h10 h11 h12, fp_gu_c h0, fp_gu_c h0, fp_tk_o h3 h4]
theorem fp_ho_93 {G : FpG} {t k : Nat} : fp_ho G t k 9 3 = G 9 3 - 1 := by
  simp [fp_ho, fp_lrem, fp_gu, fp_tk_o]
theorem fp_ho_l {G : FpG} {t k c i : Nat} (hc : c = 10 ∨ c = 11 ∨ c = 12) (hi : (i : Int) + 1 < G 9 3) : fp_ho G t k c i = G c (if t ≤ i then i + 1 else i) := by
  have e : ∀ j, fp_gu (fp_gu (fp_tk G k (G 11 t)) 0 4 (G 0 4 + (if G 11 t = 2 then 5 else 2))) 0 6 (G 0 6 + 1) c j = G c j := fun j => by
    rw [fp_gu_c, fp_gu_c, fp_tk_o] <;> (rcases hc with rfl | rfl | rfl <;> rfl)
  have e9 : fp_gu (fp_gu (fp_tk G k (G 11 t)) 0 4 (G 0 4 + (if G 11 t = 2 then 5 else 2))) 0 6 (G 0 6 + 1) 9 3 = G 9 3 := by
    rw [fp_gu_c (by rfl), fp_gu_c (by rfl), fp_tk_o (by rfl) (by rfl)]
  unfold fp_ho fp_lrem
  simp only [e, e9]
  rw [if_neg (by omega)]
  by_cases ht : t ≤ i
  · rw [if_pos ⟨hc, ht, hi⟩, if_pos ht]
  · rw [if_neg (fun q => ht q.2.1), if_neg ht]
theorem fp_ho_3 {G : FpG} {t k p : Nat} : fp_ho G t k 3 p = if p = k ∧ G 11 t ≠ 1 then G 3 p - 1 else G 3 p := by
  unfold fp_ho fp_tk fp_tkl
  rw [fp_lrem_o (by rfl) (by rfl) (by rfl) (by rfl), fp_gu_c (by rfl), fp_gu_c (by rfl)]
  by_cases h0 : G 11 t = 0 <;> by_cases h1 : G 11 t = 1 <;> simp [h0, h1, fp_gu] <;> grind
theorem fp_ho_4 {G : FpG} {t k p : Nat} : fp_ho G t k 4 p = if p = k ∧ G 11 t ≠ 0 then G 4 p - 1 else G 4 p := by
  unfold fp_ho fp_tk fp_tkl
  rw [fp_lrem_o (by rfl) (by rfl) (by rfl) (by rfl), fp_gu_c (by rfl), fp_gu_c (by rfl)]
  by_cases h0 : G 11 t = 0 <;> by_cases h1 : G 11 t = 1 <;> simp [h0, h1, fp_gu] <;> grind
theorem fp_ho_0 {G : FpG} {t k i : Nat} : fp_ho G t k 0 i = if i = 6 then G 0 6 + 1 else if i = 4 then G 0 4 + (if G 11 t = 2 then 5 else 2) else G 0 i := by
  unfold fp_ho
  rw [fp_lrem_o (by rfl) (by rfl) (by rfl) (by rfl)]
  simp only [fp_gu, true_and, fp_tk_o (show (0 == 3) = false by rfl) (show (0 == 4) = false by rfl)]
noncomputable def fp_hoa : Nat → Nat → FpG → FpG
  | 0, _, G => G
  | m + 1, t, G => match fp_ff (fp_okB G t) (G 1 4).toNat with
    | none => fp_hoa m (t + 1) G
    | some k => fp_hoa m t (fp_ho G t k)
def fp_hc (G : FpG) (m : Nat) : Prop := (0 ≤ G 1 4 ∧ G 1 4 ≤ 10) ∧ G 9 3 ≤ 12 ∧ (∀ t : Nat, (t : Int) < G 9 3 → 0 ≤ G 10 t ∧ G 10 t < 10) ∧ (∀ p, p < 10 → (0 ≤ G 3 p ∧ G 3 p ≤ 2000000) ∧ (0 ≤ G 4 p ∧ G 4 p ≤ 2000000)) ∧ 0 ≤ G 0 4 ∧ G 0 4 + 5 * m ≤ 3000000 ∧ 0 ≤ G 0 6 ∧ G 0 6 + m ≤ 3000000
theorem fp_hc_s {G : FpG} {m : Nat} (h : fp_hc G (m + 1)) : fp_hc G m := by
  obtain ⟨h1, h2, h3, h4, h5, h6, h7, h8⟩ := h
  exact ⟨h1, h2, h3, h4, h5, by omega, h7, by omega⟩
theorem fp_hc_ho {G : FpG} {m t k : Nat} (h : fp_hc G (m + 1)) (ht : (t : Int) < G 9 3) (hk : k < 10) (hh : fp_has G k (G 11 t)) : fp_hc (fp_ho G t k) m := by
  obtain ⟨h1, h2, h3, h4, h5, h6, h7, h8⟩ := h
  have hk4 := h4 k hk
  unfold fp_has at hh
  refine ⟨by rw [fp_ho_1]; exact h1, by rw [fp_ho_93]; omega, fun i hi => ?_, fun p hp => ?_, ?_, ?_, ?_, ?_⟩
  · rw [fp_ho_93] at hi
    rw [fp_ho_l (Or.inl rfl) (by omega)]
    split <;> exact h3 _ (by omega)
  · have := h4 p hp
    rw [fp_ho_3, fp_ho_4]
    refine ⟨?_, ?_⟩
    · split
      · rename_i q; obtain ⟨rfl, q⟩ := q; omega
      · omega
    · split
      · rename_i q; obtain ⟨rfl, q⟩ := q; omega
      · omega
  · rw [fp_ho_0]; simp; split <;> omega
  · rw [fp_ho_0]; simp; split <;> omega
  · rw [fp_ho_0]; simp; omega
  · rw [fp_ho_0]; simp; omega
set_option maxHeartbeats 600000 in
set_option maxRecDepth 100000 in
theorem lp_hoa {L d g : Nat} {bf : Int} {Q : FpQ} (hbf : 0 ≤ bf ∧ bf ≤ 12) : ∀ (m t : Nat) (H : FpH) (l4 : Option FpV) (i : Int), i + m = bf → 0 ≤ i → (t : Int) + m = H g 9 3 → fp_hc (H g) m → Q (some (.inl (bf - fp_hoa m t (H g) 9 3))) (fp_g H g (fp_hoa m t (H g))) → fp_Wp L (d + 4) 43 12 [some (.inr (g, 0)), some (.inl bf), some (.inl (t : Int)), some (.inl i), l4] [] H Q := by
  intro m
  induction m with
  | zero =>
    intro t H l4 i hi hi0 ht hc hq
    have h9 := hc.2.1
    simp only [fp_hoa, fp_g_i] at hq
    refine fp_go 1000 [12] (fun KN KC hN hC => ?_)
    conv => whnf
    (try simp only [Int.reduceToNat, Int.toNat_natCast, fp_up_c, fp_up_s, fp_up_i, fp_cp_c, fp_g_s, Nat.reduceBEq, Int.reduceAdd, Int.reduceSub, Int.reduceNeg, Int.reduceMul, fp_gu_c, fp_gu_s, fp_lose_o, fp_scut_o, fp_tk_o, fp_lrem_o])
    (repeat' first
        | (refine And.intro (by first | omega | (unfold fp_rg; omega)) ?_; (try intro _); (conv => whnf); (try simp only [Int.reduceToNat, Int.toNat_natCast, fp_up_c, fp_up_s, fp_up_i, fp_cp_c, fp_g_s, Nat.reduceBEq, Int.reduceAdd, Int.reduceSub, Int.reduceNeg, Int.reduceMul, fp_gu_c, fp_gu_s, fp_lose_o, fp_scut_o, fp_tk_o, fp_lrem_o]))
        | (refine And.intro (fun _ => ?_) (fun _ => ?_) <;> first | (exfalso; omega) | (rename_i hz_; exact absurd trivial hz_) | ((conv => whnf); (try simp only [Int.reduceToNat, Int.toNat_natCast, fp_up_c, fp_up_s, fp_up_i, fp_cp_c, fp_g_s, Nat.reduceBEq, Int.reduceAdd, Int.reduceSub, Int.reduceNeg, Int.reduceMul, fp_gu_c, fp_gu_s, fp_lose_o, fp_scut_o, fp_tk_o, fp_lrem_o])))
        | (refine And.intro (by simp [fp_rg, fp_up, fp_cp] <;> omega) ?_; (conv => whnf); (try simp only [Int.reduceToNat, Int.toNat_natCast, fp_up_c, fp_up_s, fp_up_i, fp_cp_c, fp_g_s, Nat.reduceBEq, Int.reduceAdd, Int.reduceSub, Int.reduceNeg, Int.reduceMul, fp_gu_c, fp_gu_s, fp_lose_o, fp_scut_o, fp_tk_o, fp_lrem_o]))
        | fail)
    exact hq
  | succ m ih =>
    intro t H l4 i hi hi0 ht hc hq
    have h9 := hc.2.1
    have ht9 : (t : Int) < H g 9 3 := by omega
    rcases fp_ff_out (f := fp_okB (H g) t) (H g 1 4).toNat with ⟨r, h1, h2, h3, h4⟩ | ⟨h1, h2⟩
    · have hok := fp_dc_i h3
      have hr : r < 10 := by have := hc.1; omega
      have e1 : fp_fr (H g) t = (r : Int) := by unfold fp_fr; rw [h1]
      have e2 : fp_hoa (m + 1) t (H g) = fp_hoa m t (fp_ho (H g) t r) := by simp only [fp_hoa, h1]
      rw [e2] at hq
      have hst := hc.2.2.2.1 r hr
      refine fp_go 1000 [12] (fun KN KC hN hC => ?_)
      conv => whnf
      (try simp only [Int.reduceToNat, Int.toNat_natCast, fp_up_c, fp_up_s, fp_up_i, fp_cp_c, fp_g_s, Nat.reduceBEq, Int.reduceAdd, Int.reduceSub, Int.reduceNeg, Int.reduceMul, fp_gu_c, fp_gu_s, fp_lose_o, fp_scut_o, fp_tk_o, fp_lrem_o])
      (repeat' first
          | (refine And.intro (by first | omega | (unfold fp_rg; omega)) ?_; (try intro _); (conv => whnf); (try simp only [Int.reduceToNat, Int.toNat_natCast, fp_up_c, fp_up_s, fp_up_i, fp_cp_c, fp_g_s, Nat.reduceBEq, Int.reduceAdd, Int.reduceSub, Int.reduceNeg, Int.reduceMul, fp_gu_c, fp_gu_s, fp_lose_o, fp_scut_o, fp_tk_o, fp_lrem_o]))
          | (refine And.intro (fun _ => ?_) (fun _ => ?_) <;> first | (exfalso; omega) | (rename_i hz_; exact absurd trivial hz_) | ((conv => whnf); (try simp only [Int.reduceToNat, Int.toNat_natCast, fp_up_c, fp_up_s, fp_up_i, fp_cp_c, fp_g_s, Nat.reduceBEq, Int.reduceAdd, Int.reduceSub, Int.reduceNeg, Int.reduceMul, fp_gu_c, fp_gu_s, fp_lose_o, fp_scut_o, fp_tk_o, fp_lrem_o])))
          | (refine And.intro (by simp [fp_rg, fp_up, fp_cp] <;> omega) ?_; (conv => whnf); (try simp only [Int.reduceToNat, Int.toNat_natCast, fp_up_c, fp_up_s, fp_up_i, fp_cp_c, fp_g_s, Nat.reduceBEq, Int.reduceAdd, Int.reduceSub, Int.reduceNeg, Int.reduceMul, fp_gu_c, fp_gu_s, fp_lose_o, fp_scut_o, fp_tk_o, fp_lrem_o]))
          | fail)
      refine hC _ _ _ _ ⟨_, rfl, ?_⟩
      refine sp_findFor (by omega) hc.1 (hc.2.2.1 t ht9) ?_
      rw [e1]
      conv => whnf
      (try simp only [Int.reduceToNat, Int.toNat_natCast, fp_up_c, fp_up_s, fp_up_i, fp_cp_c, fp_g_s, Nat.reduceBEq, Int.reduceAdd, Int.reduceSub, Int.reduceNeg, Int.reduceMul, fp_gu_c, fp_gu_s, fp_lose_o, fp_scut_o, fp_tk_o, fp_lrem_o])
      (repeat' first
          | (refine And.intro (by first | omega | (unfold fp_rg; omega)) ?_; (try intro _); (conv => whnf); (try simp only [Int.reduceToNat, Int.toNat_natCast, fp_up_c, fp_up_s, fp_up_i, fp_cp_c, fp_g_s, Nat.reduceBEq, Int.reduceAdd, Int.reduceSub, Int.reduceNeg, Int.reduceMul, fp_gu_c, fp_gu_s, fp_lose_o, fp_scut_o, fp_tk_o, fp_lrem_o]))
          | (refine And.intro (fun _ => ?_) (fun _ => ?_) <;> first | (exfalso; omega) | (rename_i hz_; exact absurd trivial hz_) | ((conv => whnf); (try simp only [Int.reduceToNat, Int.toNat_natCast, fp_up_c, fp_up_s, fp_up_i, fp_cp_c, fp_g_s, Nat.reduceBEq, Int.reduceAdd, Int.reduceSub, Int.reduceNeg, Int.reduceMul, fp_gu_c, fp_gu_s, fp_lose_o, fp_scut_o, fp_tk_o, fp_lrem_o])))
          | (refine And.intro (by simp [fp_rg, fp_up, fp_cp] <;> omega) ?_; (conv => whnf); (try simp only [Int.reduceToNat, Int.toNat_natCast, fp_up_c, fp_up_s, fp_up_i, fp_cp_c, fp_g_s, Nat.reduceBEq, Int.reduceAdd, Int.reduceSub, Int.reduceNeg, Int.reduceMul, fp_gu_c, fp_gu_s, fp_lose_o, fp_scut_o, fp_tk_o, fp_lrem_o]))
          | fail)
      refine hC _ _ _ _ ⟨_, rfl, ?_⟩
      refine sp_handOver ⟨ht9, h9⟩ hr ⟨hst.1.1, hst.1.2, hst.2.1, hst.2.2⟩ (by have := hc.2.2.2.2; omega) ?_
      conv => whnf
      (try simp only [Int.reduceToNat, Int.toNat_natCast, fp_up_c, fp_up_s, fp_up_i, fp_cp_c, fp_g_s, Nat.reduceBEq, Int.reduceAdd, Int.reduceSub, Int.reduceNeg, Int.reduceMul, fp_gu_c, fp_gu_s, fp_lose_o, fp_scut_o, fp_tk_o, fp_lrem_o])
      (repeat' first
          | (refine And.intro (by first | omega | (unfold fp_rg; omega)) ?_; (try intro _); (conv => whnf); (try simp only [Int.reduceToNat, Int.toNat_natCast, fp_up_c, fp_up_s, fp_up_i, fp_cp_c, fp_g_s, Nat.reduceBEq, Int.reduceAdd, Int.reduceSub, Int.reduceNeg, Int.reduceMul, fp_gu_c, fp_gu_s, fp_lose_o, fp_scut_o, fp_tk_o, fp_lrem_o]))
          | (refine And.intro (fun _ => ?_) (fun _ => ?_) <;> first | (exfalso; omega) | (rename_i hz_; exact absurd trivial hz_) | ((conv => whnf); (try simp only [Int.reduceToNat, Int.toNat_natCast, fp_up_c, fp_up_s, fp_up_i, fp_cp_c, fp_g_s, Nat.reduceBEq, Int.reduceAdd, Int.reduceSub, Int.reduceNeg, Int.reduceMul, fp_gu_c, fp_gu_s, fp_lose_o, fp_scut_o, fp_tk_o, fp_lrem_o])))
          | (refine And.intro (by simp [fp_rg, fp_up, fp_cp] <;> omega) ?_; (conv => whnf); (try simp only [Int.reduceToNat, Int.toNat_natCast, fp_up_c, fp_up_s, fp_up_i, fp_cp_c, fp_g_s, Nat.reduceBEq, Int.reduceAdd, Int.reduceSub, Int.reduceNeg, Int.reduceMul, fp_gu_c, fp_gu_s, fp_lose_o, fp_scut_o, fp_tk_o, fp_lrem_o]))
          | fail)
      refine hN _ _ _ _ (ih t _ _ _ (by omega) (by omega) (by rw [fp_g_s, fp_ho_93]; omega) (by rw [fp_g_s]; exact fp_hc_ho hc ht9 hr hok.2) ?_)
      rw [fp_g_s, fp_g_g]
      exact hq
    · have e1 : fp_fr (H g) t = -5 := by unfold fp_fr; rw [h1]
      have e2 : fp_hoa (m + 1) t (H g) = fp_hoa m (t + 1) (H g) := by simp only [fp_hoa, h1]
      rw [e2] at hq
      refine fp_go 1000 [12] (fun KN KC hN hC => ?_)
      conv => whnf
      (try simp only [Int.reduceToNat, Int.toNat_natCast, fp_up_c, fp_up_s, fp_up_i, fp_cp_c, fp_g_s, Nat.reduceBEq, Int.reduceAdd, Int.reduceSub, Int.reduceNeg, Int.reduceMul, fp_gu_c, fp_gu_s, fp_lose_o, fp_scut_o, fp_tk_o, fp_lrem_o])
      (repeat' first
          | (refine And.intro (by first | omega | (unfold fp_rg; omega)) ?_; (try intro _); (conv => whnf); (try simp only [Int.reduceToNat, Int.toNat_natCast, fp_up_c, fp_up_s, fp_up_i, fp_cp_c, fp_g_s, Nat.reduceBEq, Int.reduceAdd, Int.reduceSub, Int.reduceNeg, Int.reduceMul, fp_gu_c, fp_gu_s, fp_lose_o, fp_scut_o, fp_tk_o, fp_lrem_o]))
          | (refine And.intro (fun _ => ?_) (fun _ => ?_) <;> first | (exfalso; omega) | (rename_i hz_; exact absurd trivial hz_) | ((conv => whnf); (try simp only [Int.reduceToNat, Int.toNat_natCast, fp_up_c, fp_up_s, fp_up_i, fp_cp_c, fp_g_s, Nat.reduceBEq, Int.reduceAdd, Int.reduceSub, Int.reduceNeg, Int.reduceMul, fp_gu_c, fp_gu_s, fp_lose_o, fp_scut_o, fp_tk_o, fp_lrem_o])))
          | (refine And.intro (by simp [fp_rg, fp_up, fp_cp] <;> omega) ?_; (conv => whnf); (try simp only [Int.reduceToNat, Int.toNat_natCast, fp_up_c, fp_up_s, fp_up_i, fp_cp_c, fp_g_s, Nat.reduceBEq, Int.reduceAdd, Int.reduceSub, Int.reduceNeg, Int.reduceMul, fp_gu_c, fp_gu_s, fp_lose_o, fp_scut_o, fp_tk_o, fp_lrem_o]))
          | fail)
      refine hC _ _ _ _ ⟨_, rfl, ?_⟩
      refine sp_findFor (by omega) hc.1 (hc.2.2.1 t ht9) ?_
      rw [e1]
      conv => whnf
      (try simp only [Int.reduceToNat, Int.toNat_natCast, fp_up_c, fp_up_s, fp_up_i, fp_cp_c, fp_g_s, Nat.reduceBEq, Int.reduceAdd, Int.reduceSub, Int.reduceNeg, Int.reduceMul, fp_gu_c, fp_gu_s, fp_lose_o, fp_scut_o, fp_tk_o, fp_lrem_o])
      (repeat' first
          | (refine And.intro (by first | omega | (unfold fp_rg; omega)) ?_; (try intro _); (conv => whnf); (try simp only [Int.reduceToNat, Int.toNat_natCast, fp_up_c, fp_up_s, fp_up_i, fp_cp_c, fp_g_s, Nat.reduceBEq, Int.reduceAdd, Int.reduceSub, Int.reduceNeg, Int.reduceMul, fp_gu_c, fp_gu_s, fp_lose_o, fp_scut_o, fp_tk_o, fp_lrem_o]))
          | (refine And.intro (fun _ => ?_) (fun _ => ?_) <;> first | (exfalso; omega) | (rename_i hz_; exact absurd trivial hz_) | ((conv => whnf); (try simp only [Int.reduceToNat, Int.toNat_natCast, fp_up_c, fp_up_s, fp_up_i, fp_cp_c, fp_g_s, Nat.reduceBEq, Int.reduceAdd, Int.reduceSub, Int.reduceNeg, Int.reduceMul, fp_gu_c, fp_gu_s, fp_lose_o, fp_scut_o, fp_tk_o, fp_lrem_o])))
          | (refine And.intro (by simp [fp_rg, fp_up, fp_cp] <;> omega) ?_; (conv => whnf); (try simp only [Int.reduceToNat, Int.toNat_natCast, fp_up_c, fp_up_s, fp_up_i, fp_cp_c, fp_g_s, Nat.reduceBEq, Int.reduceAdd, Int.reduceSub, Int.reduceNeg, Int.reduceMul, fp_gu_c, fp_gu_s, fp_lose_o, fp_scut_o, fp_tk_o, fp_lrem_o]))
          | fail)
      exact hN _ _ _ _ (ih (t + 1) H _ _ (by omega) (by omega) (by omega) (fp_hc_s hc) hq)
set_option maxHeartbeats 600000 in
set_option maxRecDepth 100000 in
theorem sp_hoa {L d g : Nat} {H : FpH} {Q : FpQ} (h0 : 0 ≤ H g 9 3) (hc : fp_hc (H g) 12) (hq : Q (some (.inl (H g 9 3 - fp_hoa (H g 9 3).toNat 0 (H g) 9 3))) (fp_g H g (fp_hoa (H g 9 3).toNat 0 (H g)))) : fp_Wp L (d + 4) 43 0 (fp_en 43 [.inr (g, 0)]) [] H Q := by
  have h9 := hc.2.1
  refine fp_go 1000 [12] (fun KN KC hN hC => ?_)
  conv => whnf
  (try simp only [Int.reduceToNat, Int.toNat_natCast, fp_up_c, fp_up_s, fp_up_i, fp_cp_c, fp_g_s, Nat.reduceBEq, Int.reduceAdd, Int.reduceSub, Int.reduceNeg, Int.reduceMul, fp_gu_c, fp_gu_s, fp_lose_o, fp_scut_o, fp_tk_o, fp_lrem_o])
  (repeat' first
      | (refine And.intro (by first | omega | (unfold fp_rg; omega)) ?_; (try intro _); (conv => whnf); (try simp only [Int.reduceToNat, Int.toNat_natCast, fp_up_c, fp_up_s, fp_up_i, fp_cp_c, fp_g_s, Nat.reduceBEq, Int.reduceAdd, Int.reduceSub, Int.reduceNeg, Int.reduceMul, fp_gu_c, fp_gu_s, fp_lose_o, fp_scut_o, fp_tk_o, fp_lrem_o]))
      | (refine And.intro (fun _ => ?_) (fun _ => ?_) <;> first | (exfalso; omega) | (rename_i hz_; exact absurd trivial hz_) | ((conv => whnf); (try simp only [Int.reduceToNat, Int.toNat_natCast, fp_up_c, fp_up_s, fp_up_i, fp_cp_c, fp_g_s, Nat.reduceBEq, Int.reduceAdd, Int.reduceSub, Int.reduceNeg, Int.reduceMul, fp_gu_c, fp_gu_s, fp_lose_o, fp_scut_o, fp_tk_o, fp_lrem_o])))
      | (refine And.intro (by simp [fp_rg, fp_up, fp_cp] <;> omega) ?_; (conv => whnf); (try simp only [Int.reduceToNat, Int.toNat_natCast, fp_up_c, fp_up_s, fp_up_i, fp_cp_c, fp_g_s, Nat.reduceBEq, Int.reduceAdd, Int.reduceSub, Int.reduceNeg, Int.reduceMul, fp_gu_c, fp_gu_s, fp_lose_o, fp_scut_o, fp_tk_o, fp_lrem_o]))
      | fail)
  exact hN _ _ _ _ (lp_hoa (by omega) (H g 9 3).toNat 0 H _ _ (by omega) (by omega) (by omega) (by
    obtain ⟨h1, h2, h3, h4, h5, h6, h7, h8⟩ := hc
    exact ⟨h1, h2, h3, h4, h5, by omega, h7, by omega⟩) hq)
set_option maxHeartbeats 600000 in
set_option maxRecDepth 100000 in
theorem lp_inStock {L d g : Nat} {H : FpH} {Q : FpQ} (h : 0 ≤ H g 1 4 ∧ H g 1 4 ≤ 10) (hl : ∀ p : Nat, (p : Int) < H g 1 4 → (0 ≤ H g 3 p ∧ H g 3 p ≤ 2000000) ∧ (0 ≤ H g 4 p ∧ H g 4 p ≤ 2000000)) (hq : Q (some (.inl (fp_sm (fun p => H g 3 p + H g 4 p) (H g 1 4).toNat))) H) : ∀ (m : Nat) (i fd : Int), 0 ≤ i → i + m = H g 1 4 → fd = fp_sm (fun p => H g 3 p + H g 4 p) i.toNat → fp_Wp L d 25 4 [some (.inr (g, 1)), some (.inl fd), some (.inl i)] [] H Q := by
  intro m
  induction m with
  | zero =>
    intro i fd h0 hi hf
    refine fp_go 1000 [4] (fun KN KC hN hC => ?_)
    conv => whnf
    (try simp only [Int.reduceToNat, Int.toNat_natCast, fp_up_c, fp_up_s, fp_up_i, fp_cp_c, fp_g_s, Nat.reduceBEq, Int.reduceAdd, Int.reduceSub, Int.reduceNeg, Int.reduceMul, fp_gu_c, fp_gu_s, fp_lose_o, fp_scut_o, fp_tk_o, fp_lrem_o])
    (repeat' first
        | (refine And.intro (by first | omega | (unfold fp_rg; omega)) ?_; (try intro _); (conv => whnf); (try simp only [Int.reduceToNat, Int.toNat_natCast, fp_up_c, fp_up_s, fp_up_i, fp_cp_c, fp_g_s, Nat.reduceBEq, Int.reduceAdd, Int.reduceSub, Int.reduceNeg, Int.reduceMul, fp_gu_c, fp_gu_s, fp_lose_o, fp_scut_o, fp_tk_o, fp_lrem_o]))
        | (refine And.intro (fun _ => ?_) (fun _ => ?_) <;> first | (exfalso; omega) | (rename_i hz_; exact absurd trivial hz_) | ((conv => whnf); (try simp only [Int.reduceToNat, Int.toNat_natCast, fp_up_c, fp_up_s, fp_up_i, fp_cp_c, fp_g_s, Nat.reduceBEq, Int.reduceAdd, Int.reduceSub, Int.reduceNeg, Int.reduceMul, fp_gu_c, fp_gu_s, fp_lose_o, fp_scut_o, fp_tk_o, fp_lrem_o])))
        | (refine And.intro (by simp [fp_rg, fp_up, fp_cp] <;> omega) ?_; (conv => whnf); (try simp only [Int.reduceToNat, Int.toNat_natCast, fp_up_c, fp_up_s, fp_up_i, fp_cp_c, fp_g_s, Nat.reduceBEq, Int.reduceAdd, Int.reduceSub, Int.reduceNeg, Int.reduceMul, fp_gu_c, fp_gu_s, fp_lose_o, fp_scut_o, fp_tk_o, fp_lrem_o]))
        | fail)
    rw [hf, show i = H g 1 4 by omega]; exact hq
  | succ m ih =>
    intro i fd h0 hi hf
    have hle := fp_sm_le (f := fun p => H g 3 p + H g 4 p) (B := 4000000) i.toNat (fun j hj => by have := hl j (by omega); omega)
    have hl1 := hl i.toNat (by omega)
    refine fp_go 1000 [4] (fun KN KC hN hC => ?_)
    conv => whnf
    (try simp only [Int.reduceToNat, Int.toNat_natCast, fp_up_c, fp_up_s, fp_up_i, fp_cp_c, fp_g_s, Nat.reduceBEq, Int.reduceAdd, Int.reduceSub, Int.reduceNeg, Int.reduceMul, fp_gu_c, fp_gu_s, fp_lose_o, fp_scut_o, fp_tk_o, fp_lrem_o])
    (repeat' first
        | (refine And.intro (by first | omega | (unfold fp_rg; omega)) ?_; (try intro _); (conv => whnf); (try simp only [Int.reduceToNat, Int.toNat_natCast, fp_up_c, fp_up_s, fp_up_i, fp_cp_c, fp_g_s, Nat.reduceBEq, Int.reduceAdd, Int.reduceSub, Int.reduceNeg, Int.reduceMul, fp_gu_c, fp_gu_s, fp_lose_o, fp_scut_o, fp_tk_o, fp_lrem_o]))
        | (refine And.intro (fun _ => ?_) (fun _ => ?_) <;> first | (exfalso; omega) | (rename_i hz_; exact absurd trivial hz_) | ((conv => whnf); (try simp only [Int.reduceToNat, Int.toNat_natCast, fp_up_c, fp_up_s, fp_up_i, fp_cp_c, fp_g_s, Nat.reduceBEq, Int.reduceAdd, Int.reduceSub, Int.reduceNeg, Int.reduceMul, fp_gu_c, fp_gu_s, fp_lose_o, fp_scut_o, fp_tk_o, fp_lrem_o])))
        | (refine And.intro (by simp [fp_rg, fp_up, fp_cp] <;> omega) ?_; (conv => whnf); (try simp only [Int.reduceToNat, Int.toNat_natCast, fp_up_c, fp_up_s, fp_up_i, fp_cp_c, fp_g_s, Nat.reduceBEq, Int.reduceAdd, Int.reduceSub, Int.reduceNeg, Int.reduceMul, fp_gu_c, fp_gu_s, fp_lose_o, fp_scut_o, fp_tk_o, fp_lrem_o]))
        | fail)
    exact hN _ _ _ _ (ih _ _ (by omega) (by omega) (by rw [hf]; exact fp_sm_s (f := fun p => H g 3 p + H g 4 p) h0))
set_option maxHeartbeats 600000 in
set_option maxRecDepth 100000 in
theorem sp_inStock {L d g : Nat} {H : FpH} {Q : FpQ} (h : 0 ≤ H g 1 4 ∧ H g 1 4 ≤ 10) (hl : ∀ p : Nat, (p : Int) < H g 1 4 → (0 ≤ H g 3 p ∧ H g 3 p ≤ 2000000) ∧ (0 ≤ H g 4 p ∧ H g 4 p ≤ 2000000)) (hq : Q (some (.inl (fp_sm (fun p => H g 3 p + H g 4 p) (H g 1 4).toNat))) H) : fp_Wp L d 25 0 (fp_en 25 [.inr (g, 1)]) [] H Q := by
  refine fp_go 1000 [4] (fun KN KC hN hC => ?_)
  conv => whnf
  (try simp only [Int.reduceToNat, Int.toNat_natCast, fp_up_c, fp_up_s, fp_up_i, fp_cp_c, fp_g_s, Nat.reduceBEq, Int.reduceAdd, Int.reduceSub, Int.reduceNeg, Int.reduceMul, fp_gu_c, fp_gu_s, fp_lose_o, fp_scut_o, fp_tk_o, fp_lrem_o])
  (repeat' first
      | (refine And.intro (by first | omega | (unfold fp_rg; omega)) ?_; (try intro _); (conv => whnf); (try simp only [Int.reduceToNat, Int.toNat_natCast, fp_up_c, fp_up_s, fp_up_i, fp_cp_c, fp_g_s, Nat.reduceBEq, Int.reduceAdd, Int.reduceSub, Int.reduceNeg, Int.reduceMul, fp_gu_c, fp_gu_s, fp_lose_o, fp_scut_o, fp_tk_o, fp_lrem_o]))
      | (refine And.intro (fun _ => ?_) (fun _ => ?_) <;> first | (exfalso; omega) | (rename_i hz_; exact absurd trivial hz_) | ((conv => whnf); (try simp only [Int.reduceToNat, Int.toNat_natCast, fp_up_c, fp_up_s, fp_up_i, fp_cp_c, fp_g_s, Nat.reduceBEq, Int.reduceAdd, Int.reduceSub, Int.reduceNeg, Int.reduceMul, fp_gu_c, fp_gu_s, fp_lose_o, fp_scut_o, fp_tk_o, fp_lrem_o])))
      | (refine And.intro (by simp [fp_rg, fp_up, fp_cp] <;> omega) ?_; (conv => whnf); (try simp only [Int.reduceToNat, Int.toNat_natCast, fp_up_c, fp_up_s, fp_up_i, fp_cp_c, fp_g_s, Nat.reduceBEq, Int.reduceAdd, Int.reduceSub, Int.reduceNeg, Int.reduceMul, fp_gu_c, fp_gu_s, fp_lose_o, fp_scut_o, fp_tk_o, fp_lrem_o]))
      | fail)
  exact hN _ _ _ _ (lp_inStock h hl hq (H g 1 4).toNat 0 0 (by omega) (by omega) rfl)
set_option maxHeartbeats 600000 in
set_option maxRecDepth 100000 in
theorem lp_cutSoFar {L d g : Nat} {H : FpH} {Q : FpQ} (h : 0 ≤ H g 1 4 ∧ H g 1 4 ≤ 10) (hl : ∀ p : Nat, (p : Int) < H g 1 4 → 0 ≤ H g 5 p ∧ H g 5 p ≤ 2000000) (hq : Q (some (.inl (fp_sm (H g 5) (H g 1 4).toNat))) H) : ∀ (m : Nat) (i fd : Int), 0 ≤ i → i + m = H g 1 4 → fd = fp_sm (H g 5) i.toNat → fp_Wp L d 26 4 [some (.inr (g, 1)), some (.inl fd), some (.inl i)] [] H Q := by
  intro m
  induction m with
  | zero =>
    intro i fd h0 hi hf
    refine fp_go 1000 [4] (fun KN KC hN hC => ?_)
    conv => whnf
    (try simp only [Int.reduceToNat, Int.toNat_natCast, fp_up_c, fp_up_s, fp_up_i, fp_cp_c, fp_g_s, Nat.reduceBEq, Int.reduceAdd, Int.reduceSub, Int.reduceNeg, Int.reduceMul, fp_gu_c, fp_gu_s, fp_lose_o, fp_scut_o, fp_tk_o, fp_lrem_o])
    (repeat' first
        | (refine And.intro (by first | omega | (unfold fp_rg; omega)) ?_; (try intro _); (conv => whnf); (try simp only [Int.reduceToNat, Int.toNat_natCast, fp_up_c, fp_up_s, fp_up_i, fp_cp_c, fp_g_s, Nat.reduceBEq, Int.reduceAdd, Int.reduceSub, Int.reduceNeg, Int.reduceMul, fp_gu_c, fp_gu_s, fp_lose_o, fp_scut_o, fp_tk_o, fp_lrem_o]))
        | (refine And.intro (fun _ => ?_) (fun _ => ?_) <;> first | (exfalso; omega) | (rename_i hz_; exact absurd trivial hz_) | ((conv => whnf); (try simp only [Int.reduceToNat, Int.toNat_natCast, fp_up_c, fp_up_s, fp_up_i, fp_cp_c, fp_g_s, Nat.reduceBEq, Int.reduceAdd, Int.reduceSub, Int.reduceNeg, Int.reduceMul, fp_gu_c, fp_gu_s, fp_lose_o, fp_scut_o, fp_tk_o, fp_lrem_o])))
        | (refine And.intro (by simp [fp_rg, fp_up, fp_cp] <;> omega) ?_; (conv => whnf); (try simp only [Int.reduceToNat, Int.toNat_natCast, fp_up_c, fp_up_s, fp_up_i, fp_cp_c, fp_g_s, Nat.reduceBEq, Int.reduceAdd, Int.reduceSub, Int.reduceNeg, Int.reduceMul, fp_gu_c, fp_gu_s, fp_lose_o, fp_scut_o, fp_tk_o, fp_lrem_o]))
        | fail)
    rw [hf, show i = H g 1 4 by omega]; exact hq
  | succ m ih =>
    intro i fd h0 hi hf
    have hle := fp_sm_le (f := H g 5) (B := 2000000) i.toNat (fun j hj => hl j (by omega))
    have hl1 := hl i.toNat (by omega)
    refine fp_go 1000 [4] (fun KN KC hN hC => ?_)
    conv => whnf
    (try simp only [Int.reduceToNat, Int.toNat_natCast, fp_up_c, fp_up_s, fp_up_i, fp_cp_c, fp_g_s, Nat.reduceBEq, Int.reduceAdd, Int.reduceSub, Int.reduceNeg, Int.reduceMul, fp_gu_c, fp_gu_s, fp_lose_o, fp_scut_o, fp_tk_o, fp_lrem_o])
    (repeat' first
        | (refine And.intro (by first | omega | (unfold fp_rg; omega)) ?_; (try intro _); (conv => whnf); (try simp only [Int.reduceToNat, Int.toNat_natCast, fp_up_c, fp_up_s, fp_up_i, fp_cp_c, fp_g_s, Nat.reduceBEq, Int.reduceAdd, Int.reduceSub, Int.reduceNeg, Int.reduceMul, fp_gu_c, fp_gu_s, fp_lose_o, fp_scut_o, fp_tk_o, fp_lrem_o]))
        | (refine And.intro (fun _ => ?_) (fun _ => ?_) <;> first | (exfalso; omega) | (rename_i hz_; exact absurd trivial hz_) | ((conv => whnf); (try simp only [Int.reduceToNat, Int.toNat_natCast, fp_up_c, fp_up_s, fp_up_i, fp_cp_c, fp_g_s, Nat.reduceBEq, Int.reduceAdd, Int.reduceSub, Int.reduceNeg, Int.reduceMul, fp_gu_c, fp_gu_s, fp_lose_o, fp_scut_o, fp_tk_o, fp_lrem_o])))
        | (refine And.intro (by simp [fp_rg, fp_up, fp_cp] <;> omega) ?_; (conv => whnf); (try simp only [Int.reduceToNat, Int.toNat_natCast, fp_up_c, fp_up_s, fp_up_i, fp_cp_c, fp_g_s, Nat.reduceBEq, Int.reduceAdd, Int.reduceSub, Int.reduceNeg, Int.reduceMul, fp_gu_c, fp_gu_s, fp_lose_o, fp_scut_o, fp_tk_o, fp_lrem_o]))
        | fail)
    exact hN _ _ _ _ (ih _ _ (by omega) (by omega) (by rw [hf]; exact fp_sm_s h0))
set_option maxHeartbeats 600000 in
set_option maxRecDepth 100000 in
theorem sp_cutSoFar {L d g : Nat} {H : FpH} {Q : FpQ} (h : 0 ≤ H g 1 4 ∧ H g 1 4 ≤ 10) (hl : ∀ p : Nat, (p : Int) < H g 1 4 → 0 ≤ H g 5 p ∧ H g 5 p ≤ 2000000) (hq : Q (some (.inl (fp_sm (H g 5) (H g 1 4).toNat))) H) : fp_Wp L d 26 0 (fp_en 26 [.inr (g, 1)]) [] H Q := by
  refine fp_go 1000 [4] (fun KN KC hN hC => ?_)
  conv => whnf
  (try simp only [Int.reduceToNat, Int.toNat_natCast, fp_up_c, fp_up_s, fp_up_i, fp_cp_c, fp_g_s, Nat.reduceBEq, Int.reduceAdd, Int.reduceSub, Int.reduceNeg, Int.reduceMul, fp_gu_c, fp_gu_s, fp_lose_o, fp_scut_o, fp_tk_o, fp_lrem_o])
  (repeat' first
      | (refine And.intro (by first | omega | (unfold fp_rg; omega)) ?_; (try intro _); (conv => whnf); (try simp only [Int.reduceToNat, Int.toNat_natCast, fp_up_c, fp_up_s, fp_up_i, fp_cp_c, fp_g_s, Nat.reduceBEq, Int.reduceAdd, Int.reduceSub, Int.reduceNeg, Int.reduceMul, fp_gu_c, fp_gu_s, fp_lose_o, fp_scut_o, fp_tk_o, fp_lrem_o]))
      | (refine And.intro (fun _ => ?_) (fun _ => ?_) <;> first | (exfalso; omega) | (rename_i hz_; exact absurd trivial hz_) | ((conv => whnf); (try simp only [Int.reduceToNat, Int.toNat_natCast, fp_up_c, fp_up_s, fp_up_i, fp_cp_c, fp_g_s, Nat.reduceBEq, Int.reduceAdd, Int.reduceSub, Int.reduceNeg, Int.reduceMul, fp_gu_c, fp_gu_s, fp_lose_o, fp_scut_o, fp_tk_o, fp_lrem_o])))
      | (refine And.intro (by simp [fp_rg, fp_up, fp_cp] <;> omega) ?_; (conv => whnf); (try simp only [Int.reduceToNat, Int.toNat_natCast, fp_up_c, fp_up_s, fp_up_i, fp_cp_c, fp_g_s, Nat.reduceBEq, Int.reduceAdd, Int.reduceSub, Int.reduceNeg, Int.reduceMul, fp_gu_c, fp_gu_s, fp_lose_o, fp_scut_o, fp_tk_o, fp_lrem_o]))
      | fail)
  exact hN _ _ _ _ (lp_cutSoFar h hl hq (H g 1 4).toNat 0 0 (by omega) (by omega) rfl)
def fp_po (H : FpH) : Int := if H 7 15 2 = 4 then (H 7 15 1 + 1) % 4 else H 7 15 1
def fp_pn (H : FpH) : Int := if H 7 15 2 = 4 then 3 else H 7 15 2
def fp_pk (H : FpH) : Nat := 3 + ((fp_po H + fp_pn H) % 4).toNat
/-- the heap behind history.push(stall) -/
def fp_push (H : FpH) : FpH := fun g => if g = fp_pk H then fp_cpG (H g) (H 0) else if g = 7 then fp_gu (fp_gu (H 7) 15 1 (fp_po H)) 15 2 (fp_pn H + 1) else H g
def fp_pop (H : FpH) : FpH := fun g => if g = 0 then fp_cpG (H 0) (H (3 + ((H 7 15 1 + (H 7 15 2 - 1)) % 4).toNat)) else if g = 7 then fp_gu (H 7) 15 2 (H 7 15 2 - 1) else H g
theorem fp_up_n {H : FpH} {g c i g' : Nat} {v : Int} (h : g' ≠ g) : fp_up H g c i v g' = H g' := by
  funext y z
  simp [fp_up, h]
set_option maxHeartbeats 600000 in
set_option maxRecDepth 100000 in
theorem sp_push {L d : Nat} {H : FpH} {Q : FpQ} (ho : 0 ≤ H 7 15 1 ∧ H 7 15 1 < 4) (hn : 0 ≤ H 7 15 2 ∧ H 7 15 2 ≤ 4) (hq : Q none (fp_push H)) : fp_Wp L (d + 2) 1 0 (fp_en 1 [.inr (7, 15), .inr (0, 0)]) [] H Q := by
  refine fp_go 1000 [] (fun KN KC hN hC => ?_)
  conv => whnf
  (try simp only [Int.reduceToNat, Int.toNat_natCast, fp_up_c, fp_up_s, fp_up_i, fp_cp_c, fp_g_s, Nat.reduceBEq, Int.reduceAdd, Int.reduceSub, Int.reduceNeg, Int.reduceMul, fp_gu_c, fp_gu_s, fp_lose_o, fp_scut_o, fp_tk_o, fp_lrem_o])
  (repeat' first
      | (refine And.intro (by first | omega | (unfold fp_rg; omega)) ?_; (try intro _); (conv => whnf); (try simp only [Int.reduceToNat, Int.toNat_natCast, fp_up_c, fp_up_s, fp_up_i, fp_cp_c, fp_g_s, Nat.reduceBEq, Int.reduceAdd, Int.reduceSub, Int.reduceNeg, Int.reduceMul, fp_gu_c, fp_gu_s, fp_lose_o, fp_scut_o, fp_tk_o, fp_lrem_o]))
      | (refine And.intro (fun _ => ?_) (fun _ => ?_) <;> first | (exfalso; omega) | (rename_i hz_; exact absurd trivial hz_) | ((conv => whnf); (try simp only [Int.reduceToNat, Int.toNat_natCast, fp_up_c, fp_up_s, fp_up_i, fp_cp_c, fp_g_s, Nat.reduceBEq, Int.reduceAdd, Int.reduceSub, Int.reduceNeg, Int.reduceMul, fp_gu_c, fp_gu_s, fp_lose_o, fp_scut_o, fp_tk_o, fp_lrem_o])))
      | (refine And.intro (by simp [fp_rg, fp_up, fp_cp] <;> omega) ?_; (conv => whnf); (try simp only [Int.reduceToNat, Int.toNat_natCast, fp_up_c, fp_up_s, fp_up_i, fp_cp_c, fp_g_s, Nat.reduceBEq, Int.reduceAdd, Int.reduceSub, Int.reduceNeg, Int.reduceMul, fp_gu_c, fp_gu_s, fp_lose_o, fp_scut_o, fp_tk_o, fp_lrem_o]))
      | fail)
  · rename_i h4
    have ek : 3 + (((H 7 15 1 + 1) % 4 + (H 7 15 2 - 1)) % 4).toNat = fp_pk H := by unfold fp_pk fp_po fp_pn; rw [if_pos h4, if_pos h4, h4]; rfl
    rw [ek]
    have hk : fp_pk H ≠ 7 := by rw [← ek]; omega
    have hk0 : fp_pk H ≠ 0 := by rw [← ek]; omega
    have e7 : ∀ (X : FpH) (G : FpG), fp_g X (fp_pk H) G 7 = X 7 := fun X G => fp_g_n (by omega)
    refine hC _ _ _ _ ⟨_, rfl, ?_⟩
    refine sp_copyFrom (by omega) ?_
    rw [fp_up_n hk, fp_up_n hk, fp_up_n (show 0 ≠ 7 by decide), fp_up_n (show 0 ≠ 7 by decide)]
    conv => whnf
    (try simp only [e7, Int.reduceToNat, Int.toNat_natCast, fp_up_c, fp_up_s, fp_up_i, fp_cp_c, fp_g_s, Nat.reduceBEq, Int.reduceAdd, Int.reduceSub, Int.reduceNeg, Int.reduceMul, fp_gu_c, fp_gu_s, fp_lose_o, fp_scut_o, fp_tk_o, fp_lrem_o])
    (repeat' first
        | (refine And.intro (by first | omega | (unfold fp_rg; omega)) ?_; (try intro _); (conv => whnf); (try simp only [e7, Int.reduceToNat, Int.toNat_natCast, fp_up_c, fp_up_s, fp_up_i, fp_cp_c, fp_g_s, Nat.reduceBEq, Int.reduceAdd, Int.reduceSub, Int.reduceNeg, Int.reduceMul, fp_gu_c, fp_gu_s, fp_lose_o, fp_scut_o, fp_tk_o, fp_lrem_o]))
        | (refine And.intro (fun _ => ?_) (fun _ => ?_) <;> first | (exfalso; omega) | (rename_i hz_; exact absurd trivial hz_) | ((conv => whnf); (try simp only [e7, Int.reduceToNat, Int.toNat_natCast, fp_up_c, fp_up_s, fp_up_i, fp_cp_c, fp_g_s, Nat.reduceBEq, Int.reduceAdd, Int.reduceSub, Int.reduceNeg, Int.reduceMul, fp_gu_c, fp_gu_s, fp_lose_o, fp_scut_o, fp_tk_o, fp_lrem_o])))
        | (refine And.intro (by simp [fp_rg, fp_up, fp_cp] <;> omega) ?_; (conv => whnf); (try simp only [e7, Int.reduceToNat, Int.toNat_natCast, fp_up_c, fp_up_s, fp_up_i, fp_cp_c, fp_g_s, Nat.reduceBEq, Int.reduceAdd, Int.reduceSub, Int.reduceNeg, Int.reduceMul, fp_gu_c, fp_gu_s, fp_lose_o, fp_scut_o, fp_tk_o, fp_lrem_o]))
        | fail)
    refine fp_eqQ hq ?_
    funext x y z
    rcases (show x = fp_pk H ∨ (x = 7 ∧ x ≠ fp_pk H) ∨ (x ≠ 7 ∧ x ≠ fp_pk H) by omega) with h | ⟨h, h'⟩ | ⟨h, h'⟩
    · simp [fp_push, h, hk, fp_up, fp_g]
    · subst h
      simp [fp_push, h', fp_up, fp_g, fp_gu, fp_po, fp_pn, h4]
      grind
    · simp [fp_push, h, h', fp_up, fp_g]
  · rename_i h4
    have ek : 3 + ((H 7 15 1 + H 7 15 2) % 4).toNat = fp_pk H := by unfold fp_pk fp_po fp_pn; rw [if_neg h4, if_neg h4]
    rw [ek]
    have hk : fp_pk H ≠ 7 := by rw [← ek]; omega
    have hk0 : fp_pk H ≠ 0 := by rw [← ek]; omega
    have e7 : ∀ (X : FpH) (G : FpG), fp_g X (fp_pk H) G 7 = X 7 := fun X G => fp_g_n (by omega)
    refine hC _ _ _ _ ⟨_, rfl, ?_⟩
    refine sp_copyFrom (by omega) ?_
    conv => whnf
    (try simp only [e7, Int.reduceToNat, Int.toNat_natCast, fp_up_c, fp_up_s, fp_up_i, fp_cp_c, fp_g_s, Nat.reduceBEq, Int.reduceAdd, Int.reduceSub, Int.reduceNeg, Int.reduceMul, fp_gu_c, fp_gu_s, fp_lose_o, fp_scut_o, fp_tk_o, fp_lrem_o])
    (repeat' first
        | (refine And.intro (by first | omega | (unfold fp_rg; omega)) ?_; (try intro _); (conv => whnf); (try simp only [e7, Int.reduceToNat, Int.toNat_natCast, fp_up_c, fp_up_s, fp_up_i, fp_cp_c, fp_g_s, Nat.reduceBEq, Int.reduceAdd, Int.reduceSub, Int.reduceNeg, Int.reduceMul, fp_gu_c, fp_gu_s, fp_lose_o, fp_scut_o, fp_tk_o, fp_lrem_o]))
        | (refine And.intro (fun _ => ?_) (fun _ => ?_) <;> first | (exfalso; omega) | (rename_i hz_; exact absurd trivial hz_) | ((conv => whnf); (try simp only [e7, Int.reduceToNat, Int.toNat_natCast, fp_up_c, fp_up_s, fp_up_i, fp_cp_c, fp_g_s, Nat.reduceBEq, Int.reduceAdd, Int.reduceSub, Int.reduceNeg, Int.reduceMul, fp_gu_c, fp_gu_s, fp_lose_o, fp_scut_o, fp_tk_o, fp_lrem_o])))
        | (refine And.intro (by simp [fp_rg, fp_up, fp_cp] <;> omega) ?_; (conv => whnf); (try simp only [e7, Int.reduceToNat, Int.toNat_natCast, fp_up_c, fp_up_s, fp_up_i, fp_cp_c, fp_g_s, Nat.reduceBEq, Int.reduceAdd, Int.reduceSub, Int.reduceNeg, Int.reduceMul, fp_gu_c, fp_gu_s, fp_lose_o, fp_scut_o, fp_tk_o, fp_lrem_o]))
        | fail)
    refine fp_eqQ hq ?_
    funext x y z
    rcases (show x = fp_pk H ∨ (x = 7 ∧ x ≠ fp_pk H) ∨ (x ≠ 7 ∧ x ≠ fp_pk H) by omega) with h | ⟨h, h'⟩ | ⟨h, h'⟩
    · simp [fp_push, h, hk, fp_up, fp_g]
    · subst h
      simp [fp_push, h', fp_up, fp_g, fp_gu, fp_po, fp_pn, h4]
      grind
    · simp [fp_push, h, h', fp_up, fp_g]
set_option maxHeartbeats 600000 in
set_option maxRecDepth 100000 in
theorem sp_pop {L d : Nat} {H : FpH} {Q : FpQ} (ho : 0 ≤ H 7 15 1 ∧ H 7 15 1 < 4) (hn : 1 ≤ H 7 15 2 ∧ H 7 15 2 ≤ 4) (hq : Q none (fp_pop H)) : fp_Wp L (d + 2) 2 0 (fp_en 2 [.inr (7, 15), .inr (0, 0)]) [] H Q := by
  refine fp_go 1000 [] (fun KN KC hN hC => ?_)
  conv => whnf
  (try simp only [Int.reduceToNat, Int.toNat_natCast, fp_up_c, fp_up_s, fp_up_i, fp_cp_c, fp_g_s, Nat.reduceBEq, Int.reduceAdd, Int.reduceSub, Int.reduceNeg, Int.reduceMul, fp_gu_c, fp_gu_s, fp_lose_o, fp_scut_o, fp_tk_o, fp_lrem_o])
  (repeat' first
      | (refine And.intro (by first | omega | (unfold fp_rg; omega)) ?_; (try intro _); (conv => whnf); (try simp only [Int.reduceToNat, Int.toNat_natCast, fp_up_c, fp_up_s, fp_up_i, fp_cp_c, fp_g_s, Nat.reduceBEq, Int.reduceAdd, Int.reduceSub, Int.reduceNeg, Int.reduceMul, fp_gu_c, fp_gu_s, fp_lose_o, fp_scut_o, fp_tk_o, fp_lrem_o]))
      | (refine And.intro (fun _ => ?_) (fun _ => ?_) <;> first | (exfalso; omega) | (rename_i hz_; exact absurd trivial hz_) | ((conv => whnf); (try simp only [Int.reduceToNat, Int.toNat_natCast, fp_up_c, fp_up_s, fp_up_i, fp_cp_c, fp_g_s, Nat.reduceBEq, Int.reduceAdd, Int.reduceSub, Int.reduceNeg, Int.reduceMul, fp_gu_c, fp_gu_s, fp_lose_o, fp_scut_o, fp_tk_o, fp_lrem_o])))
      | (refine And.intro (by simp [fp_rg, fp_up, fp_cp] <;> omega) ?_; (conv => whnf); (try simp only [Int.reduceToNat, Int.toNat_natCast, fp_up_c, fp_up_s, fp_up_i, fp_cp_c, fp_g_s, Nat.reduceBEq, Int.reduceAdd, Int.reduceSub, Int.reduceNeg, Int.reduceMul, fp_gu_c, fp_gu_s, fp_lose_o, fp_scut_o, fp_tk_o, fp_lrem_o]))
      | fail)
  have hk : 3 + ((H 7 15 1 + (H 7 15 2 - 1)) % 4).toNat ≠ 7 := by omega
  refine hC _ _ _ _ ⟨_, rfl, ?_⟩
  refine sp_copyFrom (by omega) ?_
  rw [fp_up_n hk, fp_up_n (show 0 ≠ 7 by decide)]
  conv => whnf
  (try simp only [Int.reduceToNat, Int.toNat_natCast, fp_up_c, fp_up_s, fp_up_i, fp_cp_c, fp_g_s, Nat.reduceBEq, Int.reduceAdd, Int.reduceSub, Int.reduceNeg, Int.reduceMul, fp_gu_c, fp_gu_s, fp_lose_o, fp_scut_o, fp_tk_o, fp_lrem_o])
  (repeat' first
      | (refine And.intro (by first | omega | (unfold fp_rg; omega)) ?_; (try intro _); (conv => whnf); (try simp only [Int.reduceToNat, Int.toNat_natCast, fp_up_c, fp_up_s, fp_up_i, fp_cp_c, fp_g_s, Nat.reduceBEq, Int.reduceAdd, Int.reduceSub, Int.reduceNeg, Int.reduceMul, fp_gu_c, fp_gu_s, fp_lose_o, fp_scut_o, fp_tk_o, fp_lrem_o]))
      | (refine And.intro (fun _ => ?_) (fun _ => ?_) <;> first | (exfalso; omega) | (rename_i hz_; exact absurd trivial hz_) | ((conv => whnf); (try simp only [Int.reduceToNat, Int.toNat_natCast, fp_up_c, fp_up_s, fp_up_i, fp_cp_c, fp_g_s, Nat.reduceBEq, Int.reduceAdd, Int.reduceSub, Int.reduceNeg, Int.reduceMul, fp_gu_c, fp_gu_s, fp_lose_o, fp_scut_o, fp_tk_o, fp_lrem_o])))
      | (refine And.intro (by simp [fp_rg, fp_up, fp_cp] <;> omega) ?_; (conv => whnf); (try simp only [Int.reduceToNat, Int.toNat_natCast, fp_up_c, fp_up_s, fp_up_i, fp_cp_c, fp_g_s, Nat.reduceBEq, Int.reduceAdd, Int.reduceSub, Int.reduceNeg, Int.reduceMul, fp_gu_c, fp_gu_s, fp_lose_o, fp_scut_o, fp_tk_o, fp_lrem_o]))
      | fail)
  refine fp_eqQ hq ?_
  funext x y z
  rcases (show x = 0 ∨ x = 7 ∨ (x ≠ 7 ∧ x ≠ 0) by omega) with h | h | ⟨h, h'⟩
  · simp [fp_pop, h, fp_g]
  · subst h
    simp [fp_pop, fp_up, fp_g, fp_gu]
  · simp [fp_pop, h, h', fp_up, fp_g]
