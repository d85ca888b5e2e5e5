/-! the text's calls, the history's calls, serving all, the sitters of the text -/
theorem fp_push_1 {H : FpH} : fp_push H 1 = H 1 := by
  unfold fp_push
  rw [if_neg (by unfold fp_pk; omega), if_neg (by omega)]
theorem fp_push_2 {H : FpH} : fp_push H 2 = H 2 := by
  unfold fp_push
  rw [if_neg (by unfold fp_pk; omega), if_neg (by omega)]
set_option maxHeartbeats 600000 in
set_option maxRecDepth 100000 in
theorem sp_type {L d : Nat} {ch : Int} {H : FpH} {Q : FpQ} (hc : 0 ≤ ch ∧ ch < 65536) (hl : 0 ≤ H 7 17 1 ∧ H 7 17 1 ≤ 80) (hF : 80 ≤ H 7 17 1 → Q (some (.inl (-3))) H) (hT : H 7 17 1 < 80 → Q (some (.inl (H 7 17 1 + 1))) (fp_up (fp_up H 7 18 (H 7 17 1).toNat ch) 7 17 1 (H 7 17 1 + 1))) : fp_Wp L d 62 0 (fp_en 62 [.inr (7, 14), .inl ch]) [] H Q := by
  refine fp_go 1000 [] (fun KN KC hN hC => ?_)
  conv => whnf
  (try simp only [Int.reduceToNat, Int.toNat_natCast, fp_up_c, fp_up_s, fp_up_i, fp_cp_c, fp_g_s, Nat.reduceBEq, Int.reduceAdd, Int.reduceSub, Int.reduceNeg, Int.reduceMul, fp_gu_c, fp_gu_s, fp_lose_o, fp_scut_o, fp_tk_o, fp_lrem_o, fp_push_0])
  (repeat' first
      | (refine And.intro (by first | omega | (unfold fp_rg; omega)) ?_; (try intro _); (conv => whnf); (try simp only [Int.reduceToNat, Int.toNat_natCast, fp_up_c, fp_up_s, fp_up_i, fp_cp_c, fp_g_s, Nat.reduceBEq, Int.reduceAdd, Int.reduceSub, Int.reduceNeg, Int.reduceMul, fp_gu_c, fp_gu_s, fp_lose_o, fp_scut_o, fp_tk_o, fp_lrem_o, fp_push_0]))
      | (refine And.intro (fun _ => ?_) (fun _ => ?_) <;> first | (exfalso; omega) | (rename_i hz_; exact absurd trivial hz_) | ((conv => whnf); (try simp only [Int.reduceToNat, Int.toNat_natCast, fp_up_c, fp_up_s, fp_up_i, fp_cp_c, fp_g_s, Nat.reduceBEq, Int.reduceAdd, Int.reduceSub, Int.reduceNeg, Int.reduceMul, fp_gu_c, fp_gu_s, fp_lose_o, fp_scut_o, fp_tk_o, fp_lrem_o, fp_push_0])))
      | (refine And.intro (fun _ => ?_) ?_ <;> first | (exfalso; omega) | trivial | ((conv => whnf); (try simp only [Int.reduceToNat, Int.toNat_natCast, fp_up_c, fp_up_s, fp_up_i, fp_cp_c, fp_g_s, Nat.reduceBEq, Int.reduceAdd, Int.reduceSub, Int.reduceNeg, Int.reduceMul, fp_gu_c, fp_gu_s, fp_lose_o, fp_scut_o, fp_tk_o, fp_lrem_o, fp_push_0])))
      | (refine And.intro (by simp [fp_rg, fp_up, fp_cp] <;> omega) ?_; (conv => whnf); (try simp only [Int.reduceToNat, Int.toNat_natCast, fp_up_c, fp_up_s, fp_up_i, fp_cp_c, fp_g_s, Nat.reduceBEq, Int.reduceAdd, Int.reduceSub, Int.reduceNeg, Int.reduceMul, fp_gu_c, fp_gu_s, fp_lose_o, fp_scut_o, fp_tk_o, fp_lrem_o, fp_push_0]))
      | fail)
  all_goals first | exact hF (by omega) | exact hT (by omega)
set_option maxHeartbeats 600000 in
set_option maxRecDepth 100000 in
theorem sp_undo {L d : Nat} {H : FpH} {Q : FpQ} (hY : fq_Y H) (h0 : H 7 15 2 = 0 → Q (some (.inl (-5))) H) (h1 : 1 ≤ H 7 15 2 → Q (some (.inl (H 7 15 2 - 1))) (fp_pop H)) : fp_Wp L (d + 3) 64 0 (fp_en 64 [.inr (7, 14)]) [] H Q := by
  obtain ⟨hY1, hY2⟩ := hY
  have e : fp_pop H 7 15 2 = H 7 15 2 - 1 := by simp [fp_pop, fp_gu]
  refine fp_go 1000 [] (fun KN KC hN hC => ?_)
  conv => whnf
  (try simp only [Int.reduceToNat, Int.toNat_natCast, fp_up_c, fp_up_s, fp_up_i, fp_cp_c, fp_g_s, Nat.reduceBEq, Int.reduceAdd, Int.reduceSub, Int.reduceNeg, Int.reduceMul, fp_gu_c, fp_gu_s, fp_lose_o, fp_scut_o, fp_tk_o, fp_lrem_o, fp_push_0])
  (repeat' first
      | (refine And.intro (by first | omega | (unfold fp_rg; omega)) ?_; (try intro _); (conv => whnf); (try simp only [Int.reduceToNat, Int.toNat_natCast, fp_up_c, fp_up_s, fp_up_i, fp_cp_c, fp_g_s, Nat.reduceBEq, Int.reduceAdd, Int.reduceSub, Int.reduceNeg, Int.reduceMul, fp_gu_c, fp_gu_s, fp_lose_o, fp_scut_o, fp_tk_o, fp_lrem_o, fp_push_0]))
      | (refine And.intro (fun _ => ?_) (fun _ => ?_) <;> first | (exfalso; omega) | (rename_i hz_; exact absurd trivial hz_) | ((conv => whnf); (try simp only [Int.reduceToNat, Int.toNat_natCast, fp_up_c, fp_up_s, fp_up_i, fp_cp_c, fp_g_s, Nat.reduceBEq, Int.reduceAdd, Int.reduceSub, Int.reduceNeg, Int.reduceMul, fp_gu_c, fp_gu_s, fp_lose_o, fp_scut_o, fp_tk_o, fp_lrem_o, fp_push_0])))
      | (refine And.intro (fun _ => ?_) ?_ <;> first | (exfalso; omega) | trivial | ((conv => whnf); (try simp only [Int.reduceToNat, Int.toNat_natCast, fp_up_c, fp_up_s, fp_up_i, fp_cp_c, fp_g_s, Nat.reduceBEq, Int.reduceAdd, Int.reduceSub, Int.reduceNeg, Int.reduceMul, fp_gu_c, fp_gu_s, fp_lose_o, fp_scut_o, fp_tk_o, fp_lrem_o, fp_push_0])))
      | (refine And.intro (by simp [fp_rg, fp_up, fp_cp] <;> omega) ?_; (conv => whnf); (try simp only [Int.reduceToNat, Int.toNat_natCast, fp_up_c, fp_up_s, fp_up_i, fp_cp_c, fp_g_s, Nat.reduceBEq, Int.reduceAdd, Int.reduceSub, Int.reduceNeg, Int.reduceMul, fp_gu_c, fp_gu_s, fp_lose_o, fp_scut_o, fp_tk_o, fp_lrem_o, fp_push_0]))
      | fail)
  · rename_i hb
    exact h0 hb
  · rename_i hb
    have h2 := h1 (by omega)
    rw [← e] at h2
    refine hC _ _ _ _ ⟨_, rfl, ?_⟩
    refine sp_pop hY1 (by omega) ?_
    conv => whnf
    (try simp only [Int.reduceToNat, Int.toNat_natCast, fp_up_c, fp_up_s, fp_up_i, fp_cp_c, fp_g_s, Nat.reduceBEq, Int.reduceAdd, Int.reduceSub, Int.reduceNeg, Int.reduceMul, fp_gu_c, fp_gu_s, fp_lose_o, fp_scut_o, fp_tk_o, fp_lrem_o, fp_push_0])
    (repeat' first
        | (refine And.intro (by first | omega | (unfold fp_rg; omega)) ?_; (try intro _); (conv => whnf); (try simp only [Int.reduceToNat, Int.toNat_natCast, fp_up_c, fp_up_s, fp_up_i, fp_cp_c, fp_g_s, Nat.reduceBEq, Int.reduceAdd, Int.reduceSub, Int.reduceNeg, Int.reduceMul, fp_gu_c, fp_gu_s, fp_lose_o, fp_scut_o, fp_tk_o, fp_lrem_o, fp_push_0]))
        | (refine And.intro (fun _ => ?_) (fun _ => ?_) <;> first | (exfalso; omega) | (rename_i hz_; exact absurd trivial hz_) | ((conv => whnf); (try simp only [Int.reduceToNat, Int.toNat_natCast, fp_up_c, fp_up_s, fp_up_i, fp_cp_c, fp_g_s, Nat.reduceBEq, Int.reduceAdd, Int.reduceSub, Int.reduceNeg, Int.reduceMul, fp_gu_c, fp_gu_s, fp_lose_o, fp_scut_o, fp_tk_o, fp_lrem_o, fp_push_0])))
        | (refine And.intro (fun _ => ?_) ?_ <;> first | (exfalso; omega) | trivial | ((conv => whnf); (try simp only [Int.reduceToNat, Int.toNat_natCast, fp_up_c, fp_up_s, fp_up_i, fp_cp_c, fp_g_s, Nat.reduceBEq, Int.reduceAdd, Int.reduceSub, Int.reduceNeg, Int.reduceMul, fp_gu_c, fp_gu_s, fp_lose_o, fp_scut_o, fp_tk_o, fp_lrem_o, fp_push_0])))
        | (refine And.intro (by simp [fp_rg, fp_up, fp_cp] <;> omega) ?_; (conv => whnf); (try simp only [Int.reduceToNat, Int.toNat_natCast, fp_up_c, fp_up_s, fp_up_i, fp_cp_c, fp_g_s, Nat.reduceBEq, Int.reduceAdd, Int.reduceSub, Int.reduceNeg, Int.reduceMul, fp_gu_c, fp_gu_s, fp_lose_o, fp_scut_o, fp_tk_o, fp_lrem_o, fp_push_0]))
        | fail)
    exact h2
set_option maxHeartbeats 600000 in
set_option maxRecDepth 100000 in
theorem sp_restore {L d : Nat} {H : FpH} {Q : FpQ} (hY : fq_Y H) (h0 : H 7 14 3 = 0 → Q (some (.inl (-5))) H) (h1 : ¬ H 7 14 3 = 0 → Q (some (.inl (H 2 0 4))) (fp_g (fp_push H) 0 (fp_cpG (H 0) (H 2)))) : fp_Wp L (d + 3) 66 0 (fp_en 66 [.inr (7, 14)]) [] H Q := by
  have e : fp_cpG (H 0) (H 2) 0 4 = H 2 0 4 := by simp [fp_cpG]
  refine fp_go 1000 [] (fun KN KC hN hC => ?_)
  conv => whnf
  (try simp only [Int.reduceToNat, Int.toNat_natCast, fp_up_c, fp_up_s, fp_up_i, fp_cp_c, fp_g_s, Nat.reduceBEq, Int.reduceAdd, Int.reduceSub, Int.reduceNeg, Int.reduceMul, fp_gu_c, fp_gu_s, fp_lose_o, fp_scut_o, fp_tk_o, fp_lrem_o, fp_push_0])
  (repeat' first
      | (refine And.intro (by first | omega | (unfold fp_rg; omega)) ?_; (try intro _); (conv => whnf); (try simp only [Int.reduceToNat, Int.toNat_natCast, fp_up_c, fp_up_s, fp_up_i, fp_cp_c, fp_g_s, Nat.reduceBEq, Int.reduceAdd, Int.reduceSub, Int.reduceNeg, Int.reduceMul, fp_gu_c, fp_gu_s, fp_lose_o, fp_scut_o, fp_tk_o, fp_lrem_o, fp_push_0]))
      | (refine And.intro (fun _ => ?_) (fun _ => ?_) <;> first | (exfalso; omega) | (rename_i hz_; exact absurd trivial hz_) | ((conv => whnf); (try simp only [Int.reduceToNat, Int.toNat_natCast, fp_up_c, fp_up_s, fp_up_i, fp_cp_c, fp_g_s, Nat.reduceBEq, Int.reduceAdd, Int.reduceSub, Int.reduceNeg, Int.reduceMul, fp_gu_c, fp_gu_s, fp_lose_o, fp_scut_o, fp_tk_o, fp_lrem_o, fp_push_0])))
      | (refine And.intro (fun _ => ?_) ?_ <;> first | (exfalso; omega) | trivial | ((conv => whnf); (try simp only [Int.reduceToNat, Int.toNat_natCast, fp_up_c, fp_up_s, fp_up_i, fp_cp_c, fp_g_s, Nat.reduceBEq, Int.reduceAdd, Int.reduceSub, Int.reduceNeg, Int.reduceMul, fp_gu_c, fp_gu_s, fp_lose_o, fp_scut_o, fp_tk_o, fp_lrem_o, fp_push_0])))
      | (refine And.intro (by simp [fp_rg, fp_up, fp_cp] <;> omega) ?_; (conv => whnf); (try simp only [Int.reduceToNat, Int.toNat_natCast, fp_up_c, fp_up_s, fp_up_i, fp_cp_c, fp_g_s, Nat.reduceBEq, Int.reduceAdd, Int.reduceSub, Int.reduceNeg, Int.reduceMul, fp_gu_c, fp_gu_s, fp_lose_o, fp_scut_o, fp_tk_o, fp_lrem_o, fp_push_0]))
      | fail)
  · rename_i hb
    exact h0 hb
  · rename_i hb
    have h2 := h1 hb
    rw [← e] at h2
    refine hC _ _ _ _ ⟨_, rfl, ?_⟩
    refine sp_push hY.1 hY.2 ?_
    conv => whnf
    (try simp only [Int.reduceToNat, Int.toNat_natCast, fp_up_c, fp_up_s, fp_up_i, fp_cp_c, fp_g_s, Nat.reduceBEq, Int.reduceAdd, Int.reduceSub, Int.reduceNeg, Int.reduceMul, fp_gu_c, fp_gu_s, fp_lose_o, fp_scut_o, fp_tk_o, fp_lrem_o, fp_push_0])
    (repeat' first
        | (refine And.intro (by first | omega | (unfold fp_rg; omega)) ?_; (try intro _); (conv => whnf); (try simp only [Int.reduceToNat, Int.toNat_natCast, fp_up_c, fp_up_s, fp_up_i, fp_cp_c, fp_g_s, Nat.reduceBEq, Int.reduceAdd, Int.reduceSub, Int.reduceNeg, Int.reduceMul, fp_gu_c, fp_gu_s, fp_lose_o, fp_scut_o, fp_tk_o, fp_lrem_o, fp_push_0]))
        | (refine And.intro (fun _ => ?_) (fun _ => ?_) <;> first | (exfalso; omega) | (rename_i hz_; exact absurd trivial hz_) | ((conv => whnf); (try simp only [Int.reduceToNat, Int.toNat_natCast, fp_up_c, fp_up_s, fp_up_i, fp_cp_c, fp_g_s, Nat.reduceBEq, Int.reduceAdd, Int.reduceSub, Int.reduceNeg, Int.reduceMul, fp_gu_c, fp_gu_s, fp_lose_o, fp_scut_o, fp_tk_o, fp_lrem_o, fp_push_0])))
        | (refine And.intro (fun _ => ?_) ?_ <;> first | (exfalso; omega) | trivial | ((conv => whnf); (try simp only [Int.reduceToNat, Int.toNat_natCast, fp_up_c, fp_up_s, fp_up_i, fp_cp_c, fp_g_s, Nat.reduceBEq, Int.reduceAdd, Int.reduceSub, Int.reduceNeg, Int.reduceMul, fp_gu_c, fp_gu_s, fp_lose_o, fp_scut_o, fp_tk_o, fp_lrem_o, fp_push_0])))
        | (refine And.intro (by simp [fp_rg, fp_up, fp_cp] <;> omega) ?_; (conv => whnf); (try simp only [Int.reduceToNat, Int.toNat_natCast, fp_up_c, fp_up_s, fp_up_i, fp_cp_c, fp_g_s, Nat.reduceBEq, Int.reduceAdd, Int.reduceSub, Int.reduceNeg, Int.reduceMul, fp_gu_c, fp_gu_s, fp_lose_o, fp_scut_o, fp_tk_o, fp_lrem_o, fp_push_0]))
        | fail)
    refine hC _ _ _ _ ⟨_, rfl, ?_⟩
    refine sp_copyFrom (by omega) ?_
    rw [fp_push_0, fp_push_2]
    conv => whnf
    (try simp only [Int.reduceToNat, Int.toNat_natCast, fp_up_c, fp_up_s, fp_up_i, fp_cp_c, fp_g_s, Nat.reduceBEq, Int.reduceAdd, Int.reduceSub, Int.reduceNeg, Int.reduceMul, fp_gu_c, fp_gu_s, fp_lose_o, fp_scut_o, fp_tk_o, fp_lrem_o, fp_push_0])
    (repeat' first
        | (refine And.intro (by first | omega | (unfold fp_rg; omega)) ?_; (try intro _); (conv => whnf); (try simp only [Int.reduceToNat, Int.toNat_natCast, fp_up_c, fp_up_s, fp_up_i, fp_cp_c, fp_g_s, Nat.reduceBEq, Int.reduceAdd, Int.reduceSub, Int.reduceNeg, Int.reduceMul, fp_gu_c, fp_gu_s, fp_lose_o, fp_scut_o, fp_tk_o, fp_lrem_o, fp_push_0]))
        | (refine And.intro (fun _ => ?_) (fun _ => ?_) <;> first | (exfalso; omega) | (rename_i hz_; exact absurd trivial hz_) | ((conv => whnf); (try simp only [Int.reduceToNat, Int.toNat_natCast, fp_up_c, fp_up_s, fp_up_i, fp_cp_c, fp_g_s, Nat.reduceBEq, Int.reduceAdd, Int.reduceSub, Int.reduceNeg, Int.reduceMul, fp_gu_c, fp_gu_s, fp_lose_o, fp_scut_o, fp_tk_o, fp_lrem_o, fp_push_0])))
        | (refine And.intro (fun _ => ?_) ?_ <;> first | (exfalso; omega) | trivial | ((conv => whnf); (try simp only [Int.reduceToNat, Int.toNat_natCast, fp_up_c, fp_up_s, fp_up_i, fp_cp_c, fp_g_s, Nat.reduceBEq, Int.reduceAdd, Int.reduceSub, Int.reduceNeg, Int.reduceMul, fp_gu_c, fp_gu_s, fp_lose_o, fp_scut_o, fp_tk_o, fp_lrem_o, fp_push_0])))
        | (refine And.intro (by simp [fp_rg, fp_up, fp_cp] <;> omega) ?_; (conv => whnf); (try simp only [Int.reduceToNat, Int.toNat_natCast, fp_up_c, fp_up_s, fp_up_i, fp_cp_c, fp_g_s, Nat.reduceBEq, Int.reduceAdd, Int.reduceSub, Int.reduceNeg, Int.reduceMul, fp_gu_c, fp_gu_s, fp_lose_o, fp_scut_o, fp_tk_o, fp_lrem_o, fp_push_0]))
        | fail)
    exact h2
set_option maxHeartbeats 600000 in
set_option maxRecDepth 100000 in
theorem sp_take2 {L d : Nat} {H : FpH} {Q : FpQ} (hY : fq_Y H) (hq : Q none (fp_g (fp_push H) 0 (fp_cpG (H 0) (H 1)))) : fp_Wp L (d + 3) 76 0 (fp_en 76 [.inr (7, 14)]) [] H Q := by
  refine fp_go 1000 [] (fun KN KC hN hC => ?_)
  conv => whnf
  (try simp only [Int.reduceToNat, Int.toNat_natCast, fp_up_c, fp_up_s, fp_up_i, fp_cp_c, fp_g_s, Nat.reduceBEq, Int.reduceAdd, Int.reduceSub, Int.reduceNeg, Int.reduceMul, fp_gu_c, fp_gu_s, fp_lose_o, fp_scut_o, fp_tk_o, fp_lrem_o, fp_push_0])
  (repeat' first
      | (refine And.intro (by first | omega | (unfold fp_rg; omega)) ?_; (try intro _); (conv => whnf); (try simp only [Int.reduceToNat, Int.toNat_natCast, fp_up_c, fp_up_s, fp_up_i, fp_cp_c, fp_g_s, Nat.reduceBEq, Int.reduceAdd, Int.reduceSub, Int.reduceNeg, Int.reduceMul, fp_gu_c, fp_gu_s, fp_lose_o, fp_scut_o, fp_tk_o, fp_lrem_o, fp_push_0]))
      | (refine And.intro (fun _ => ?_) (fun _ => ?_) <;> first | (exfalso; omega) | (rename_i hz_; exact absurd trivial hz_) | ((conv => whnf); (try simp only [Int.reduceToNat, Int.toNat_natCast, fp_up_c, fp_up_s, fp_up_i, fp_cp_c, fp_g_s, Nat.reduceBEq, Int.reduceAdd, Int.reduceSub, Int.reduceNeg, Int.reduceMul, fp_gu_c, fp_gu_s, fp_lose_o, fp_scut_o, fp_tk_o, fp_lrem_o, fp_push_0])))
      | (refine And.intro (fun _ => ?_) ?_ <;> first | (exfalso; omega) | trivial | ((conv => whnf); (try simp only [Int.reduceToNat, Int.toNat_natCast, fp_up_c, fp_up_s, fp_up_i, fp_cp_c, fp_g_s, Nat.reduceBEq, Int.reduceAdd, Int.reduceSub, Int.reduceNeg, Int.reduceMul, fp_gu_c, fp_gu_s, fp_lose_o, fp_scut_o, fp_tk_o, fp_lrem_o, fp_push_0])))
      | (refine And.intro (by simp [fp_rg, fp_up, fp_cp] <;> omega) ?_; (conv => whnf); (try simp only [Int.reduceToNat, Int.toNat_natCast, fp_up_c, fp_up_s, fp_up_i, fp_cp_c, fp_g_s, Nat.reduceBEq, Int.reduceAdd, Int.reduceSub, Int.reduceNeg, Int.reduceMul, fp_gu_c, fp_gu_s, fp_lose_o, fp_scut_o, fp_tk_o, fp_lrem_o, fp_push_0]))
      | fail)
  refine hC _ _ _ _ ⟨_, rfl, ?_⟩
  refine sp_push hY.1 hY.2 ?_
  conv => whnf
  (try simp only [Int.reduceToNat, Int.toNat_natCast, fp_up_c, fp_up_s, fp_up_i, fp_cp_c, fp_g_s, Nat.reduceBEq, Int.reduceAdd, Int.reduceSub, Int.reduceNeg, Int.reduceMul, fp_gu_c, fp_gu_s, fp_lose_o, fp_scut_o, fp_tk_o, fp_lrem_o, fp_push_0])
  (repeat' first
      | (refine And.intro (by first | omega | (unfold fp_rg; omega)) ?_; (try intro _); (conv => whnf); (try simp only [Int.reduceToNat, Int.toNat_natCast, fp_up_c, fp_up_s, fp_up_i, fp_cp_c, fp_g_s, Nat.reduceBEq, Int.reduceAdd, Int.reduceSub, Int.reduceNeg, Int.reduceMul, fp_gu_c, fp_gu_s, fp_lose_o, fp_scut_o, fp_tk_o, fp_lrem_o, fp_push_0]))
      | (refine And.intro (fun _ => ?_) (fun _ => ?_) <;> first | (exfalso; omega) | (rename_i hz_; exact absurd trivial hz_) | ((conv => whnf); (try simp only [Int.reduceToNat, Int.toNat_natCast, fp_up_c, fp_up_s, fp_up_i, fp_cp_c, fp_g_s, Nat.reduceBEq, Int.reduceAdd, Int.reduceSub, Int.reduceNeg, Int.reduceMul, fp_gu_c, fp_gu_s, fp_lose_o, fp_scut_o, fp_tk_o, fp_lrem_o, fp_push_0])))
      | (refine And.intro (fun _ => ?_) ?_ <;> first | (exfalso; omega) | trivial | ((conv => whnf); (try simp only [Int.reduceToNat, Int.toNat_natCast, fp_up_c, fp_up_s, fp_up_i, fp_cp_c, fp_g_s, Nat.reduceBEq, Int.reduceAdd, Int.reduceSub, Int.reduceNeg, Int.reduceMul, fp_gu_c, fp_gu_s, fp_lose_o, fp_scut_o, fp_tk_o, fp_lrem_o, fp_push_0])))
      | (refine And.intro (by simp [fp_rg, fp_up, fp_cp] <;> omega) ?_; (conv => whnf); (try simp only [Int.reduceToNat, Int.toNat_natCast, fp_up_c, fp_up_s, fp_up_i, fp_cp_c, fp_g_s, Nat.reduceBEq, Int.reduceAdd, Int.reduceSub, Int.reduceNeg, Int.reduceMul, fp_gu_c, fp_gu_s, fp_lose_o, fp_scut_o, fp_tk_o, fp_lrem_o, fp_push_0]))
      | fail)
  refine hC _ _ _ _ ⟨_, rfl, ?_⟩
  refine sp_copyFrom (by omega) ?_
  rw [fp_push_0, fp_push_1]
  conv => whnf
  (try simp only [Int.reduceToNat, Int.toNat_natCast, fp_up_c, fp_up_s, fp_up_i, fp_cp_c, fp_g_s, Nat.reduceBEq, Int.reduceAdd, Int.reduceSub, Int.reduceNeg, Int.reduceMul, fp_gu_c, fp_gu_s, fp_lose_o, fp_scut_o, fp_tk_o, fp_lrem_o, fp_push_0])
  (repeat' first
      | (refine And.intro (by first | omega | (unfold fp_rg; omega)) ?_; (try intro _); (conv => whnf); (try simp only [Int.reduceToNat, Int.toNat_natCast, fp_up_c, fp_up_s, fp_up_i, fp_cp_c, fp_g_s, Nat.reduceBEq, Int.reduceAdd, Int.reduceSub, Int.reduceNeg, Int.reduceMul, fp_gu_c, fp_gu_s, fp_lose_o, fp_scut_o, fp_tk_o, fp_lrem_o, fp_push_0]))
      | (refine And.intro (fun _ => ?_) (fun _ => ?_) <;> first | (exfalso; omega) | (rename_i hz_; exact absurd trivial hz_) | ((conv => whnf); (try simp only [Int.reduceToNat, Int.toNat_natCast, fp_up_c, fp_up_s, fp_up_i, fp_cp_c, fp_g_s, Nat.reduceBEq, Int.reduceAdd, Int.reduceSub, Int.reduceNeg, Int.reduceMul, fp_gu_c, fp_gu_s, fp_lose_o, fp_scut_o, fp_tk_o, fp_lrem_o, fp_push_0])))
      | (refine And.intro (fun _ => ?_) ?_ <;> first | (exfalso; omega) | trivial | ((conv => whnf); (try simp only [Int.reduceToNat, Int.toNat_natCast, fp_up_c, fp_up_s, fp_up_i, fp_cp_c, fp_g_s, Nat.reduceBEq, Int.reduceAdd, Int.reduceSub, Int.reduceNeg, Int.reduceMul, fp_gu_c, fp_gu_s, fp_lose_o, fp_scut_o, fp_tk_o, fp_lrem_o, fp_push_0])))
      | (refine And.intro (by simp [fp_rg, fp_up, fp_cp] <;> omega) ?_; (conv => whnf); (try simp only [Int.reduceToNat, Int.toNat_natCast, fp_up_c, fp_up_s, fp_up_i, fp_cp_c, fp_g_s, Nat.reduceBEq, Int.reduceAdd, Int.reduceSub, Int.reduceNeg, Int.reduceMul, fp_gu_c, fp_gu_s, fp_lose_o, fp_scut_o, fp_tk_o, fp_lrem_o, fp_push_0]))
      | fail)
  exact hq
noncomputable def fq_sa (G : FpG) : FpG := fp_hoa (G 9 3).toNat 0 G
theorem fq_Y_g {H : FpH} {X : FpG} {g : Nat} (hg : g ≠ 7) (h : fq_Y H) : fq_Y (fp_g H g X) := by
  unfold fq_Y at h ⊢
  rw [fp_g_n (Ne.symm hg)]
  exact h
set_option maxHeartbeats 600000 in
set_option maxRecDepth 100000 in
theorem sp_serveAll {L d : Nat} {H : FpH} {G1 : FpG} {Q : FpQ} (hY : fq_Y H) (hG : G1 = fp_cpG (H 1) (H 0)) (hc0 : 0 ≤ G1 9 3) (hc : fp_hc G1 12) (h0 : G1 9 3 - fq_sa G1 9 3 = 0 → Q (some (.inl (-5))) (fp_g H 1 (fq_sa G1))) (h1 : ¬ G1 9 3 - fq_sa G1 9 3 = 0 → Q (some (.inl (G1 9 3 - fq_sa G1 9 3))) (fp_g (fp_push (fp_g H 1 (fq_sa G1))) 0 (fp_cpG (H 0) (fq_sa G1)))) : fp_Wp L (d + 5) 58 0 (fp_en 58 [.inr (7, 14)]) [] H Q := by
  unfold fq_sa at h0 h1
  refine fp_go 1000 [] (fun KN KC hN hC => ?_)
  conv => whnf
  (try simp only [Int.reduceToNat, Int.toNat_natCast, fp_up_c, fp_up_s, fp_up_i, fp_cp_c, fp_g_s, Nat.reduceBEq, Int.reduceAdd, Int.reduceSub, Int.reduceNeg, Int.reduceMul, fp_gu_c, fp_gu_s, fp_lose_o, fp_scut_o, fp_tk_o, fp_lrem_o, fp_push_0])
  (repeat' first
      | (refine And.intro (by first | omega | (unfold fp_rg; omega)) ?_; (try intro _); (conv => whnf); (try simp only [Int.reduceToNat, Int.toNat_natCast, fp_up_c, fp_up_s, fp_up_i, fp_cp_c, fp_g_s, Nat.reduceBEq, Int.reduceAdd, Int.reduceSub, Int.reduceNeg, Int.reduceMul, fp_gu_c, fp_gu_s, fp_lose_o, fp_scut_o, fp_tk_o, fp_lrem_o, fp_push_0]))
      | (refine And.intro (fun _ => ?_) (fun _ => ?_) <;> first | (exfalso; omega) | (rename_i hz_; exact absurd trivial hz_) | ((conv => whnf); (try simp only [Int.reduceToNat, Int.toNat_natCast, fp_up_c, fp_up_s, fp_up_i, fp_cp_c, fp_g_s, Nat.reduceBEq, Int.reduceAdd, Int.reduceSub, Int.reduceNeg, Int.reduceMul, fp_gu_c, fp_gu_s, fp_lose_o, fp_scut_o, fp_tk_o, fp_lrem_o, fp_push_0])))
      | (refine And.intro (fun _ => ?_) ?_ <;> first | (exfalso; omega) | trivial | ((conv => whnf); (try simp only [Int.reduceToNat, Int.toNat_natCast, fp_up_c, fp_up_s, fp_up_i, fp_cp_c, fp_g_s, Nat.reduceBEq, Int.reduceAdd, Int.reduceSub, Int.reduceNeg, Int.reduceMul, fp_gu_c, fp_gu_s, fp_lose_o, fp_scut_o, fp_tk_o, fp_lrem_o, fp_push_0])))
      | (refine And.intro (by simp [fp_rg, fp_up, fp_cp] <;> omega) ?_; (conv => whnf); (try simp only [Int.reduceToNat, Int.toNat_natCast, fp_up_c, fp_up_s, fp_up_i, fp_cp_c, fp_g_s, Nat.reduceBEq, Int.reduceAdd, Int.reduceSub, Int.reduceNeg, Int.reduceMul, fp_gu_c, fp_gu_s, fp_lose_o, fp_scut_o, fp_tk_o, fp_lrem_o, fp_push_0]))
      | fail)
  refine hC _ _ _ _ ⟨_, rfl, ?_⟩
  refine sp_copyFrom (by omega) ?_
  rw [← hG]
  conv => whnf
  (try simp only [Int.reduceToNat, Int.toNat_natCast, fp_up_c, fp_up_s, fp_up_i, fp_cp_c, fp_g_s, Nat.reduceBEq, Int.reduceAdd, Int.reduceSub, Int.reduceNeg, Int.reduceMul, fp_gu_c, fp_gu_s, fp_lose_o, fp_scut_o, fp_tk_o, fp_lrem_o, fp_push_0])
  (repeat' first
      | (refine And.intro (by first | omega | (unfold fp_rg; omega)) ?_; (try intro _); (conv => whnf); (try simp only [Int.reduceToNat, Int.toNat_natCast, fp_up_c, fp_up_s, fp_up_i, fp_cp_c, fp_g_s, Nat.reduceBEq, Int.reduceAdd, Int.reduceSub, Int.reduceNeg, Int.reduceMul, fp_gu_c, fp_gu_s, fp_lose_o, fp_scut_o, fp_tk_o, fp_lrem_o, fp_push_0]))
      | (refine And.intro (fun _ => ?_) (fun _ => ?_) <;> first | (exfalso; omega) | (rename_i hz_; exact absurd trivial hz_) | ((conv => whnf); (try simp only [Int.reduceToNat, Int.toNat_natCast, fp_up_c, fp_up_s, fp_up_i, fp_cp_c, fp_g_s, Nat.reduceBEq, Int.reduceAdd, Int.reduceSub, Int.reduceNeg, Int.reduceMul, fp_gu_c, fp_gu_s, fp_lose_o, fp_scut_o, fp_tk_o, fp_lrem_o, fp_push_0])))
      | (refine And.intro (fun _ => ?_) ?_ <;> first | (exfalso; omega) | trivial | ((conv => whnf); (try simp only [Int.reduceToNat, Int.toNat_natCast, fp_up_c, fp_up_s, fp_up_i, fp_cp_c, fp_g_s, Nat.reduceBEq, Int.reduceAdd, Int.reduceSub, Int.reduceNeg, Int.reduceMul, fp_gu_c, fp_gu_s, fp_lose_o, fp_scut_o, fp_tk_o, fp_lrem_o, fp_push_0])))
      | (refine And.intro (by simp [fp_rg, fp_up, fp_cp] <;> omega) ?_; (conv => whnf); (try simp only [Int.reduceToNat, Int.toNat_natCast, fp_up_c, fp_up_s, fp_up_i, fp_cp_c, fp_g_s, Nat.reduceBEq, Int.reduceAdd, Int.reduceSub, Int.reduceNeg, Int.reduceMul, fp_gu_c, fp_gu_s, fp_lose_o, fp_scut_o, fp_tk_o, fp_lrem_o, fp_push_0]))
      | fail)
  refine hC _ _ _ _ ⟨_, rfl, ?_⟩
  refine sp_hoa (by rw [fp_g_s]; exact hc0) (by rw [fp_g_s]; exact hc) ?_
  rw [fp_g_s, fp_g_g]
  conv => whnf
  (try simp only [Int.reduceToNat, Int.toNat_natCast, fp_up_c, fp_up_s, fp_up_i, fp_cp_c, fp_g_s, Nat.reduceBEq, Int.reduceAdd, Int.reduceSub, Int.reduceNeg, Int.reduceMul, fp_gu_c, fp_gu_s, fp_lose_o, fp_scut_o, fp_tk_o, fp_lrem_o, fp_push_0])
  (repeat' first
      | (refine And.intro (by first | omega | (unfold fp_rg; omega)) ?_; (try intro _); (conv => whnf); (try simp only [Int.reduceToNat, Int.toNat_natCast, fp_up_c, fp_up_s, fp_up_i, fp_cp_c, fp_g_s, Nat.reduceBEq, Int.reduceAdd, Int.reduceSub, Int.reduceNeg, Int.reduceMul, fp_gu_c, fp_gu_s, fp_lose_o, fp_scut_o, fp_tk_o, fp_lrem_o, fp_push_0]))
      | (refine And.intro (fun _ => ?_) (fun _ => ?_) <;> first | (exfalso; omega) | (rename_i hz_; exact absurd trivial hz_) | ((conv => whnf); (try simp only [Int.reduceToNat, Int.toNat_natCast, fp_up_c, fp_up_s, fp_up_i, fp_cp_c, fp_g_s, Nat.reduceBEq, Int.reduceAdd, Int.reduceSub, Int.reduceNeg, Int.reduceMul, fp_gu_c, fp_gu_s, fp_lose_o, fp_scut_o, fp_tk_o, fp_lrem_o, fp_push_0])))
      | (refine And.intro (fun _ => ?_) ?_ <;> first | (exfalso; omega) | trivial | ((conv => whnf); (try simp only [Int.reduceToNat, Int.toNat_natCast, fp_up_c, fp_up_s, fp_up_i, fp_cp_c, fp_g_s, Nat.reduceBEq, Int.reduceAdd, Int.reduceSub, Int.reduceNeg, Int.reduceMul, fp_gu_c, fp_gu_s, fp_lose_o, fp_scut_o, fp_tk_o, fp_lrem_o, fp_push_0])))
      | (refine And.intro (by simp [fp_rg, fp_up, fp_cp] <;> omega) ?_; (conv => whnf); (try simp only [Int.reduceToNat, Int.toNat_natCast, fp_up_c, fp_up_s, fp_up_i, fp_cp_c, fp_g_s, Nat.reduceBEq, Int.reduceAdd, Int.reduceSub, Int.reduceNeg, Int.reduceMul, fp_gu_c, fp_gu_s, fp_lose_o, fp_scut_o, fp_tk_o, fp_lrem_o, fp_push_0]))
      | fail)
  · rename_i hb
    exact h0 hb
  · rename_i hb
    have h2 := h1 hb
    refine hC _ _ _ _ ⟨_, rfl, ?_⟩
    refine sp_take2 (fq_Y_g (by omega) hY) ?_
    rw [fp_g_s, fp_g_n (show 0 ≠ 1 by decide)]
    conv => whnf
    (try simp only [Int.reduceToNat, Int.toNat_natCast, fp_up_c, fp_up_s, fp_up_i, fp_cp_c, fp_g_s, Nat.reduceBEq, Int.reduceAdd, Int.reduceSub, Int.reduceNeg, Int.reduceMul, fp_gu_c, fp_gu_s, fp_lose_o, fp_scut_o, fp_tk_o, fp_lrem_o, fp_push_0])
    (repeat' first
        | (refine And.intro (by first | omega | (unfold fp_rg; omega)) ?_; (try intro _); (conv => whnf); (try simp only [Int.reduceToNat, Int.toNat_natCast, fp_up_c, fp_up_s, fp_up_i, fp_cp_c, fp_g_s, Nat.reduceBEq, Int.reduceAdd, Int.reduceSub, Int.reduceNeg, Int.reduceMul, fp_gu_c, fp_gu_s, fp_lose_o, fp_scut_o, fp_tk_o, fp_lrem_o, fp_push_0]))
        | (refine And.intro (fun _ => ?_) (fun _ => ?_) <;> first | (exfalso; omega) | (rename_i hz_; exact absurd trivial hz_) | ((conv => whnf); (try simp only [Int.reduceToNat, Int.toNat_natCast, fp_up_c, fp_up_s, fp_up_i, fp_cp_c, fp_g_s, Nat.reduceBEq, Int.reduceAdd, Int.reduceSub, Int.reduceNeg, Int.reduceMul, fp_gu_c, fp_gu_s, fp_lose_o, fp_scut_o, fp_tk_o, fp_lrem_o, fp_push_0])))
        | (refine And.intro (fun _ => ?_) ?_ <;> first | (exfalso; omega) | trivial | ((conv => whnf); (try simp only [Int.reduceToNat, Int.toNat_natCast, fp_up_c, fp_up_s, fp_up_i, fp_cp_c, fp_g_s, Nat.reduceBEq, Int.reduceAdd, Int.reduceSub, Int.reduceNeg, Int.reduceMul, fp_gu_c, fp_gu_s, fp_lose_o, fp_scut_o, fp_tk_o, fp_lrem_o, fp_push_0])))
        | (refine And.intro (by simp [fp_rg, fp_up, fp_cp] <;> omega) ?_; (conv => whnf); (try simp only [Int.reduceToNat, Int.toNat_natCast, fp_up_c, fp_up_s, fp_up_i, fp_cp_c, fp_g_s, Nat.reduceBEq, Int.reduceAdd, Int.reduceSub, Int.reduceNeg, Int.reduceMul, fp_gu_c, fp_gu_s, fp_lose_o, fp_scut_o, fp_tk_o, fp_lrem_o, fp_push_0]))
        | fail)
    exact h2
def fq_mt (G : FpG) (f : Nat → Int) (q : Nat) : Prop := ∀ j, j < 8 → G 2 (8 * q + j) = f j
noncomputable def fq_nb (G : FpG) (f : Nat → Int) : Option (Nat × FpG) := match fp_ff (fun q => fp_dc (fq_mt G f q)) (G 1 4).toNat with
  | some r => some (r, G)
  | none => if 10 ≤ G 1 4 then none else some ((G 1 4).toNat, fp_padd G f)
noncomputable def fq_cm (T : Nat → Int) (n : Nat) : Nat → Nat → FpG → Option FpG
  | 0, _, G => some G
  | c + 1, a, G => match fq_nb G (fun j => T (a + j) - 48) with
    | none => none
    | some (r, G1) => if 12 ≤ G1 9 3 then none else fq_cm T n c ((fp_pe T n a).2.1 + 1) (fp_ladd G1 (r : Int) (fp_pe T n a).2.2.1 (fp_pe T n a).2.2.2)
theorem fp_padd_c {G : FpG} {f f' : Nat → Int} (h : ∀ j, j < 8 → f j = f' j) (hn : 0 ≤ G 1 4) : fp_padd G f = fp_padd G f' := by
  funext c i
  unfold fp_padd
  split
  · rfl
  · split
    · exact h _ (by omega)
    · rfl
theorem fp_ec_c {T : Nat → Int} {n : Nat} {H H' : FpH} (h : H' 7 = H 7) : ∀ c k a, fp_ec T n H c k a → fp_ec T n H' c k a
  | 0, _, _, _ => trivial
  | c + 1, k, a, hq => by
    unfold fp_ec at hq ⊢
    rw [h]
    exact ⟨hq.1, fp_ec_c h c _ _ hq.2⟩
theorem fp_ladd_z {G : FpG} {p w t : Int} : fp_ladd G p w t 9 3 = G 9 3 + 1 ∧ fp_ladd G p w t 1 4 = G 1 4 := by
  refine ⟨by simp [fp_ladd], ?_⟩
  simp [fp_ladd]
theorem fp_padd_z {G : FpG} {f : Nat → Int} : fp_padd G f 1 4 = G 1 4 + 1 ∧ fp_padd G f 9 3 = G 9 3 := by
  refine ⟨by simp [fp_padd], by simp [fp_padd]⟩
set_option maxHeartbeats 600000 in
set_option maxRecDepth 100000 in
theorem lp_comeAll {L d n E : Nat} {T : Nat → Int} {Q : FpQ} (hE : E ≤ 8) : ∀ (c k a : Nat) (H : FpH) (l2 : Option FpV), k + c = E → H 7 17 5 = (E : Int) → fp_ec T n H c k a → (0 ≤ H 1 1 4 ∧ H 1 1 4 ≤ 10) → (0 ≤ H 1 9 3 ∧ H 1 9 3 ≤ 12) →
    (fq_cm T n c a (H 1) = none → ∀ X, Q (some (.inl (-3))) (fp_g H 1 X)) → (∀ X, fq_cm T n c a (H 1) = some X → ∀ l2, fp_Wp L (d + 3) 56 125 [some (.inr (7, 14)), some (.inl (E : Int)), l2] [] (fp_g H 1 X) Q) →
    fp_Wp L (d + 3) 56 34 [some (.inr (7, 14)), some (.inl (k : Int)), l2] [] H Q := by
  intro c
  induction c with
  | zero =>
    intro k a H l2 hk h5 hec hp hl hN0 hS
    obtain rfl : k = E := by omega
    have := hS (H 1) rfl l2
    rw [fp_g_i] at this
    refine fp_go 1000 [34, 125] (fun KN KC hN hC => ?_)
    conv => whnf
    (try simp only [h5, Int.reduceToNat, Int.toNat_natCast, fp_up_c, fp_up_s, fp_up_i, fp_cp_c, fp_g_s, Nat.reduceBEq, Int.reduceAdd, Int.reduceSub, Int.reduceNeg, Int.reduceMul, fp_gu_c, fp_gu_s, fp_lose_o, fp_scut_o, fp_tk_o, fp_lrem_o, fp_push_0])
    (repeat' first
        | (refine And.intro (by first | omega | (unfold fp_rg; omega)) ?_; (try intro _); (conv => whnf); (try simp only [h5, Int.reduceToNat, Int.toNat_natCast, fp_up_c, fp_up_s, fp_up_i, fp_cp_c, fp_g_s, Nat.reduceBEq, Int.reduceAdd, Int.reduceSub, Int.reduceNeg, Int.reduceMul, fp_gu_c, fp_gu_s, fp_lose_o, fp_scut_o, fp_tk_o, fp_lrem_o, fp_push_0]))
        | (refine And.intro (fun _ => ?_) (fun _ => ?_) <;> first | (exfalso; omega) | (rename_i hz_; exact absurd trivial hz_) | ((conv => whnf); (try simp only [h5, Int.reduceToNat, Int.toNat_natCast, fp_up_c, fp_up_s, fp_up_i, fp_cp_c, fp_g_s, Nat.reduceBEq, Int.reduceAdd, Int.reduceSub, Int.reduceNeg, Int.reduceMul, fp_gu_c, fp_gu_s, fp_lose_o, fp_scut_o, fp_tk_o, fp_lrem_o, fp_push_0])))
        | (refine And.intro (fun _ => ?_) ?_ <;> first | (exfalso; omega) | trivial | ((conv => whnf); (try simp only [h5, Int.reduceToNat, Int.toNat_natCast, fp_up_c, fp_up_s, fp_up_i, fp_cp_c, fp_g_s, Nat.reduceBEq, Int.reduceAdd, Int.reduceSub, Int.reduceNeg, Int.reduceMul, fp_gu_c, fp_gu_s, fp_lose_o, fp_scut_o, fp_tk_o, fp_lrem_o, fp_push_0])))
        | (refine And.intro (by simp [fp_rg, fp_up, fp_cp] <;> omega) ?_; (conv => whnf); (try simp only [h5, Int.reduceToNat, Int.toNat_natCast, fp_up_c, fp_up_s, fp_up_i, fp_cp_c, fp_g_s, Nat.reduceBEq, Int.reduceAdd, Int.reduceSub, Int.reduceNeg, Int.reduceMul, fp_gu_c, fp_gu_s, fp_lose_o, fp_scut_o, fp_tk_o, fp_lrem_o, fp_push_0]))
        | fail)
    exact hN _ _ _ _ this
  | succ c ih =>
    intro k a H l2 hk h5 hec hp hl hN0 hS
    unfold fp_ec at hec
    obtain ⟨⟨e19, e20, e21⟩, hec⟩ := hec
    simp only [fq_cm] at hN0 hS
    have heq : ∀ q, fp_mat H 1 q (8 * k) ↔ fq_mt (H 1) (fun j => T (a + j) - 48) q := fun q => by
      unfold fp_mat fq_mt
      constructor
      · exact fun h j hj => (h j hj).trans (e19 j hj)
      · exact fun h j hj => (h j hj).trans (e19 j hj).symm
    refine fp_go 1000 [34, 125] (fun KN KC hN hC => ?_)
    conv => whnf
    (try simp only [h5, Int.reduceToNat, Int.toNat_natCast, fp_up_c, fp_up_s, fp_up_i, fp_cp_c, fp_g_s, Nat.reduceBEq, Int.reduceAdd, Int.reduceSub, Int.reduceNeg, Int.reduceMul, fp_gu_c, fp_gu_s, fp_lose_o, fp_scut_o, fp_tk_o, fp_lrem_o, fp_push_0])
    (repeat' first
        | (refine And.intro (by first | omega | (unfold fp_rg; omega)) ?_; (try intro _); (conv => whnf); (try simp only [h5, Int.reduceToNat, Int.toNat_natCast, fp_up_c, fp_up_s, fp_up_i, fp_cp_c, fp_g_s, Nat.reduceBEq, Int.reduceAdd, Int.reduceSub, Int.reduceNeg, Int.reduceMul, fp_gu_c, fp_gu_s, fp_lose_o, fp_scut_o, fp_tk_o, fp_lrem_o, fp_push_0]))
        | (refine And.intro (fun _ => ?_) (fun _ => ?_) <;> first | (exfalso; omega) | (rename_i hz_; exact absurd trivial hz_) | ((conv => whnf); (try simp only [h5, Int.reduceToNat, Int.toNat_natCast, fp_up_c, fp_up_s, fp_up_i, fp_cp_c, fp_g_s, Nat.reduceBEq, Int.reduceAdd, Int.reduceSub, Int.reduceNeg, Int.reduceMul, fp_gu_c, fp_gu_s, fp_lose_o, fp_scut_o, fp_tk_o, fp_lrem_o, fp_push_0])))
        | (refine And.intro (fun _ => ?_) ?_ <;> first | (exfalso; omega) | trivial | ((conv => whnf); (try simp only [h5, Int.reduceToNat, Int.toNat_natCast, fp_up_c, fp_up_s, fp_up_i, fp_cp_c, fp_g_s, Nat.reduceBEq, Int.reduceAdd, Int.reduceSub, Int.reduceNeg, Int.reduceMul, fp_gu_c, fp_gu_s, fp_lose_o, fp_scut_o, fp_tk_o, fp_lrem_o, fp_push_0])))
        | (refine And.intro (by simp [fp_rg, fp_up, fp_cp] <;> omega) ?_; (conv => whnf); (try simp only [h5, Int.reduceToNat, Int.toNat_natCast, fp_up_c, fp_up_s, fp_up_i, fp_cp_c, fp_g_s, Nat.reduceBEq, Int.reduceAdd, Int.reduceSub, Int.reduceNeg, Int.reduceMul, fp_gu_c, fp_gu_s, fp_lose_o, fp_scut_o, fp_tk_o, fp_lrem_o, fp_push_0]))
        | fail)
    rw [show (k : Int) * 8 = ((8 * k : Nat) : Int) by omega]
    refine hC _ _ _ _ ⟨_, rfl, ?_⟩
    refine sp_number hp (by omega) (fun r h1 h2 h3 => ?_) (fun h1 h2 => ?_) (fun h1 h2 => ?_)
    · have e : fq_nb (H 1) (fun j => T (a + j) - 48) = some (r, H 1) := by
        unfold fq_nb
        rw [fp_ff_s _ (show r < (H 1 1 4).toNat by omega) (fp_dc_t ((heq r).mp h2)) (fun q hq => fp_dc_f (fun z => h3 q hq ((heq q).mpr z)))]
      rw [e] at hN0 hS
      simp only at hN0 hS
      conv => whnf
      (try simp only [Int.reduceToNat, Int.toNat_natCast, fp_up_c, fp_up_s, fp_up_i, fp_cp_c, fp_g_s, Nat.reduceBEq, Int.reduceAdd, Int.reduceSub, Int.reduceNeg, Int.reduceMul, fp_gu_c, fp_gu_s, fp_lose_o, fp_scut_o, fp_tk_o, fp_lrem_o, fp_push_0])
      (repeat' first
          | (refine And.intro (by first | omega | (unfold fp_rg; omega)) ?_; (try intro _); (conv => whnf); (try simp only [Int.reduceToNat, Int.toNat_natCast, fp_up_c, fp_up_s, fp_up_i, fp_cp_c, fp_g_s, Nat.reduceBEq, Int.reduceAdd, Int.reduceSub, Int.reduceNeg, Int.reduceMul, fp_gu_c, fp_gu_s, fp_lose_o, fp_scut_o, fp_tk_o, fp_lrem_o, fp_push_0]))
          | (refine And.intro (fun _ => ?_) (fun _ => ?_) <;> first | (exfalso; omega) | (rename_i hz_; exact absurd trivial hz_) | ((conv => whnf); (try simp only [Int.reduceToNat, Int.toNat_natCast, fp_up_c, fp_up_s, fp_up_i, fp_cp_c, fp_g_s, Nat.reduceBEq, Int.reduceAdd, Int.reduceSub, Int.reduceNeg, Int.reduceMul, fp_gu_c, fp_gu_s, fp_lose_o, fp_scut_o, fp_tk_o, fp_lrem_o, fp_push_0])))
          | (refine And.intro (fun _ => ?_) ?_ <;> first | (exfalso; omega) | trivial | ((conv => whnf); (try simp only [Int.reduceToNat, Int.toNat_natCast, fp_up_c, fp_up_s, fp_up_i, fp_cp_c, fp_g_s, Nat.reduceBEq, Int.reduceAdd, Int.reduceSub, Int.reduceNeg, Int.reduceMul, fp_gu_c, fp_gu_s, fp_lose_o, fp_scut_o, fp_tk_o, fp_lrem_o, fp_push_0])))
          | (refine And.intro (by simp [fp_rg, fp_up, fp_cp] <;> omega) ?_; (conv => whnf); (try simp only [Int.reduceToNat, Int.toNat_natCast, fp_up_c, fp_up_s, fp_up_i, fp_cp_c, fp_g_s, Nat.reduceBEq, Int.reduceAdd, Int.reduceSub, Int.reduceNeg, Int.reduceMul, fp_gu_c, fp_gu_s, fp_lose_o, fp_scut_o, fp_tk_o, fp_lrem_o, fp_push_0]))
          | fail)
      refine hC _ _ _ _ ⟨_, rfl, ?_⟩
      refine sp_lfull (fun h4 => ?_) (fun h4 => ?_)
      · rw [if_pos h4] at hN0
        have := hN0 rfl (H 1)
        rw [fp_g_i] at this
        conv => whnf
        (try simp only [Int.reduceToNat, Int.toNat_natCast, fp_up_c, fp_up_s, fp_up_i, fp_cp_c, fp_g_s, Nat.reduceBEq, Int.reduceAdd, Int.reduceSub, Int.reduceNeg, Int.reduceMul, fp_gu_c, fp_gu_s, fp_lose_o, fp_scut_o, fp_tk_o, fp_lrem_o, fp_push_0])
        (repeat' first
            | (refine And.intro (by first | omega | (unfold fp_rg; omega)) ?_; (try intro _); (conv => whnf); (try simp only [Int.reduceToNat, Int.toNat_natCast, fp_up_c, fp_up_s, fp_up_i, fp_cp_c, fp_g_s, Nat.reduceBEq, Int.reduceAdd, Int.reduceSub, Int.reduceNeg, Int.reduceMul, fp_gu_c, fp_gu_s, fp_lose_o, fp_scut_o, fp_tk_o, fp_lrem_o, fp_push_0]))
            | (refine And.intro (fun _ => ?_) (fun _ => ?_) <;> first | (exfalso; omega) | (rename_i hz_; exact absurd trivial hz_) | ((conv => whnf); (try simp only [Int.reduceToNat, Int.toNat_natCast, fp_up_c, fp_up_s, fp_up_i, fp_cp_c, fp_g_s, Nat.reduceBEq, Int.reduceAdd, Int.reduceSub, Int.reduceNeg, Int.reduceMul, fp_gu_c, fp_gu_s, fp_lose_o, fp_scut_o, fp_tk_o, fp_lrem_o, fp_push_0])))
            | (refine And.intro (fun _ => ?_) ?_ <;> first | (exfalso; omega) | trivial | ((conv => whnf); (try simp only [Int.reduceToNat, Int.toNat_natCast, fp_up_c, fp_up_s, fp_up_i, fp_cp_c, fp_g_s, Nat.reduceBEq, Int.reduceAdd, Int.reduceSub, Int.reduceNeg, Int.reduceMul, fp_gu_c, fp_gu_s, fp_lose_o, fp_scut_o, fp_tk_o, fp_lrem_o, fp_push_0])))
            | (refine And.intro (by simp [fp_rg, fp_up, fp_cp] <;> omega) ?_; (conv => whnf); (try simp only [Int.reduceToNat, Int.toNat_natCast, fp_up_c, fp_up_s, fp_up_i, fp_cp_c, fp_g_s, Nat.reduceBEq, Int.reduceAdd, Int.reduceSub, Int.reduceNeg, Int.reduceMul, fp_gu_c, fp_gu_s, fp_lose_o, fp_scut_o, fp_tk_o, fp_lrem_o, fp_push_0]))
            | fail)
        exact this
      · rw [if_neg h4] at hN0 hS
        conv => whnf
        (try simp only [e20, e21, Int.reduceToNat, Int.toNat_natCast, fp_up_c, fp_up_s, fp_up_i, fp_cp_c, fp_g_s, Nat.reduceBEq, Int.reduceAdd, Int.reduceSub, Int.reduceNeg, Int.reduceMul, fp_gu_c, fp_gu_s, fp_lose_o, fp_scut_o, fp_tk_o, fp_lrem_o, fp_push_0])
        (repeat' first
            | (refine And.intro (by first | omega | (unfold fp_rg; omega)) ?_; (try intro _); (conv => whnf); (try simp only [e20, e21, Int.reduceToNat, Int.toNat_natCast, fp_up_c, fp_up_s, fp_up_i, fp_cp_c, fp_g_s, Nat.reduceBEq, Int.reduceAdd, Int.reduceSub, Int.reduceNeg, Int.reduceMul, fp_gu_c, fp_gu_s, fp_lose_o, fp_scut_o, fp_tk_o, fp_lrem_o, fp_push_0]))
            | (refine And.intro (fun _ => ?_) (fun _ => ?_) <;> first | (exfalso; omega) | (rename_i hz_; exact absurd trivial hz_) | ((conv => whnf); (try simp only [e20, e21, Int.reduceToNat, Int.toNat_natCast, fp_up_c, fp_up_s, fp_up_i, fp_cp_c, fp_g_s, Nat.reduceBEq, Int.reduceAdd, Int.reduceSub, Int.reduceNeg, Int.reduceMul, fp_gu_c, fp_gu_s, fp_lose_o, fp_scut_o, fp_tk_o, fp_lrem_o, fp_push_0])))
            | (refine And.intro (fun _ => ?_) ?_ <;> first | (exfalso; omega) | trivial | ((conv => whnf); (try simp only [e20, e21, Int.reduceToNat, Int.toNat_natCast, fp_up_c, fp_up_s, fp_up_i, fp_cp_c, fp_g_s, Nat.reduceBEq, Int.reduceAdd, Int.reduceSub, Int.reduceNeg, Int.reduceMul, fp_gu_c, fp_gu_s, fp_lose_o, fp_scut_o, fp_tk_o, fp_lrem_o, fp_push_0])))
            | (refine And.intro (by simp [fp_rg, fp_up, fp_cp] <;> omega) ?_; (conv => whnf); (try simp only [e20, e21, Int.reduceToNat, Int.toNat_natCast, fp_up_c, fp_up_s, fp_up_i, fp_cp_c, fp_g_s, Nat.reduceBEq, Int.reduceAdd, Int.reduceSub, Int.reduceNeg, Int.reduceMul, fp_gu_c, fp_gu_s, fp_lose_o, fp_scut_o, fp_tk_o, fp_lrem_o, fp_push_0]))
            | fail)
        refine hC _ _ _ _ ⟨_, rfl, ?_⟩
        refine sp_ladd (by omega) ?_
        conv => whnf
        (try simp only [Int.reduceToNat, Int.toNat_natCast, fp_up_c, fp_up_s, fp_up_i, fp_cp_c, fp_g_s, Nat.reduceBEq, Int.reduceAdd, Int.reduceSub, Int.reduceNeg, Int.reduceMul, fp_gu_c, fp_gu_s, fp_lose_o, fp_scut_o, fp_tk_o, fp_lrem_o, fp_push_0])
        (repeat' first
            | (refine And.intro (by first | omega | (unfold fp_rg; omega)) ?_; (try intro _); (conv => whnf); (try simp only [Int.reduceToNat, Int.toNat_natCast, fp_up_c, fp_up_s, fp_up_i, fp_cp_c, fp_g_s, Nat.reduceBEq, Int.reduceAdd, Int.reduceSub, Int.reduceNeg, Int.reduceMul, fp_gu_c, fp_gu_s, fp_lose_o, fp_scut_o, fp_tk_o, fp_lrem_o, fp_push_0]))
            | (refine And.intro (fun _ => ?_) (fun _ => ?_) <;> first | (exfalso; omega) | (rename_i hz_; exact absurd trivial hz_) | ((conv => whnf); (try simp only [Int.reduceToNat, Int.toNat_natCast, fp_up_c, fp_up_s, fp_up_i, fp_cp_c, fp_g_s, Nat.reduceBEq, Int.reduceAdd, Int.reduceSub, Int.reduceNeg, Int.reduceMul, fp_gu_c, fp_gu_s, fp_lose_o, fp_scut_o, fp_tk_o, fp_lrem_o, fp_push_0])))
            | (refine And.intro (fun _ => ?_) ?_ <;> first | (exfalso; omega) | trivial | ((conv => whnf); (try simp only [Int.reduceToNat, Int.toNat_natCast, fp_up_c, fp_up_s, fp_up_i, fp_cp_c, fp_g_s, Nat.reduceBEq, Int.reduceAdd, Int.reduceSub, Int.reduceNeg, Int.reduceMul, fp_gu_c, fp_gu_s, fp_lose_o, fp_scut_o, fp_tk_o, fp_lrem_o, fp_push_0])))
            | (refine And.intro (by simp [fp_rg, fp_up, fp_cp] <;> omega) ?_; (conv => whnf); (try simp only [Int.reduceToNat, Int.toNat_natCast, fp_up_c, fp_up_s, fp_up_i, fp_cp_c, fp_g_s, Nat.reduceBEq, Int.reduceAdd, Int.reduceSub, Int.reduceNeg, Int.reduceMul, fp_gu_c, fp_gu_s, fp_lose_o, fp_scut_o, fp_tk_o, fp_lrem_o, fp_push_0]))
            | fail)
        refine hN _ _ _ _ (ih (k + 1) ((fp_pe T n a).2.1 + 1) _ _ (by omega) (by rw [fp_g_n (by omega)]; exact h5) (fp_ec_c (fp_g_n (by omega)) _ _ _ hec) (by rw [fp_g_s, fp_ladd_z.2]; exact hp) (by rw [fp_g_s, fp_ladd_z.1]; omega) (fun q X => ?_) (fun X q l => ?_))
        · rw [fp_g_s] at q
          rw [fp_g_g]; exact hN0 q X
        · rw [fp_g_s] at q
          rw [fp_g_g]; exact hS X q l
    · have e : fq_nb (H 1) (fun j => T (a + j) - 48) = none := by
        unfold fq_nb
        rw [fp_ff_n _ (fun q hq => fp_dc_f (fun z => h1 q (by omega) ((heq q).mpr z)))]
        exact if_pos (by omega)
      rw [e] at hN0
      have := hN0 rfl (H 1)
      rw [fp_g_i] at this
      conv => whnf
      (try simp only [Int.reduceToNat, Int.toNat_natCast, fp_up_c, fp_up_s, fp_up_i, fp_cp_c, fp_g_s, Nat.reduceBEq, Int.reduceAdd, Int.reduceSub, Int.reduceNeg, Int.reduceMul, fp_gu_c, fp_gu_s, fp_lose_o, fp_scut_o, fp_tk_o, fp_lrem_o, fp_push_0])
      (repeat' first
          | (refine And.intro (by first | omega | (unfold fp_rg; omega)) ?_; (try intro _); (conv => whnf); (try simp only [Int.reduceToNat, Int.toNat_natCast, fp_up_c, fp_up_s, fp_up_i, fp_cp_c, fp_g_s, Nat.reduceBEq, Int.reduceAdd, Int.reduceSub, Int.reduceNeg, Int.reduceMul, fp_gu_c, fp_gu_s, fp_lose_o, fp_scut_o, fp_tk_o, fp_lrem_o, fp_push_0]))
          | (refine And.intro (fun _ => ?_) (fun _ => ?_) <;> first | (exfalso; omega) | (rename_i hz_; exact absurd trivial hz_) | ((conv => whnf); (try simp only [Int.reduceToNat, Int.toNat_natCast, fp_up_c, fp_up_s, fp_up_i, fp_cp_c, fp_g_s, Nat.reduceBEq, Int.reduceAdd, Int.reduceSub, Int.reduceNeg, Int.reduceMul, fp_gu_c, fp_gu_s, fp_lose_o, fp_scut_o, fp_tk_o, fp_lrem_o, fp_push_0])))
          | (refine And.intro (fun _ => ?_) ?_ <;> first | (exfalso; omega) | trivial | ((conv => whnf); (try simp only [Int.reduceToNat, Int.toNat_natCast, fp_up_c, fp_up_s, fp_up_i, fp_cp_c, fp_g_s, Nat.reduceBEq, Int.reduceAdd, Int.reduceSub, Int.reduceNeg, Int.reduceMul, fp_gu_c, fp_gu_s, fp_lose_o, fp_scut_o, fp_tk_o, fp_lrem_o, fp_push_0])))
          | (refine And.intro (by simp [fp_rg, fp_up, fp_cp] <;> omega) ?_; (conv => whnf); (try simp only [Int.reduceToNat, Int.toNat_natCast, fp_up_c, fp_up_s, fp_up_i, fp_cp_c, fp_g_s, Nat.reduceBEq, Int.reduceAdd, Int.reduceSub, Int.reduceNeg, Int.reduceMul, fp_gu_c, fp_gu_s, fp_lose_o, fp_scut_o, fp_tk_o, fp_lrem_o, fp_push_0]))
          | fail)
      exact this
    · have e : fq_nb (H 1) (fun j => T (a + j) - 48) = some ((H 1 1 4).toNat, fp_padd (H 1) (fun j => T (a + j) - 48)) := by
        unfold fq_nb
        rw [fp_ff_n _ (fun q hq => fp_dc_f (fun z => h1 q (by omega) ((heq q).mpr z)))]
        exact if_neg (by omega)
      rw [e] at hN0 hS
      simp only at hN0 hS
      have e2 : fp_padd (H 1) (fun j => H 7 19 (8 * k + j)) = fp_padd (H 1) (fun j => T (a + j) - 48) := fp_padd_c e19 hp.1
      rw [e2]
      have en : (((H 1 1 4).toNat : Nat) : Int) = H 1 1 4 := by omega
      rw [en] at hN0 hS
      have e7 : ∀ (X : FpH) (G : FpG), fp_g X 1 G 7 = X 7 := fun X G => fp_g_n (by omega)
      conv => whnf
      (try simp only [Int.reduceToNat, Int.toNat_natCast, fp_up_c, fp_up_s, fp_up_i, fp_cp_c, fp_g_s, Nat.reduceBEq, Int.reduceAdd, Int.reduceSub, Int.reduceNeg, Int.reduceMul, fp_gu_c, fp_gu_s, fp_lose_o, fp_scut_o, fp_tk_o, fp_lrem_o, fp_push_0])
      (repeat' first
          | (refine And.intro (by first | omega | (unfold fp_rg; omega)) ?_; (try intro _); (conv => whnf); (try simp only [Int.reduceToNat, Int.toNat_natCast, fp_up_c, fp_up_s, fp_up_i, fp_cp_c, fp_g_s, Nat.reduceBEq, Int.reduceAdd, Int.reduceSub, Int.reduceNeg, Int.reduceMul, fp_gu_c, fp_gu_s, fp_lose_o, fp_scut_o, fp_tk_o, fp_lrem_o, fp_push_0]))
          | (refine And.intro (fun _ => ?_) (fun _ => ?_) <;> first | (exfalso; omega) | (rename_i hz_; exact absurd trivial hz_) | ((conv => whnf); (try simp only [Int.reduceToNat, Int.toNat_natCast, fp_up_c, fp_up_s, fp_up_i, fp_cp_c, fp_g_s, Nat.reduceBEq, Int.reduceAdd, Int.reduceSub, Int.reduceNeg, Int.reduceMul, fp_gu_c, fp_gu_s, fp_lose_o, fp_scut_o, fp_tk_o, fp_lrem_o, fp_push_0])))
          | (refine And.intro (fun _ => ?_) ?_ <;> first | (exfalso; omega) | trivial | ((conv => whnf); (try simp only [Int.reduceToNat, Int.toNat_natCast, fp_up_c, fp_up_s, fp_up_i, fp_cp_c, fp_g_s, Nat.reduceBEq, Int.reduceAdd, Int.reduceSub, Int.reduceNeg, Int.reduceMul, fp_gu_c, fp_gu_s, fp_lose_o, fp_scut_o, fp_tk_o, fp_lrem_o, fp_push_0])))
          | (refine And.intro (by simp [fp_rg, fp_up, fp_cp] <;> omega) ?_; (conv => whnf); (try simp only [Int.reduceToNat, Int.toNat_natCast, fp_up_c, fp_up_s, fp_up_i, fp_cp_c, fp_g_s, Nat.reduceBEq, Int.reduceAdd, Int.reduceSub, Int.reduceNeg, Int.reduceMul, fp_gu_c, fp_gu_s, fp_lose_o, fp_scut_o, fp_tk_o, fp_lrem_o, fp_push_0]))
          | fail)
      refine hC _ _ _ _ ⟨_, rfl, ?_⟩
      refine sp_lfull (fun h4 => ?_) (fun h4 => ?_)
      · rw [fp_g_s] at h4
        rw [if_pos h4] at hN0
        have := hN0 rfl (fp_padd (H 1) (fun j => T (a + j) - 48))
        conv => whnf
        (try simp only [Int.reduceToNat, Int.toNat_natCast, fp_up_c, fp_up_s, fp_up_i, fp_cp_c, fp_g_s, Nat.reduceBEq, Int.reduceAdd, Int.reduceSub, Int.reduceNeg, Int.reduceMul, fp_gu_c, fp_gu_s, fp_lose_o, fp_scut_o, fp_tk_o, fp_lrem_o, fp_push_0])
        (repeat' first
            | (refine And.intro (by first | omega | (unfold fp_rg; omega)) ?_; (try intro _); (conv => whnf); (try simp only [Int.reduceToNat, Int.toNat_natCast, fp_up_c, fp_up_s, fp_up_i, fp_cp_c, fp_g_s, Nat.reduceBEq, Int.reduceAdd, Int.reduceSub, Int.reduceNeg, Int.reduceMul, fp_gu_c, fp_gu_s, fp_lose_o, fp_scut_o, fp_tk_o, fp_lrem_o, fp_push_0]))
            | (refine And.intro (fun _ => ?_) (fun _ => ?_) <;> first | (exfalso; omega) | (rename_i hz_; exact absurd trivial hz_) | ((conv => whnf); (try simp only [Int.reduceToNat, Int.toNat_natCast, fp_up_c, fp_up_s, fp_up_i, fp_cp_c, fp_g_s, Nat.reduceBEq, Int.reduceAdd, Int.reduceSub, Int.reduceNeg, Int.reduceMul, fp_gu_c, fp_gu_s, fp_lose_o, fp_scut_o, fp_tk_o, fp_lrem_o, fp_push_0])))
            | (refine And.intro (fun _ => ?_) ?_ <;> first | (exfalso; omega) | trivial | ((conv => whnf); (try simp only [Int.reduceToNat, Int.toNat_natCast, fp_up_c, fp_up_s, fp_up_i, fp_cp_c, fp_g_s, Nat.reduceBEq, Int.reduceAdd, Int.reduceSub, Int.reduceNeg, Int.reduceMul, fp_gu_c, fp_gu_s, fp_lose_o, fp_scut_o, fp_tk_o, fp_lrem_o, fp_push_0])))
            | (refine And.intro (by simp [fp_rg, fp_up, fp_cp] <;> omega) ?_; (conv => whnf); (try simp only [Int.reduceToNat, Int.toNat_natCast, fp_up_c, fp_up_s, fp_up_i, fp_cp_c, fp_g_s, Nat.reduceBEq, Int.reduceAdd, Int.reduceSub, Int.reduceNeg, Int.reduceMul, fp_gu_c, fp_gu_s, fp_lose_o, fp_scut_o, fp_tk_o, fp_lrem_o, fp_push_0]))
            | fail)
        exact this
      · rw [fp_g_s] at h4
        rw [if_neg h4] at hN0 hS
        conv => whnf
        (try simp only [e20, e21, e7, Int.reduceToNat, Int.toNat_natCast, fp_up_c, fp_up_s, fp_up_i, fp_cp_c, fp_g_s, Nat.reduceBEq, Int.reduceAdd, Int.reduceSub, Int.reduceNeg, Int.reduceMul, fp_gu_c, fp_gu_s, fp_lose_o, fp_scut_o, fp_tk_o, fp_lrem_o, fp_push_0])
        (repeat' first
            | (refine And.intro (by first | omega | (unfold fp_rg; omega)) ?_; (try intro _); (conv => whnf); (try simp only [e20, e21, e7, Int.reduceToNat, Int.toNat_natCast, fp_up_c, fp_up_s, fp_up_i, fp_cp_c, fp_g_s, Nat.reduceBEq, Int.reduceAdd, Int.reduceSub, Int.reduceNeg, Int.reduceMul, fp_gu_c, fp_gu_s, fp_lose_o, fp_scut_o, fp_tk_o, fp_lrem_o, fp_push_0]))
            | (refine And.intro (fun _ => ?_) (fun _ => ?_) <;> first | (exfalso; omega) | (rename_i hz_; exact absurd trivial hz_) | ((conv => whnf); (try simp only [e20, e21, e7, Int.reduceToNat, Int.toNat_natCast, fp_up_c, fp_up_s, fp_up_i, fp_cp_c, fp_g_s, Nat.reduceBEq, Int.reduceAdd, Int.reduceSub, Int.reduceNeg, Int.reduceMul, fp_gu_c, fp_gu_s, fp_lose_o, fp_scut_o, fp_tk_o, fp_lrem_o, fp_push_0])))
            | (refine And.intro (fun _ => ?_) ?_ <;> first | (exfalso; omega) | trivial | ((conv => whnf); (try simp only [e20, e21, e7, Int.reduceToNat, Int.toNat_natCast, fp_up_c, fp_up_s, fp_up_i, fp_cp_c, fp_g_s, Nat.reduceBEq, Int.reduceAdd, Int.reduceSub, Int.reduceNeg, Int.reduceMul, fp_gu_c, fp_gu_s, fp_lose_o, fp_scut_o, fp_tk_o, fp_lrem_o, fp_push_0])))
            | (refine And.intro (by simp [fp_rg, fp_up, fp_cp] <;> omega) ?_; (conv => whnf); (try simp only [e20, e21, e7, Int.reduceToNat, Int.toNat_natCast, fp_up_c, fp_up_s, fp_up_i, fp_cp_c, fp_g_s, Nat.reduceBEq, Int.reduceAdd, Int.reduceSub, Int.reduceNeg, Int.reduceMul, fp_gu_c, fp_gu_s, fp_lose_o, fp_scut_o, fp_tk_o, fp_lrem_o, fp_push_0]))
            | fail)
        refine hC _ _ _ _ ⟨_, rfl, ?_⟩
        refine sp_ladd (by rw [fp_g_s, fp_padd_z.2]; rw [fp_padd_z.2] at h4; omega) ?_
        rw [fp_g_s, fp_g_g]
        conv => whnf
        (try simp only [Int.reduceToNat, Int.toNat_natCast, fp_up_c, fp_up_s, fp_up_i, fp_cp_c, fp_g_s, Nat.reduceBEq, Int.reduceAdd, Int.reduceSub, Int.reduceNeg, Int.reduceMul, fp_gu_c, fp_gu_s, fp_lose_o, fp_scut_o, fp_tk_o, fp_lrem_o, fp_push_0])
        (repeat' first
            | (refine And.intro (by first | omega | (unfold fp_rg; omega)) ?_; (try intro _); (conv => whnf); (try simp only [Int.reduceToNat, Int.toNat_natCast, fp_up_c, fp_up_s, fp_up_i, fp_cp_c, fp_g_s, Nat.reduceBEq, Int.reduceAdd, Int.reduceSub, Int.reduceNeg, Int.reduceMul, fp_gu_c, fp_gu_s, fp_lose_o, fp_scut_o, fp_tk_o, fp_lrem_o, fp_push_0]))
            | (refine And.intro (fun _ => ?_) (fun _ => ?_) <;> first | (exfalso; omega) | (rename_i hz_; exact absurd trivial hz_) | ((conv => whnf); (try simp only [Int.reduceToNat, Int.toNat_natCast, fp_up_c, fp_up_s, fp_up_i, fp_cp_c, fp_g_s, Nat.reduceBEq, Int.reduceAdd, Int.reduceSub, Int.reduceNeg, Int.reduceMul, fp_gu_c, fp_gu_s, fp_lose_o, fp_scut_o, fp_tk_o, fp_lrem_o, fp_push_0])))
            | (refine And.intro (fun _ => ?_) ?_ <;> first | (exfalso; omega) | trivial | ((conv => whnf); (try simp only [Int.reduceToNat, Int.toNat_natCast, fp_up_c, fp_up_s, fp_up_i, fp_cp_c, fp_g_s, Nat.reduceBEq, Int.reduceAdd, Int.reduceSub, Int.reduceNeg, Int.reduceMul, fp_gu_c, fp_gu_s, fp_lose_o, fp_scut_o, fp_tk_o, fp_lrem_o, fp_push_0])))
            | (refine And.intro (by simp [fp_rg, fp_up, fp_cp] <;> omega) ?_; (conv => whnf); (try simp only [Int.reduceToNat, Int.toNat_natCast, fp_up_c, fp_up_s, fp_up_i, fp_cp_c, fp_g_s, Nat.reduceBEq, Int.reduceAdd, Int.reduceSub, Int.reduceNeg, Int.reduceMul, fp_gu_c, fp_gu_s, fp_lose_o, fp_scut_o, fp_tk_o, fp_lrem_o, fp_push_0]))
            | fail)
        refine hN _ _ _ _ (ih (k + 1) ((fp_pe T n a).2.1 + 1) _ _ (by omega) (by rw [fp_g_n (by omega)]; exact h5) (fp_ec_c (fp_g_n (by omega)) _ _ _ hec) (by rw [fp_g_s, fp_ladd_z.2, fp_padd_z.1]; omega) (by rw [fp_padd_z.2] at h4; rw [fp_g_s, fp_ladd_z.1, fp_padd_z.2]; omega) (fun q X => ?_) (fun X q l => ?_))
        · rw [fp_g_s] at q
          rw [fp_g_g]; exact hN0 q X
        · rw [fp_g_s] at q
          rw [fp_g_g]; exact hS X q l
