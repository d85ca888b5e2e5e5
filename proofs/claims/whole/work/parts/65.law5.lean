/-! the law: keep -/
theorem fq_REL_k {n : Int} {H : FpH} (h : fq_REL n H) : fq_REL n (fq_s (fp_up (fp_up (fp_g H 2 (fp_cpG (H 2) (H 0))) 7 14 3 1) 8 22 2 1) (fq_cpy 0 5 (H 8 23))) := by
  obtain ⟨a1, a2, a3, a4, a5, a6, a7, ⟨t1, t2, t3, t4⟩, a9⟩ := h
  have hB := fq_I_B a1
  have e : ∀ g, g ≠ 2 → g ≠ 7 → g ≠ 8 → fq_s (fp_up (fp_up (fp_g H 2 (fp_cpG (H 2) (H 0))) 7 14 3 1) 8 22 2 1) (fq_cpy 0 5 (H 8 23)) g = H g := fun g g2 g7 g8 => by
    rw [fq_s_n (by simpa using g8), fp_up_n g8, fp_up_n g7, fp_g_n g2]
  have e7 : ∀ c x, c ≠ 14 → fq_s (fp_up (fp_up (fp_g H 2 (fp_cpG (H 2) (H 0))) 7 14 3 1) 8 22 2 1) (fq_cpy 0 5 (H 8 23)) 7 c x = H 7 c x := fun c x hc => by
    simp [fq_s, fp_up, fp_g, hc]
  have e23 : fq_s (fp_up (fp_up (fp_g H 2 (fp_cpG (H 2) (H 0))) 7 14 3 1) 8 22 2 1) (fq_cpy 0 5 (H 8 23)) 8 23 = fq_cpy 0 5 (H 8 23) := fq_s_8
  have e2 : fq_s (fp_up (fp_up (fp_g H 2 (fp_cpG (H 2) (H 0))) 7 14 3 1) 8 22 2 1) (fq_cpy 0 5 (H 8 23)) 2 = fp_cpG (H 2) (H 0) := by
    rw [fq_s_n (by rfl), fp_up_n (by omega), fp_up_n (by omega), fp_g_s]
  have eg : ∀ k, fq_g (fq_s (fp_up (fp_up (fp_g H 2 (fp_cpG (H 2) (H 0))) 7 14 3 1) 8 22 2 1) (fq_cpy 0 5 (H 8 23))) k = fq_g H k := fun k => by
    unfold fq_g; rw [e7 15 1 (by decide)]
  refine ⟨?_, ?_, ?_, ?_, fun k hk hk2 => ?_, ?_, fun hk => ?_, ⟨?_, ?_, ?_, ?_⟩, ?_⟩
  · rw [e 0 (by omega) (by omega) (by omega)]; exact a1
  · unfold fq_Y at a2 ⊢; rw [e7 15 1 (by decide), e7 15 2 (by decide)]; exact a2
  · rw [e 0 (by omega) (by omega) (by omega), e23]
    exact fq_I_mv a1 (fun i hi => fq_cpy_o (by omega)) a3
  · rw [e7 15 2 (by decide)]
    simp [fq_s, fp_up, fp_g]
    exact a4
  · rw [e7 15 2 (by decide)] at hk2
    have : fq_g H k < 7 ∧ 3 ≤ fq_g H k := by unfold fq_g; omega
    rw [eg, e _ (by omega) (by omega) (by omega), e23]
    obtain ⟨q1, q2⟩ := a5 k hk hk2
    exact ⟨q1, fq_I_mv q1 (fun i hi => fq_cpy_o (by omega)) q2⟩
  · simp [fq_s, fp_up]
  · rw [e2, e23]
    exact ⟨fq_I_cp a1, fq_R_cp hB (fq_cpy_R (f := 0) (t := 5) hB a3)⟩
  · rw [e7 17 1 (by decide)]; exact t1
  · rw [e7 17 1 (by decide)]
    simp [fq_s, fp_up, fp_g]
    exact t2
  · funext z
    rw [e7 18 z (by decide)]
    simp [fq_s, fp_up, fp_g]
    exact congrFun t3 z
  · intro z
    simp [fq_s, fp_up, fp_g]
    exact t4 z
  · unfold fq_Z at a9 ⊢
    rw [e 9 (by omega) (by omega) (by omega)]
    exact a9
set_option maxHeartbeats 600000 in
set_option maxRecDepth 100000 in
theorem st_keep {L d : Nat} {n i : Int} {H : FpH} {Q : FpQ} (hL : L ≤ 2560) (hi : 0 ≤ i ∧ i + 5 ≤ L) (hn : 1 ≤ n ∧ n ≤ 599) (h : fq_REL n H) (hk : fq_K L (d + 8) Q n i H) : fp_Wp L (d + 8) 0 558 (fq_L i) [] H Q := by
  unfold fq_K at hk
  unfold fq_L at hk ⊢
  have hr := hk _ (fq_REL_m (fq_REL_k h) (by omega)) (by rw [fq_s_n (by rfl), fp_up_n (by omega), fp_up_n (by omega), fp_g_n (by omega)])
  have e8 : fp_up (fp_g H 2 (fp_cpG (H 2) (H 0))) 7 14 3 1 8 23 = H 8 23 := by rw [fp_up_n (by omega), fp_g_n (by omega)]
  refine fp_go 1000 [901] (fun KN KC hN hC => ?_)
  conv => whnf
  (try simp only [Int.reduceToNat, Int.toNat_natCast, fp_up_c, fp_up_s, fp_up_i, fp_cp_c, fp_g_s, Nat.reduceBEq, Int.reduceAdd, Int.reduceSub, Int.reduceNeg, Int.reduceMul, fq_do_8, fq_do_9])
  (repeat' first
      | (refine And.intro (by first | omega | (unfold fp_rg; omega)) ?_; (try intro _); (conv => whnf); (try simp only [Int.reduceToNat, Int.toNat_natCast, fp_up_c, fp_up_s, fp_up_i, fp_cp_c, fp_g_s, Nat.reduceBEq, Int.reduceAdd, Int.reduceSub, Int.reduceNeg, Int.reduceMul, fq_do_8, fq_do_9]))
      | (refine And.intro (fun _ => ?_) (fun _ => ?_) <;> first | (exfalso; omega) | (rename_i hz_; exact absurd trivial hz_) | ((conv => whnf); (try simp only [Int.reduceToNat, Int.toNat_natCast, fp_up_c, fp_up_s, fp_up_i, fp_cp_c, fp_g_s, Nat.reduceBEq, Int.reduceAdd, Int.reduceSub, Int.reduceNeg, Int.reduceMul, fq_do_8, fq_do_9])))
      | (refine And.intro (fun _ => ?_) ?_ <;> first | (exfalso; omega) | trivial | ((conv => whnf); (try simp only [Int.reduceToNat, Int.toNat_natCast, fp_up_c, fp_up_s, fp_up_i, fp_cp_c, fp_g_s, Nat.reduceBEq, Int.reduceAdd, Int.reduceSub, Int.reduceNeg, Int.reduceMul, fq_do_8, fq_do_9])))
      | (refine And.intro (by simp [fp_rg, fp_up, fp_cp] <;> omega) ?_; (conv => whnf); (try simp only [Int.reduceToNat, Int.toNat_natCast, fp_up_c, fp_up_s, fp_up_i, fp_cp_c, fp_g_s, Nat.reduceBEq, Int.reduceAdd, Int.reduceSub, Int.reduceNeg, Int.reduceMul, fq_do_8, fq_do_9]))
      | fail)
  refine hC _ _ _ _ ⟨_, rfl, ?_⟩
  refine sp_keep ?_
  conv => whnf
  (try simp only [Int.reduceToNat, Int.toNat_natCast, fp_up_c, fp_up_s, fp_up_i, fp_cp_c, fp_g_s, Nat.reduceBEq, Int.reduceAdd, Int.reduceSub, Int.reduceNeg, Int.reduceMul, fq_do_8, fq_do_9])
  (repeat' first
      | (refine And.intro (by first | omega | (unfold fp_rg; omega)) ?_; (try intro _); (conv => whnf); (try simp only [Int.reduceToNat, Int.toNat_natCast, fp_up_c, fp_up_s, fp_up_i, fp_cp_c, fp_g_s, Nat.reduceBEq, Int.reduceAdd, Int.reduceSub, Int.reduceNeg, Int.reduceMul, fq_do_8, fq_do_9]))
      | (refine And.intro (fun _ => ?_) (fun _ => ?_) <;> first | (exfalso; omega) | (rename_i hz_; exact absurd trivial hz_) | ((conv => whnf); (try simp only [Int.reduceToNat, Int.toNat_natCast, fp_up_c, fp_up_s, fp_up_i, fp_cp_c, fp_g_s, Nat.reduceBEq, Int.reduceAdd, Int.reduceSub, Int.reduceNeg, Int.reduceMul, fq_do_8, fq_do_9])))
      | (refine And.intro (fun _ => ?_) ?_ <;> first | (exfalso; omega) | trivial | ((conv => whnf); (try simp only [Int.reduceToNat, Int.toNat_natCast, fp_up_c, fp_up_s, fp_up_i, fp_cp_c, fp_g_s, Nat.reduceBEq, Int.reduceAdd, Int.reduceSub, Int.reduceNeg, Int.reduceMul, fq_do_8, fq_do_9])))
      | (refine And.intro (by simp [fp_rg, fp_up, fp_cp] <;> omega) ?_; (conv => whnf); (try simp only [Int.reduceToNat, Int.toNat_natCast, fp_up_c, fp_up_s, fp_up_i, fp_cp_c, fp_g_s, Nat.reduceBEq, Int.reduceAdd, Int.reduceSub, Int.reduceNeg, Int.reduceMul, fq_do_8, fq_do_9]))
      | fail)
  refine hC _ _ _ _ ⟨_, rfl, ?_⟩
  refine sp_mkeep (G := H 0) (by rw [e8]; exact h.2.2.1) ?_
  rw [e8]
  conv => whnf
  (try simp only [Int.reduceToNat, Int.toNat_natCast, fp_up_c, fp_up_s, fp_up_i, fp_cp_c, fp_g_s, Nat.reduceBEq, Int.reduceAdd, Int.reduceSub, Int.reduceNeg, Int.reduceMul, fq_do_8, fq_do_9])
  (repeat' first
      | (refine And.intro (by first | omega | (unfold fp_rg; omega)) ?_; (try intro _); (conv => whnf); (try simp only [Int.reduceToNat, Int.toNat_natCast, fp_up_c, fp_up_s, fp_up_i, fp_cp_c, fp_g_s, Nat.reduceBEq, Int.reduceAdd, Int.reduceSub, Int.reduceNeg, Int.reduceMul, fq_do_8, fq_do_9]))
      | (refine And.intro (fun _ => ?_) (fun _ => ?_) <;> first | (exfalso; omega) | (rename_i hz_; exact absurd trivial hz_) | ((conv => whnf); (try simp only [Int.reduceToNat, Int.toNat_natCast, fp_up_c, fp_up_s, fp_up_i, fp_cp_c, fp_g_s, Nat.reduceBEq, Int.reduceAdd, Int.reduceSub, Int.reduceNeg, Int.reduceMul, fq_do_8, fq_do_9])))
      | (refine And.intro (fun _ => ?_) ?_ <;> first | (exfalso; omega) | trivial | ((conv => whnf); (try simp only [Int.reduceToNat, Int.toNat_natCast, fp_up_c, fp_up_s, fp_up_i, fp_cp_c, fp_g_s, Nat.reduceBEq, Int.reduceAdd, Int.reduceSub, Int.reduceNeg, Int.reduceMul, fq_do_8, fq_do_9])))
      | (refine And.intro (by simp [fp_rg, fp_up, fp_cp] <;> omega) ?_; (conv => whnf); (try simp only [Int.reduceToNat, Int.toNat_natCast, fp_up_c, fp_up_s, fp_up_i, fp_cp_c, fp_g_s, Nat.reduceBEq, Int.reduceAdd, Int.reduceSub, Int.reduceNeg, Int.reduceMul, fq_do_8, fq_do_9]))
      | fail)
  all_goals first | (exfalso; omega) | exact hN _ _ _ _ hr
