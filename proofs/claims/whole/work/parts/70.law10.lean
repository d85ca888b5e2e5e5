/-! the law: undo -/
theorem fp_pop_n {H : FpH} {g : Nat} (h0 : g ≠ 0) (h7 : g ≠ 7) : fp_pop H g = H g := by unfold fp_pop; rw [if_neg h0, if_neg h7]
theorem fq_REL_u {n : Int} {H : FpH} {k : Nat} (h : fq_REL n H) (hk : H 7 15 2 = ((k + 1 : Nat) : Int)) : fq_REL n (fq_s (fp_up (fp_pop H) 8 22 1 (((k + 1 : Nat) : Int) - 1)) (fq_cpy (k + 1) 0 (H 8 23))) := by
  obtain ⟨a1, a2, a3, a4, a5, a6, a7, ⟨t1, t2, t3, t4⟩, a9⟩ := h
  have hY := a2
  unfold fq_Y at hY
  have hB := fq_I_B a1
  have hk4 : k < 4 := by omega
  obtain ⟨p1, p2⟩ := a5 k hk4 (by omega)
  have hBp := fq_I_B p1
  have e : ∀ g, g ≠ 0 → g ≠ 7 → g ≠ 8 → fq_s (fp_up (fp_pop H) 8 22 1 (((k + 1 : Nat) : Int) - 1)) (fq_cpy (k + 1) 0 (H 8 23)) g = H g := fun g g0 g7 g8 => by
    rw [fq_s_n (by simpa using g8), fp_up_n g8, fp_pop_n g0 g7]
  have e7' : fq_s (fp_up (fp_pop H) 8 22 1 (((k + 1 : Nat) : Int) - 1)) (fq_cpy (k + 1) 0 (H 8 23)) 7 = fp_gu (H 7) 15 2 (H 7 15 2 - 1) := by
    rw [fq_s_n (by rfl), fp_up_n (by omega)]
    unfold fp_pop
    rw [if_neg (by omega), if_pos rfl]
  have e0 : fq_s (fp_up (fp_pop H) 8 22 1 (((k + 1 : Nat) : Int) - 1)) (fq_cpy (k + 1) 0 (H 8 23)) 0 = fp_cpG (H 0) (H (fq_g H k)) := by
    rw [fq_s_n (by rfl), fp_up_n (by omega)]
    unfold fp_pop fq_g
    rw [if_pos rfl, hk]
    have : H 7 15 1 + (((k + 1 : Nat) : Int) - 1) = H 7 15 1 + (k : Int) := by omega
    rw [this]
  have e23 : fq_s (fp_up (fp_pop H) 8 22 1 (((k + 1 : Nat) : Int) - 1)) (fq_cpy (k + 1) 0 (H 8 23)) 8 23 = fq_cpy (k + 1) 0 (H 8 23) := fq_s_8
  have eo : fq_s (fp_up (fp_pop H) 8 22 1 (((k + 1 : Nat) : Int) - 1)) (fq_cpy (k + 1) 0 (H 8 23)) 7 15 1 = H 7 15 1 := by rw [e7']; simp [fp_gu]
  have es : fq_s (fp_up (fp_pop H) 8 22 1 (((k + 1 : Nat) : Int) - 1)) (fq_cpy (k + 1) 0 (H 8 23)) 7 15 2 = (k : Int) := by rw [e7', hk]; simp [fp_gu]
  have e714 : fq_s (fp_up (fp_pop H) 8 22 1 (((k + 1 : Nat) : Int) - 1)) (fq_cpy (k + 1) 0 (H 8 23)) 7 14 3 = H 7 14 3 := by rw [e7']; simp [fp_gu]
  have e717 : fq_s (fp_up (fp_pop H) 8 22 1 (((k + 1 : Nat) : Int) - 1)) (fq_cpy (k + 1) 0 (H 8 23)) 7 17 1 = H 7 17 1 := by rw [e7']; simp [fp_gu]
  have e718 : fq_s (fp_up (fp_pop H) 8 22 1 (((k + 1 : Nat) : Int) - 1)) (fq_cpy (k + 1) 0 (H 8 23)) 7 18 = H 7 18 := by rw [e7']; funext i; simp [fp_gu]
  have e8 : ∀ c x, c ≠ 23 → ¬ (c = 22 ∧ x = 1) → fq_s (fp_up (fp_pop H) 8 22 1 (((k + 1 : Nat) : Int) - 1)) (fq_cpy (k + 1) 0 (H 8 23)) 8 c x = H 8 c x := fun c x hc hx => by
    unfold fq_s fp_up
    rw [if_neg (by omega), if_neg (by omega), fp_pop_n (by omega) (by omega)]
  have e81 : fq_s (fp_up (fp_pop H) 8 22 1 (((k + 1 : Nat) : Int) - 1)) (fq_cpy (k + 1) 0 (H 8 23)) 8 22 1 = (k : Int) := by
    unfold fq_s fp_up
    rw [if_neg (by omega), if_pos (by omega)]
    omega
  have e824 : fq_s (fp_up (fp_pop H) 8 22 1 (((k + 1 : Nat) : Int) - 1)) (fq_cpy (k + 1) 0 (H 8 23)) 8 24 = H 8 24 := by
    funext x; exact e8 24 x (by omega) (by omega)
  refine ⟨?_, ?_, ?_, ?_, fun j hj hj2 => ?_, ?_, fun hj => ?_, ⟨?_, ?_, ?_, ?_⟩, ?_⟩
  · rw [e0]; exact fq_I_cp p1
  · unfold fq_Y; rw [eo, es]; omega
  · rw [e0, e23]
    exact fq_R_cp hBp (fq_cpy_R (f := k + 1) (t := 0) hBp p2)
  · rw [es, e81]
  · rw [es] at hj2
    have eg : fq_g (fq_s (fp_up (fp_pop H) 8 22 1 (((k + 1 : Nat) : Int) - 1)) (fq_cpy (k + 1) 0 (H 8 23))) j = fq_g H j := by
      unfold fq_g; rw [eo]
    have : fq_g H j < 7 ∧ 3 ≤ fq_g H j := by unfold fq_g; omega
    rw [eg, e _ (by omega) (by omega) (by omega), e23]
    obtain ⟨q1, q2⟩ := a5 j hj (by omega)
    exact ⟨q1, fq_I_mv q1 (fun i hi => fq_cpy_o (by omega)) q2⟩
  · rw [e714, e8 22 2 (by omega) (by omega)]; exact a6
  · rw [e714] at hj
    rw [e 2 (by omega) (by omega) (by omega), e23]
    obtain ⟨q1, q2⟩ := a7 hj
    exact ⟨q1, fq_I_mv q1 (fun i hi => fq_cpy_o (by omega)) q2⟩
  · rw [e717]; exact t1
  · rw [e717, e8 22 4 (by omega) (by omega)]; exact t2
  · rw [e718, e824]; exact t3
  · rw [e824]; exact t4
  · unfold fq_Z at a9 ⊢
    rw [e 9 (by omega) (by omega) (by omega)]
    exact a9
set_option maxHeartbeats 600000 in
set_option maxRecDepth 100000 in
theorem st_undo {L d : Nat} {n i : Int} {H : FpH} {Q : FpQ} (hL : L ≤ 2560) (hi : 0 ≤ i ∧ i + 5 ≤ L) (hn : 1 ≤ n ∧ n ≤ 599) (h : fq_REL n H) (hk : fq_K L (d + 8) Q n i H) : fp_Wp L (d + 8) 0 545 (fq_L i) [] H Q := by
  unfold fq_K at hk
  unfold fq_L at hk ⊢
  have e41 := h.2.2.2.1
  have hY := h.2.1
  have hm := fq_REL_hm h
  by_cases hs : H 7 15 2 = 0
  · have hr := hk H (fq_REL_m h (by omega)) rfl
    have hs8 : H 8 22 1 = 0 := e41.trans hs
    refine fp_go 1000 [901] (fun KN KC hN hC => ?_)
    conv => whnf
    (try simp only [Int.reduceToNat, Int.toNat_natCast, fp_up_c, fp_up_s, fp_up_i, fp_cp_c, fp_g_s, Nat.reduceBEq, Int.reduceAdd, Int.reduceSub, Int.reduceNeg, Int.reduceMul, fq_do_8, fq_do_9])
    (repeat' first
        | (refine And.intro (by first | omega | (unfold fp_rg; omega)) ?_; (try intro _); (conv => whnf); (try simp only [Int.reduceToNat, Int.toNat_natCast, fp_up_c, fp_up_s, fp_up_i, fp_cp_c, fp_g_s, Nat.reduceBEq, Int.reduceAdd, Int.reduceSub, Int.reduceNeg, Int.reduceMul, fq_do_8, fq_do_9]))
        | (refine And.intro (fun _ => ?_) (fun _ => ?_) <;> first | (exfalso; omega) | (rename_i hz_; exact absurd trivial hz_) | ((conv => whnf); (try simp only [Int.reduceToNat, Int.toNat_natCast, fp_up_c, fp_up_s, fp_up_i, fp_cp_c, fp_g_s, Nat.reduceBEq, Int.reduceAdd, Int.reduceSub, Int.reduceNeg, Int.reduceMul, fq_do_8, fq_do_9])))
        | (refine And.intro (fun _ => ?_) ?_ <;> first | (exfalso; omega) | trivial | ((conv => whnf); (try simp only [Int.reduceToNat, Int.toNat_natCast, fp_up_c, fp_up_s, fp_up_i, fp_cp_c, fp_g_s, Nat.reduceBEq, Int.reduceAdd, Int.reduceSub, Int.reduceNeg, Int.reduceMul, fq_do_8, fq_do_9])))
        | (refine And.intro (by simp [fp_rg, fp_up, fp_cp] <;> omega) ?_; (conv => whnf); (try simp only [Int.reduceToNat, Int.toNat_natCast, fp_up_c, fp_up_s, fp_up_i, fp_cp_c, fp_g_s, Nat.reduceBEq, Int.reduceAdd, Int.reduceSub, Int.reduceNeg, Int.reduceMul, fq_do_8, fq_do_9]))
        | fail)
    refine hC _ _ _ _ ⟨_, rfl, ?_⟩
    refine sp_undo hY (fun _ => ?_) (fun q => absurd hs (by omega))
    conv => whnf
    (try simp only [Int.reduceToNat, Int.toNat_natCast, fp_up_c, fp_up_s, fp_up_i, fp_cp_c, fp_g_s, Nat.reduceBEq, Int.reduceAdd, Int.reduceSub, Int.reduceNeg, Int.reduceMul, fq_do_8, fq_do_9])
    (repeat' first
        | (refine And.intro (by first | omega | (unfold fp_rg; omega)) ?_; (try intro _); (conv => whnf); (try simp only [Int.reduceToNat, Int.toNat_natCast, fp_up_c, fp_up_s, fp_up_i, fp_cp_c, fp_g_s, Nat.reduceBEq, Int.reduceAdd, Int.reduceSub, Int.reduceNeg, Int.reduceMul, fq_do_8, fq_do_9]))
        | (refine And.intro (fun _ => ?_) (fun _ => ?_) <;> first | (exfalso; omega) | (rename_i hz_; exact absurd trivial hz_) | ((conv => whnf); (try simp only [Int.reduceToNat, Int.toNat_natCast, fp_up_c, fp_up_s, fp_up_i, fp_cp_c, fp_g_s, Nat.reduceBEq, Int.reduceAdd, Int.reduceSub, Int.reduceNeg, Int.reduceMul, fq_do_8, fq_do_9])))
        | (refine And.intro (fun _ => ?_) ?_ <;> first | (exfalso; omega) | trivial | ((conv => whnf); (try simp only [Int.reduceToNat, Int.toNat_natCast, fp_up_c, fp_up_s, fp_up_i, fp_cp_c, fp_g_s, Nat.reduceBEq, Int.reduceAdd, Int.reduceSub, Int.reduceNeg, Int.reduceMul, fq_do_8, fq_do_9])))
        | (refine And.intro (by simp [fp_rg, fp_up, fp_cp] <;> omega) ?_; (conv => whnf); (try simp only [Int.reduceToNat, Int.toNat_natCast, fp_up_c, fp_up_s, fp_up_i, fp_cp_c, fp_g_s, Nat.reduceBEq, Int.reduceAdd, Int.reduceSub, Int.reduceNeg, Int.reduceMul, fq_do_8, fq_do_9]))
        | fail)
    refine hC _ _ _ _ ⟨_, rfl, ?_⟩
    refine sp_mundo hm (fun _ => ?_) (fun m q1 q2 q3 => absurd hs8 (by omega))
    conv => whnf
    (try simp only [Int.reduceToNat, Int.toNat_natCast, fp_up_c, fp_up_s, fp_up_i, fp_cp_c, fp_g_s, Nat.reduceBEq, Int.reduceAdd, Int.reduceSub, Int.reduceNeg, Int.reduceMul, fq_do_8, fq_do_9])
    (repeat' first
        | (refine And.intro (by first | omega | (unfold fp_rg; omega)) ?_; (try intro _); (conv => whnf); (try simp only [Int.reduceToNat, Int.toNat_natCast, fp_up_c, fp_up_s, fp_up_i, fp_cp_c, fp_g_s, Nat.reduceBEq, Int.reduceAdd, Int.reduceSub, Int.reduceNeg, Int.reduceMul, fq_do_8, fq_do_9]))
        | (refine And.intro (fun _ => ?_) (fun _ => ?_) <;> first | (exfalso; omega) | (rename_i hz_; exact absurd trivial hz_) | ((conv => whnf); (try simp only [Int.reduceToNat, Int.toNat_natCast, fp_up_c, fp_up_s, fp_up_i, fp_cp_c, fp_g_s, Nat.reduceBEq, Int.reduceAdd, Int.reduceSub, Int.reduceNeg, Int.reduceMul, fq_do_8, fq_do_9])))
        | (refine And.intro (fun _ => ?_) ?_ <;> first | (exfalso; omega) | trivial | ((conv => whnf); (try simp only [Int.reduceToNat, Int.toNat_natCast, fp_up_c, fp_up_s, fp_up_i, fp_cp_c, fp_g_s, Nat.reduceBEq, Int.reduceAdd, Int.reduceSub, Int.reduceNeg, Int.reduceMul, fq_do_8, fq_do_9])))
        | (refine And.intro (by simp [fp_rg, fp_up, fp_cp] <;> omega) ?_; (conv => whnf); (try simp only [Int.reduceToNat, Int.toNat_natCast, fp_up_c, fp_up_s, fp_up_i, fp_cp_c, fp_g_s, Nat.reduceBEq, Int.reduceAdd, Int.reduceSub, Int.reduceNeg, Int.reduceMul, fq_do_8, fq_do_9]))
        | fail)
    all_goals first | (exfalso; omega) | exact hN _ _ _ _ hr
  · have hY' := hY.2
    obtain ⟨k, hk1⟩ := Int.eq_ofNat_of_zero_le (show 0 ≤ H 7 15 2 - 1 by omega)
    have hk2 : H 7 15 2 = ((k + 1 : Nat) : Int) := by omega
    have e8 : fp_pop H 8 = H 8 := fp_pop_n (by omega) (by omega)
    have hr := hk _ (fq_REL_m (fq_REL_u h hk2) (by omega)) (by rw [fq_s_n (by rfl), fp_up_n (by omega), fp_pop_n (by omega) (by omega)])
    have hs8 : H 8 22 1 = ((k + 1 : Nat) : Int) := e41.trans hk2
    refine fp_go 1000 [901] (fun KN KC hN hC => ?_)
    conv => whnf
    (try simp only [Int.reduceToNat, Int.toNat_natCast, fp_up_c, fp_up_s, fp_up_i, fp_cp_c, fp_g_s, Nat.reduceBEq, Int.reduceAdd, Int.reduceSub, Int.reduceNeg, Int.reduceMul, fq_do_8, fq_do_9])
    (repeat' first
        | (refine And.intro (by first | omega | (unfold fp_rg; omega)) ?_; (try intro _); (conv => whnf); (try simp only [Int.reduceToNat, Int.toNat_natCast, fp_up_c, fp_up_s, fp_up_i, fp_cp_c, fp_g_s, Nat.reduceBEq, Int.reduceAdd, Int.reduceSub, Int.reduceNeg, Int.reduceMul, fq_do_8, fq_do_9]))
        | (refine And.intro (fun _ => ?_) (fun _ => ?_) <;> first | (exfalso; omega) | (rename_i hz_; exact absurd trivial hz_) | ((conv => whnf); (try simp only [Int.reduceToNat, Int.toNat_natCast, fp_up_c, fp_up_s, fp_up_i, fp_cp_c, fp_g_s, Nat.reduceBEq, Int.reduceAdd, Int.reduceSub, Int.reduceNeg, Int.reduceMul, fq_do_8, fq_do_9])))
        | (refine And.intro (fun _ => ?_) ?_ <;> first | (exfalso; omega) | trivial | ((conv => whnf); (try simp only [Int.reduceToNat, Int.toNat_natCast, fp_up_c, fp_up_s, fp_up_i, fp_cp_c, fp_g_s, Nat.reduceBEq, Int.reduceAdd, Int.reduceSub, Int.reduceNeg, Int.reduceMul, fq_do_8, fq_do_9])))
        | (refine And.intro (by simp [fp_rg, fp_up, fp_cp] <;> omega) ?_; (conv => whnf); (try simp only [Int.reduceToNat, Int.toNat_natCast, fp_up_c, fp_up_s, fp_up_i, fp_cp_c, fp_g_s, Nat.reduceBEq, Int.reduceAdd, Int.reduceSub, Int.reduceNeg, Int.reduceMul, fq_do_8, fq_do_9]))
        | fail)
    refine hC _ _ _ _ ⟨_, rfl, ?_⟩
    refine sp_undo hY (fun q => absurd q hs) (fun _ => ?_)
    conv => whnf
    (try simp only [Int.reduceToNat, Int.toNat_natCast, fp_up_c, fp_up_s, fp_up_i, fp_cp_c, fp_g_s, Nat.reduceBEq, Int.reduceAdd, Int.reduceSub, Int.reduceNeg, Int.reduceMul, fq_do_8, fq_do_9])
    (repeat' first
        | (refine And.intro (by first | omega | (unfold fp_rg; omega)) ?_; (try intro _); (conv => whnf); (try simp only [Int.reduceToNat, Int.toNat_natCast, fp_up_c, fp_up_s, fp_up_i, fp_cp_c, fp_g_s, Nat.reduceBEq, Int.reduceAdd, Int.reduceSub, Int.reduceNeg, Int.reduceMul, fq_do_8, fq_do_9]))
        | (refine And.intro (fun _ => ?_) (fun _ => ?_) <;> first | (exfalso; omega) | (rename_i hz_; exact absurd trivial hz_) | ((conv => whnf); (try simp only [Int.reduceToNat, Int.toNat_natCast, fp_up_c, fp_up_s, fp_up_i, fp_cp_c, fp_g_s, Nat.reduceBEq, Int.reduceAdd, Int.reduceSub, Int.reduceNeg, Int.reduceMul, fq_do_8, fq_do_9])))
        | (refine And.intro (fun _ => ?_) ?_ <;> first | (exfalso; omega) | trivial | ((conv => whnf); (try simp only [Int.reduceToNat, Int.toNat_natCast, fp_up_c, fp_up_s, fp_up_i, fp_cp_c, fp_g_s, Nat.reduceBEq, Int.reduceAdd, Int.reduceSub, Int.reduceNeg, Int.reduceMul, fq_do_8, fq_do_9])))
        | (refine And.intro (by simp [fp_rg, fp_up, fp_cp] <;> omega) ?_; (conv => whnf); (try simp only [Int.reduceToNat, Int.toNat_natCast, fp_up_c, fp_up_s, fp_up_i, fp_cp_c, fp_g_s, Nat.reduceBEq, Int.reduceAdd, Int.reduceSub, Int.reduceNeg, Int.reduceMul, fq_do_8, fq_do_9]))
        | fail)
    refine hC _ _ _ _ ⟨_, rfl, ?_⟩
    refine sp_mundo (by rw [e8]; exact hm) (fun q => absurd (by rw [e8] at q; exact q) (show ¬ H 8 22 1 = 0 by omega)) (fun m q1 q2 q3 => ?_)
    rw [e8] at q1 ⊢
    have hmk : m = k + 1 := by omega
    subst hmk
    rw [hk2]
    conv => whnf
    (try simp only [Int.reduceToNat, Int.toNat_natCast, fp_up_c, fp_up_s, fp_up_i, fp_cp_c, fp_g_s, Nat.reduceBEq, Int.reduceAdd, Int.reduceSub, Int.reduceNeg, Int.reduceMul, fq_do_8, fq_do_9])
    (repeat' first
        | (refine And.intro (by first | omega | (unfold fp_rg; omega)) ?_; (try intro _); (conv => whnf); (try simp only [Int.reduceToNat, Int.toNat_natCast, fp_up_c, fp_up_s, fp_up_i, fp_cp_c, fp_g_s, Nat.reduceBEq, Int.reduceAdd, Int.reduceSub, Int.reduceNeg, Int.reduceMul, fq_do_8, fq_do_9]))
        | (refine And.intro (fun _ => ?_) (fun _ => ?_) <;> first | (exfalso; omega) | (rename_i hz_; exact absurd trivial hz_) | ((conv => whnf); (try simp only [Int.reduceToNat, Int.toNat_natCast, fp_up_c, fp_up_s, fp_up_i, fp_cp_c, fp_g_s, Nat.reduceBEq, Int.reduceAdd, Int.reduceSub, Int.reduceNeg, Int.reduceMul, fq_do_8, fq_do_9])))
        | (refine And.intro (fun _ => ?_) ?_ <;> first | (exfalso; omega) | trivial | ((conv => whnf); (try simp only [Int.reduceToNat, Int.toNat_natCast, fp_up_c, fp_up_s, fp_up_i, fp_cp_c, fp_g_s, Nat.reduceBEq, Int.reduceAdd, Int.reduceSub, Int.reduceNeg, Int.reduceMul, fq_do_8, fq_do_9])))
        | (refine And.intro (by simp [fp_rg, fp_up, fp_cp] <;> omega) ?_; (conv => whnf); (try simp only [Int.reduceToNat, Int.toNat_natCast, fp_up_c, fp_up_s, fp_up_i, fp_cp_c, fp_g_s, Nat.reduceBEq, Int.reduceAdd, Int.reduceSub, Int.reduceNeg, Int.reduceMul, fq_do_8, fq_do_9]))
        | fail)
    all_goals first | (exfalso; omega) | exact hN _ _ _ _ hr
