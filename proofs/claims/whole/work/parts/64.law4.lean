/-! the law: turn, keep -/
set_option maxHeartbeats 600000 in
set_option maxRecDepth 100000 in
theorem st_turn {L d : Nat} {n i : Int} {H : FpH} {Q : FpQ} (hL : L ≤ 2560) (hi : 0 ≤ i ∧ i + 5 ≤ L) (hn : 1 ≤ n ∧ n ≤ 599) (h : fq_REL n H) (hk : fq_K L (d + 8) Q n i H) : fp_Wp L (d + 8) 0 425 (fq_L i) [] H Q := by
  unfold fq_K at hk
  unfold fq_L at hk ⊢
  refine fp_go 1000 [901] (fun KN KC hN hC => ?_)
  conv => whnf
  (try simp only [Int.reduceToNat, Int.toNat_natCast, fp_up_c, fp_up_s, fp_up_i, fp_cp_c, fp_g_s, Nat.reduceBEq, Int.reduceAdd, Int.reduceSub, Int.reduceNeg, Int.reduceMul, fq_do_8, fq_do_9])
  (repeat' first
      | (refine And.intro (by first | omega | (unfold fp_rg; omega)) ?_; (try intro _); (conv => whnf); (try simp only [Int.reduceToNat, Int.toNat_natCast, fp_up_c, fp_up_s, fp_up_i, fp_cp_c, fp_g_s, Nat.reduceBEq, Int.reduceAdd, Int.reduceSub, Int.reduceNeg, Int.reduceMul, fq_do_8, fq_do_9]))
      | (refine And.intro (fun _ => ?_) (fun _ => ?_) <;> first | (exfalso; omega) | (rename_i hz_; exact absurd trivial hz_) | ((conv => whnf); (try simp only [Int.reduceToNat, Int.toNat_natCast, fp_up_c, fp_up_s, fp_up_i, fp_cp_c, fp_g_s, Nat.reduceBEq, Int.reduceAdd, Int.reduceSub, Int.reduceNeg, Int.reduceMul, fq_do_8, fq_do_9])))
      | (refine And.intro (fun _ => ?_) ?_ <;> first | (exfalso; omega) | trivial | ((conv => whnf); (try simp only [Int.reduceToNat, Int.toNat_natCast, fp_up_c, fp_up_s, fp_up_i, fp_cp_c, fp_g_s, Nat.reduceBEq, Int.reduceAdd, Int.reduceSub, Int.reduceNeg, Int.reduceMul, fq_do_8, fq_do_9])))
      | (refine And.intro (by simp [fp_rg, fp_up, fp_cp] <;> omega) ?_; (conv => whnf); (try simp only [Int.reduceToNat, Int.toNat_natCast, fp_up_c, fp_up_s, fp_up_i, fp_cp_c, fp_g_s, Nat.reduceBEq, Int.reduceAdd, Int.reduceSub, Int.reduceNeg, Int.reduceMul, fq_do_8, fq_do_9]))
      | fail)
  all_goals
    refine hC _ _ _ _ ⟨_, rfl, ?_⟩
    refine sp_turn ⟨hn.1, by omega⟩ h.1 h.2.1 ?_
    conv => whnf
    (try simp only [Int.reduceToNat, Int.toNat_natCast, fp_up_c, fp_up_s, fp_up_i, fp_cp_c, fp_g_s, Nat.reduceBEq, Int.reduceAdd, Int.reduceSub, Int.reduceNeg, Int.reduceMul, fq_do_8, fq_do_9])
    (repeat' first
        | (refine And.intro (by first | omega | (unfold fp_rg; omega)) ?_; (try intro _); (conv => whnf); (try simp only [Int.reduceToNat, Int.toNat_natCast, fp_up_c, fp_up_s, fp_up_i, fp_cp_c, fp_g_s, Nat.reduceBEq, Int.reduceAdd, Int.reduceSub, Int.reduceNeg, Int.reduceMul, fq_do_8, fq_do_9]))
        | (refine And.intro (fun _ => ?_) (fun _ => ?_) <;> first | (exfalso; omega) | (rename_i hz_; exact absurd trivial hz_) | ((conv => whnf); (try simp only [Int.reduceToNat, Int.toNat_natCast, fp_up_c, fp_up_s, fp_up_i, fp_cp_c, fp_g_s, Nat.reduceBEq, Int.reduceAdd, Int.reduceSub, Int.reduceNeg, Int.reduceMul, fq_do_8, fq_do_9])))
        | (refine And.intro (fun _ => ?_) ?_ <;> first | (exfalso; omega) | trivial | ((conv => whnf); (try simp only [Int.reduceToNat, Int.toNat_natCast, fp_up_c, fp_up_s, fp_up_i, fp_cp_c, fp_g_s, Nat.reduceBEq, Int.reduceAdd, Int.reduceSub, Int.reduceNeg, Int.reduceMul, fq_do_8, fq_do_9])))
        | (refine And.intro (by simp [fp_rg, fp_up, fp_cp] <;> omega) ?_; (conv => whnf); (try simp only [Int.reduceToNat, Int.toNat_natCast, fp_up_c, fp_up_s, fp_up_i, fp_cp_c, fp_g_s, Nat.reduceBEq, Int.reduceAdd, Int.reduceSub, Int.reduceNeg, Int.reduceMul, fq_do_8, fq_do_9]))
        | fail)
    all_goals first | (exfalso; omega) | skip
    refine hC _ _ _ _ ⟨_, rfl, ?_⟩
    refine sp_mturn (G := H 0) ⟨hn.1, by omega⟩ h.1 (by rw [fq_do_8]; exact h.2.2.1) (by rw [fq_do_8]; exact fq_REL_hm h) (fun M' hM => ?_)
    have hr := hk _ (fq_REL_do h (fun G' e => fq_Ia_turn hn.1 h.1 e) hM) (by rw [fp_g_n (by omega)]; exact fq_do_9)
    conv => whnf
    (try simp only [Int.reduceToNat, Int.toNat_natCast, fp_up_c, fp_up_s, fp_up_i, fp_cp_c, fp_g_s, Nat.reduceBEq, Int.reduceAdd, Int.reduceSub, Int.reduceNeg, Int.reduceMul, fq_do_8, fq_do_9])
    (repeat' first
        | (refine And.intro (by first | omega | (unfold fp_rg; omega)) ?_; (try intro _); (conv => whnf); (try simp only [Int.reduceToNat, Int.toNat_natCast, fp_up_c, fp_up_s, fp_up_i, fp_cp_c, fp_g_s, Nat.reduceBEq, Int.reduceAdd, Int.reduceSub, Int.reduceNeg, Int.reduceMul, fq_do_8, fq_do_9]))
        | (refine And.intro (fun _ => ?_) (fun _ => ?_) <;> first | (exfalso; omega) | (rename_i hz_; exact absurd trivial hz_) | ((conv => whnf); (try simp only [Int.reduceToNat, Int.toNat_natCast, fp_up_c, fp_up_s, fp_up_i, fp_cp_c, fp_g_s, Nat.reduceBEq, Int.reduceAdd, Int.reduceSub, Int.reduceNeg, Int.reduceMul, fq_do_8, fq_do_9])))
        | (refine And.intro (fun _ => ?_) ?_ <;> first | (exfalso; omega) | trivial | ((conv => whnf); (try simp only [Int.reduceToNat, Int.toNat_natCast, fp_up_c, fp_up_s, fp_up_i, fp_cp_c, fp_g_s, Nat.reduceBEq, Int.reduceAdd, Int.reduceSub, Int.reduceNeg, Int.reduceMul, fq_do_8, fq_do_9])))
        | (refine And.intro (by simp [fp_rg, fp_up, fp_cp] <;> omega) ?_; (conv => whnf); (try simp only [Int.reduceToNat, Int.toNat_natCast, fp_up_c, fp_up_s, fp_up_i, fp_cp_c, fp_g_s, Nat.reduceBEq, Int.reduceAdd, Int.reduceSub, Int.reduceNeg, Int.reduceMul, fq_do_8, fq_do_9]))
        | fail)
    all_goals first | (exfalso; omega) | exact hN _ _ _ _ hr
