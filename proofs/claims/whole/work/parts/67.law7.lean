/-! the law: ifCut -/
set_option maxHeartbeats 600000 in
set_option maxRecDepth 100000 in
theorem st_ifCut {L d : Nat} {n i : Int} {H : FpH} {Q : FpQ} (hL : L ≤ 2560) (hi : 0 ≤ i ∧ i + 5 ≤ L) (hn : 1 ≤ n ∧ n ≤ 599) (h : fq_REL n H) (hk : fq_K L (d + 8) Q n i H) : fp_Wp L (d + 8) 0 759 (fq_L i) [] H Q := by
  unfold fq_K at hk
  unfold fq_L at hk ⊢
  have hB := fq_I_B h.1
  have e : ∀ c i, fp_rel c i → fp_cpG (H 1) (H 0) c i = H 0 c i := fun c i hr => fp_cpG_e hr
  have hwe : ∀ (f : Int) (p' s' : Nat), (p' : Int) < H 0 1 4 → (s' : Int) < H 0 6 2 → fp_why (fp_cpG (H 1) (H 0)) p' s' f = fp_why (H 0) p' s' f := by
    intro f p' s' hp hs
    have b1 := hB.1
    have b2 := hB.2.1
    unfold fp_why fp_tkn
    rw [e 13 2 (by unfold fp_rel; omega), e 8 s' (by unfold fp_rel; omega), e 7 s' (by unfold fp_rel; omega), e 13 0 (by unfold fp_rel; omega), e 13 1 (by unfold fp_rel; omega)]
    rw [fp_mx_c (f := fun j => fp_cpG (H 1) (H 0) 2 (8 * p' + j)) (f' := fun j => H 0 2 (8 * p' + j)) 8 (fun j hj => e 2 _ (by unfold fp_rel; omega))]
  have e8 : ∀ X, fp_g H 1 X 8 = H 8 := fun X => fp_g_n (by omega)
  have e9 : ∀ X, fp_g H 1 X 9 = H 9 := fun X => fp_g_n (by omega)
  have hcl : ∀ X, fq_cl H (fp_g H 1 X) := fun X => ⟨fun g g1 _ => fp_g_n g1, by rw [fp_g_n (by omega)], by rw [fp_g_n (by omega)], by rw [fp_g_n (by omega)], by rw [fp_g_n (by omega)]⟩
  refine fp_go 1000 [901] (fun KN KC hN hC => ?_)
  conv => whnf
  (try simp only [Int.reduceToNat, Int.toNat_natCast, fp_up_c, fp_up_s, fp_up_i, fp_cp_c, fp_g_s, Nat.reduceBEq, Int.reduceAdd, Int.reduceSub, Int.reduceNeg, Int.reduceMul, fq_do_8, fq_do_9])
  (repeat' first
      | (refine And.intro (by first | omega | (unfold fp_rg; omega)) ?_; (try intro _); (conv => whnf); (try simp only [Int.reduceToNat, Int.toNat_natCast, fp_up_c, fp_up_s, fp_up_i, fp_cp_c, fp_g_s, Nat.reduceBEq, Int.reduceAdd, Int.reduceSub, Int.reduceNeg, Int.reduceMul, fq_do_8, fq_do_9]))
      | (refine And.intro (fun _ => ?_) (fun _ => ?_) <;> first | (exfalso; omega) | (rename_i hz_; exact absurd trivial hz_) | ((conv => whnf); (try simp only [Int.reduceToNat, Int.toNat_natCast, fp_up_c, fp_up_s, fp_up_i, fp_cp_c, fp_g_s, Nat.reduceBEq, Int.reduceAdd, Int.reduceSub, Int.reduceNeg, Int.reduceMul, fq_do_8, fq_do_9])))
      | (refine And.intro (fun _ => ?_) ?_ <;> first | (exfalso; omega) | trivial | ((conv => whnf); (try simp only [Int.reduceToNat, Int.toNat_natCast, fp_up_c, fp_up_s, fp_up_i, fp_cp_c, fp_g_s, Nat.reduceBEq, Int.reduceAdd, Int.reduceSub, Int.reduceNeg, Int.reduceMul, fq_do_8, fq_do_9])))
      | (refine And.intro (by simp [fp_rg, fp_up, fp_cp] <;> omega) ?_; (conv => whnf); (try simp only [Int.reduceToNat, Int.toNat_natCast, fp_up_c, fp_up_s, fp_up_i, fp_cp_c, fp_g_s, Nat.reduceBEq, Int.reduceAdd, Int.reduceSub, Int.reduceNeg, Int.reduceMul, fq_do_8, fq_do_9]))
      | fail)
  refine hC _ _ _ _ ⟨_, rfl, ?_⟩
  refine sp_ifCut hn h.1 (fun X => ?_)
  conv => whnf
  (try simp only [e9, Int.reduceToNat, Int.toNat_natCast, fp_up_c, fp_up_s, fp_up_i, fp_cp_c, fp_g_s, Nat.reduceBEq, Int.reduceAdd, Int.reduceSub, Int.reduceNeg, Int.reduceMul, fq_do_8, fq_do_9])
  (repeat' first
      | (refine And.intro (by first | omega | (unfold fp_rg; omega)) ?_; (try intro _); (conv => whnf); (try simp only [e9, Int.reduceToNat, Int.toNat_natCast, fp_up_c, fp_up_s, fp_up_i, fp_cp_c, fp_g_s, Nat.reduceBEq, Int.reduceAdd, Int.reduceSub, Int.reduceNeg, Int.reduceMul, fq_do_8, fq_do_9]))
      | (refine And.intro (fun _ => ?_) (fun _ => ?_) <;> first | (exfalso; omega) | (rename_i hz_; exact absurd trivial hz_) | ((conv => whnf); (try simp only [e9, Int.reduceToNat, Int.toNat_natCast, fp_up_c, fp_up_s, fp_up_i, fp_cp_c, fp_g_s, Nat.reduceBEq, Int.reduceAdd, Int.reduceSub, Int.reduceNeg, Int.reduceMul, fq_do_8, fq_do_9])))
      | (refine And.intro (fun _ => ?_) ?_ <;> first | (exfalso; omega) | trivial | ((conv => whnf); (try simp only [e9, Int.reduceToNat, Int.toNat_natCast, fp_up_c, fp_up_s, fp_up_i, fp_cp_c, fp_g_s, Nat.reduceBEq, Int.reduceAdd, Int.reduceSub, Int.reduceNeg, Int.reduceMul, fq_do_8, fq_do_9])))
      | (refine And.intro (by simp [fp_rg, fp_up, fp_cp] <;> omega) ?_; (conv => whnf); (try simp only [e9, Int.reduceToNat, Int.toNat_natCast, fp_up_c, fp_up_s, fp_up_i, fp_cp_c, fp_g_s, Nat.reduceBEq, Int.reduceAdd, Int.reduceSub, Int.reduceNeg, Int.reduceMul, fq_do_8, fq_do_9]))
      | fail)
  refine hC _ _ _ _ ⟨_, rfl, ?_⟩
  refine sp_mifCut (G := H 0) (G1 := fp_cpG (H 1) (H 0)) hn h.1 (fq_I_cp h.1) (by rw [e8]; exact h.2.2.1) (by rw [e8]; exact fq_R_cp hB h.2.2.1) (e 1 4 (by unfold fp_rel; omega)) (e 6 2 (by unfold fp_rel; omega)) (fun p' s' => hwe _ p' s') (e 0 7 (by unfold fp_rel; omega)) (fun M' hM => ?_)
  rw [e8] at hM
  have hr := hk _ (fq_REL_m (fq_REL_0 h (hcl X) hM) (by omega)) (by rw [fp_g_n (by omega)]; exact e9 X)
  conv => whnf
  (try simp only [Int.reduceToNat, Int.toNat_natCast, fp_up_c, fp_up_s, fp_up_i, fp_cp_c, fp_g_s, Nat.reduceBEq, Int.reduceAdd, Int.reduceSub, Int.reduceNeg, Int.reduceMul, fq_do_8, fq_do_9])
  (repeat' first
      | (refine And.intro (by first | omega | (unfold fp_rg; omega)) ?_; (try intro _); (conv => whnf); (try simp only [Int.reduceToNat, Int.toNat_natCast, fp_up_c, fp_up_s, fp_up_i, fp_cp_c, fp_g_s, Nat.reduceBEq, Int.reduceAdd, Int.reduceSub, Int.reduceNeg, Int.reduceMul, fq_do_8, fq_do_9]))
      | (refine And.intro (fun _ => ?_) (fun _ => ?_) <;> first | (exfalso; omega) | (rename_i hz_; exact absurd trivial hz_) | ((conv => whnf); (try simp only [Int.reduceToNat, Int.toNat_natCast, fp_up_c, fp_up_s, fp_up_i, fp_cp_c, fp_g_s, Nat.reduceBEq, Int.reduceAdd, Int.reduceSub, Int.reduceNeg, Int.reduceMul, fq_do_8, fq_do_9])))
      | (refine And.intro (fun _ => ?_) ?_ <;> first | (exfalso; omega) | trivial | ((conv => whnf); (try simp only [Int.reduceToNat, Int.toNat_natCast, fp_up_c, fp_up_s, fp_up_i, fp_cp_c, fp_g_s, Nat.reduceBEq, Int.reduceAdd, Int.reduceSub, Int.reduceNeg, Int.reduceMul, fq_do_8, fq_do_9])))
      | (refine And.intro (by simp [fp_rg, fp_up, fp_cp] <;> omega) ?_; (conv => whnf); (try simp only [Int.reduceToNat, Int.toNat_natCast, fp_up_c, fp_up_s, fp_up_i, fp_cp_c, fp_g_s, Nat.reduceBEq, Int.reduceAdd, Int.reduceSub, Int.reduceNeg, Int.reduceMul, fq_do_8, fq_do_9]))
      | fail)
  all_goals first | (exfalso; omega) | exact hN _ _ _ _ hr
