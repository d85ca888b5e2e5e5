/-! the law: what is told -/
set_option maxHeartbeats 600000 in
set_option maxRecDepth 100000 in
theorem st_width {L d : Nat} {n i : Int} {H : FpH} {Q : FpQ} (hL : L ≤ 2560) (hi : 0 ≤ i ∧ i + 5 ≤ L) (hn : 1 ≤ n ∧ n ≤ 599) (h : fq_REL n H) (hk : fq_K L (d + 8) Q n i H) : fp_Wp L (d + 8) 0 584 (fq_L i) [] H Q := by
  have hr := hk H (fq_REL_m h (by omega)) rfl
  unfold fq_L at hr ⊢
  refine fp_go 1000 [901] (fun KN KC hN hC => ?_)
  conv => whnf
  (try simp only [Int.reduceToNat, Int.toNat_natCast, fp_up_c, fp_up_s, fp_up_i, fp_cp_c, fp_g_s, Nat.reduceBEq, Int.reduceAdd, Int.reduceSub, Int.reduceNeg, Int.reduceMul, fq_do_8])
  (repeat' first
      | (refine And.intro (by first | omega | (unfold fp_rg; omega)) ?_; (try intro _); (conv => whnf); (try simp only [Int.reduceToNat, Int.toNat_natCast, fp_up_c, fp_up_s, fp_up_i, fp_cp_c, fp_g_s, Nat.reduceBEq, Int.reduceAdd, Int.reduceSub, Int.reduceNeg, Int.reduceMul, fq_do_8]))
      | (refine And.intro (fun _ => ?_) (fun _ => ?_) <;> first | (exfalso; omega) | (rename_i hz_; exact absurd trivial hz_) | ((conv => whnf); (try simp only [Int.reduceToNat, Int.toNat_natCast, fp_up_c, fp_up_s, fp_up_i, fp_cp_c, fp_g_s, Nat.reduceBEq, Int.reduceAdd, Int.reduceSub, Int.reduceNeg, Int.reduceMul, fq_do_8])))
      | (refine And.intro (fun _ => ?_) ?_ <;> first | (exfalso; omega) | trivial | ((conv => whnf); (try simp only [Int.reduceToNat, Int.toNat_natCast, fp_up_c, fp_up_s, fp_up_i, fp_cp_c, fp_g_s, Nat.reduceBEq, Int.reduceAdd, Int.reduceSub, Int.reduceNeg, Int.reduceMul, fq_do_8])))
      | (refine And.intro (by simp [fp_rg, fp_up, fp_cp] <;> omega) ?_; (conv => whnf); (try simp only [Int.reduceToNat, Int.toNat_natCast, fp_up_c, fp_up_s, fp_up_i, fp_cp_c, fp_g_s, Nat.reduceBEq, Int.reduceAdd, Int.reduceSub, Int.reduceNeg, Int.reduceMul, fq_do_8]))
      | fail)
  refine hC _ _ _ _ ⟨_, rfl, ?_⟩
  refine sp_width h.1 ?_
  conv => whnf
  (try simp only [Int.reduceToNat, Int.toNat_natCast, fp_up_c, fp_up_s, fp_up_i, fp_cp_c, fp_g_s, Nat.reduceBEq, Int.reduceAdd, Int.reduceSub, Int.reduceNeg, Int.reduceMul, fq_do_8])
  (repeat' first
      | (refine And.intro (by first | omega | (unfold fp_rg; omega)) ?_; (try intro _); (conv => whnf); (try simp only [Int.reduceToNat, Int.toNat_natCast, fp_up_c, fp_up_s, fp_up_i, fp_cp_c, fp_g_s, Nat.reduceBEq, Int.reduceAdd, Int.reduceSub, Int.reduceNeg, Int.reduceMul, fq_do_8]))
      | (refine And.intro (fun _ => ?_) (fun _ => ?_) <;> first | (exfalso; omega) | (rename_i hz_; exact absurd trivial hz_) | ((conv => whnf); (try simp only [Int.reduceToNat, Int.toNat_natCast, fp_up_c, fp_up_s, fp_up_i, fp_cp_c, fp_g_s, Nat.reduceBEq, Int.reduceAdd, Int.reduceSub, Int.reduceNeg, Int.reduceMul, fq_do_8])))
      | (refine And.intro (fun _ => ?_) ?_ <;> first | (exfalso; omega) | trivial | ((conv => whnf); (try simp only [Int.reduceToNat, Int.toNat_natCast, fp_up_c, fp_up_s, fp_up_i, fp_cp_c, fp_g_s, Nat.reduceBEq, Int.reduceAdd, Int.reduceSub, Int.reduceNeg, Int.reduceMul, fq_do_8])))
      | (refine And.intro (by simp [fp_rg, fp_up, fp_cp] <;> omega) ?_; (conv => whnf); (try simp only [Int.reduceToNat, Int.toNat_natCast, fp_up_c, fp_up_s, fp_up_i, fp_cp_c, fp_g_s, Nat.reduceBEq, Int.reduceAdd, Int.reduceSub, Int.reduceNeg, Int.reduceMul, fq_do_8]))
      | fail)
  refine hC _ _ _ _ ⟨_, rfl, ?_⟩
  refine sp_mwidth h.1 h.2.2.1 ?_
  conv => whnf
  (try simp only [Int.reduceToNat, Int.toNat_natCast, fp_up_c, fp_up_s, fp_up_i, fp_cp_c, fp_g_s, Nat.reduceBEq, Int.reduceAdd, Int.reduceSub, Int.reduceNeg, Int.reduceMul, fq_do_8])
  (repeat' first
      | (refine And.intro (by first | omega | (unfold fp_rg; omega)) ?_; (try intro _); (conv => whnf); (try simp only [Int.reduceToNat, Int.toNat_natCast, fp_up_c, fp_up_s, fp_up_i, fp_cp_c, fp_g_s, Nat.reduceBEq, Int.reduceAdd, Int.reduceSub, Int.reduceNeg, Int.reduceMul, fq_do_8]))
      | (refine And.intro (fun _ => ?_) (fun _ => ?_) <;> first | (exfalso; omega) | (rename_i hz_; exact absurd trivial hz_) | ((conv => whnf); (try simp only [Int.reduceToNat, Int.toNat_natCast, fp_up_c, fp_up_s, fp_up_i, fp_cp_c, fp_g_s, Nat.reduceBEq, Int.reduceAdd, Int.reduceSub, Int.reduceNeg, Int.reduceMul, fq_do_8])))
      | (refine And.intro (fun _ => ?_) ?_ <;> first | (exfalso; omega) | trivial | ((conv => whnf); (try simp only [Int.reduceToNat, Int.toNat_natCast, fp_up_c, fp_up_s, fp_up_i, fp_cp_c, fp_g_s, Nat.reduceBEq, Int.reduceAdd, Int.reduceSub, Int.reduceNeg, Int.reduceMul, fq_do_8])))
      | (refine And.intro (by simp [fp_rg, fp_up, fp_cp] <;> omega) ?_; (conv => whnf); (try simp only [Int.reduceToNat, Int.toNat_natCast, fp_up_c, fp_up_s, fp_up_i, fp_cp_c, fp_g_s, Nat.reduceBEq, Int.reduceAdd, Int.reduceSub, Int.reduceNeg, Int.reduceMul, fq_do_8]))
      | fail)
  all_goals first | (exfalso; omega) | exact hN _ _ _ _ hr
set_option maxHeartbeats 600000 in
set_option maxRecDepth 100000 in
theorem st_prof {L d : Nat} {n i : Int} {H : FpH} {Q : FpQ} (hL : L ≤ 2560) (hi : 0 ≤ i ∧ i + 5 ≤ L) (hn : 1 ≤ n ∧ n ≤ 599) (h : fq_REL n H) (hk : fq_K L (d + 8) Q n i H) : fp_Wp L (d + 8) 0 617 (fq_L i) [] H Q := by
  have hr := hk H (fq_REL_m h (by omega)) rfl
  unfold fq_L at hr ⊢
  refine fp_go 1000 [901] (fun KN KC hN hC => ?_)
  conv => whnf
  (try simp only [Int.reduceToNat, Int.toNat_natCast, fp_up_c, fp_up_s, fp_up_i, fp_cp_c, fp_g_s, Nat.reduceBEq, Int.reduceAdd, Int.reduceSub, Int.reduceNeg, Int.reduceMul, fq_do_8])
  (repeat' first
      | (refine And.intro (by first | omega | (unfold fp_rg; omega)) ?_; (try intro _); (conv => whnf); (try simp only [Int.reduceToNat, Int.toNat_natCast, fp_up_c, fp_up_s, fp_up_i, fp_cp_c, fp_g_s, Nat.reduceBEq, Int.reduceAdd, Int.reduceSub, Int.reduceNeg, Int.reduceMul, fq_do_8]))
      | (refine And.intro (fun _ => ?_) (fun _ => ?_) <;> first | (exfalso; omega) | (rename_i hz_; exact absurd trivial hz_) | ((conv => whnf); (try simp only [Int.reduceToNat, Int.toNat_natCast, fp_up_c, fp_up_s, fp_up_i, fp_cp_c, fp_g_s, Nat.reduceBEq, Int.reduceAdd, Int.reduceSub, Int.reduceNeg, Int.reduceMul, fq_do_8])))
      | (refine And.intro (fun _ => ?_) ?_ <;> first | (exfalso; omega) | trivial | ((conv => whnf); (try simp only [Int.reduceToNat, Int.toNat_natCast, fp_up_c, fp_up_s, fp_up_i, fp_cp_c, fp_g_s, Nat.reduceBEq, Int.reduceAdd, Int.reduceSub, Int.reduceNeg, Int.reduceMul, fq_do_8])))
      | (refine And.intro (by simp [fp_rg, fp_up, fp_cp] <;> omega) ?_; (conv => whnf); (try simp only [Int.reduceToNat, Int.toNat_natCast, fp_up_c, fp_up_s, fp_up_i, fp_cp_c, fp_g_s, Nat.reduceBEq, Int.reduceAdd, Int.reduceSub, Int.reduceNeg, Int.reduceMul, fq_do_8]))
      | fail)
  refine hC _ _ _ _ ⟨_, rfl, ?_⟩
  refine sp_prof ⟨hn.1, by omega⟩ h.1 ?_
  conv => whnf
  (try simp only [Int.reduceToNat, Int.toNat_natCast, fp_up_c, fp_up_s, fp_up_i, fp_cp_c, fp_g_s, Nat.reduceBEq, Int.reduceAdd, Int.reduceSub, Int.reduceNeg, Int.reduceMul, fq_do_8])
  (repeat' first
      | (refine And.intro (by first | omega | (unfold fp_rg; omega)) ?_; (try intro _); (conv => whnf); (try simp only [Int.reduceToNat, Int.toNat_natCast, fp_up_c, fp_up_s, fp_up_i, fp_cp_c, fp_g_s, Nat.reduceBEq, Int.reduceAdd, Int.reduceSub, Int.reduceNeg, Int.reduceMul, fq_do_8]))
      | (refine And.intro (fun _ => ?_) (fun _ => ?_) <;> first | (exfalso; omega) | (rename_i hz_; exact absurd trivial hz_) | ((conv => whnf); (try simp only [Int.reduceToNat, Int.toNat_natCast, fp_up_c, fp_up_s, fp_up_i, fp_cp_c, fp_g_s, Nat.reduceBEq, Int.reduceAdd, Int.reduceSub, Int.reduceNeg, Int.reduceMul, fq_do_8])))
      | (refine And.intro (fun _ => ?_) ?_ <;> first | (exfalso; omega) | trivial | ((conv => whnf); (try simp only [Int.reduceToNat, Int.toNat_natCast, fp_up_c, fp_up_s, fp_up_i, fp_cp_c, fp_g_s, Nat.reduceBEq, Int.reduceAdd, Int.reduceSub, Int.reduceNeg, Int.reduceMul, fq_do_8])))
      | (refine And.intro (by simp [fp_rg, fp_up, fp_cp] <;> omega) ?_; (conv => whnf); (try simp only [Int.reduceToNat, Int.toNat_natCast, fp_up_c, fp_up_s, fp_up_i, fp_cp_c, fp_g_s, Nat.reduceBEq, Int.reduceAdd, Int.reduceSub, Int.reduceNeg, Int.reduceMul, fq_do_8]))
      | fail)
  refine hC _ _ _ _ ⟨_, rfl, ?_⟩
  refine sp_mprof h.1 h.2.2.1 ?_
  conv => whnf
  (try simp only [Int.reduceToNat, Int.toNat_natCast, fp_up_c, fp_up_s, fp_up_i, fp_cp_c, fp_g_s, Nat.reduceBEq, Int.reduceAdd, Int.reduceSub, Int.reduceNeg, Int.reduceMul, fq_do_8])
  (repeat' first
      | (refine And.intro (by first | omega | (unfold fp_rg; omega)) ?_; (try intro _); (conv => whnf); (try simp only [Int.reduceToNat, Int.toNat_natCast, fp_up_c, fp_up_s, fp_up_i, fp_cp_c, fp_g_s, Nat.reduceBEq, Int.reduceAdd, Int.reduceSub, Int.reduceNeg, Int.reduceMul, fq_do_8]))
      | (refine And.intro (fun _ => ?_) (fun _ => ?_) <;> first | (exfalso; omega) | (rename_i hz_; exact absurd trivial hz_) | ((conv => whnf); (try simp only [Int.reduceToNat, Int.toNat_natCast, fp_up_c, fp_up_s, fp_up_i, fp_cp_c, fp_g_s, Nat.reduceBEq, Int.reduceAdd, Int.reduceSub, Int.reduceNeg, Int.reduceMul, fq_do_8])))
      | (refine And.intro (fun _ => ?_) ?_ <;> first | (exfalso; omega) | trivial | ((conv => whnf); (try simp only [Int.reduceToNat, Int.toNat_natCast, fp_up_c, fp_up_s, fp_up_i, fp_cp_c, fp_g_s, Nat.reduceBEq, Int.reduceAdd, Int.reduceSub, Int.reduceNeg, Int.reduceMul, fq_do_8])))
      | (refine And.intro (by simp [fp_rg, fp_up, fp_cp] <;> omega) ?_; (conv => whnf); (try simp only [Int.reduceToNat, Int.toNat_natCast, fp_up_c, fp_up_s, fp_up_i, fp_cp_c, fp_g_s, Nat.reduceBEq, Int.reduceAdd, Int.reduceSub, Int.reduceNeg, Int.reduceMul, fq_do_8]))
      | fail)
  all_goals first | (exfalso; omega) | exact hN _ _ _ _ hr
set_option maxHeartbeats 600000 in
set_option maxRecDepth 100000 in
theorem st_lw {L d : Nat} {n i : Int} {H : FpH} {Q : FpQ} (hL : L ≤ 2560) (hi : 0 ≤ i ∧ i + 5 ≤ L) (hn : 1 ≤ n ∧ n ≤ 599) (h : fq_REL n H) (hk : fq_K L (d + 8) Q n i H) : fp_Wp L (d + 8) 0 650 (fq_L i) [] H Q := by
  have hr := hk H (fq_REL_m h (by omega)) rfl
  unfold fq_L at hr ⊢
  refine fp_go 1000 [901] (fun KN KC hN hC => ?_)
  conv => whnf
  (try simp only [Int.reduceToNat, Int.toNat_natCast, fp_up_c, fp_up_s, fp_up_i, fp_cp_c, fp_g_s, Nat.reduceBEq, Int.reduceAdd, Int.reduceSub, Int.reduceNeg, Int.reduceMul, fq_do_8])
  (repeat' first
      | (refine And.intro (by first | omega | (unfold fp_rg; omega)) ?_; (try intro _); (conv => whnf); (try simp only [Int.reduceToNat, Int.toNat_natCast, fp_up_c, fp_up_s, fp_up_i, fp_cp_c, fp_g_s, Nat.reduceBEq, Int.reduceAdd, Int.reduceSub, Int.reduceNeg, Int.reduceMul, fq_do_8]))
      | (refine And.intro (fun _ => ?_) (fun _ => ?_) <;> first | (exfalso; omega) | (rename_i hz_; exact absurd trivial hz_) | ((conv => whnf); (try simp only [Int.reduceToNat, Int.toNat_natCast, fp_up_c, fp_up_s, fp_up_i, fp_cp_c, fp_g_s, Nat.reduceBEq, Int.reduceAdd, Int.reduceSub, Int.reduceNeg, Int.reduceMul, fq_do_8])))
      | (refine And.intro (fun _ => ?_) ?_ <;> first | (exfalso; omega) | trivial | ((conv => whnf); (try simp only [Int.reduceToNat, Int.toNat_natCast, fp_up_c, fp_up_s, fp_up_i, fp_cp_c, fp_g_s, Nat.reduceBEq, Int.reduceAdd, Int.reduceSub, Int.reduceNeg, Int.reduceMul, fq_do_8])))
      | (refine And.intro (by simp [fp_rg, fp_up, fp_cp] <;> omega) ?_; (conv => whnf); (try simp only [Int.reduceToNat, Int.toNat_natCast, fp_up_c, fp_up_s, fp_up_i, fp_cp_c, fp_g_s, Nat.reduceBEq, Int.reduceAdd, Int.reduceSub, Int.reduceNeg, Int.reduceMul, fq_do_8]))
      | fail)
  refine hC _ _ _ _ ⟨_, rfl, ?_⟩
  refine sp_lw h.1 ?_
  conv => whnf
  (try simp only [Int.reduceToNat, Int.toNat_natCast, fp_up_c, fp_up_s, fp_up_i, fp_cp_c, fp_g_s, Nat.reduceBEq, Int.reduceAdd, Int.reduceSub, Int.reduceNeg, Int.reduceMul, fq_do_8])
  (repeat' first
      | (refine And.intro (by first | omega | (unfold fp_rg; omega)) ?_; (try intro _); (conv => whnf); (try simp only [Int.reduceToNat, Int.toNat_natCast, fp_up_c, fp_up_s, fp_up_i, fp_cp_c, fp_g_s, Nat.reduceBEq, Int.reduceAdd, Int.reduceSub, Int.reduceNeg, Int.reduceMul, fq_do_8]))
      | (refine And.intro (fun _ => ?_) (fun _ => ?_) <;> first | (exfalso; omega) | (rename_i hz_; exact absurd trivial hz_) | ((conv => whnf); (try simp only [Int.reduceToNat, Int.toNat_natCast, fp_up_c, fp_up_s, fp_up_i, fp_cp_c, fp_g_s, Nat.reduceBEq, Int.reduceAdd, Int.reduceSub, Int.reduceNeg, Int.reduceMul, fq_do_8])))
      | (refine And.intro (fun _ => ?_) ?_ <;> first | (exfalso; omega) | trivial | ((conv => whnf); (try simp only [Int.reduceToNat, Int.toNat_natCast, fp_up_c, fp_up_s, fp_up_i, fp_cp_c, fp_g_s, Nat.reduceBEq, Int.reduceAdd, Int.reduceSub, Int.reduceNeg, Int.reduceMul, fq_do_8])))
      | (refine And.intro (by simp [fp_rg, fp_up, fp_cp] <;> omega) ?_; (conv => whnf); (try simp only [Int.reduceToNat, Int.toNat_natCast, fp_up_c, fp_up_s, fp_up_i, fp_cp_c, fp_g_s, Nat.reduceBEq, Int.reduceAdd, Int.reduceSub, Int.reduceNeg, Int.reduceMul, fq_do_8]))
      | fail)
  refine hC _ _ _ _ ⟨_, rfl, ?_⟩
  refine sp_mlw h.1 h.2.2.1 ?_
  conv => whnf
  (try simp only [Int.reduceToNat, Int.toNat_natCast, fp_up_c, fp_up_s, fp_up_i, fp_cp_c, fp_g_s, Nat.reduceBEq, Int.reduceAdd, Int.reduceSub, Int.reduceNeg, Int.reduceMul, fq_do_8])
  (repeat' first
      | (refine And.intro (by first | omega | (unfold fp_rg; omega)) ?_; (try intro _); (conv => whnf); (try simp only [Int.reduceToNat, Int.toNat_natCast, fp_up_c, fp_up_s, fp_up_i, fp_cp_c, fp_g_s, Nat.reduceBEq, Int.reduceAdd, Int.reduceSub, Int.reduceNeg, Int.reduceMul, fq_do_8]))
      | (refine And.intro (fun _ => ?_) (fun _ => ?_) <;> first | (exfalso; omega) | (rename_i hz_; exact absurd trivial hz_) | ((conv => whnf); (try simp only [Int.reduceToNat, Int.toNat_natCast, fp_up_c, fp_up_s, fp_up_i, fp_cp_c, fp_g_s, Nat.reduceBEq, Int.reduceAdd, Int.reduceSub, Int.reduceNeg, Int.reduceMul, fq_do_8])))
      | (refine And.intro (fun _ => ?_) ?_ <;> first | (exfalso; omega) | trivial | ((conv => whnf); (try simp only [Int.reduceToNat, Int.toNat_natCast, fp_up_c, fp_up_s, fp_up_i, fp_cp_c, fp_g_s, Nat.reduceBEq, Int.reduceAdd, Int.reduceSub, Int.reduceNeg, Int.reduceMul, fq_do_8])))
      | (refine And.intro (by simp [fp_rg, fp_up, fp_cp] <;> omega) ?_; (conv => whnf); (try simp only [Int.reduceToNat, Int.toNat_natCast, fp_up_c, fp_up_s, fp_up_i, fp_cp_c, fp_g_s, Nat.reduceBEq, Int.reduceAdd, Int.reduceSub, Int.reduceNeg, Int.reduceMul, fq_do_8]))
      | fail)
  all_goals first | (exfalso; omega) | exact hN _ _ _ _ hr
set_option maxHeartbeats 600000 in
set_option maxRecDepth 100000 in
theorem st_strip {L d : Nat} {n i : Int} {H : FpH} {Q : FpQ} (hL : L ≤ 2560) (hi : 0 ≤ i ∧ i + 5 ≤ L) (hn : 1 ≤ n ∧ n ≤ 599) (h : fq_REL n H) (hk : fq_K L (d + 8) Q n i H) : fp_Wp L (d + 8) 0 693 (fq_L i) [] H Q := by
  have hr := hk H (fq_REL_m h (by omega)) rfl
  unfold fq_L at hr ⊢
  refine fp_go 1000 [901] (fun KN KC hN hC => ?_)
  conv => whnf
  (try simp only [Int.reduceToNat, Int.toNat_natCast, fp_up_c, fp_up_s, fp_up_i, fp_cp_c, fp_g_s, Nat.reduceBEq, Int.reduceAdd, Int.reduceSub, Int.reduceNeg, Int.reduceMul, fq_do_8])
  (repeat' first
      | (refine And.intro (by first | omega | (unfold fp_rg; omega)) ?_; (try intro _); (conv => whnf); (try simp only [Int.reduceToNat, Int.toNat_natCast, fp_up_c, fp_up_s, fp_up_i, fp_cp_c, fp_g_s, Nat.reduceBEq, Int.reduceAdd, Int.reduceSub, Int.reduceNeg, Int.reduceMul, fq_do_8]))
      | (refine And.intro (fun _ => ?_) (fun _ => ?_) <;> first | (exfalso; omega) | (rename_i hz_; exact absurd trivial hz_) | ((conv => whnf); (try simp only [Int.reduceToNat, Int.toNat_natCast, fp_up_c, fp_up_s, fp_up_i, fp_cp_c, fp_g_s, Nat.reduceBEq, Int.reduceAdd, Int.reduceSub, Int.reduceNeg, Int.reduceMul, fq_do_8])))
      | (refine And.intro (fun _ => ?_) ?_ <;> first | (exfalso; omega) | trivial | ((conv => whnf); (try simp only [Int.reduceToNat, Int.toNat_natCast, fp_up_c, fp_up_s, fp_up_i, fp_cp_c, fp_g_s, Nat.reduceBEq, Int.reduceAdd, Int.reduceSub, Int.reduceNeg, Int.reduceMul, fq_do_8])))
      | (refine And.intro (by simp [fp_rg, fp_up, fp_cp] <;> omega) ?_; (conv => whnf); (try simp only [Int.reduceToNat, Int.toNat_natCast, fp_up_c, fp_up_s, fp_up_i, fp_cp_c, fp_g_s, Nat.reduceBEq, Int.reduceAdd, Int.reduceSub, Int.reduceNeg, Int.reduceMul, fq_do_8]))
      | fail)
  refine hC _ _ _ _ ⟨_, rfl, ?_⟩
  refine sp_strip ⟨hn.1, by omega⟩ h.1 ?_
  conv => whnf
  (try simp only [Int.reduceToNat, Int.toNat_natCast, fp_up_c, fp_up_s, fp_up_i, fp_cp_c, fp_g_s, Nat.reduceBEq, Int.reduceAdd, Int.reduceSub, Int.reduceNeg, Int.reduceMul, fq_do_8])
  (repeat' first
      | (refine And.intro (by first | omega | (unfold fp_rg; omega)) ?_; (try intro _); (conv => whnf); (try simp only [Int.reduceToNat, Int.toNat_natCast, fp_up_c, fp_up_s, fp_up_i, fp_cp_c, fp_g_s, Nat.reduceBEq, Int.reduceAdd, Int.reduceSub, Int.reduceNeg, Int.reduceMul, fq_do_8]))
      | (refine And.intro (fun _ => ?_) (fun _ => ?_) <;> first | (exfalso; omega) | (rename_i hz_; exact absurd trivial hz_) | ((conv => whnf); (try simp only [Int.reduceToNat, Int.toNat_natCast, fp_up_c, fp_up_s, fp_up_i, fp_cp_c, fp_g_s, Nat.reduceBEq, Int.reduceAdd, Int.reduceSub, Int.reduceNeg, Int.reduceMul, fq_do_8])))
      | (refine And.intro (fun _ => ?_) ?_ <;> first | (exfalso; omega) | trivial | ((conv => whnf); (try simp only [Int.reduceToNat, Int.toNat_natCast, fp_up_c, fp_up_s, fp_up_i, fp_cp_c, fp_g_s, Nat.reduceBEq, Int.reduceAdd, Int.reduceSub, Int.reduceNeg, Int.reduceMul, fq_do_8])))
      | (refine And.intro (by simp [fp_rg, fp_up, fp_cp] <;> omega) ?_; (conv => whnf); (try simp only [Int.reduceToNat, Int.toNat_natCast, fp_up_c, fp_up_s, fp_up_i, fp_cp_c, fp_g_s, Nat.reduceBEq, Int.reduceAdd, Int.reduceSub, Int.reduceNeg, Int.reduceMul, fq_do_8]))
      | fail)
  refine hC _ _ _ _ ⟨_, rfl, ?_⟩
  refine sp_mstrip h.1 h.2.2.1 ?_
  conv => whnf
  (try simp only [Int.reduceToNat, Int.toNat_natCast, fp_up_c, fp_up_s, fp_up_i, fp_cp_c, fp_g_s, Nat.reduceBEq, Int.reduceAdd, Int.reduceSub, Int.reduceNeg, Int.reduceMul, fq_do_8])
  (repeat' first
      | (refine And.intro (by first | omega | (unfold fp_rg; omega)) ?_; (try intro _); (conv => whnf); (try simp only [Int.reduceToNat, Int.toNat_natCast, fp_up_c, fp_up_s, fp_up_i, fp_cp_c, fp_g_s, Nat.reduceBEq, Int.reduceAdd, Int.reduceSub, Int.reduceNeg, Int.reduceMul, fq_do_8]))
      | (refine And.intro (fun _ => ?_) (fun _ => ?_) <;> first | (exfalso; omega) | (rename_i hz_; exact absurd trivial hz_) | ((conv => whnf); (try simp only [Int.reduceToNat, Int.toNat_natCast, fp_up_c, fp_up_s, fp_up_i, fp_cp_c, fp_g_s, Nat.reduceBEq, Int.reduceAdd, Int.reduceSub, Int.reduceNeg, Int.reduceMul, fq_do_8])))
      | (refine And.intro (fun _ => ?_) ?_ <;> first | (exfalso; omega) | trivial | ((conv => whnf); (try simp only [Int.reduceToNat, Int.toNat_natCast, fp_up_c, fp_up_s, fp_up_i, fp_cp_c, fp_g_s, Nat.reduceBEq, Int.reduceAdd, Int.reduceSub, Int.reduceNeg, Int.reduceMul, fq_do_8])))
      | (refine And.intro (by simp [fp_rg, fp_up, fp_cp] <;> omega) ?_; (conv => whnf); (try simp only [Int.reduceToNat, Int.toNat_natCast, fp_up_c, fp_up_s, fp_up_i, fp_cp_c, fp_g_s, Nat.reduceBEq, Int.reduceAdd, Int.reduceSub, Int.reduceNeg, Int.reduceMul, fq_do_8]))
      | fail)
  all_goals first | (exfalso; omega) | exact hN _ _ _ _ hr
set_option maxHeartbeats 600000 in
set_option maxRecDepth 100000 in
theorem st_sit {L d : Nat} {n i : Int} {H : FpH} {Q : FpQ} (hL : L ≤ 2560) (hi : 0 ≤ i ∧ i + 5 ≤ L) (hn : 1 ≤ n ∧ n ≤ 599) (h : fq_REL n H) (hk : fq_K L (d + 8) Q n i H) : fp_Wp L (d + 8) 0 726 (fq_L i) [] H Q := by
  have hr := hk H (fq_REL_m h (by omega)) rfl
  unfold fq_L at hr ⊢
  refine fp_go 1000 [901] (fun KN KC hN hC => ?_)
  conv => whnf
  (try simp only [Int.reduceToNat, Int.toNat_natCast, fp_up_c, fp_up_s, fp_up_i, fp_cp_c, fp_g_s, Nat.reduceBEq, Int.reduceAdd, Int.reduceSub, Int.reduceNeg, Int.reduceMul, fq_do_8])
  (repeat' first
      | (refine And.intro (by first | omega | (unfold fp_rg; omega)) ?_; (try intro _); (conv => whnf); (try simp only [Int.reduceToNat, Int.toNat_natCast, fp_up_c, fp_up_s, fp_up_i, fp_cp_c, fp_g_s, Nat.reduceBEq, Int.reduceAdd, Int.reduceSub, Int.reduceNeg, Int.reduceMul, fq_do_8]))
      | (refine And.intro (fun _ => ?_) (fun _ => ?_) <;> first | (exfalso; omega) | (rename_i hz_; exact absurd trivial hz_) | ((conv => whnf); (try simp only [Int.reduceToNat, Int.toNat_natCast, fp_up_c, fp_up_s, fp_up_i, fp_cp_c, fp_g_s, Nat.reduceBEq, Int.reduceAdd, Int.reduceSub, Int.reduceNeg, Int.reduceMul, fq_do_8])))
      | (refine And.intro (fun _ => ?_) ?_ <;> first | (exfalso; omega) | trivial | ((conv => whnf); (try simp only [Int.reduceToNat, Int.toNat_natCast, fp_up_c, fp_up_s, fp_up_i, fp_cp_c, fp_g_s, Nat.reduceBEq, Int.reduceAdd, Int.reduceSub, Int.reduceNeg, Int.reduceMul, fq_do_8])))
      | (refine And.intro (by simp [fp_rg, fp_up, fp_cp] <;> omega) ?_; (conv => whnf); (try simp only [Int.reduceToNat, Int.toNat_natCast, fp_up_c, fp_up_s, fp_up_i, fp_cp_c, fp_g_s, Nat.reduceBEq, Int.reduceAdd, Int.reduceSub, Int.reduceNeg, Int.reduceMul, fq_do_8]))
      | fail)
  refine hC _ _ _ _ ⟨_, rfl, ?_⟩
  refine sp_sit ⟨hn.1, by omega⟩ h.1 ?_
  conv => whnf
  (try simp only [Int.reduceToNat, Int.toNat_natCast, fp_up_c, fp_up_s, fp_up_i, fp_cp_c, fp_g_s, Nat.reduceBEq, Int.reduceAdd, Int.reduceSub, Int.reduceNeg, Int.reduceMul, fq_do_8])
  (repeat' first
      | (refine And.intro (by first | omega | (unfold fp_rg; omega)) ?_; (try intro _); (conv => whnf); (try simp only [Int.reduceToNat, Int.toNat_natCast, fp_up_c, fp_up_s, fp_up_i, fp_cp_c, fp_g_s, Nat.reduceBEq, Int.reduceAdd, Int.reduceSub, Int.reduceNeg, Int.reduceMul, fq_do_8]))
      | (refine And.intro (fun _ => ?_) (fun _ => ?_) <;> first | (exfalso; omega) | (rename_i hz_; exact absurd trivial hz_) | ((conv => whnf); (try simp only [Int.reduceToNat, Int.toNat_natCast, fp_up_c, fp_up_s, fp_up_i, fp_cp_c, fp_g_s, Nat.reduceBEq, Int.reduceAdd, Int.reduceSub, Int.reduceNeg, Int.reduceMul, fq_do_8])))
      | (refine And.intro (fun _ => ?_) ?_ <;> first | (exfalso; omega) | trivial | ((conv => whnf); (try simp only [Int.reduceToNat, Int.toNat_natCast, fp_up_c, fp_up_s, fp_up_i, fp_cp_c, fp_g_s, Nat.reduceBEq, Int.reduceAdd, Int.reduceSub, Int.reduceNeg, Int.reduceMul, fq_do_8])))
      | (refine And.intro (by simp [fp_rg, fp_up, fp_cp] <;> omega) ?_; (conv => whnf); (try simp only [Int.reduceToNat, Int.toNat_natCast, fp_up_c, fp_up_s, fp_up_i, fp_cp_c, fp_g_s, Nat.reduceBEq, Int.reduceAdd, Int.reduceSub, Int.reduceNeg, Int.reduceMul, fq_do_8]))
      | fail)
  refine hC _ _ _ _ ⟨_, rfl, ?_⟩
  refine sp_msit h.1 h.2.2.1 ?_
  conv => whnf
  (try simp only [Int.reduceToNat, Int.toNat_natCast, fp_up_c, fp_up_s, fp_up_i, fp_cp_c, fp_g_s, Nat.reduceBEq, Int.reduceAdd, Int.reduceSub, Int.reduceNeg, Int.reduceMul, fq_do_8])
  (repeat' first
      | (refine And.intro (by first | omega | (unfold fp_rg; omega)) ?_; (try intro _); (conv => whnf); (try simp only [Int.reduceToNat, Int.toNat_natCast, fp_up_c, fp_up_s, fp_up_i, fp_cp_c, fp_g_s, Nat.reduceBEq, Int.reduceAdd, Int.reduceSub, Int.reduceNeg, Int.reduceMul, fq_do_8]))
      | (refine And.intro (fun _ => ?_) (fun _ => ?_) <;> first | (exfalso; omega) | (rename_i hz_; exact absurd trivial hz_) | ((conv => whnf); (try simp only [Int.reduceToNat, Int.toNat_natCast, fp_up_c, fp_up_s, fp_up_i, fp_cp_c, fp_g_s, Nat.reduceBEq, Int.reduceAdd, Int.reduceSub, Int.reduceNeg, Int.reduceMul, fq_do_8])))
      | (refine And.intro (fun _ => ?_) ?_ <;> first | (exfalso; omega) | trivial | ((conv => whnf); (try simp only [Int.reduceToNat, Int.toNat_natCast, fp_up_c, fp_up_s, fp_up_i, fp_cp_c, fp_g_s, Nat.reduceBEq, Int.reduceAdd, Int.reduceSub, Int.reduceNeg, Int.reduceMul, fq_do_8])))
      | (refine And.intro (by simp [fp_rg, fp_up, fp_cp] <;> omega) ?_; (conv => whnf); (try simp only [Int.reduceToNat, Int.toNat_natCast, fp_up_c, fp_up_s, fp_up_i, fp_cp_c, fp_g_s, Nat.reduceBEq, Int.reduceAdd, Int.reduceSub, Int.reduceNeg, Int.reduceMul, fq_do_8]))
      | fail)
  all_goals first | (exfalso; omega) | exact hN _ _ _ _ hr
set_option maxHeartbeats 600000 in
set_option maxRecDepth 100000 in
theorem st_best {L d : Nat} {n i : Int} {H : FpH} {Q : FpQ} (hL : L ≤ 2560) (hi : 0 ≤ i ∧ i + 5 ≤ L) (hn : 1 ≤ n ∧ n ≤ 599) (h : fq_REL n H) (hk : fq_K L (d + 8) Q n i H) : fp_Wp L (d + 8) 0 812 (fq_L i) [] H Q := by
  have hr := hk H (fq_REL_m h (by omega)) rfl
  unfold fq_L at hr ⊢
  refine fp_go 1000 [901] (fun KN KC hN hC => ?_)
  conv => whnf
  (try simp only [Int.reduceToNat, Int.toNat_natCast, fp_up_c, fp_up_s, fp_up_i, fp_cp_c, fp_g_s, Nat.reduceBEq, Int.reduceAdd, Int.reduceSub, Int.reduceNeg, Int.reduceMul, fq_do_8])
  (repeat' first
      | (refine And.intro (by first | omega | (unfold fp_rg; omega)) ?_; (try intro _); (conv => whnf); (try simp only [Int.reduceToNat, Int.toNat_natCast, fp_up_c, fp_up_s, fp_up_i, fp_cp_c, fp_g_s, Nat.reduceBEq, Int.reduceAdd, Int.reduceSub, Int.reduceNeg, Int.reduceMul, fq_do_8]))
      | (refine And.intro (fun _ => ?_) (fun _ => ?_) <;> first | (exfalso; omega) | (rename_i hz_; exact absurd trivial hz_) | ((conv => whnf); (try simp only [Int.reduceToNat, Int.toNat_natCast, fp_up_c, fp_up_s, fp_up_i, fp_cp_c, fp_g_s, Nat.reduceBEq, Int.reduceAdd, Int.reduceSub, Int.reduceNeg, Int.reduceMul, fq_do_8])))
      | (refine And.intro (fun _ => ?_) ?_ <;> first | (exfalso; omega) | trivial | ((conv => whnf); (try simp only [Int.reduceToNat, Int.toNat_natCast, fp_up_c, fp_up_s, fp_up_i, fp_cp_c, fp_g_s, Nat.reduceBEq, Int.reduceAdd, Int.reduceSub, Int.reduceNeg, Int.reduceMul, fq_do_8])))
      | (refine And.intro (by simp [fp_rg, fp_up, fp_cp] <;> omega) ?_; (conv => whnf); (try simp only [Int.reduceToNat, Int.toNat_natCast, fp_up_c, fp_up_s, fp_up_i, fp_cp_c, fp_g_s, Nat.reduceBEq, Int.reduceAdd, Int.reduceSub, Int.reduceNeg, Int.reduceMul, fq_do_8]))
      | fail)
  refine hC _ _ _ _ ⟨_, rfl, ?_⟩
  refine sp_best h.1 ?_
  conv => whnf
  (try simp only [Int.reduceToNat, Int.toNat_natCast, fp_up_c, fp_up_s, fp_up_i, fp_cp_c, fp_g_s, Nat.reduceBEq, Int.reduceAdd, Int.reduceSub, Int.reduceNeg, Int.reduceMul, fq_do_8])
  (repeat' first
      | (refine And.intro (by first | omega | (unfold fp_rg; omega)) ?_; (try intro _); (conv => whnf); (try simp only [Int.reduceToNat, Int.toNat_natCast, fp_up_c, fp_up_s, fp_up_i, fp_cp_c, fp_g_s, Nat.reduceBEq, Int.reduceAdd, Int.reduceSub, Int.reduceNeg, Int.reduceMul, fq_do_8]))
      | (refine And.intro (fun _ => ?_) (fun _ => ?_) <;> first | (exfalso; omega) | (rename_i hz_; exact absurd trivial hz_) | ((conv => whnf); (try simp only [Int.reduceToNat, Int.toNat_natCast, fp_up_c, fp_up_s, fp_up_i, fp_cp_c, fp_g_s, Nat.reduceBEq, Int.reduceAdd, Int.reduceSub, Int.reduceNeg, Int.reduceMul, fq_do_8])))
      | (refine And.intro (fun _ => ?_) ?_ <;> first | (exfalso; omega) | trivial | ((conv => whnf); (try simp only [Int.reduceToNat, Int.toNat_natCast, fp_up_c, fp_up_s, fp_up_i, fp_cp_c, fp_g_s, Nat.reduceBEq, Int.reduceAdd, Int.reduceSub, Int.reduceNeg, Int.reduceMul, fq_do_8])))
      | (refine And.intro (by simp [fp_rg, fp_up, fp_cp] <;> omega) ?_; (conv => whnf); (try simp only [Int.reduceToNat, Int.toNat_natCast, fp_up_c, fp_up_s, fp_up_i, fp_cp_c, fp_g_s, Nat.reduceBEq, Int.reduceAdd, Int.reduceSub, Int.reduceNeg, Int.reduceMul, fq_do_8]))
      | fail)
  refine hC _ _ _ _ ⟨_, rfl, ?_⟩
  refine sp_mbest h.1 h.2.2.1 ?_
  conv => whnf
  (try simp only [Int.reduceToNat, Int.toNat_natCast, fp_up_c, fp_up_s, fp_up_i, fp_cp_c, fp_g_s, Nat.reduceBEq, Int.reduceAdd, Int.reduceSub, Int.reduceNeg, Int.reduceMul, fq_do_8])
  (repeat' first
      | (refine And.intro (by first | omega | (unfold fp_rg; omega)) ?_; (try intro _); (conv => whnf); (try simp only [Int.reduceToNat, Int.toNat_natCast, fp_up_c, fp_up_s, fp_up_i, fp_cp_c, fp_g_s, Nat.reduceBEq, Int.reduceAdd, Int.reduceSub, Int.reduceNeg, Int.reduceMul, fq_do_8]))
      | (refine And.intro (fun _ => ?_) (fun _ => ?_) <;> first | (exfalso; omega) | (rename_i hz_; exact absurd trivial hz_) | ((conv => whnf); (try simp only [Int.reduceToNat, Int.toNat_natCast, fp_up_c, fp_up_s, fp_up_i, fp_cp_c, fp_g_s, Nat.reduceBEq, Int.reduceAdd, Int.reduceSub, Int.reduceNeg, Int.reduceMul, fq_do_8])))
      | (refine And.intro (fun _ => ?_) ?_ <;> first | (exfalso; omega) | trivial | ((conv => whnf); (try simp only [Int.reduceToNat, Int.toNat_natCast, fp_up_c, fp_up_s, fp_up_i, fp_cp_c, fp_g_s, Nat.reduceBEq, Int.reduceAdd, Int.reduceSub, Int.reduceNeg, Int.reduceMul, fq_do_8])))
      | (refine And.intro (by simp [fp_rg, fp_up, fp_cp] <;> omega) ?_; (conv => whnf); (try simp only [Int.reduceToNat, Int.toNat_natCast, fp_up_c, fp_up_s, fp_up_i, fp_cp_c, fp_g_s, Nat.reduceBEq, Int.reduceAdd, Int.reduceSub, Int.reduceNeg, Int.reduceMul, fq_do_8]))
      | fail)
  all_goals first | (exfalso; omega) | exact hN _ _ _ _ hr
set_option maxHeartbeats 600000 in
set_option maxRecDepth 100000 in
theorem st_few {L d : Nat} {n i : Int} {H : FpH} {Q : FpQ} (hL : L ≤ 2560) (hi : 0 ≤ i ∧ i + 5 ≤ L) (hn : 1 ≤ n ∧ n ≤ 599) (h : fq_REL n H) (hk : fq_K L (d + 8) Q n i H) : fp_Wp L (d + 8) 0 845 (fq_L i) [] H Q := by
  have hr := hk H (fq_REL_m h (by omega)) rfl
  unfold fq_L at hr ⊢
  refine fp_go 1000 [901] (fun KN KC hN hC => ?_)
  conv => whnf
  (try simp only [Int.reduceToNat, Int.toNat_natCast, fp_up_c, fp_up_s, fp_up_i, fp_cp_c, fp_g_s, Nat.reduceBEq, Int.reduceAdd, Int.reduceSub, Int.reduceNeg, Int.reduceMul, fq_do_8])
  (repeat' first
      | (refine And.intro (by first | omega | (unfold fp_rg; omega)) ?_; (try intro _); (conv => whnf); (try simp only [Int.reduceToNat, Int.toNat_natCast, fp_up_c, fp_up_s, fp_up_i, fp_cp_c, fp_g_s, Nat.reduceBEq, Int.reduceAdd, Int.reduceSub, Int.reduceNeg, Int.reduceMul, fq_do_8]))
      | (refine And.intro (fun _ => ?_) (fun _ => ?_) <;> first | (exfalso; omega) | (rename_i hz_; exact absurd trivial hz_) | ((conv => whnf); (try simp only [Int.reduceToNat, Int.toNat_natCast, fp_up_c, fp_up_s, fp_up_i, fp_cp_c, fp_g_s, Nat.reduceBEq, Int.reduceAdd, Int.reduceSub, Int.reduceNeg, Int.reduceMul, fq_do_8])))
      | (refine And.intro (fun _ => ?_) ?_ <;> first | (exfalso; omega) | trivial | ((conv => whnf); (try simp only [Int.reduceToNat, Int.toNat_natCast, fp_up_c, fp_up_s, fp_up_i, fp_cp_c, fp_g_s, Nat.reduceBEq, Int.reduceAdd, Int.reduceSub, Int.reduceNeg, Int.reduceMul, fq_do_8])))
      | (refine And.intro (by simp [fp_rg, fp_up, fp_cp] <;> omega) ?_; (conv => whnf); (try simp only [Int.reduceToNat, Int.toNat_natCast, fp_up_c, fp_up_s, fp_up_i, fp_cp_c, fp_g_s, Nat.reduceBEq, Int.reduceAdd, Int.reduceSub, Int.reduceNeg, Int.reduceMul, fq_do_8]))
      | fail)
  refine hC _ _ _ _ ⟨_, rfl, ?_⟩
  refine sp_few (by omega) h.1 ?_
  conv => whnf
  (try simp only [Int.reduceToNat, Int.toNat_natCast, fp_up_c, fp_up_s, fp_up_i, fp_cp_c, fp_g_s, Nat.reduceBEq, Int.reduceAdd, Int.reduceSub, Int.reduceNeg, Int.reduceMul, fq_do_8])
  (repeat' first
      | (refine And.intro (by first | omega | (unfold fp_rg; omega)) ?_; (try intro _); (conv => whnf); (try simp only [Int.reduceToNat, Int.toNat_natCast, fp_up_c, fp_up_s, fp_up_i, fp_cp_c, fp_g_s, Nat.reduceBEq, Int.reduceAdd, Int.reduceSub, Int.reduceNeg, Int.reduceMul, fq_do_8]))
      | (refine And.intro (fun _ => ?_) (fun _ => ?_) <;> first | (exfalso; omega) | (rename_i hz_; exact absurd trivial hz_) | ((conv => whnf); (try simp only [Int.reduceToNat, Int.toNat_natCast, fp_up_c, fp_up_s, fp_up_i, fp_cp_c, fp_g_s, Nat.reduceBEq, Int.reduceAdd, Int.reduceSub, Int.reduceNeg, Int.reduceMul, fq_do_8])))
      | (refine And.intro (fun _ => ?_) ?_ <;> first | (exfalso; omega) | trivial | ((conv => whnf); (try simp only [Int.reduceToNat, Int.toNat_natCast, fp_up_c, fp_up_s, fp_up_i, fp_cp_c, fp_g_s, Nat.reduceBEq, Int.reduceAdd, Int.reduceSub, Int.reduceNeg, Int.reduceMul, fq_do_8])))
      | (refine And.intro (by simp [fp_rg, fp_up, fp_cp] <;> omega) ?_; (conv => whnf); (try simp only [Int.reduceToNat, Int.toNat_natCast, fp_up_c, fp_up_s, fp_up_i, fp_cp_c, fp_g_s, Nat.reduceBEq, Int.reduceAdd, Int.reduceSub, Int.reduceNeg, Int.reduceMul, fq_do_8]))
      | fail)
  refine hC _ _ _ _ ⟨_, rfl, ?_⟩
  refine sp_mfew (by omega) h.1 h.2.2.1 ?_
  conv => whnf
  (try simp only [Int.reduceToNat, Int.toNat_natCast, fp_up_c, fp_up_s, fp_up_i, fp_cp_c, fp_g_s, Nat.reduceBEq, Int.reduceAdd, Int.reduceSub, Int.reduceNeg, Int.reduceMul, fq_do_8])
  (repeat' first
      | (refine And.intro (by first | omega | (unfold fp_rg; omega)) ?_; (try intro _); (conv => whnf); (try simp only [Int.reduceToNat, Int.toNat_natCast, fp_up_c, fp_up_s, fp_up_i, fp_cp_c, fp_g_s, Nat.reduceBEq, Int.reduceAdd, Int.reduceSub, Int.reduceNeg, Int.reduceMul, fq_do_8]))
      | (refine And.intro (fun _ => ?_) (fun _ => ?_) <;> first | (exfalso; omega) | (rename_i hz_; exact absurd trivial hz_) | ((conv => whnf); (try simp only [Int.reduceToNat, Int.toNat_natCast, fp_up_c, fp_up_s, fp_up_i, fp_cp_c, fp_g_s, Nat.reduceBEq, Int.reduceAdd, Int.reduceSub, Int.reduceNeg, Int.reduceMul, fq_do_8])))
      | (refine And.intro (fun _ => ?_) ?_ <;> first | (exfalso; omega) | trivial | ((conv => whnf); (try simp only [Int.reduceToNat, Int.toNat_natCast, fp_up_c, fp_up_s, fp_up_i, fp_cp_c, fp_g_s, Nat.reduceBEq, Int.reduceAdd, Int.reduceSub, Int.reduceNeg, Int.reduceMul, fq_do_8])))
      | (refine And.intro (by simp [fp_rg, fp_up, fp_cp] <;> omega) ?_; (conv => whnf); (try simp only [Int.reduceToNat, Int.toNat_natCast, fp_up_c, fp_up_s, fp_up_i, fp_cp_c, fp_g_s, Nat.reduceBEq, Int.reduceAdd, Int.reduceSub, Int.reduceNeg, Int.reduceMul, fq_do_8]))
      | fail)
  all_goals first | (exfalso; omega) | exact hN _ _ _ _ hr
set_option maxHeartbeats 600000 in
set_option maxRecDepth 100000 in
theorem st_count {L d : Nat} {n i : Int} {H : FpH} {Q : FpQ} (hL : L ≤ 2560) (hi : 0 ≤ i ∧ i + 5 ≤ L) (hn : 1 ≤ n ∧ n ≤ 599) (h : fq_REL n H) (hk : fq_K L (d + 8) Q n i H) : fp_Wp L (d + 8) 0 878 (fq_L i) [] H Q := by
  have hr := hk H (fq_REL_m h (by omega)) rfl
  unfold fq_L at hr ⊢
  refine fp_go 1000 [901] (fun KN KC hN hC => ?_)
  conv => whnf
  (try simp only [Int.reduceToNat, Int.toNat_natCast, fp_up_c, fp_up_s, fp_up_i, fp_cp_c, fp_g_s, Nat.reduceBEq, Int.reduceAdd, Int.reduceSub, Int.reduceNeg, Int.reduceMul, fq_do_8])
  (repeat' first
      | (refine And.intro (by first | omega | (unfold fp_rg; omega)) ?_; (try intro _); (conv => whnf); (try simp only [Int.reduceToNat, Int.toNat_natCast, fp_up_c, fp_up_s, fp_up_i, fp_cp_c, fp_g_s, Nat.reduceBEq, Int.reduceAdd, Int.reduceSub, Int.reduceNeg, Int.reduceMul, fq_do_8]))
      | (refine And.intro (fun _ => ?_) (fun _ => ?_) <;> first | (exfalso; omega) | (rename_i hz_; exact absurd trivial hz_) | ((conv => whnf); (try simp only [Int.reduceToNat, Int.toNat_natCast, fp_up_c, fp_up_s, fp_up_i, fp_cp_c, fp_g_s, Nat.reduceBEq, Int.reduceAdd, Int.reduceSub, Int.reduceNeg, Int.reduceMul, fq_do_8])))
      | (refine And.intro (fun _ => ?_) ?_ <;> first | (exfalso; omega) | trivial | ((conv => whnf); (try simp only [Int.reduceToNat, Int.toNat_natCast, fp_up_c, fp_up_s, fp_up_i, fp_cp_c, fp_g_s, Nat.reduceBEq, Int.reduceAdd, Int.reduceSub, Int.reduceNeg, Int.reduceMul, fq_do_8])))
      | (refine And.intro (by simp [fp_rg, fp_up, fp_cp] <;> omega) ?_; (conv => whnf); (try simp only [Int.reduceToNat, Int.toNat_natCast, fp_up_c, fp_up_s, fp_up_i, fp_cp_c, fp_g_s, Nat.reduceBEq, Int.reduceAdd, Int.reduceSub, Int.reduceNeg, Int.reduceMul, fq_do_8]))
      | fail)
  refine hC _ _ _ _ ⟨_, rfl, ?_⟩
  refine sp_count ⟨hn.1, by omega⟩ h.1 ?_
  conv => whnf
  (try simp only [Int.reduceToNat, Int.toNat_natCast, fp_up_c, fp_up_s, fp_up_i, fp_cp_c, fp_g_s, Nat.reduceBEq, Int.reduceAdd, Int.reduceSub, Int.reduceNeg, Int.reduceMul, fq_do_8])
  (repeat' first
      | (refine And.intro (by first | omega | (unfold fp_rg; omega)) ?_; (try intro _); (conv => whnf); (try simp only [Int.reduceToNat, Int.toNat_natCast, fp_up_c, fp_up_s, fp_up_i, fp_cp_c, fp_g_s, Nat.reduceBEq, Int.reduceAdd, Int.reduceSub, Int.reduceNeg, Int.reduceMul, fq_do_8]))
      | (refine And.intro (fun _ => ?_) (fun _ => ?_) <;> first | (exfalso; omega) | (rename_i hz_; exact absurd trivial hz_) | ((conv => whnf); (try simp only [Int.reduceToNat, Int.toNat_natCast, fp_up_c, fp_up_s, fp_up_i, fp_cp_c, fp_g_s, Nat.reduceBEq, Int.reduceAdd, Int.reduceSub, Int.reduceNeg, Int.reduceMul, fq_do_8])))
      | (refine And.intro (fun _ => ?_) ?_ <;> first | (exfalso; omega) | trivial | ((conv => whnf); (try simp only [Int.reduceToNat, Int.toNat_natCast, fp_up_c, fp_up_s, fp_up_i, fp_cp_c, fp_g_s, Nat.reduceBEq, Int.reduceAdd, Int.reduceSub, Int.reduceNeg, Int.reduceMul, fq_do_8])))
      | (refine And.intro (by simp [fp_rg, fp_up, fp_cp] <;> omega) ?_; (conv => whnf); (try simp only [Int.reduceToNat, Int.toNat_natCast, fp_up_c, fp_up_s, fp_up_i, fp_cp_c, fp_g_s, Nat.reduceBEq, Int.reduceAdd, Int.reduceSub, Int.reduceNeg, Int.reduceMul, fq_do_8]))
      | fail)
  refine hC _ _ _ _ ⟨_, rfl, ?_⟩
  refine sp_mcount (by omega) h.1 h.2.2.1 h.2.2.2.1 h.2.2.2.2.2.2.2.1.2.1 ?_
  conv => whnf
  (try simp only [Int.reduceToNat, Int.toNat_natCast, fp_up_c, fp_up_s, fp_up_i, fp_cp_c, fp_g_s, Nat.reduceBEq, Int.reduceAdd, Int.reduceSub, Int.reduceNeg, Int.reduceMul, fq_do_8])
  (repeat' first
      | (refine And.intro (by first | omega | (unfold fp_rg; omega)) ?_; (try intro _); (conv => whnf); (try simp only [Int.reduceToNat, Int.toNat_natCast, fp_up_c, fp_up_s, fp_up_i, fp_cp_c, fp_g_s, Nat.reduceBEq, Int.reduceAdd, Int.reduceSub, Int.reduceNeg, Int.reduceMul, fq_do_8]))
      | (refine And.intro (fun _ => ?_) (fun _ => ?_) <;> first | (exfalso; omega) | (rename_i hz_; exact absurd trivial hz_) | ((conv => whnf); (try simp only [Int.reduceToNat, Int.toNat_natCast, fp_up_c, fp_up_s, fp_up_i, fp_cp_c, fp_g_s, Nat.reduceBEq, Int.reduceAdd, Int.reduceSub, Int.reduceNeg, Int.reduceMul, fq_do_8])))
      | (refine And.intro (fun _ => ?_) ?_ <;> first | (exfalso; omega) | trivial | ((conv => whnf); (try simp only [Int.reduceToNat, Int.toNat_natCast, fp_up_c, fp_up_s, fp_up_i, fp_cp_c, fp_g_s, Nat.reduceBEq, Int.reduceAdd, Int.reduceSub, Int.reduceNeg, Int.reduceMul, fq_do_8])))
      | (refine And.intro (by simp [fp_rg, fp_up, fp_cp] <;> omega) ?_; (conv => whnf); (try simp only [Int.reduceToNat, Int.toNat_natCast, fp_up_c, fp_up_s, fp_up_i, fp_cp_c, fp_g_s, Nat.reduceBEq, Int.reduceAdd, Int.reduceSub, Int.reduceNeg, Int.reduceMul, fq_do_8]))
      | fail)
  all_goals first | (exfalso; omega) | exact hN _ _ _ _ hr
