/-! the law: comeAll -/
theorem fq_cl_t {H H' : FpH} (t : fp_tx H H') : fq_cl H H' := ⟨fun g _ g7 => t.1 g g7, t.2.1 14 (by decide) (by decide) (by decide) (by decide), t.2.1 15 (by decide) (by decide) (by decide) (by decide), t.2.2 1 (by decide) (by decide), t.2.1 18 (by decide) (by decide) (by decide) (by decide)⟩
theorem fq_cl_cl {H K : FpH} {X : FpG} (t : fq_cl H K) : fq_cl H (fp_g K 1 X) := ⟨fun g g1 g7 => (fp_g_n g1).trans (t.1 g g1 g7), by rw [fp_g_n (by omega)]; exact t.2.1, by rw [fp_g_n (by omega)]; exact t.2.2.1, by rw [fp_g_n (by omega)]; exact t.2.2.2.1, by rw [fp_g_n (by omega)]; exact t.2.2.2.2⟩
set_option maxHeartbeats 600000 in
set_option maxRecDepth 100000 in
theorem st_comeAll {L d : Nat} {n i : Int} {H : FpH} {Q : FpQ} (hL : L ≤ 2560) (hi : 0 ≤ i ∧ i + 5 ≤ L) (hn : 1 ≤ n ∧ n ≤ 599) (h : fq_REL n H) (hk : fq_K L (d + 8) Q n i H) : fp_Wp L (d + 8) 0 333 (fq_L i) [] H Q := by
  unfold fq_K at hk
  unfold fq_L at hk ⊢
  have hB := fq_I_B h.1
  obtain ⟨G1, hG⟩ : ∃ G1, G1 = fp_cpG (H 1) (H 0) := ⟨_, rfl⟩
  have hI1 : fq_I n G1 := by rw [hG]; exact fq_I_cp h.1
  have hR1 : fq_R 0 G1 (H 8 23) := by rw [hG]; exact fq_R_cp hB h.2.2.1
  obtain ⟨⟨t1, t2⟩, t3, t4, t5⟩ := h.2.2.2.2.2.2.2.1
  obtain ⟨N, hN17⟩ := Int.eq_ofNat_of_zero_le t1
  have hm := fq_REL_hm h
  refine fp_go 1000 [901] (fun KN KC hN hC => ?_)
  conv => whnf
  (try simp only [Int.reduceToNat, Int.toNat_natCast, fp_up_c, fp_up_s, fp_up_i, fp_cp_c, fp_g_s, Nat.reduceBEq, Int.reduceAdd, Int.reduceSub, Int.reduceNeg, Int.reduceMul, fq_do_8, fq_do_9])
  (repeat' first
      | (refine And.intro (by first | omega | (unfold fp_rg; omega)) ?_; (try intro _); (conv => whnf); (try simp only [Int.reduceToNat, Int.toNat_natCast, fp_up_c, fp_up_s, fp_up_i, fp_cp_c, fp_g_s, Nat.reduceBEq, Int.reduceAdd, Int.reduceSub, Int.reduceNeg, Int.reduceMul, fq_do_8, fq_do_9]))
      | (refine And.intro (fun _ => ?_) (fun _ => ?_) <;> first | (exfalso; omega) | (rename_i hz_; exact absurd trivial hz_) | ((conv => whnf); (try simp only [Int.reduceToNat, Int.toNat_natCast, fp_up_c, fp_up_s, fp_up_i, fp_cp_c, fp_g_s, Nat.reduceBEq, Int.reduceAdd, Int.reduceSub, Int.reduceNeg, Int.reduceMul, fq_do_8, fq_do_9])))
      | (refine And.intro (fun _ => ?_) ?_ <;> first | (exfalso; omega) | trivial | ((conv => whnf); (try simp only [Int.reduceToNat, Int.toNat_natCast, fp_up_c, fp_up_s, fp_up_i, fp_cp_c, fp_g_s, Nat.reduceBEq, Int.reduceAdd, Int.reduceSub, Int.reduceNeg, Int.reduceMul, fq_do_8, fq_do_9])))
      | (refine And.intro (by simp [fp_rg, fp_up, fp_cp] <;> omega) ?_; (conv => whnf); (try simp only [Int.reduceToNat, Int.toNat_natCast, fp_up_c, fp_up_s, fp_up_i, fp_cp_c, fp_g_s, Nat.reduceBEq, Int.reduceAdd, Int.reduceSub, Int.reduceNeg, Int.reduceMul, fq_do_8, fq_do_9]))
      | fail)
  refine hC _ _ _ _ ⟨_, rfl, ?_⟩
  refine sp_comeAll (n := N) (by omega) hN17 h.2.1 hG hI1.1.1 hI1.1.2.2.1 (fun hz H' tx => ?_) (fun hz hc H' X tx => ?_) (fun hz X hc H' tx => ?_)
  · have e8 := tx.1 8 (by omega)
    have e9 := tx.1 9 (by omega)
    conv => whnf
    (try simp only [Int.reduceToNat, Int.toNat_natCast, fp_up_c, fp_up_s, fp_up_i, fp_cp_c, fp_g_s, Nat.reduceBEq, Int.reduceAdd, Int.reduceSub, Int.reduceNeg, Int.reduceMul, fq_do_8, fq_do_9])
    (repeat' first
        | (refine And.intro (by first | omega | (unfold fp_rg; omega)) ?_; (try intro _); (conv => whnf); (try simp only [Int.reduceToNat, Int.toNat_natCast, fp_up_c, fp_up_s, fp_up_i, fp_cp_c, fp_g_s, Nat.reduceBEq, Int.reduceAdd, Int.reduceSub, Int.reduceNeg, Int.reduceMul, fq_do_8, fq_do_9]))
        | (refine And.intro (fun _ => ?_) (fun _ => ?_) <;> first | (exfalso; omega) | (rename_i hz_; exact absurd trivial hz_) | ((conv => whnf); (try simp only [Int.reduceToNat, Int.toNat_natCast, fp_up_c, fp_up_s, fp_up_i, fp_cp_c, fp_g_s, Nat.reduceBEq, Int.reduceAdd, Int.reduceSub, Int.reduceNeg, Int.reduceMul, fq_do_8, fq_do_9])))
        | (refine And.intro (fun _ => ?_) ?_ <;> first | (exfalso; omega) | trivial | ((conv => whnf); (try simp only [Int.reduceToNat, Int.toNat_natCast, fp_up_c, fp_up_s, fp_up_i, fp_cp_c, fp_g_s, Nat.reduceBEq, Int.reduceAdd, Int.reduceSub, Int.reduceNeg, Int.reduceMul, fq_do_8, fq_do_9])))
        | (refine And.intro (by simp [fp_rg, fp_up, fp_cp] <;> omega) ?_; (conv => whnf); (try simp only [Int.reduceToNat, Int.toNat_natCast, fp_up_c, fp_up_s, fp_up_i, fp_cp_c, fp_g_s, Nat.reduceBEq, Int.reduceAdd, Int.reduceSub, Int.reduceNeg, Int.reduceMul, fq_do_8, fq_do_9]))
        | fail)
    refine hC _ _ _ _ ⟨_, rfl, ?_⟩
    refine sp_mcomeAll (n := N) (G := G1) hI1 (by rw [e8]; exact hR1) (by rw [e8]; exact hm) (by omega) (by rw [e8, t3]; exact hN17) (by rw [e8]; exact t5) (fun hz2 M' hM => ?_) (fun hz2 => absurd (by rw [e8, t4] at hz2; exact hz2) hz) (fun hz2 => absurd (by rw [e8, t4] at hz2; exact hz2) hz)
    rw [e8] at hM
    rw [e8, t4]
    have hr := hk _ (fq_REL_m (fq_REL_0 h (fq_cl_t tx) hM) (by omega)) (by rw [fp_g_n (by omega)]; exact e9)
    conv => whnf
    (try simp only [Int.reduceToNat, Int.toNat_natCast, fp_up_c, fp_up_s, fp_up_i, fp_cp_c, fp_g_s, Nat.reduceBEq, Int.reduceAdd, Int.reduceSub, Int.reduceNeg, Int.reduceMul, fq_do_8, fq_do_9])
    (repeat' first
        | (refine And.intro (by first | omega | (unfold fp_rg; omega)) ?_; (try intro _); (conv => whnf); (try simp only [Int.reduceToNat, Int.toNat_natCast, fp_up_c, fp_up_s, fp_up_i, fp_cp_c, fp_g_s, Nat.reduceBEq, Int.reduceAdd, Int.reduceSub, Int.reduceNeg, Int.reduceMul, fq_do_8, fq_do_9]))
        | (refine And.intro (fun _ => ?_) (fun _ => ?_) <;> first | (exfalso; omega) | (rename_i hz_; exact absurd trivial hz_) | ((conv => whnf); (try simp only [Int.reduceToNat, Int.toNat_natCast, fp_up_c, fp_up_s, fp_up_i, fp_cp_c, fp_g_s, Nat.reduceBEq, Int.reduceAdd, Int.reduceSub, Int.reduceNeg, Int.reduceMul, fq_do_8, fq_do_9])))
        | (refine And.intro (fun _ => ?_) ?_ <;> first | (exfalso; omega) | trivial | ((conv => whnf); (try simp only [Int.reduceToNat, Int.toNat_natCast, fp_up_c, fp_up_s, fp_up_i, fp_cp_c, fp_g_s, Nat.reduceBEq, Int.reduceAdd, Int.reduceSub, Int.reduceNeg, Int.reduceMul, fq_do_8, fq_do_9])))
        | (refine And.intro (by simp [fp_rg, fp_up, fp_cp] <;> omega) ?_; (conv => whnf); (try simp only [Int.reduceToNat, Int.toNat_natCast, fp_up_c, fp_up_s, fp_up_i, fp_cp_c, fp_g_s, Nat.reduceBEq, Int.reduceAdd, Int.reduceSub, Int.reduceNeg, Int.reduceMul, fq_do_8, fq_do_9]))
        | fail)
    all_goals first | (exfalso; omega) | exact hN _ _ _ _ hr
  · have e8 : fp_g H' 1 X 8 = H 8 := (fp_g_n (by omega)).trans (tx.1 8 (by omega))
    have e9 : fp_g H' 1 X 9 = H 9 := (fp_g_n (by omega)).trans (tx.1 9 (by omega))
    conv => whnf
    (try simp only [Int.reduceToNat, Int.toNat_natCast, fp_up_c, fp_up_s, fp_up_i, fp_cp_c, fp_g_s, Nat.reduceBEq, Int.reduceAdd, Int.reduceSub, Int.reduceNeg, Int.reduceMul, fq_do_8, fq_do_9])
    (repeat' first
        | (refine And.intro (by first | omega | (unfold fp_rg; omega)) ?_; (try intro _); (conv => whnf); (try simp only [Int.reduceToNat, Int.toNat_natCast, fp_up_c, fp_up_s, fp_up_i, fp_cp_c, fp_g_s, Nat.reduceBEq, Int.reduceAdd, Int.reduceSub, Int.reduceNeg, Int.reduceMul, fq_do_8, fq_do_9]))
        | (refine And.intro (fun _ => ?_) (fun _ => ?_) <;> first | (exfalso; omega) | (rename_i hz_; exact absurd trivial hz_) | ((conv => whnf); (try simp only [Int.reduceToNat, Int.toNat_natCast, fp_up_c, fp_up_s, fp_up_i, fp_cp_c, fp_g_s, Nat.reduceBEq, Int.reduceAdd, Int.reduceSub, Int.reduceNeg, Int.reduceMul, fq_do_8, fq_do_9])))
        | (refine And.intro (fun _ => ?_) ?_ <;> first | (exfalso; omega) | trivial | ((conv => whnf); (try simp only [Int.reduceToNat, Int.toNat_natCast, fp_up_c, fp_up_s, fp_up_i, fp_cp_c, fp_g_s, Nat.reduceBEq, Int.reduceAdd, Int.reduceSub, Int.reduceNeg, Int.reduceMul, fq_do_8, fq_do_9])))
        | (refine And.intro (by simp [fp_rg, fp_up, fp_cp] <;> omega) ?_; (conv => whnf); (try simp only [Int.reduceToNat, Int.toNat_natCast, fp_up_c, fp_up_s, fp_up_i, fp_cp_c, fp_g_s, Nat.reduceBEq, Int.reduceAdd, Int.reduceSub, Int.reduceNeg, Int.reduceMul, fq_do_8, fq_do_9]))
        | fail)
    refine hC _ _ _ _ ⟨_, rfl, ?_⟩
    refine sp_mcomeAll (n := N) (G := G1) hI1 (by rw [e8]; exact hR1) (by rw [e8]; exact hm) (by omega) (by rw [e8, t3]; exact hN17) (by rw [e8]; exact t5) (fun hz2 => absurd hz (by rw [e8, t4] at hz2; exact hz2)) (fun hz2 hc2 M' hM => ?_) (fun hz2 Y hc2 => absurd hc (by rw [e8, t4] at hc2; rw [hc2]; simp))
    rw [e8] at hM
    have hr := hk _ (fq_REL_m (fq_REL_0 h (fq_cl_cl (X := X) (fq_cl_t tx)) hM) (by omega)) (by rw [fp_g_n (by omega)]; exact e9)
    conv => whnf
    (try simp only [Int.reduceToNat, Int.toNat_natCast, fp_up_c, fp_up_s, fp_up_i, fp_cp_c, fp_g_s, Nat.reduceBEq, Int.reduceAdd, Int.reduceSub, Int.reduceNeg, Int.reduceMul, fq_do_8, fq_do_9])
    (repeat' first
        | (refine And.intro (by first | omega | (unfold fp_rg; omega)) ?_; (try intro _); (conv => whnf); (try simp only [Int.reduceToNat, Int.toNat_natCast, fp_up_c, fp_up_s, fp_up_i, fp_cp_c, fp_g_s, Nat.reduceBEq, Int.reduceAdd, Int.reduceSub, Int.reduceNeg, Int.reduceMul, fq_do_8, fq_do_9]))
        | (refine And.intro (fun _ => ?_) (fun _ => ?_) <;> first | (exfalso; omega) | (rename_i hz_; exact absurd trivial hz_) | ((conv => whnf); (try simp only [Int.reduceToNat, Int.toNat_natCast, fp_up_c, fp_up_s, fp_up_i, fp_cp_c, fp_g_s, Nat.reduceBEq, Int.reduceAdd, Int.reduceSub, Int.reduceNeg, Int.reduceMul, fq_do_8, fq_do_9])))
        | (refine And.intro (fun _ => ?_) ?_ <;> first | (exfalso; omega) | trivial | ((conv => whnf); (try simp only [Int.reduceToNat, Int.toNat_natCast, fp_up_c, fp_up_s, fp_up_i, fp_cp_c, fp_g_s, Nat.reduceBEq, Int.reduceAdd, Int.reduceSub, Int.reduceNeg, Int.reduceMul, fq_do_8, fq_do_9])))
        | (refine And.intro (by simp [fp_rg, fp_up, fp_cp] <;> omega) ?_; (conv => whnf); (try simp only [Int.reduceToNat, Int.toNat_natCast, fp_up_c, fp_up_s, fp_up_i, fp_cp_c, fp_g_s, Nat.reduceBEq, Int.reduceAdd, Int.reduceSub, Int.reduceNeg, Int.reduceMul, fq_do_8, fq_do_9]))
        | fail)
    all_goals first | (exfalso; omega) | exact hN _ _ _ _ hr
  · have hXI := fq_I_cm 8 0 G1 X (by omega) hI1 hz hc
    have hBX := fq_I_B hXI
    have h' := fq_REL_c h (fq_cl_cl (X := X) (fq_cl_t tx))
    have e8 : fp_g (fp_push (fp_g H' 1 X)) 0 (fp_cpG (H 0) X) 8 = H 8 := (fq_do_8 (H := fp_g H' 1 X) (o := some (fp_cpG (H 0) X))).trans ((fp_g_n (by omega)).trans (tx.1 8 (by omega)))
    have e9 : fp_g (fp_push (fp_g H' 1 X)) 0 (fp_cpG (H 0) X) 9 = H 9 := (fq_do_9 (H := fp_g H' 1 X) (o := some (fp_cpG (H 0) X))).trans ((fp_g_n (by omega)).trans (tx.1 9 (by omega)))
    have e8' : fp_g H' 1 X 8 = H 8 := (fp_g_n (by omega)).trans (tx.1 8 (by omega))
    conv => whnf
    (try simp only [Int.reduceToNat, Int.toNat_natCast, fp_up_c, fp_up_s, fp_up_i, fp_cp_c, fp_g_s, Nat.reduceBEq, Int.reduceAdd, Int.reduceSub, Int.reduceNeg, Int.reduceMul, fq_do_8, fq_do_9])
    (repeat' first
        | (refine And.intro (by first | omega | (unfold fp_rg; omega)) ?_; (try intro _); (conv => whnf); (try simp only [Int.reduceToNat, Int.toNat_natCast, fp_up_c, fp_up_s, fp_up_i, fp_cp_c, fp_g_s, Nat.reduceBEq, Int.reduceAdd, Int.reduceSub, Int.reduceNeg, Int.reduceMul, fq_do_8, fq_do_9]))
        | (refine And.intro (fun _ => ?_) (fun _ => ?_) <;> first | (exfalso; omega) | (rename_i hz_; exact absurd trivial hz_) | ((conv => whnf); (try simp only [Int.reduceToNat, Int.toNat_natCast, fp_up_c, fp_up_s, fp_up_i, fp_cp_c, fp_g_s, Nat.reduceBEq, Int.reduceAdd, Int.reduceSub, Int.reduceNeg, Int.reduceMul, fq_do_8, fq_do_9])))
        | (refine And.intro (fun _ => ?_) ?_ <;> first | (exfalso; omega) | trivial | ((conv => whnf); (try simp only [Int.reduceToNat, Int.toNat_natCast, fp_up_c, fp_up_s, fp_up_i, fp_cp_c, fp_g_s, Nat.reduceBEq, Int.reduceAdd, Int.reduceSub, Int.reduceNeg, Int.reduceMul, fq_do_8, fq_do_9])))
        | (refine And.intro (by simp [fp_rg, fp_up, fp_cp] <;> omega) ?_; (conv => whnf); (try simp only [Int.reduceToNat, Int.toNat_natCast, fp_up_c, fp_up_s, fp_up_i, fp_cp_c, fp_g_s, Nat.reduceBEq, Int.reduceAdd, Int.reduceSub, Int.reduceNeg, Int.reduceMul, fq_do_8, fq_do_9]))
        | fail)
    refine hC _ _ _ _ ⟨_, rfl, ?_⟩
    refine sp_mcomeAll (n := N) (G := G1) hI1 (by rw [e8]; exact hR1) (by rw [e8]; exact hm) (by omega) (by rw [e8, t3]; exact hN17) (by rw [e8]; exact t5) (fun hz2 => absurd hz (by rw [e8, t4] at hz2; exact hz2)) (fun hz2 hc2 => absurd hc (by rw [e8, t4] at hc2; rw [hc2]; simp)) (fun hz2 Y hc2 M' hM => ?_)
    rw [e8, t4, hc] at hc2
    simp only [Option.some.injEq] at hc2
    subst hc2
    rw [e8] at hM
    have hr := hk _ (fq_REL_1 h' (fq_I_m (fq_I_cp hXI) (by omega)) (by rw [e8']; exact hM) (fun q => fq_R_cp hBX q)) (by rw [fp_g_n (by omega)]; exact e9)
    conv => whnf
    (try simp only [Int.reduceToNat, Int.toNat_natCast, fp_up_c, fp_up_s, fp_up_i, fp_cp_c, fp_g_s, Nat.reduceBEq, Int.reduceAdd, Int.reduceSub, Int.reduceNeg, Int.reduceMul, fq_do_8, fq_do_9])
    (repeat' first
        | (refine And.intro (by first | omega | (unfold fp_rg; omega)) ?_; (try intro _); (conv => whnf); (try simp only [Int.reduceToNat, Int.toNat_natCast, fp_up_c, fp_up_s, fp_up_i, fp_cp_c, fp_g_s, Nat.reduceBEq, Int.reduceAdd, Int.reduceSub, Int.reduceNeg, Int.reduceMul, fq_do_8, fq_do_9]))
        | (refine And.intro (fun _ => ?_) (fun _ => ?_) <;> first | (exfalso; omega) | (rename_i hz_; exact absurd trivial hz_) | ((conv => whnf); (try simp only [Int.reduceToNat, Int.toNat_natCast, fp_up_c, fp_up_s, fp_up_i, fp_cp_c, fp_g_s, Nat.reduceBEq, Int.reduceAdd, Int.reduceSub, Int.reduceNeg, Int.reduceMul, fq_do_8, fq_do_9])))
        | (refine And.intro (fun _ => ?_) ?_ <;> first | (exfalso; omega) | trivial | ((conv => whnf); (try simp only [Int.reduceToNat, Int.toNat_natCast, fp_up_c, fp_up_s, fp_up_i, fp_cp_c, fp_g_s, Nat.reduceBEq, Int.reduceAdd, Int.reduceSub, Int.reduceNeg, Int.reduceMul, fq_do_8, fq_do_9])))
        | (refine And.intro (by simp [fp_rg, fp_up, fp_cp] <;> omega) ?_; (conv => whnf); (try simp only [Int.reduceToNat, Int.toNat_natCast, fp_up_c, fp_up_s, fp_up_i, fp_cp_c, fp_g_s, Nat.reduceBEq, Int.reduceAdd, Int.reduceSub, Int.reduceNeg, Int.reduceMul, fq_do_8, fq_do_9]))
        | fail)
    all_goals first | (exfalso; omega) | exact hN _ _ _ _ hr
