/-! comeAll() -/
theorem fp_pe_b {T : Nat → Int} {n a : Nat} (h : a ≤ n) : a ≤ (fp_pe T n a).2.1 ∧ (fp_pe T n a).2.1 ≤ n ∧ ((fp_pe T n a).1 = true → a + 9 ≤ (fp_pe T n a).2.1 ∧ (∀ j, j < 8 → 49 ≤ T (a + j) ∧ T (a + j) ≤ 57) ∧ (0 ≤ (fp_pe T n a).2.2.1 ∧ (fp_pe T n a).2.2.1 ≤ 2) ∧ (1 ≤ (fp_pe T n a).2.2.2 ∧ (fp_pe T n a).2.2.2 ≤ 99)) := by
  rcases hrw : fp_rw T n 8 a with ⟨b, ok⟩
  have hbb := fp_rw_b (T := T) (n := n) 8 a h
  rw [hrw] at hbb
  cases ok with
  | false => rw [fp_pe_1 hrw]; exact ⟨hbb.1, hbb.2.1, fun q => by cases q⟩
  | true =>
    cases hw : fp_wa T n b with
    | none => rw [fp_pe_2 hrw hw]; exact ⟨hbb.1, hbb.2.1, fun q => by cases q⟩
    | some w =>
      rw [fp_pe_3 hrw hw]
      have h1 := fp_wa_b hw
      have h2 := fp_pa_b (T := T) (n := n) (a := b + 1) (by omega)
      obtain ⟨h3, h4⟩ := hbb.2.2 rfl
      simp only at h3
      refine ⟨?_, h2.2.1, fun _ => ⟨?_, h4, ?_, ?_⟩⟩
      · show a ≤ (fp_pa T n (b + 1)).1; omega
      · show a + 9 ≤ (fp_pa T n (b + 1)).1; omega
      · show 0 ≤ w ∧ w ≤ 2; omega
      · exact h2.2.2
theorem fp_sq_b {T : Nat → Int} {n : Nat} : ∀ m a, a ≤ n → -1 ≤ (fp_sq T n m a).1 ∧ (fp_sq T n m a).1 ≤ n
  | 0, a, h => by simp only [fp_sq]; omega
  | m + 1, a, h => by
    have hb := fp_pe_b (T := T) h
    rcases e : fp_pe T n a with ⟨ok, b, w, p⟩
    rw [e] at hb
    simp only [fp_sq, e]
    cases ok with
    | false => simp only; have := hb.2.1; simp only at this; omega
    | true =>
      have hb2 := hb.2.1
      simp only at hb2 ⊢
      split
      · simp only; omega
      · split
        · simp only; exact fp_sq_b m (b + 1) (by omega)
        · simp only; omega
set_option maxHeartbeats 600000 in
set_option maxRecDepth 100000 in
theorem sp_comeAll {L d n : Nat} {H : FpH} {G1 : FpG} {Q : FpQ} (hb : n ≤ 80) (hn : H 7 17 1 = (n : Int)) (hY : fq_Y H) (hG : G1 = fp_cpG (H 1) (H 0)) (hp : 0 ≤ G1 1 4 ∧ G1 1 4 ≤ 10) (hl : 0 ≤ G1 9 3 ∧ G1 9 3 ≤ 12)
    (hF : (fp_sq (H 7 18) n 8 0).1 ≠ -1 → ∀ H', fp_tx H H' → Q (some (.inl (-100 - (fp_sq (H 7 18) n 8 0).1))) H')
    (hU : (fp_sq (H 7 18) n 8 0).1 = -1 → fq_cm (H 7 18) n (fp_sq (H 7 18) n 8 0).2 0 G1 = none → ∀ H' X, fp_tx H H' → Q (some (.inl (-3))) (fp_g H' 1 X))
    (hS : (fp_sq (H 7 18) n 8 0).1 = -1 → ∀ X, fq_cm (H 7 18) n (fp_sq (H 7 18) n 8 0).2 0 G1 = some X → ∀ H', fp_tx H H' → Q (some (.inl (X 9 3))) (fp_g (fp_push (fp_g H' 1 X)) 0 (fp_cpG (H 0) X))) : fp_Wp L (d + 4) 56 0 (fp_en 56 [.inr (7, 14)]) [] H Q := by
  have hbd := fp_sq_b (T := H 7 18) (n := n) 8 0 (by omega)
  refine fp_go 1000 [34] (fun KN KC hN hC => ?_)
  conv => whnf
  (try simp only [Int.reduceToNat, Int.toNat_natCast, fp_up_c, fp_up_s, fp_up_i, fp_cp_c, fp_g_s, Nat.reduceBEq, Int.reduceAdd, Int.reduceSub, Int.reduceNeg, Int.reduceMul, fp_gu_c, fp_gu_s, fp_lose_o, fp_scut_o, fp_tk_o, fp_lrem_o, fp_push_0])
  (repeat' first
      | (refine And.intro (by first | omega | (unfold fp_rg; omega)) ?_; (try intro _); (conv => whnf); (try simp only [Int.reduceToNat, Int.toNat_natCast, fp_up_c, fp_up_s, fp_up_i, fp_cp_c, fp_g_s, Nat.reduceBEq, Int.reduceAdd, Int.reduceSub, Int.reduceNeg, Int.reduceMul, fp_gu_c, fp_gu_s, fp_lose_o, fp_scut_o, fp_tk_o, fp_lrem_o, fp_push_0]))
      | (refine And.intro (fun _ => ?_) (fun _ => ?_) <;> first | (exfalso; omega) | (rename_i hz_; exact absurd trivial hz_) | ((conv => whnf); (try simp only [Int.reduceToNat, Int.toNat_natCast, fp_up_c, fp_up_s, fp_up_i, fp_cp_c, fp_g_s, Nat.reduceBEq, Int.reduceAdd, Int.reduceSub, Int.reduceNeg, Int.reduceMul, fp_gu_c, fp_gu_s, fp_lose_o, fp_scut_o, fp_tk_o, fp_lrem_o, fp_push_0])))
      | (refine And.intro (fun _ => ?_) ?_ <;> first | (exfalso; omega) | trivial | ((conv => whnf); (try simp only [Int.reduceToNat, Int.toNat_natCast, fp_up_c, fp_up_s, fp_up_i, fp_cp_c, fp_g_s, Nat.reduceBEq, Int.reduceAdd, Int.reduceSub, Int.reduceNeg, Int.reduceMul, fp_gu_c, fp_gu_s, fp_lose_o, fp_scut_o, fp_tk_o, fp_lrem_o, fp_push_0])))
      | (refine And.intro (by simp [fp_rg, fp_up, fp_cp] <;> omega) ?_; (conv => whnf); (try simp only [Int.reduceToNat, Int.toNat_natCast, fp_up_c, fp_up_s, fp_up_i, fp_cp_c, fp_g_s, Nat.reduceBEq, Int.reduceAdd, Int.reduceSub, Int.reduceNeg, Int.reduceMul, fp_gu_c, fp_gu_s, fp_lose_o, fp_scut_o, fp_tk_o, fp_lrem_o, fp_push_0]))
      | fail)
  refine hC _ _ _ _ ⟨_, rfl, ?_⟩
  refine sp_read hb hn (fun H' t1 t2 t3 => ?_)
  by_cases hz : (fp_sq (H 7 18) n 8 0).1 = -1
  · obtain ⟨u1, u2, u3⟩ := t2 hz
    rw [if_pos hz]
    conv => whnf
    (try simp only [Int.reduceToNat, Int.toNat_natCast, fp_up_c, fp_up_s, fp_up_i, fp_cp_c, fp_g_s, Nat.reduceBEq, Int.reduceAdd, Int.reduceSub, Int.reduceNeg, Int.reduceMul, fp_gu_c, fp_gu_s, fp_lose_o, fp_scut_o, fp_tk_o, fp_lrem_o, fp_push_0])
    (repeat' first
        | (refine And.intro (by first | omega | (unfold fp_rg; omega)) ?_; (try intro _); (conv => whnf); (try simp only [Int.reduceToNat, Int.toNat_natCast, fp_up_c, fp_up_s, fp_up_i, fp_cp_c, fp_g_s, Nat.reduceBEq, Int.reduceAdd, Int.reduceSub, Int.reduceNeg, Int.reduceMul, fp_gu_c, fp_gu_s, fp_lose_o, fp_scut_o, fp_tk_o, fp_lrem_o, fp_push_0]))
        | (refine And.intro (fun _ => ?_) (fun _ => ?_) <;> first | (exfalso; omega) | (rename_i hz_; exact absurd trivial hz_) | ((conv => whnf); (try simp only [Int.reduceToNat, Int.toNat_natCast, fp_up_c, fp_up_s, fp_up_i, fp_cp_c, fp_g_s, Nat.reduceBEq, Int.reduceAdd, Int.reduceSub, Int.reduceNeg, Int.reduceMul, fp_gu_c, fp_gu_s, fp_lose_o, fp_scut_o, fp_tk_o, fp_lrem_o, fp_push_0])))
        | (refine And.intro (fun _ => ?_) ?_ <;> first | (exfalso; omega) | trivial | ((conv => whnf); (try simp only [Int.reduceToNat, Int.toNat_natCast, fp_up_c, fp_up_s, fp_up_i, fp_cp_c, fp_g_s, Nat.reduceBEq, Int.reduceAdd, Int.reduceSub, Int.reduceNeg, Int.reduceMul, fp_gu_c, fp_gu_s, fp_lose_o, fp_scut_o, fp_tk_o, fp_lrem_o, fp_push_0])))
        | (refine And.intro (by simp [fp_rg, fp_up, fp_cp] <;> omega) ?_; (conv => whnf); (try simp only [Int.reduceToNat, Int.toNat_natCast, fp_up_c, fp_up_s, fp_up_i, fp_cp_c, fp_g_s, Nat.reduceBEq, Int.reduceAdd, Int.reduceSub, Int.reduceNeg, Int.reduceMul, fp_gu_c, fp_gu_s, fp_lose_o, fp_scut_o, fp_tk_o, fp_lrem_o, fp_push_0]))
        | fail)
    refine hC _ _ _ _ ⟨_, rfl, ?_⟩
    refine sp_copyFrom (by omega) ?_
    rw [t1.1 0 (by omega), t1.1 1 (by omega), ← hG]
    conv => whnf
    (try simp only [Int.reduceToNat, Int.toNat_natCast, fp_up_c, fp_up_s, fp_up_i, fp_cp_c, fp_g_s, Nat.reduceBEq, Int.reduceAdd, Int.reduceSub, Int.reduceNeg, Int.reduceMul, fp_gu_c, fp_gu_s, fp_lose_o, fp_scut_o, fp_tk_o, fp_lrem_o, fp_push_0])
    (repeat' first
        | (refine And.intro (by first | omega | (unfold fp_rg; omega)) ?_; (try intro _); (conv => whnf); (try simp only [Int.reduceToNat, Int.toNat_natCast, fp_up_c, fp_up_s, fp_up_i, fp_cp_c, fp_g_s, Nat.reduceBEq, Int.reduceAdd, Int.reduceSub, Int.reduceNeg, Int.reduceMul, fp_gu_c, fp_gu_s, fp_lose_o, fp_scut_o, fp_tk_o, fp_lrem_o, fp_push_0]))
        | (refine And.intro (fun _ => ?_) (fun _ => ?_) <;> first | (exfalso; omega) | (rename_i hz_; exact absurd trivial hz_) | ((conv => whnf); (try simp only [Int.reduceToNat, Int.toNat_natCast, fp_up_c, fp_up_s, fp_up_i, fp_cp_c, fp_g_s, Nat.reduceBEq, Int.reduceAdd, Int.reduceSub, Int.reduceNeg, Int.reduceMul, fp_gu_c, fp_gu_s, fp_lose_o, fp_scut_o, fp_tk_o, fp_lrem_o, fp_push_0])))
        | (refine And.intro (fun _ => ?_) ?_ <;> first | (exfalso; omega) | trivial | ((conv => whnf); (try simp only [Int.reduceToNat, Int.toNat_natCast, fp_up_c, fp_up_s, fp_up_i, fp_cp_c, fp_g_s, Nat.reduceBEq, Int.reduceAdd, Int.reduceSub, Int.reduceNeg, Int.reduceMul, fp_gu_c, fp_gu_s, fp_lose_o, fp_scut_o, fp_tk_o, fp_lrem_o, fp_push_0])))
        | (refine And.intro (by simp [fp_rg, fp_up, fp_cp] <;> omega) ?_; (conv => whnf); (try simp only [Int.reduceToNat, Int.toNat_natCast, fp_up_c, fp_up_s, fp_up_i, fp_cp_c, fp_g_s, Nat.reduceBEq, Int.reduceAdd, Int.reduceSub, Int.reduceNeg, Int.reduceMul, fp_gu_c, fp_gu_s, fp_lose_o, fp_scut_o, fp_tk_o, fp_lrem_o, fp_push_0]))
        | fail)
    refine hN _ _ _ _ (lp_comeAll (T := H 7 18) (n := n) u3 (fp_sq (H 7 18) n 8 0).2 0 0 _ _ (by omega) (by rw [fp_g_n (by omega)]; exact u1) (fp_ec_c (fp_g_n (by omega)) _ _ _ u2) (by rw [fp_g_s]; exact hp) (by rw [fp_g_s]; exact hl) (fun q X => ?_) (fun X q l2 => ?_))
    · rw [fp_g_s] at q
      rw [fp_g_g]
      exact hU hz q H' X t1
    · rw [fp_g_s] at q
      rw [fp_g_g]
      have hr := hS hz X q H' t1
      have eX : fp_cpG (H 0) X 9 3 = X 9 3 := by simp [fp_cpG]
      rw [← eX] at hr
      have hY' : fq_Y H' := by unfold fq_Y at hY ⊢; rw [t1.2.1 15 (by decide) (by decide) (by decide) (by decide)]; exact hY
      refine fp_go 1000 [34] (fun KN KC hN hC => ?_)
      conv => whnf
      (try simp only [Int.reduceToNat, Int.toNat_natCast, fp_up_c, fp_up_s, fp_up_i, fp_cp_c, fp_g_s, Nat.reduceBEq, Int.reduceAdd, Int.reduceSub, Int.reduceNeg, Int.reduceMul, fp_gu_c, fp_gu_s, fp_lose_o, fp_scut_o, fp_tk_o, fp_lrem_o, fp_push_0])
      (repeat' first
          | (refine And.intro (by first | omega | (unfold fp_rg; omega)) ?_; (try intro _); (conv => whnf); (try simp only [Int.reduceToNat, Int.toNat_natCast, fp_up_c, fp_up_s, fp_up_i, fp_cp_c, fp_g_s, Nat.reduceBEq, Int.reduceAdd, Int.reduceSub, Int.reduceNeg, Int.reduceMul, fp_gu_c, fp_gu_s, fp_lose_o, fp_scut_o, fp_tk_o, fp_lrem_o, fp_push_0]))
          | (refine And.intro (fun _ => ?_) (fun _ => ?_) <;> first | (exfalso; omega) | (rename_i hz_; exact absurd trivial hz_) | ((conv => whnf); (try simp only [Int.reduceToNat, Int.toNat_natCast, fp_up_c, fp_up_s, fp_up_i, fp_cp_c, fp_g_s, Nat.reduceBEq, Int.reduceAdd, Int.reduceSub, Int.reduceNeg, Int.reduceMul, fp_gu_c, fp_gu_s, fp_lose_o, fp_scut_o, fp_tk_o, fp_lrem_o, fp_push_0])))
          | (refine And.intro (fun _ => ?_) ?_ <;> first | (exfalso; omega) | trivial | ((conv => whnf); (try simp only [Int.reduceToNat, Int.toNat_natCast, fp_up_c, fp_up_s, fp_up_i, fp_cp_c, fp_g_s, Nat.reduceBEq, Int.reduceAdd, Int.reduceSub, Int.reduceNeg, Int.reduceMul, fp_gu_c, fp_gu_s, fp_lose_o, fp_scut_o, fp_tk_o, fp_lrem_o, fp_push_0])))
          | (refine And.intro (by simp [fp_rg, fp_up, fp_cp] <;> omega) ?_; (conv => whnf); (try simp only [Int.reduceToNat, Int.toNat_natCast, fp_up_c, fp_up_s, fp_up_i, fp_cp_c, fp_g_s, Nat.reduceBEq, Int.reduceAdd, Int.reduceSub, Int.reduceNeg, Int.reduceMul, fp_gu_c, fp_gu_s, fp_lose_o, fp_scut_o, fp_tk_o, fp_lrem_o, fp_push_0]))
          | fail)
      refine hC _ _ _ _ ⟨_, rfl, ?_⟩
      refine sp_take2 (fq_Y_g (by omega) hY') ?_
      rw [fp_g_s, fp_g_n (show 0 ≠ 1 by decide), t1.1 0 (by omega)]
      conv => whnf
      (try simp only [Int.reduceToNat, Int.toNat_natCast, fp_up_c, fp_up_s, fp_up_i, fp_cp_c, fp_g_s, Nat.reduceBEq, Int.reduceAdd, Int.reduceSub, Int.reduceNeg, Int.reduceMul, fp_gu_c, fp_gu_s, fp_lose_o, fp_scut_o, fp_tk_o, fp_lrem_o, fp_push_0])
      (repeat' first
          | (refine And.intro (by first | omega | (unfold fp_rg; omega)) ?_; (try intro _); (conv => whnf); (try simp only [Int.reduceToNat, Int.toNat_natCast, fp_up_c, fp_up_s, fp_up_i, fp_cp_c, fp_g_s, Nat.reduceBEq, Int.reduceAdd, Int.reduceSub, Int.reduceNeg, Int.reduceMul, fp_gu_c, fp_gu_s, fp_lose_o, fp_scut_o, fp_tk_o, fp_lrem_o, fp_push_0]))
          | (refine And.intro (fun _ => ?_) (fun _ => ?_) <;> first | (exfalso; omega) | (rename_i hz_; exact absurd trivial hz_) | ((conv => whnf); (try simp only [Int.reduceToNat, Int.toNat_natCast, fp_up_c, fp_up_s, fp_up_i, fp_cp_c, fp_g_s, Nat.reduceBEq, Int.reduceAdd, Int.reduceSub, Int.reduceNeg, Int.reduceMul, fp_gu_c, fp_gu_s, fp_lose_o, fp_scut_o, fp_tk_o, fp_lrem_o, fp_push_0])))
          | (refine And.intro (fun _ => ?_) ?_ <;> first | (exfalso; omega) | trivial | ((conv => whnf); (try simp only [Int.reduceToNat, Int.toNat_natCast, fp_up_c, fp_up_s, fp_up_i, fp_cp_c, fp_g_s, Nat.reduceBEq, Int.reduceAdd, Int.reduceSub, Int.reduceNeg, Int.reduceMul, fp_gu_c, fp_gu_s, fp_lose_o, fp_scut_o, fp_tk_o, fp_lrem_o, fp_push_0])))
          | (refine And.intro (by simp [fp_rg, fp_up, fp_cp] <;> omega) ?_; (conv => whnf); (try simp only [Int.reduceToNat, Int.toNat_natCast, fp_up_c, fp_up_s, fp_up_i, fp_cp_c, fp_g_s, Nat.reduceBEq, Int.reduceAdd, Int.reduceSub, Int.reduceNeg, Int.reduceMul, fp_gu_c, fp_gu_s, fp_lose_o, fp_scut_o, fp_tk_o, fp_lrem_o, fp_push_0]))
          | fail)
      exact hr
  · have u := t3 hz
    have hr := hF hz H' t1
    rw [if_neg hz]
    conv => whnf
    (try simp only [u, Int.reduceToNat, Int.toNat_natCast, fp_up_c, fp_up_s, fp_up_i, fp_cp_c, fp_g_s, Nat.reduceBEq, Int.reduceAdd, Int.reduceSub, Int.reduceNeg, Int.reduceMul, fp_gu_c, fp_gu_s, fp_lose_o, fp_scut_o, fp_tk_o, fp_lrem_o, fp_push_0])
    (repeat' first
        | (refine And.intro (by first | omega | (unfold fp_rg; omega)) ?_; (try intro _); (conv => whnf); (try simp only [u, Int.reduceToNat, Int.toNat_natCast, fp_up_c, fp_up_s, fp_up_i, fp_cp_c, fp_g_s, Nat.reduceBEq, Int.reduceAdd, Int.reduceSub, Int.reduceNeg, Int.reduceMul, fp_gu_c, fp_gu_s, fp_lose_o, fp_scut_o, fp_tk_o, fp_lrem_o, fp_push_0]))
        | (refine And.intro (fun _ => ?_) (fun _ => ?_) <;> first | (exfalso; omega) | (rename_i hz_; exact absurd trivial hz_) | ((conv => whnf); (try simp only [u, Int.reduceToNat, Int.toNat_natCast, fp_up_c, fp_up_s, fp_up_i, fp_cp_c, fp_g_s, Nat.reduceBEq, Int.reduceAdd, Int.reduceSub, Int.reduceNeg, Int.reduceMul, fp_gu_c, fp_gu_s, fp_lose_o, fp_scut_o, fp_tk_o, fp_lrem_o, fp_push_0])))
        | (refine And.intro (fun _ => ?_) ?_ <;> first | (exfalso; omega) | trivial | ((conv => whnf); (try simp only [u, Int.reduceToNat, Int.toNat_natCast, fp_up_c, fp_up_s, fp_up_i, fp_cp_c, fp_g_s, Nat.reduceBEq, Int.reduceAdd, Int.reduceSub, Int.reduceNeg, Int.reduceMul, fp_gu_c, fp_gu_s, fp_lose_o, fp_scut_o, fp_tk_o, fp_lrem_o, fp_push_0])))
        | (refine And.intro (by simp [fp_rg, fp_up, fp_cp] <;> omega) ?_; (conv => whnf); (try simp only [u, Int.reduceToNat, Int.toNat_natCast, fp_up_c, fp_up_s, fp_up_i, fp_cp_c, fp_g_s, Nat.reduceBEq, Int.reduceAdd, Int.reduceSub, Int.reduceNeg, Int.reduceMul, fp_gu_c, fp_gu_s, fp_lose_o, fp_scut_o, fp_tk_o, fp_lrem_o, fp_push_0]))
        | fail)
    exact hr
