/-! reading the sitters of the text -/
set_option maxHeartbeats 600000 in
set_option maxRecDepth 100000 in
theorem lp_readW {L d n k : Nat} {Q : FpQ} (hb : n ≤ 80) (hk : k < 8) : ∀ (m j a : Nat) (H : FpH), j + m = 8 → H 7 17 1 = (n : Int) → H 7 17 6 = (a : Int) →
    (∀ H', fp_tx H H' → H' 7 17 6 = ((fp_rw (H 7 18) n m a).1 : Int) → H' 7 17 5 = H 7 17 5 → H' 7 20 = H 7 20 → H' 7 21 = H 7 21 → (∀ i, i < 8 * k + j → H' 7 19 i = H 7 19 i) → ((fp_rw (H 7 18) n m a).2 = true → ∀ i, i < m → H' 7 19 (8 * k + j + i) = H 7 18 (a + i) - 48) → Q (some (.inl (if (fp_rw (H 7 18) n m a).2 = true then 1 else 0))) H') →
    fp_Wp L (d + 1) 28 2 [some (.inr (7, 17)), some (.inl ((8 * k : Nat) : Int)), some (.inl (j : Int))] [] H Q := by
  intro m
  induction m with
  | zero =>
    intro j a H hj hn ha hq
    have := hq H fp_tx_r ha rfl rfl rfl (fun _ _ => rfl) (fun _ i hi => by omega)
    refine fp_go 1000 [2] (fun KN KC hN hC => ?_)
    conv => whnf
    (try simp only [Int.reduceToNat, Int.toNat_natCast, fp_up_c, fp_up_s, fp_up_i, fp_cp_c, fp_g_s, Nat.reduceBEq, Int.reduceAdd, Int.reduceSub, Int.reduceNeg, Int.reduceMul])
    (repeat' first
        | (refine And.intro (by first | omega | (unfold fp_rg; omega)) ?_; (try intro _); (conv => whnf); (try simp only [Int.reduceToNat, Int.toNat_natCast, fp_up_c, fp_up_s, fp_up_i, fp_cp_c, fp_g_s, Nat.reduceBEq, Int.reduceAdd, Int.reduceSub, Int.reduceNeg, Int.reduceMul]))
        | (refine And.intro (fun _ => ?_) (fun _ => ?_) <;> first | (exfalso; omega) | (rename_i hz_; exact absurd trivial hz_) | ((conv => whnf); (try simp only [Int.reduceToNat, Int.toNat_natCast, fp_up_c, fp_up_s, fp_up_i, fp_cp_c, fp_g_s, Nat.reduceBEq, Int.reduceAdd, Int.reduceSub, Int.reduceNeg, Int.reduceMul])))
        | (refine And.intro (by simp [fp_rg, fp_up, fp_cp] <;> omega) ?_; (conv => whnf); (try simp only [Int.reduceToNat, Int.toNat_natCast, fp_up_c, fp_up_s, fp_up_i, fp_cp_c, fp_g_s, Nat.reduceBEq, Int.reduceAdd, Int.reduceSub, Int.reduceNeg, Int.reduceMul]))
        | fail)
    exact this
  | succ m ih =>
    intro j a H hj hn ha hq
    refine fp_go 1000 [2] (fun KN KC hN hC => ?_)
    conv => whnf
    (try simp only [Int.reduceToNat, Int.toNat_natCast, fp_up_c, fp_up_s, fp_up_i, fp_cp_c, fp_g_s, Nat.reduceBEq, Int.reduceAdd, Int.reduceSub, Int.reduceNeg, Int.reduceMul])
    (repeat' first
        | (refine And.intro (by first | omega | (unfold fp_rg; omega)) ?_; (try intro _); (conv => whnf); (try simp only [Int.reduceToNat, Int.toNat_natCast, fp_up_c, fp_up_s, fp_up_i, fp_cp_c, fp_g_s, Nat.reduceBEq, Int.reduceAdd, Int.reduceSub, Int.reduceNeg, Int.reduceMul]))
        | (refine And.intro (fun _ => ?_) (fun _ => ?_) <;> first | (exfalso; omega) | (rename_i hz_; exact absurd trivial hz_) | ((conv => whnf); (try simp only [Int.reduceToNat, Int.toNat_natCast, fp_up_c, fp_up_s, fp_up_i, fp_cp_c, fp_g_s, Nat.reduceBEq, Int.reduceAdd, Int.reduceSub, Int.reduceNeg, Int.reduceMul])))
        | (refine And.intro (by simp [fp_rg, fp_up, fp_cp] <;> omega) ?_; (conv => whnf); (try simp only [Int.reduceToNat, Int.toNat_natCast, fp_up_c, fp_up_s, fp_up_i, fp_cp_c, fp_g_s, Nat.reduceBEq, Int.reduceAdd, Int.reduceSub, Int.reduceNeg, Int.reduceMul]))
        | fail)
    refine hC _ _ _ _ ⟨_, rfl, ?_⟩
    refine sp_isDigit hn ha hb (fun hd => ?_) (fun hd => ?_)
    · have hd2 := fp_dg_t.mp hd
      simp only [fp_rw, hd, if_true] at hq
      conv => whnf
      (try simp only [Int.reduceToNat, Int.toNat_natCast, fp_up_c, fp_up_s, fp_up_i, fp_cp_c, fp_g_s, Nat.reduceBEq, Int.reduceAdd, Int.reduceSub, Int.reduceNeg, Int.reduceMul])
      (repeat' first
          | (refine And.intro (by first | omega | (unfold fp_rg; omega)) ?_; (try intro _); (conv => whnf); (try simp only [Int.reduceToNat, Int.toNat_natCast, fp_up_c, fp_up_s, fp_up_i, fp_cp_c, fp_g_s, Nat.reduceBEq, Int.reduceAdd, Int.reduceSub, Int.reduceNeg, Int.reduceMul]))
          | (refine And.intro (fun _ => ?_) (fun _ => ?_) <;> first | (exfalso; omega) | (rename_i hz_; exact absurd trivial hz_) | ((conv => whnf); (try simp only [Int.reduceToNat, Int.toNat_natCast, fp_up_c, fp_up_s, fp_up_i, fp_cp_c, fp_g_s, Nat.reduceBEq, Int.reduceAdd, Int.reduceSub, Int.reduceNeg, Int.reduceMul])))
          | (refine And.intro (by simp [fp_rg, fp_up, fp_cp] <;> omega) ?_; (conv => whnf); (try simp only [Int.reduceToNat, Int.toNat_natCast, fp_up_c, fp_up_s, fp_up_i, fp_cp_c, fp_g_s, Nat.reduceBEq, Int.reduceAdd, Int.reduceSub, Int.reduceNeg, Int.reduceMul]))
          | fail)
      refine hC _ _ _ _ ⟨_, rfl, ?_⟩
      refine sp_readDigit hn ha hb (by omega) ?_
      conv => whnf
      (try simp only [Int.reduceToNat, Int.toNat_natCast, fp_up_c, fp_up_s, fp_up_i, fp_cp_c, fp_g_s, Nat.reduceBEq, Int.reduceAdd, Int.reduceSub, Int.reduceNeg, Int.reduceMul])
      (repeat' first
          | (refine And.intro (by first | omega | (unfold fp_rg; omega)) ?_; (try intro _); (conv => whnf); (try simp only [Int.reduceToNat, Int.toNat_natCast, fp_up_c, fp_up_s, fp_up_i, fp_cp_c, fp_g_s, Nat.reduceBEq, Int.reduceAdd, Int.reduceSub, Int.reduceNeg, Int.reduceMul]))
          | (refine And.intro (fun _ => ?_) (fun _ => ?_) <;> first | (exfalso; omega) | (rename_i hz_; exact absurd trivial hz_) | ((conv => whnf); (try simp only [Int.reduceToNat, Int.toNat_natCast, fp_up_c, fp_up_s, fp_up_i, fp_cp_c, fp_g_s, Nat.reduceBEq, Int.reduceAdd, Int.reduceSub, Int.reduceNeg, Int.reduceMul])))
          | (refine And.intro (by simp [fp_rg, fp_up, fp_cp] <;> omega) ?_; (conv => whnf); (try simp only [Int.reduceToNat, Int.toNat_natCast, fp_up_c, fp_up_s, fp_up_i, fp_cp_c, fp_g_s, Nat.reduceBEq, Int.reduceAdd, Int.reduceSub, Int.reduceNeg, Int.reduceMul]))
          | fail)
      have tx : fp_tx H (fp_up (fp_up H 7 17 6 ((a : Int) + 1)) 7 19 (((8 * k : Nat) : Int) + (j : Int)).toNat (H 7 18 a - 48)) := fp_tx_t (fp_tx_u (by omega)) (fp_tx_u (by omega))
      have e18 := tx.2.1 18 (by decide) (by decide) (by decide) (by decide)
      have ei : (((8 * k : Nat) : Int) + (j : Int)).toNat = 8 * k + j := by omega
      rw [ei] at tx e18 ⊢
      refine hN _ _ _ _ (ih (j + 1) (a + 1) _ (by omega) (by rw [tx.2.2 1 (by decide) (by decide)]; exact hn) (by simp [fp_up]) (fun H' t1 t2 t3 t4 t5 t6 t7 => ?_))
      rw [e18] at t2 t7 ⊢
      refine hq H' (fp_tx_t tx t1) t2 (t3.trans (by simp [fp_up])) (t4.trans (by funext z; simp [fp_up])) (t5.trans (by funext z; simp [fp_up])) (fun i hi => (t6 i (by omega)).trans (by simp [fp_up]; omega)) (fun q i hi => ?_)
      cases i with
      | zero => exact (t6 _ (by omega)).trans (by simp [fp_up])
      | succ i => have := t7 q i (by omega); rw [show 8 * k + j + (i + 1) = 8 * k + (j + 1) + i by omega, show a + (i + 1) = a + 1 + i by omega]; exact this
    · simp only [fp_rw, hd] at hq
      have := hq H fp_tx_r (by simpa using ha) rfl rfl rfl (fun _ _ => rfl) (fun q => by simp at q)
      conv => whnf
      (try simp only [Int.reduceToNat, Int.toNat_natCast, fp_up_c, fp_up_s, fp_up_i, fp_cp_c, fp_g_s, Nat.reduceBEq, Int.reduceAdd, Int.reduceSub, Int.reduceNeg, Int.reduceMul])
      (repeat' first
          | (refine And.intro (by first | omega | (unfold fp_rg; omega)) ?_; (try intro _); (conv => whnf); (try simp only [Int.reduceToNat, Int.toNat_natCast, fp_up_c, fp_up_s, fp_up_i, fp_cp_c, fp_g_s, Nat.reduceBEq, Int.reduceAdd, Int.reduceSub, Int.reduceNeg, Int.reduceMul]))
          | (refine And.intro (fun _ => ?_) (fun _ => ?_) <;> first | (exfalso; omega) | (rename_i hz_; exact absurd trivial hz_) | ((conv => whnf); (try simp only [Int.reduceToNat, Int.toNat_natCast, fp_up_c, fp_up_s, fp_up_i, fp_cp_c, fp_g_s, Nat.reduceBEq, Int.reduceAdd, Int.reduceSub, Int.reduceNeg, Int.reduceMul])))
          | (refine And.intro (by simp [fp_rg, fp_up, fp_cp] <;> omega) ?_; (conv => whnf); (try simp only [Int.reduceToNat, Int.toNat_natCast, fp_up_c, fp_up_s, fp_up_i, fp_cp_c, fp_g_s, Nat.reduceBEq, Int.reduceAdd, Int.reduceSub, Int.reduceNeg, Int.reduceMul]))
          | fail)
      simpa using this
set_option maxHeartbeats 600000 in
set_option maxRecDepth 100000 in
theorem sp_readW {L d n k a : Nat} {H : FpH} {Q : FpQ} (hb : n ≤ 80) (hk : k < 8) (hn : H 7 17 1 = (n : Int)) (ha : H 7 17 6 = (a : Int))
    (hq : ∀ H', fp_tx H H' → H' 7 17 6 = ((fp_rw (H 7 18) n 8 a).1 : Int) → H' 7 17 5 = H 7 17 5 → H' 7 20 = H 7 20 → H' 7 21 = H 7 21 → (∀ i, i < 8 * k → H' 7 19 i = H 7 19 i) → ((fp_rw (H 7 18) n 8 a).2 = true → ∀ i, i < 8 → H' 7 19 (8 * k + i) = H 7 18 (a + i) - 48) → Q (some (.inl (if (fp_rw (H 7 18) n 8 a).2 = true then 1 else 0))) H') :
    fp_Wp L (d + 1) 28 0 (fp_en 28 [.inr (7, 17), .inl ((8 * k : Nat) : Int)]) [] H Q := by
  refine fp_go 1000 [2] (fun KN KC hN hC => ?_)
  conv => whnf
  (try simp only [Int.reduceToNat, Int.toNat_natCast, fp_up_c, fp_up_s, fp_up_i, fp_cp_c, fp_g_s, Nat.reduceBEq, Int.reduceAdd, Int.reduceSub, Int.reduceNeg, Int.reduceMul])
  (repeat' first
      | (refine And.intro (by first | omega | (unfold fp_rg; omega)) ?_; (try intro _); (conv => whnf); (try simp only [Int.reduceToNat, Int.toNat_natCast, fp_up_c, fp_up_s, fp_up_i, fp_cp_c, fp_g_s, Nat.reduceBEq, Int.reduceAdd, Int.reduceSub, Int.reduceNeg, Int.reduceMul]))
      | (refine And.intro (fun _ => ?_) (fun _ => ?_) <;> first | (exfalso; omega) | (rename_i hz_; exact absurd trivial hz_) | ((conv => whnf); (try simp only [Int.reduceToNat, Int.toNat_natCast, fp_up_c, fp_up_s, fp_up_i, fp_cp_c, fp_g_s, Nat.reduceBEq, Int.reduceAdd, Int.reduceSub, Int.reduceNeg, Int.reduceMul])))
      | (refine And.intro (by simp [fp_rg, fp_up, fp_cp] <;> omega) ?_; (conv => whnf); (try simp only [Int.reduceToNat, Int.toNat_natCast, fp_up_c, fp_up_s, fp_up_i, fp_cp_c, fp_g_s, Nat.reduceBEq, Int.reduceAdd, Int.reduceSub, Int.reduceNeg, Int.reduceMul]))
      | fail)
  exact hN _ _ _ _ (lp_readW hb hk 8 0 a H (by omega) hn ha (fun H' t1 t2 t3 t4 t5 t6 t7 => hq H' t1 t2 t3 t4 t5 t6 t7))
set_option maxHeartbeats 600000 in
set_option maxRecDepth 100000 in
theorem sp_readWant {L d n k a : Nat} {H : FpH} {Q : FpQ} (hb : n ≤ 80) (hk : k < 8) (hn : H 7 17 1 = (n : Int)) (ha : H 7 17 6 = (a : Int))
    (hS : ∀ w, fp_wa (H 7 18) n a = some w → Q (some (.inl 1)) (fp_up (fp_up H 7 17 6 ((a : Int) + 1)) 7 20 k w)) (hF : fp_wa (H 7 18) n a = none → Q (some (.inl 0)) H) : fp_Wp L (d + 1) 29 0 (fp_en 29 [.inr (7, 17), .inl (k : Int)]) [] H Q := by
  unfold fp_wa at hS hF
  refine fp_go 1000 [] (fun KN KC hN hC => ?_)
  conv => whnf
  (try simp only [Int.reduceToNat, Int.toNat_natCast, fp_up_c, fp_up_s, fp_up_i, fp_cp_c, fp_g_s, Nat.reduceBEq, Int.reduceAdd, Int.reduceSub, Int.reduceNeg, Int.reduceMul])
  (repeat' first
      | (refine And.intro (by first | omega | (unfold fp_rg; omega)) ?_; (try intro _); (conv => whnf); (try simp only [Int.reduceToNat, Int.toNat_natCast, fp_up_c, fp_up_s, fp_up_i, fp_cp_c, fp_g_s, Nat.reduceBEq, Int.reduceAdd, Int.reduceSub, Int.reduceNeg, Int.reduceMul]))
      | (refine And.intro (fun _ => ?_) (fun _ => ?_) <;> first | (exfalso; omega) | (rename_i hz_; exact absurd trivial hz_) | ((conv => whnf); (try simp only [Int.reduceToNat, Int.toNat_natCast, fp_up_c, fp_up_s, fp_up_i, fp_cp_c, fp_g_s, Nat.reduceBEq, Int.reduceAdd, Int.reduceSub, Int.reduceNeg, Int.reduceMul])))
      | (refine And.intro (by simp [fp_rg, fp_up, fp_cp] <;> omega) ?_; (conv => whnf); (try simp only [Int.reduceToNat, Int.toNat_natCast, fp_up_c, fp_up_s, fp_up_i, fp_cp_c, fp_g_s, Nat.reduceBEq, Int.reduceAdd, Int.reduceSub, Int.reduceNeg, Int.reduceMul]))
      | fail)
  refine hC _ _ _ _ ⟨_, rfl, ?_⟩
  refine sp_takeC hn ha hb (fun h1 => ?_) (fun h1 => ?_)
  · have := hS 0 (if_pos h1)
    conv => whnf
    (try simp only [Int.reduceToNat, Int.toNat_natCast, fp_up_c, fp_up_s, fp_up_i, fp_cp_c, fp_g_s, Nat.reduceBEq, Int.reduceAdd, Int.reduceSub, Int.reduceNeg, Int.reduceMul])
    (repeat' first
        | (refine And.intro (by first | omega | (unfold fp_rg; omega)) ?_; (try intro _); (conv => whnf); (try simp only [Int.reduceToNat, Int.toNat_natCast, fp_up_c, fp_up_s, fp_up_i, fp_cp_c, fp_g_s, Nat.reduceBEq, Int.reduceAdd, Int.reduceSub, Int.reduceNeg, Int.reduceMul]))
        | (refine And.intro (fun _ => ?_) (fun _ => ?_) <;> first | (exfalso; omega) | (rename_i hz_; exact absurd trivial hz_) | ((conv => whnf); (try simp only [Int.reduceToNat, Int.toNat_natCast, fp_up_c, fp_up_s, fp_up_i, fp_cp_c, fp_g_s, Nat.reduceBEq, Int.reduceAdd, Int.reduceSub, Int.reduceNeg, Int.reduceMul])))
        | (refine And.intro (by simp [fp_rg, fp_up, fp_cp] <;> omega) ?_; (conv => whnf); (try simp only [Int.reduceToNat, Int.toNat_natCast, fp_up_c, fp_up_s, fp_up_i, fp_cp_c, fp_g_s, Nat.reduceBEq, Int.reduceAdd, Int.reduceSub, Int.reduceNeg, Int.reduceMul]))
        | fail)
    exact this
  · rw [if_neg h1] at hS hF
    conv => whnf
    (try simp only [Int.reduceToNat, Int.toNat_natCast, fp_up_c, fp_up_s, fp_up_i, fp_cp_c, fp_g_s, Nat.reduceBEq, Int.reduceAdd, Int.reduceSub, Int.reduceNeg, Int.reduceMul])
    (repeat' first
        | (refine And.intro (by first | omega | (unfold fp_rg; omega)) ?_; (try intro _); (conv => whnf); (try simp only [Int.reduceToNat, Int.toNat_natCast, fp_up_c, fp_up_s, fp_up_i, fp_cp_c, fp_g_s, Nat.reduceBEq, Int.reduceAdd, Int.reduceSub, Int.reduceNeg, Int.reduceMul]))
        | (refine And.intro (fun _ => ?_) (fun _ => ?_) <;> first | (exfalso; omega) | (rename_i hz_; exact absurd trivial hz_) | ((conv => whnf); (try simp only [Int.reduceToNat, Int.toNat_natCast, fp_up_c, fp_up_s, fp_up_i, fp_cp_c, fp_g_s, Nat.reduceBEq, Int.reduceAdd, Int.reduceSub, Int.reduceNeg, Int.reduceMul])))
        | (refine And.intro (by simp [fp_rg, fp_up, fp_cp] <;> omega) ?_; (conv => whnf); (try simp only [Int.reduceToNat, Int.toNat_natCast, fp_up_c, fp_up_s, fp_up_i, fp_cp_c, fp_g_s, Nat.reduceBEq, Int.reduceAdd, Int.reduceSub, Int.reduceNeg, Int.reduceMul]))
        | fail)
    refine hC _ _ _ _ ⟨_, rfl, ?_⟩
    refine sp_takeC hn ha hb (fun h2 => ?_) (fun h2 => ?_)
    · have := hS 1 (if_pos h2)
      conv => whnf
      (try simp only [Int.reduceToNat, Int.toNat_natCast, fp_up_c, fp_up_s, fp_up_i, fp_cp_c, fp_g_s, Nat.reduceBEq, Int.reduceAdd, Int.reduceSub, Int.reduceNeg, Int.reduceMul])
      (repeat' first
          | (refine And.intro (by first | omega | (unfold fp_rg; omega)) ?_; (try intro _); (conv => whnf); (try simp only [Int.reduceToNat, Int.toNat_natCast, fp_up_c, fp_up_s, fp_up_i, fp_cp_c, fp_g_s, Nat.reduceBEq, Int.reduceAdd, Int.reduceSub, Int.reduceNeg, Int.reduceMul]))
          | (refine And.intro (fun _ => ?_) (fun _ => ?_) <;> first | (exfalso; omega) | (rename_i hz_; exact absurd trivial hz_) | ((conv => whnf); (try simp only [Int.reduceToNat, Int.toNat_natCast, fp_up_c, fp_up_s, fp_up_i, fp_cp_c, fp_g_s, Nat.reduceBEq, Int.reduceAdd, Int.reduceSub, Int.reduceNeg, Int.reduceMul])))
          | (refine And.intro (by simp [fp_rg, fp_up, fp_cp] <;> omega) ?_; (conv => whnf); (try simp only [Int.reduceToNat, Int.toNat_natCast, fp_up_c, fp_up_s, fp_up_i, fp_cp_c, fp_g_s, Nat.reduceBEq, Int.reduceAdd, Int.reduceSub, Int.reduceNeg, Int.reduceMul]))
          | fail)
      exact this
    · rw [if_neg h2] at hS hF
      conv => whnf
      (try simp only [Int.reduceToNat, Int.toNat_natCast, fp_up_c, fp_up_s, fp_up_i, fp_cp_c, fp_g_s, Nat.reduceBEq, Int.reduceAdd, Int.reduceSub, Int.reduceNeg, Int.reduceMul])
      (repeat' first
          | (refine And.intro (by first | omega | (unfold fp_rg; omega)) ?_; (try intro _); (conv => whnf); (try simp only [Int.reduceToNat, Int.toNat_natCast, fp_up_c, fp_up_s, fp_up_i, fp_cp_c, fp_g_s, Nat.reduceBEq, Int.reduceAdd, Int.reduceSub, Int.reduceNeg, Int.reduceMul]))
          | (refine And.intro (fun _ => ?_) (fun _ => ?_) <;> first | (exfalso; omega) | (rename_i hz_; exact absurd trivial hz_) | ((conv => whnf); (try simp only [Int.reduceToNat, Int.toNat_natCast, fp_up_c, fp_up_s, fp_up_i, fp_cp_c, fp_g_s, Nat.reduceBEq, Int.reduceAdd, Int.reduceSub, Int.reduceNeg, Int.reduceMul])))
          | (refine And.intro (by simp [fp_rg, fp_up, fp_cp] <;> omega) ?_; (conv => whnf); (try simp only [Int.reduceToNat, Int.toNat_natCast, fp_up_c, fp_up_s, fp_up_i, fp_cp_c, fp_g_s, Nat.reduceBEq, Int.reduceAdd, Int.reduceSub, Int.reduceNeg, Int.reduceMul]))
          | fail)
      refine hC _ _ _ _ ⟨_, rfl, ?_⟩
      refine sp_takeC hn ha hb (fun h3 => ?_) (fun h3 => ?_)
      · have := hS 2 (if_pos h3)
        conv => whnf
        (try simp only [Int.reduceToNat, Int.toNat_natCast, fp_up_c, fp_up_s, fp_up_i, fp_cp_c, fp_g_s, Nat.reduceBEq, Int.reduceAdd, Int.reduceSub, Int.reduceNeg, Int.reduceMul])
        (repeat' first
            | (refine And.intro (by first | omega | (unfold fp_rg; omega)) ?_; (try intro _); (conv => whnf); (try simp only [Int.reduceToNat, Int.toNat_natCast, fp_up_c, fp_up_s, fp_up_i, fp_cp_c, fp_g_s, Nat.reduceBEq, Int.reduceAdd, Int.reduceSub, Int.reduceNeg, Int.reduceMul]))
            | (refine And.intro (fun _ => ?_) (fun _ => ?_) <;> first | (exfalso; omega) | (rename_i hz_; exact absurd trivial hz_) | ((conv => whnf); (try simp only [Int.reduceToNat, Int.toNat_natCast, fp_up_c, fp_up_s, fp_up_i, fp_cp_c, fp_g_s, Nat.reduceBEq, Int.reduceAdd, Int.reduceSub, Int.reduceNeg, Int.reduceMul])))
            | (refine And.intro (by simp [fp_rg, fp_up, fp_cp] <;> omega) ?_; (conv => whnf); (try simp only [Int.reduceToNat, Int.toNat_natCast, fp_up_c, fp_up_s, fp_up_i, fp_cp_c, fp_g_s, Nat.reduceBEq, Int.reduceAdd, Int.reduceSub, Int.reduceNeg, Int.reduceMul]))
            | fail)
        exact this
      · rw [if_neg h3] at hF
        conv => whnf
        (try simp only [Int.reduceToNat, Int.toNat_natCast, fp_up_c, fp_up_s, fp_up_i, fp_cp_c, fp_g_s, Nat.reduceBEq, Int.reduceAdd, Int.reduceSub, Int.reduceNeg, Int.reduceMul])
        (repeat' first
            | (refine And.intro (by first | omega | (unfold fp_rg; omega)) ?_; (try intro _); (conv => whnf); (try simp only [Int.reduceToNat, Int.toNat_natCast, fp_up_c, fp_up_s, fp_up_i, fp_cp_c, fp_g_s, Nat.reduceBEq, Int.reduceAdd, Int.reduceSub, Int.reduceNeg, Int.reduceMul]))
            | (refine And.intro (fun _ => ?_) (fun _ => ?_) <;> first | (exfalso; omega) | (rename_i hz_; exact absurd trivial hz_) | ((conv => whnf); (try simp only [Int.reduceToNat, Int.toNat_natCast, fp_up_c, fp_up_s, fp_up_i, fp_cp_c, fp_g_s, Nat.reduceBEq, Int.reduceAdd, Int.reduceSub, Int.reduceNeg, Int.reduceMul])))
            | (refine And.intro (by simp [fp_rg, fp_up, fp_cp] <;> omega) ?_; (conv => whnf); (try simp only [Int.reduceToNat, Int.toNat_natCast, fp_up_c, fp_up_s, fp_up_i, fp_cp_c, fp_g_s, Nat.reduceBEq, Int.reduceAdd, Int.reduceSub, Int.reduceNeg, Int.reduceMul]))
            | fail)
        exact hF rfl
set_option maxHeartbeats 600000 in
set_option maxRecDepth 100000 in
theorem sp_readPat {L d n a : Nat} {H : FpH} {Q : FpQ} (hb : n ≤ 80) (hn : H 7 17 1 = (n : Int)) (ha : H 7 17 6 = (a : Int)) (hq : Q (some (.inl (fp_pa (H 7 18) n a).2)) (fp_up H 7 17 6 ((fp_pa (H 7 18) n a).1 : Int))) : fp_Wp L (d + 1) 30 0 (fp_en 30 [.inr (7, 17)]) [] H Q := by
  refine fp_go 1000 [] (fun KN KC hN hC => ?_)
  conv => whnf
  (try simp only [Int.reduceToNat, Int.toNat_natCast, fp_up_c, fp_up_s, fp_up_i, fp_cp_c, fp_g_s, Nat.reduceBEq, Int.reduceAdd, Int.reduceSub, Int.reduceNeg, Int.reduceMul])
  (repeat' first
      | (refine And.intro (by first | omega | (unfold fp_rg; omega)) ?_; (try intro _); (conv => whnf); (try simp only [Int.reduceToNat, Int.toNat_natCast, fp_up_c, fp_up_s, fp_up_i, fp_cp_c, fp_g_s, Nat.reduceBEq, Int.reduceAdd, Int.reduceSub, Int.reduceNeg, Int.reduceMul]))
      | (refine And.intro (fun _ => ?_) (fun _ => ?_) <;> first | (exfalso; omega) | (rename_i hz_; exact absurd trivial hz_) | ((conv => whnf); (try simp only [Int.reduceToNat, Int.toNat_natCast, fp_up_c, fp_up_s, fp_up_i, fp_cp_c, fp_g_s, Nat.reduceBEq, Int.reduceAdd, Int.reduceSub, Int.reduceNeg, Int.reduceMul])))
      | (refine And.intro (by simp [fp_rg, fp_up, fp_cp] <;> omega) ?_; (conv => whnf); (try simp only [Int.reduceToNat, Int.toNat_natCast, fp_up_c, fp_up_s, fp_up_i, fp_cp_c, fp_g_s, Nat.reduceBEq, Int.reduceAdd, Int.reduceSub, Int.reduceNeg, Int.reduceMul]))
      | fail)
  refine hC _ _ _ _ ⟨_, rfl, ?_⟩
  refine sp_isDigit hn ha hb (fun hd => ?_) (fun hd => ?_)
  · have hd2 := fp_dg_t.mp hd
    simp only [fp_pa, hd, if_true] at hq
    conv => whnf
    (try simp only [Int.reduceToNat, Int.toNat_natCast, fp_up_c, fp_up_s, fp_up_i, fp_cp_c, fp_g_s, Nat.reduceBEq, Int.reduceAdd, Int.reduceSub, Int.reduceNeg, Int.reduceMul])
    (repeat' first
        | (refine And.intro (by first | omega | (unfold fp_rg; omega)) ?_; (try intro _); (conv => whnf); (try simp only [Int.reduceToNat, Int.toNat_natCast, fp_up_c, fp_up_s, fp_up_i, fp_cp_c, fp_g_s, Nat.reduceBEq, Int.reduceAdd, Int.reduceSub, Int.reduceNeg, Int.reduceMul]))
        | (refine And.intro (fun _ => ?_) (fun _ => ?_) <;> first | (exfalso; omega) | (rename_i hz_; exact absurd trivial hz_) | ((conv => whnf); (try simp only [Int.reduceToNat, Int.toNat_natCast, fp_up_c, fp_up_s, fp_up_i, fp_cp_c, fp_g_s, Nat.reduceBEq, Int.reduceAdd, Int.reduceSub, Int.reduceNeg, Int.reduceMul])))
        | (refine And.intro (by simp [fp_rg, fp_up, fp_cp] <;> omega) ?_; (conv => whnf); (try simp only [Int.reduceToNat, Int.toNat_natCast, fp_up_c, fp_up_s, fp_up_i, fp_cp_c, fp_g_s, Nat.reduceBEq, Int.reduceAdd, Int.reduceSub, Int.reduceNeg, Int.reduceMul]))
        | fail)
    refine hC _ _ _ _ ⟨_, rfl, ?_⟩
    refine sp_readDigit hn ha hb (by omega) ?_
    conv => whnf
    (try simp only [Int.reduceToNat, Int.toNat_natCast, fp_up_c, fp_up_s, fp_up_i, fp_cp_c, fp_g_s, Nat.reduceBEq, Int.reduceAdd, Int.reduceSub, Int.reduceNeg, Int.reduceMul])
    (repeat' first
        | (refine And.intro (by first | omega | (unfold fp_rg; omega)) ?_; (try intro _); (conv => whnf); (try simp only [Int.reduceToNat, Int.toNat_natCast, fp_up_c, fp_up_s, fp_up_i, fp_cp_c, fp_g_s, Nat.reduceBEq, Int.reduceAdd, Int.reduceSub, Int.reduceNeg, Int.reduceMul]))
        | (refine And.intro (fun _ => ?_) (fun _ => ?_) <;> first | (exfalso; omega) | (rename_i hz_; exact absurd trivial hz_) | ((conv => whnf); (try simp only [Int.reduceToNat, Int.toNat_natCast, fp_up_c, fp_up_s, fp_up_i, fp_cp_c, fp_g_s, Nat.reduceBEq, Int.reduceAdd, Int.reduceSub, Int.reduceNeg, Int.reduceMul])))
        | (refine And.intro (by simp [fp_rg, fp_up, fp_cp] <;> omega) ?_; (conv => whnf); (try simp only [Int.reduceToNat, Int.toNat_natCast, fp_up_c, fp_up_s, fp_up_i, fp_cp_c, fp_g_s, Nat.reduceBEq, Int.reduceAdd, Int.reduceSub, Int.reduceNeg, Int.reduceMul]))
        | fail)
    refine hC _ _ _ _ ⟨_, rfl, ?_⟩
    refine sp_isDigit (a := a + 1) (n := n) (by simp [fp_up]; exact hn) (by simp [fp_up]) hb (fun hd3 => ?_) (fun hd3 => ?_)
    · have e18 : fp_up H 7 17 6 ((a : Int) + 1) 7 18 = H 7 18 := by funext z; simp [fp_up]
      rw [e18] at hd3
      have hd4 := fp_dg_t.mp hd3
      simp only [hd3, if_true] at hq
      conv => whnf
      (try simp only [Int.reduceToNat, Int.toNat_natCast, fp_up_c, fp_up_s, fp_up_i, fp_cp_c, fp_g_s, Nat.reduceBEq, Int.reduceAdd, Int.reduceSub, Int.reduceNeg, Int.reduceMul])
      (repeat' first
          | (refine And.intro (by first | omega | (unfold fp_rg; omega)) ?_; (try intro _); (conv => whnf); (try simp only [Int.reduceToNat, Int.toNat_natCast, fp_up_c, fp_up_s, fp_up_i, fp_cp_c, fp_g_s, Nat.reduceBEq, Int.reduceAdd, Int.reduceSub, Int.reduceNeg, Int.reduceMul]))
          | (refine And.intro (fun _ => ?_) (fun _ => ?_) <;> first | (exfalso; omega) | (rename_i hz_; exact absurd trivial hz_) | ((conv => whnf); (try simp only [Int.reduceToNat, Int.toNat_natCast, fp_up_c, fp_up_s, fp_up_i, fp_cp_c, fp_g_s, Nat.reduceBEq, Int.reduceAdd, Int.reduceSub, Int.reduceNeg, Int.reduceMul])))
          | (refine And.intro (by simp [fp_rg, fp_up, fp_cp] <;> omega) ?_; (conv => whnf); (try simp only [Int.reduceToNat, Int.toNat_natCast, fp_up_c, fp_up_s, fp_up_i, fp_cp_c, fp_g_s, Nat.reduceBEq, Int.reduceAdd, Int.reduceSub, Int.reduceNeg, Int.reduceMul]))
          | fail)
      refine hC _ _ _ _ ⟨_, rfl, ?_⟩
      refine sp_readDigit (a := a + 1) (n := n) (by simp [fp_up]; exact hn) (by simp [fp_up]) hb (by rw [e18]; omega) ?_
      rw [e18, fp_up_up]
      conv => whnf
      (try simp only [Int.reduceToNat, Int.toNat_natCast, fp_up_c, fp_up_s, fp_up_i, fp_cp_c, fp_g_s, Nat.reduceBEq, Int.reduceAdd, Int.reduceSub, Int.reduceNeg, Int.reduceMul])
      (repeat' first
          | (refine And.intro (by first | omega | (unfold fp_rg; omega)) ?_; (try intro _); (conv => whnf); (try simp only [Int.reduceToNat, Int.toNat_natCast, fp_up_c, fp_up_s, fp_up_i, fp_cp_c, fp_g_s, Nat.reduceBEq, Int.reduceAdd, Int.reduceSub, Int.reduceNeg, Int.reduceMul]))
          | (refine And.intro (fun _ => ?_) (fun _ => ?_) <;> first | (exfalso; omega) | (rename_i hz_; exact absurd trivial hz_) | ((conv => whnf); (try simp only [Int.reduceToNat, Int.toNat_natCast, fp_up_c, fp_up_s, fp_up_i, fp_cp_c, fp_g_s, Nat.reduceBEq, Int.reduceAdd, Int.reduceSub, Int.reduceNeg, Int.reduceMul])))
          | (refine And.intro (by simp [fp_rg, fp_up, fp_cp] <;> omega) ?_; (conv => whnf); (try simp only [Int.reduceToNat, Int.toNat_natCast, fp_up_c, fp_up_s, fp_up_i, fp_cp_c, fp_g_s, Nat.reduceBEq, Int.reduceAdd, Int.reduceSub, Int.reduceNeg, Int.reduceMul]))
          | fail)
      rw [show ((a + 1 : Nat) : Int) + 1 = ((a + 2 : Nat) : Int) by omega]
      exact hq
    · have e18 : fp_up H 7 17 6 ((a : Int) + 1) 7 18 = H 7 18 := by funext z; simp [fp_up]
      rw [e18] at hd3
      simp only [hd3] at hq
      conv => whnf
      (try simp only [Int.reduceToNat, Int.toNat_natCast, fp_up_c, fp_up_s, fp_up_i, fp_cp_c, fp_g_s, Nat.reduceBEq, Int.reduceAdd, Int.reduceSub, Int.reduceNeg, Int.reduceMul])
      (repeat' first
          | (refine And.intro (by first | omega | (unfold fp_rg; omega)) ?_; (try intro _); (conv => whnf); (try simp only [Int.reduceToNat, Int.toNat_natCast, fp_up_c, fp_up_s, fp_up_i, fp_cp_c, fp_g_s, Nat.reduceBEq, Int.reduceAdd, Int.reduceSub, Int.reduceNeg, Int.reduceMul]))
          | (refine And.intro (fun _ => ?_) (fun _ => ?_) <;> first | (exfalso; omega) | (rename_i hz_; exact absurd trivial hz_) | ((conv => whnf); (try simp only [Int.reduceToNat, Int.toNat_natCast, fp_up_c, fp_up_s, fp_up_i, fp_cp_c, fp_g_s, Nat.reduceBEq, Int.reduceAdd, Int.reduceSub, Int.reduceNeg, Int.reduceMul])))
          | (refine And.intro (by simp [fp_rg, fp_up, fp_cp] <;> omega) ?_; (conv => whnf); (try simp only [Int.reduceToNat, Int.toNat_natCast, fp_up_c, fp_up_s, fp_up_i, fp_cp_c, fp_g_s, Nat.reduceBEq, Int.reduceAdd, Int.reduceSub, Int.reduceNeg, Int.reduceMul]))
          | fail)
      exact hq
  · simp only [fp_pa, hd] at hq
    conv => whnf
    (try simp only [Int.reduceToNat, Int.toNat_natCast, fp_up_c, fp_up_s, fp_up_i, fp_cp_c, fp_g_s, Nat.reduceBEq, Int.reduceAdd, Int.reduceSub, Int.reduceNeg, Int.reduceMul])
    (repeat' first
        | (refine And.intro (by first | omega | (unfold fp_rg; omega)) ?_; (try intro _); (conv => whnf); (try simp only [Int.reduceToNat, Int.toNat_natCast, fp_up_c, fp_up_s, fp_up_i, fp_cp_c, fp_g_s, Nat.reduceBEq, Int.reduceAdd, Int.reduceSub, Int.reduceNeg, Int.reduceMul]))
        | (refine And.intro (fun _ => ?_) (fun _ => ?_) <;> first | (exfalso; omega) | (rename_i hz_; exact absurd trivial hz_) | ((conv => whnf); (try simp only [Int.reduceToNat, Int.toNat_natCast, fp_up_c, fp_up_s, fp_up_i, fp_cp_c, fp_g_s, Nat.reduceBEq, Int.reduceAdd, Int.reduceSub, Int.reduceNeg, Int.reduceMul])))
        | (refine And.intro (by simp [fp_rg, fp_up, fp_cp] <;> omega) ?_; (conv => whnf); (try simp only [Int.reduceToNat, Int.toNat_natCast, fp_up_c, fp_up_s, fp_up_i, fp_cp_c, fp_g_s, Nat.reduceBEq, Int.reduceAdd, Int.reduceSub, Int.reduceNeg, Int.reduceMul]))
        | fail)
    have e := fp_up_id ha
    rw [← e]
    exact hq
/-- the entries as the text's object holds them -/
def fp_ec (T : Nat → Int) (n : Nat) (H : FpH) : Nat → Nat → Nat → Prop
  | 0, _, _ => True
  | c + 1, k, a => ((∀ j, j < 8 → H 7 19 (8 * k + j) = T (a + j) - 48) ∧ H 7 20 k = (fp_pe T n a).2.2.1 ∧ H 7 21 k = (fp_pe T n a).2.2.2) ∧ fp_ec T n H c (k + 1) ((fp_pe T n a).2.1 + 1)
