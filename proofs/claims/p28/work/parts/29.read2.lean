/-! read() -/
def fp_sqr (T : Nat → Int) (n m b : Nat) : Int × Nat := if T b = 59 then fp_sq T n m (b + 1) else ((b : Int), 0)
def fp_kp8 (H H' : FpH) (k : Nat) : Prop := (∀ i, i < 8 * k → H' 7 19 i = H 7 19 i) ∧ (∀ i, i < k → H' 7 20 i = H 7 20 i ∧ H' 7 21 i = H 7 21 i)
/-- the end of read(), entry k being read from a, with the outcome r -/
def fp_rq (T : Nat → Int) (n : Nat) (Q : FpQ) (H : FpH) (k a : Nat) (r : Int × Nat) : Prop :=
  ∀ H', fp_tx H H' → fp_kp8 H H' k → (r.1 = -1 → H' 7 17 5 = ((k + r.2 : Nat) : Int) ∧ fp_ec T n H' r.2 k a ∧ k + r.2 ≤ 8) → (r.1 ≠ -1 → H' 7 17 6 = r.1) → Q (some (.inl (if r.1 = -1 then 1 else 0))) H'
def fp_RP (L d n : Nat) (Q : FpQ) (m : Nat) : Prop := ∀ (k b : Nat) (H : FpH), k + m = 8 → 1 ≤ k → H 7 17 1 = (n : Int) → H 7 17 6 = (b : Int) → b < n →
  fp_rq (H 7 18) n Q H k (b + 1) (fp_sqr (H 7 18) n m b) → fp_Wp L (d + 2) 27 12 [some (.inr (7, 17)), some (.inl (k : Int))] [] H Q
theorem fp_pe_1 {T : Nat → Int} {n a b : Nat} (h : fp_rw T n 8 a = (b, false)) : fp_pe T n a = (false, b, 0, 0) := by unfold fp_pe; rw [h]
theorem fp_pe_2 {T : Nat → Int} {n a b : Nat} (h : fp_rw T n 8 a = (b, true)) (hw : fp_wa T n b = none) : fp_pe T n a = (false, b, 0, 0) := by
  unfold fp_pe; rw [h]; simp only [hw]
theorem fp_pe_3 {T : Nat → Int} {n a b : Nat} {w : Int} (h : fp_rw T n 8 a = (b, true)) (hw : fp_wa T n b = some w) : fp_pe T n a = (true, (fp_pa T n (b + 1)).1, w, (fp_pa T n (b + 1)).2) := by
  unfold fp_pe; rw [h]; simp only [hw]
set_option maxHeartbeats 600000 in
set_option maxRecDepth 100000 in
theorem lp_body {L d n m : Nat} {Q : FpQ} (hb : n ≤ 80) (hP : fp_RP L d n Q m) {k a : Nat} {H : FpH} (hk : k + m = 7) (hn : H 7 17 1 = (n : Int)) (ha : H 7 17 6 = (a : Int)) (han : a ≤ n) (hq : fp_rq (H 7 18) n Q H k a (fp_sq (H 7 18) n (m + 1) a)) : fp_Wp L (d + 2) 27 33 [some (.inr (7, 17)), some (.inl (k : Int))] [] H Q := by
  rcases hrw : fp_rw (H 7 18) n 8 a with ⟨b, ok⟩
  have hbb := fp_rw_b (T := H 7 18) (n := n) 8 a han
  rw [hrw] at hbb
  refine fp_go 1000 [12] (fun KN KC hN hC => ?_)
  conv => whnf
  (try simp only [Int.reduceToNat, Int.toNat_natCast, fp_up_c, fp_up_s, fp_up_i, fp_cp_c, fp_g_s, Nat.reduceBEq, Int.reduceAdd, Int.reduceSub, Int.reduceNeg, Int.reduceMul])
  (repeat' first
      | (refine And.intro (by first | omega | (unfold fp_rg; omega)) ?_; (try intro _); (conv => whnf); (try simp only [Int.reduceToNat, Int.toNat_natCast, fp_up_c, fp_up_s, fp_up_i, fp_cp_c, fp_g_s, Nat.reduceBEq, Int.reduceAdd, Int.reduceSub, Int.reduceNeg, Int.reduceMul]))
      | (refine And.intro (fun _ => ?_) (fun _ => ?_) <;> first | (exfalso; omega) | (rename_i hz_; exact absurd trivial hz_) | ((conv => whnf); (try simp only [Int.reduceToNat, Int.toNat_natCast, fp_up_c, fp_up_s, fp_up_i, fp_cp_c, fp_g_s, Nat.reduceBEq, Int.reduceAdd, Int.reduceSub, Int.reduceNeg, Int.reduceMul])))
      | (refine And.intro (by simp [fp_rg, fp_up, fp_cp] <;> omega) ?_; (conv => whnf); (try simp only [Int.reduceToNat, Int.toNat_natCast, fp_up_c, fp_up_s, fp_up_i, fp_cp_c, fp_g_s, Nat.reduceBEq, Int.reduceAdd, Int.reduceSub, Int.reduceNeg, Int.reduceMul]))
      | fail)
  rw [show (k : Int) * 8 = ((8 * k : Nat) : Int) by omega]
  refine hC _ _ _ _ ⟨_, rfl, ?_⟩
  refine sp_readW hb (by omega) hn ha (fun H1 t1 t2 t3 t4 t5 t6 t7 => ?_)
  rw [hrw] at t2 t7 ⊢
  have e18 := t1.2.1 18 (by decide) (by decide) (by decide) (by decide)
  have hn1 : H1 7 17 1 = (n : Int) := (t1.2.2 1 (by decide) (by decide)).trans hn
  cases ok with
  | false =>
    have e : fp_sq (H 7 18) n (m + 1) a = ((b : Int), 0) := by simp only [fp_sq, fp_pe_1 hrw]
    have := hq H1 t1 ⟨t6, fun i hi => ⟨by rw [t4], by rw [t5]⟩⟩ (fun q => by rw [e] at q; simp only at q; omega) (fun _ => by rw [e]; exact t2)
    rw [e, if_neg (by simp only; omega)] at this
    simp only [Bool.false_eq_true, if_false]
    conv => whnf
    (try simp only [Int.reduceToNat, Int.toNat_natCast, fp_up_c, fp_up_s, fp_up_i, fp_cp_c, fp_g_s, Nat.reduceBEq, Int.reduceAdd, Int.reduceSub, Int.reduceNeg, Int.reduceMul])
    (repeat' first
        | (refine And.intro (by first | omega | (unfold fp_rg; omega)) ?_; (try intro _); (conv => whnf); (try simp only [Int.reduceToNat, Int.toNat_natCast, fp_up_c, fp_up_s, fp_up_i, fp_cp_c, fp_g_s, Nat.reduceBEq, Int.reduceAdd, Int.reduceSub, Int.reduceNeg, Int.reduceMul]))
        | (refine And.intro (fun _ => ?_) (fun _ => ?_) <;> first | (exfalso; omega) | (rename_i hz_; exact absurd trivial hz_) | ((conv => whnf); (try simp only [Int.reduceToNat, Int.toNat_natCast, fp_up_c, fp_up_s, fp_up_i, fp_cp_c, fp_g_s, Nat.reduceBEq, Int.reduceAdd, Int.reduceSub, Int.reduceNeg, Int.reduceMul])))
        | (refine And.intro (by simp [fp_rg, fp_up, fp_cp] <;> omega) ?_; (conv => whnf); (try simp only [Int.reduceToNat, Int.toNat_natCast, fp_up_c, fp_up_s, fp_up_i, fp_cp_c, fp_g_s, Nat.reduceBEq, Int.reduceAdd, Int.reduceSub, Int.reduceNeg, Int.reduceMul]))
        | fail)
    exact this
  | true =>
    obtain ⟨hb1, hb2, hb3⟩ := hbb
    have hb4 := (hb3 rfl).1
    simp only at hb1 hb2 hb4
    simp only [if_true]
    conv => whnf
    (try simp only [Int.reduceToNat, Int.toNat_natCast, fp_up_c, fp_up_s, fp_up_i, fp_cp_c, fp_g_s, Nat.reduceBEq, Int.reduceAdd, Int.reduceSub, Int.reduceNeg, Int.reduceMul])
    (repeat' first
        | (refine And.intro (by first | omega | (unfold fp_rg; omega)) ?_; (try intro _); (conv => whnf); (try simp only [Int.reduceToNat, Int.toNat_natCast, fp_up_c, fp_up_s, fp_up_i, fp_cp_c, fp_g_s, Nat.reduceBEq, Int.reduceAdd, Int.reduceSub, Int.reduceNeg, Int.reduceMul]))
        | (refine And.intro (fun _ => ?_) (fun _ => ?_) <;> first | (exfalso; omega) | (rename_i hz_; exact absurd trivial hz_) | ((conv => whnf); (try simp only [Int.reduceToNat, Int.toNat_natCast, fp_up_c, fp_up_s, fp_up_i, fp_cp_c, fp_g_s, Nat.reduceBEq, Int.reduceAdd, Int.reduceSub, Int.reduceNeg, Int.reduceMul])))
        | (refine And.intro (by simp [fp_rg, fp_up, fp_cp] <;> omega) ?_; (conv => whnf); (try simp only [Int.reduceToNat, Int.toNat_natCast, fp_up_c, fp_up_s, fp_up_i, fp_cp_c, fp_g_s, Nat.reduceBEq, Int.reduceAdd, Int.reduceSub, Int.reduceNeg, Int.reduceMul]))
        | fail)
    refine hC _ _ _ _ ⟨_, rfl, ?_⟩
    refine sp_readWant hb (by omega) hn1 t2 (fun w hw => ?_) (fun hw => ?_)
    · rw [e18] at hw
      have hpe := fp_pe_3 hrw hw
      have hwb := fp_wa_b hw
      have hpb := fp_pa_b (T := H 7 18) (n := n) (a := b + 1) (by omega)
      have tx2 : fp_tx H1 (fp_up (fp_up H1 7 17 6 ((b : Int) + 1)) 7 20 k w) := fp_tx_t (fp_tx_u (by omega)) (fp_tx_u (by omega))
      have e182 := tx2.2.1 18 (by decide) (by decide) (by decide) (by decide)
      conv => whnf
      (try simp only [Int.reduceToNat, Int.toNat_natCast, fp_up_c, fp_up_s, fp_up_i, fp_cp_c, fp_g_s, Nat.reduceBEq, Int.reduceAdd, Int.reduceSub, Int.reduceNeg, Int.reduceMul])
      (repeat' first
          | (refine And.intro (by first | omega | (unfold fp_rg; omega)) ?_; (try intro _); (conv => whnf); (try simp only [Int.reduceToNat, Int.toNat_natCast, fp_up_c, fp_up_s, fp_up_i, fp_cp_c, fp_g_s, Nat.reduceBEq, Int.reduceAdd, Int.reduceSub, Int.reduceNeg, Int.reduceMul]))
          | (refine And.intro (fun _ => ?_) (fun _ => ?_) <;> first | (exfalso; omega) | (rename_i hz_; exact absurd trivial hz_) | ((conv => whnf); (try simp only [Int.reduceToNat, Int.toNat_natCast, fp_up_c, fp_up_s, fp_up_i, fp_cp_c, fp_g_s, Nat.reduceBEq, Int.reduceAdd, Int.reduceSub, Int.reduceNeg, Int.reduceMul])))
          | (refine And.intro (by simp [fp_rg, fp_up, fp_cp] <;> omega) ?_; (conv => whnf); (try simp only [Int.reduceToNat, Int.toNat_natCast, fp_up_c, fp_up_s, fp_up_i, fp_cp_c, fp_g_s, Nat.reduceBEq, Int.reduceAdd, Int.reduceSub, Int.reduceNeg, Int.reduceMul]))
          | fail)
      refine hC _ _ _ _ ⟨_, rfl, ?_⟩
      refine sp_readPat (n := n) (a := b + 1) hb (by rw [tx2.2.2 1 (by decide) (by decide)]; exact hn1) (by simp [fp_up]) ?_
      rw [e182, e18]
      conv => whnf
      (try simp only [hn1, fp_up_c, Int.reduceToNat, Int.toNat_natCast, fp_up_c, fp_up_s, fp_up_i, fp_cp_c, fp_g_s, Nat.reduceBEq, Int.reduceAdd, Int.reduceSub, Int.reduceNeg, Int.reduceMul])
      (repeat' first
          | (refine And.intro (by first | omega | (unfold fp_rg; omega)) ?_; (try intro _); (conv => whnf); (try simp only [hn1, fp_up_c, Int.reduceToNat, Int.toNat_natCast, fp_up_c, fp_up_s, fp_up_i, fp_cp_c, fp_g_s, Nat.reduceBEq, Int.reduceAdd, Int.reduceSub, Int.reduceNeg, Int.reduceMul]))
          | (refine And.intro (fun _ => ?_) (fun _ => ?_) <;> first | (exfalso; omega) | (rename_i hz_; exact absurd trivial hz_) | ((conv => whnf); (try simp only [hn1, fp_up_c, Int.reduceToNat, Int.toNat_natCast, fp_up_c, fp_up_s, fp_up_i, fp_cp_c, fp_g_s, Nat.reduceBEq, Int.reduceAdd, Int.reduceSub, Int.reduceNeg, Int.reduceMul])))
          | (refine And.intro (by simp [fp_rg, fp_up, fp_cp] <;> omega) ?_; (conv => whnf); (try simp only [hn1, fp_up_c, Int.reduceToNat, Int.toNat_natCast, fp_up_c, fp_up_s, fp_up_i, fp_cp_c, fp_g_s, Nat.reduceBEq, Int.reduceAdd, Int.reduceSub, Int.reduceNeg, Int.reduceMul]))
          | fail)
      · rename_i hbn
        have hbn2 : (fp_pa (H 7 18) n (b + 1)).1 = n := by omega
        have e : fp_sq (H 7 18) n (m + 1) a = (-1, 1) := by simp only [fp_sq, hpe, hbn2, if_true]
        rw [e] at hq
        refine fp_eqQ (hq _ (fp_tx_t t1 (fp_tx_t tx2 (fp_tx_t (fp_tx_u (by omega)) (fp_tx_t (fp_tx_u (by omega)) (fp_tx_u (by omega)))))) ⟨fun i hi => ?_, fun i hi => ?_⟩ (fun _ => ⟨?_, ⟨⟨fun j hj => ?_, ?_, ?_⟩, trivial⟩, by simp only; omega⟩) (fun q => absurd rfl q)) rfl
        · simp [fp_up]; exact t6 i hi
        · simp [fp_up, show i ≠ k by omega]; exact ⟨by rw [t4], by rw [t5]⟩
        · simp [fp_up]
        · simp [fp_up]; exact t7 rfl j hj
        · rw [hpe]; simp [fp_up]
        · rw [hpe]; simp [fp_up]
      · rename_i hbn
        have hbn2 : ¬ (fp_pa (H 7 18) n (b + 1)).1 = n := by omega
        have e : fp_sq (H 7 18) n (m + 1) a = if H 7 18 (fp_pa (H 7 18) n (b + 1)).1 = 59 then ((fp_sq (H 7 18) n m ((fp_pa (H 7 18) n (b + 1)).1 + 1)).1, (fp_sq (H 7 18) n m ((fp_pa (H 7 18) n (b + 1)).1 + 1)).2 + 1) else (((fp_pa (H 7 18) n (b + 1)).1 : Int), 0) := by simp only [fp_sq, hpe, if_neg hbn2]
        have tx3 : fp_tx H (fp_up (fp_up (fp_up (fp_up H1 7 17 6 ((b : Int) + 1)) 7 20 k w) 7 17 6 ((fp_pa (H 7 18) n (b + 1)).1 : Int)) 7 21 k (fp_pa (H 7 18) n (b + 1)).2) := fp_tx_t t1 (fp_tx_t tx2 (fp_tx_t (fp_tx_u (by omega)) (fp_tx_u (by omega))))
        have e183 := tx3.2.1 18 (by decide) (by decide) (by decide) (by decide)
        refine hN _ _ _ _ (hP (k + 1) (fp_pa (H 7 18) n (b + 1)).1 _ (by omega) (by omega) (by rw [tx3.2.2 1 (by decide) (by decide)]; exact hn) (by simp [fp_up]) (by omega) ?_)
        rw [e183]
        intro H' u1 u2 u3 u4
        have hr1 : (fp_sq (H 7 18) n (m + 1) a).1 = (fp_sqr (H 7 18) n m (fp_pa (H 7 18) n (b + 1)).1).1 := by
          rw [e]; unfold fp_sqr; split <;> rfl
        have := hq H' (fp_tx_t tx3 u1) ⟨fun i hi => ?_, fun i hi => ?_⟩ (fun q => ?_) (fun q => ?_)
        · rw [hr1] at this; exact this
        · rw [u2.1 i (by omega)]; simp [fp_up]; exact t6 i hi
        · have := u2.2 i (by omega)
          rw [this.1, this.2]; simp [fp_up, show i ≠ k by omega]; exact ⟨by rw [t4], by rw [t5]⟩
        · rw [hr1] at q
          obtain ⟨v1, v2, v3⟩ := u3 q
          have hr2 : (fp_sq (H 7 18) n (m + 1) a).2 = (fp_sqr (H 7 18) n m (fp_pa (H 7 18) n (b + 1)).1).2 + 1 := by
            rw [e]; unfold fp_sqr at q ⊢
            split
            · rfl
            · rename_i hz; rw [if_neg hz] at q; simp only at q; omega
          have v20 := u2.2 k (by omega)
          rw [hr2]
          refine ⟨by rw [v1]; omega, ⟨⟨fun j hj => ?_, ?_, ?_⟩, ?_⟩, by omega⟩
          · rw [u2.1 _ (by omega)]; simp [fp_up]; exact t7 rfl j hj
          · rw [hpe, v20.1]; simp [fp_up]
          · rw [hpe, v20.2]; simp [fp_up]
          · rw [hpe]; exact v2
        · rw [hr1] at q ⊢; exact u4 q
    · rw [e18] at hw
      have e : fp_sq (H 7 18) n (m + 1) a = ((b : Int), 0) := by simp only [fp_sq, fp_pe_2 hrw hw]
      have := hq H1 t1 ⟨t6, fun i hi => ⟨by rw [t4], by rw [t5]⟩⟩ (fun q => by rw [e] at q; simp only at q; omega) (fun _ => by rw [e]; exact t2)
      rw [e, if_neg (by simp only; omega)] at this
      conv => whnf
      (try simp only [Int.reduceToNat, Int.toNat_natCast, fp_up_c, fp_up_s, fp_up_i, fp_cp_c, fp_g_s, Nat.reduceBEq, Int.reduceAdd, Int.reduceSub, Int.reduceNeg, Int.reduceMul])
      (repeat' first
          | (refine And.intro (by first | omega | (unfold fp_rg; omega)) ?_; (try intro _); (conv => whnf); (try simp only [Int.reduceToNat, Int.toNat_natCast, fp_up_c, fp_up_s, fp_up_i, fp_cp_c, fp_g_s, Nat.reduceBEq, Int.reduceAdd, Int.reduceSub, Int.reduceNeg, Int.reduceMul]))
          | (refine And.intro (fun _ => ?_) (fun _ => ?_) <;> first | (exfalso; omega) | (rename_i hz_; exact absurd trivial hz_) | ((conv => whnf); (try simp only [Int.reduceToNat, Int.toNat_natCast, fp_up_c, fp_up_s, fp_up_i, fp_cp_c, fp_g_s, Nat.reduceBEq, Int.reduceAdd, Int.reduceSub, Int.reduceNeg, Int.reduceMul])))
          | (refine And.intro (by simp [fp_rg, fp_up, fp_cp] <;> omega) ?_; (conv => whnf); (try simp only [Int.reduceToNat, Int.toNat_natCast, fp_up_c, fp_up_s, fp_up_i, fp_cp_c, fp_g_s, Nat.reduceBEq, Int.reduceAdd, Int.reduceSub, Int.reduceNeg, Int.reduceMul]))
          | fail)
      exact this
set_option maxHeartbeats 600000 in
set_option maxRecDepth 100000 in
theorem lp_read {L d n : Nat} {Q : FpQ} (hb : n ≤ 80) : ∀ m, fp_RP L d n Q m := by
  intro m
  induction m with
  | zero =>
    intro k b H hk hk1 hn ha hbn hq
    obtain rfl : k = 8 := by omega
    unfold fp_sqr at hq
    refine fp_go 1000 [12] (fun KN KC hN hC => ?_)
    conv => whnf
    (try simp only [Int.reduceToNat, Int.toNat_natCast, fp_up_c, fp_up_s, fp_up_i, fp_cp_c, fp_g_s, Nat.reduceBEq, Int.reduceAdd, Int.reduceSub, Int.reduceNeg, Int.reduceMul])
    (repeat' first
        | (refine And.intro (by first | omega | (unfold fp_rg; omega)) ?_; (try intro _); (conv => whnf); (try simp only [Int.reduceToNat, Int.toNat_natCast, fp_up_c, fp_up_s, fp_up_i, fp_cp_c, fp_g_s, Nat.reduceBEq, Int.reduceAdd, Int.reduceSub, Int.reduceNeg, Int.reduceMul]))
        | (refine And.intro (fun _ => ?_) (fun _ => ?_) <;> first | (exfalso; omega) | (rename_i hz_; exact absurd trivial hz_) | ((conv => whnf); (try simp only [Int.reduceToNat, Int.toNat_natCast, fp_up_c, fp_up_s, fp_up_i, fp_cp_c, fp_g_s, Nat.reduceBEq, Int.reduceAdd, Int.reduceSub, Int.reduceNeg, Int.reduceMul])))
        | (refine And.intro (by simp [fp_rg, fp_up, fp_cp] <;> omega) ?_; (conv => whnf); (try simp only [Int.reduceToNat, Int.toNat_natCast, fp_up_c, fp_up_s, fp_up_i, fp_cp_c, fp_g_s, Nat.reduceBEq, Int.reduceAdd, Int.reduceSub, Int.reduceNeg, Int.reduceMul]))
        | fail)
    refine hC _ _ _ _ ⟨_, rfl, ?_⟩
    refine sp_takeC hn ha hb (fun h1 => ?_) (fun h1 => ?_)
    · rw [if_pos h1.2] at hq
      have := hq (fp_up H 7 17 6 ((b : Int) + 1)) (fp_tx_u (by omega)) ⟨fun i hi => by simp [fp_up], fun i hi => by simp [fp_up]⟩ (fun q => by simp only [fp_sq] at q; omega) (fun _ => by simp [fp_up, fp_sq])
      rw [if_neg (by simp only [fp_sq]; omega)] at this
      conv => whnf
      (try simp only [Int.reduceToNat, Int.toNat_natCast, fp_up_c, fp_up_s, fp_up_i, fp_cp_c, fp_g_s, Nat.reduceBEq, Int.reduceAdd, Int.reduceSub, Int.reduceNeg, Int.reduceMul])
      (repeat' first
          | (refine And.intro (by first | omega | (unfold fp_rg; omega)) ?_; (try intro _); (conv => whnf); (try simp only [Int.reduceToNat, Int.toNat_natCast, fp_up_c, fp_up_s, fp_up_i, fp_cp_c, fp_g_s, Nat.reduceBEq, Int.reduceAdd, Int.reduceSub, Int.reduceNeg, Int.reduceMul]))
          | (refine And.intro (fun _ => ?_) (fun _ => ?_) <;> first | (exfalso; omega) | (rename_i hz_; exact absurd trivial hz_) | ((conv => whnf); (try simp only [Int.reduceToNat, Int.toNat_natCast, fp_up_c, fp_up_s, fp_up_i, fp_cp_c, fp_g_s, Nat.reduceBEq, Int.reduceAdd, Int.reduceSub, Int.reduceNeg, Int.reduceMul])))
          | (refine And.intro (by simp [fp_rg, fp_up, fp_cp] <;> omega) ?_; (conv => whnf); (try simp only [Int.reduceToNat, Int.toNat_natCast, fp_up_c, fp_up_s, fp_up_i, fp_cp_c, fp_g_s, Nat.reduceBEq, Int.reduceAdd, Int.reduceSub, Int.reduceNeg, Int.reduceMul]))
          | fail)
      exact this
    · rw [if_neg (fun q => h1 ⟨hbn, q⟩)] at hq
      have := hq H fp_tx_r ⟨fun i hi => rfl, fun i hi => ⟨rfl, rfl⟩⟩ (fun q => by simp only at q; omega) (fun _ => ha)
      rw [if_neg (by simp only; omega)] at this
      conv => whnf
      (try simp only [Int.reduceToNat, Int.toNat_natCast, fp_up_c, fp_up_s, fp_up_i, fp_cp_c, fp_g_s, Nat.reduceBEq, Int.reduceAdd, Int.reduceSub, Int.reduceNeg, Int.reduceMul])
      (repeat' first
          | (refine And.intro (by first | omega | (unfold fp_rg; omega)) ?_; (try intro _); (conv => whnf); (try simp only [Int.reduceToNat, Int.toNat_natCast, fp_up_c, fp_up_s, fp_up_i, fp_cp_c, fp_g_s, Nat.reduceBEq, Int.reduceAdd, Int.reduceSub, Int.reduceNeg, Int.reduceMul]))
          | (refine And.intro (fun _ => ?_) (fun _ => ?_) <;> first | (exfalso; omega) | (rename_i hz_; exact absurd trivial hz_) | ((conv => whnf); (try simp only [Int.reduceToNat, Int.toNat_natCast, fp_up_c, fp_up_s, fp_up_i, fp_cp_c, fp_g_s, Nat.reduceBEq, Int.reduceAdd, Int.reduceSub, Int.reduceNeg, Int.reduceMul])))
          | (refine And.intro (by simp [fp_rg, fp_up, fp_cp] <;> omega) ?_; (conv => whnf); (try simp only [Int.reduceToNat, Int.toNat_natCast, fp_up_c, fp_up_s, fp_up_i, fp_cp_c, fp_g_s, Nat.reduceBEq, Int.reduceAdd, Int.reduceSub, Int.reduceNeg, Int.reduceMul]))
          | fail)
      exact this
  | succ m ih =>
    intro k b H hk hk1 hn ha hbn hq
    unfold fp_sqr at hq
    refine fp_go 1000 [12, 33] (fun KN KC hN hC => ?_)
    conv => whnf
    (try simp only [Int.reduceToNat, Int.toNat_natCast, fp_up_c, fp_up_s, fp_up_i, fp_cp_c, fp_g_s, Nat.reduceBEq, Int.reduceAdd, Int.reduceSub, Int.reduceNeg, Int.reduceMul])
    (repeat' first
        | (refine And.intro (by first | omega | (unfold fp_rg; omega)) ?_; (try intro _); (conv => whnf); (try simp only [Int.reduceToNat, Int.toNat_natCast, fp_up_c, fp_up_s, fp_up_i, fp_cp_c, fp_g_s, Nat.reduceBEq, Int.reduceAdd, Int.reduceSub, Int.reduceNeg, Int.reduceMul]))
        | (refine And.intro (fun _ => ?_) (fun _ => ?_) <;> first | (exfalso; omega) | (rename_i hz_; exact absurd trivial hz_) | ((conv => whnf); (try simp only [Int.reduceToNat, Int.toNat_natCast, fp_up_c, fp_up_s, fp_up_i, fp_cp_c, fp_g_s, Nat.reduceBEq, Int.reduceAdd, Int.reduceSub, Int.reduceNeg, Int.reduceMul])))
        | (refine And.intro (by simp [fp_rg, fp_up, fp_cp] <;> omega) ?_; (conv => whnf); (try simp only [Int.reduceToNat, Int.toNat_natCast, fp_up_c, fp_up_s, fp_up_i, fp_cp_c, fp_g_s, Nat.reduceBEq, Int.reduceAdd, Int.reduceSub, Int.reduceNeg, Int.reduceMul]))
        | fail)
    refine hC _ _ _ _ ⟨_, rfl, ?_⟩
    refine sp_takeC hn ha hb (fun h1 => ?_) (fun h1 => ?_)
    · rw [if_pos h1.2] at hq
      have tx : fp_tx H (fp_up H 7 17 6 ((b : Int) + 1)) := fp_tx_u (by omega)
      have e18 := tx.2.1 18 (by decide) (by decide) (by decide) (by decide)
      conv => whnf
      (try simp only [Int.reduceToNat, Int.toNat_natCast, fp_up_c, fp_up_s, fp_up_i, fp_cp_c, fp_g_s, Nat.reduceBEq, Int.reduceAdd, Int.reduceSub, Int.reduceNeg, Int.reduceMul])
      (repeat' first
          | (refine And.intro (by first | omega | (unfold fp_rg; omega)) ?_; (try intro _); (conv => whnf); (try simp only [Int.reduceToNat, Int.toNat_natCast, fp_up_c, fp_up_s, fp_up_i, fp_cp_c, fp_g_s, Nat.reduceBEq, Int.reduceAdd, Int.reduceSub, Int.reduceNeg, Int.reduceMul]))
          | (refine And.intro (fun _ => ?_) (fun _ => ?_) <;> first | (exfalso; omega) | (rename_i hz_; exact absurd trivial hz_) | ((conv => whnf); (try simp only [Int.reduceToNat, Int.toNat_natCast, fp_up_c, fp_up_s, fp_up_i, fp_cp_c, fp_g_s, Nat.reduceBEq, Int.reduceAdd, Int.reduceSub, Int.reduceNeg, Int.reduceMul])))
          | (refine And.intro (by simp [fp_rg, fp_up, fp_cp] <;> omega) ?_; (conv => whnf); (try simp only [Int.reduceToNat, Int.toNat_natCast, fp_up_c, fp_up_s, fp_up_i, fp_cp_c, fp_g_s, Nat.reduceBEq, Int.reduceAdd, Int.reduceSub, Int.reduceNeg, Int.reduceMul]))
          | fail)
      refine hN _ _ _ _ (lp_body (a := b + 1) hb ih (by omega) (by rw [tx.2.2 1 (by decide) (by decide)]; exact hn) (by simp [fp_up]) (by omega) ?_)
      rw [e18]
      intro H' u1 u2 u3 u4
      exact hq H' (fp_tx_t tx u1) ⟨fun i hi => by rw [u2.1 i hi]; simp [fp_up], fun i hi => by rw [(u2.2 i hi).1, (u2.2 i hi).2]; simp [fp_up]⟩ u3 u4
    · rw [if_neg (fun q => h1 ⟨hbn, q⟩)] at hq
      have := hq H fp_tx_r ⟨fun i hi => rfl, fun i hi => ⟨rfl, rfl⟩⟩ (fun q => by simp only at q; omega) (fun _ => ha)
      rw [if_neg (by simp only; omega)] at this
      conv => whnf
      (try simp only [Int.reduceToNat, Int.toNat_natCast, fp_up_c, fp_up_s, fp_up_i, fp_cp_c, fp_g_s, Nat.reduceBEq, Int.reduceAdd, Int.reduceSub, Int.reduceNeg, Int.reduceMul])
      (repeat' first
          | (refine And.intro (by first | omega | (unfold fp_rg; omega)) ?_; (try intro _); (conv => whnf); (try simp only [Int.reduceToNat, Int.toNat_natCast, fp_up_c, fp_up_s, fp_up_i, fp_cp_c, fp_g_s, Nat.reduceBEq, Int.reduceAdd, Int.reduceSub, Int.reduceNeg, Int.reduceMul]))
          | (refine And.intro (fun _ => ?_) (fun _ => ?_) <;> first | (exfalso; omega) | (rename_i hz_; exact absurd trivial hz_) | ((conv => whnf); (try simp only [Int.reduceToNat, Int.toNat_natCast, fp_up_c, fp_up_s, fp_up_i, fp_cp_c, fp_g_s, Nat.reduceBEq, Int.reduceAdd, Int.reduceSub, Int.reduceNeg, Int.reduceMul])))
          | (refine And.intro (by simp [fp_rg, fp_up, fp_cp] <;> omega) ?_; (conv => whnf); (try simp only [Int.reduceToNat, Int.toNat_natCast, fp_up_c, fp_up_s, fp_up_i, fp_cp_c, fp_g_s, Nat.reduceBEq, Int.reduceAdd, Int.reduceSub, Int.reduceNeg, Int.reduceMul]))
          | fail)
      exact this
set_option maxHeartbeats 600000 in
set_option maxRecDepth 100000 in
theorem sp_read {L d n : Nat} {H : FpH} {Q : FpQ} (hb : n ≤ 80) (hn : H 7 17 1 = (n : Int)) (hq : ∀ H', fp_tx H H' → ((fp_sq (H 7 18) n 8 0).1 = -1 → H' 7 17 5 = ((fp_sq (H 7 18) n 8 0).2 : Int) ∧ fp_ec (H 7 18) n H' (fp_sq (H 7 18) n 8 0).2 0 0 ∧ (fp_sq (H 7 18) n 8 0).2 ≤ 8) → ((fp_sq (H 7 18) n 8 0).1 ≠ -1 → H' 7 17 6 = (fp_sq (H 7 18) n 8 0).1) → Q (some (.inl (if (fp_sq (H 7 18) n 8 0).1 = -1 then 1 else 0))) H') : fp_Wp L (d + 2) 27 0 (fp_en 27 [.inr (7, 17)]) [] H Q := by
  have tx : fp_tx H (fp_up (fp_up H 7 17 6 0) 7 17 5 0) := fp_tx_t (fp_tx_u (by omega)) (fp_tx_u (by omega))
  have e18 := tx.2.1 18 (by decide) (by decide) (by decide) (by decide)
  refine fp_go 1000 [33] (fun KN KC hN hC => ?_)
  conv => whnf
  (try simp only [Int.reduceToNat, Int.toNat_natCast, fp_up_c, fp_up_s, fp_up_i, fp_cp_c, fp_g_s, Nat.reduceBEq, Int.reduceAdd, Int.reduceSub, Int.reduceNeg, Int.reduceMul])
  (repeat' first
      | (refine And.intro (by first | omega | (unfold fp_rg; omega)) ?_; (try intro _); (conv => whnf); (try simp only [Int.reduceToNat, Int.toNat_natCast, fp_up_c, fp_up_s, fp_up_i, fp_cp_c, fp_g_s, Nat.reduceBEq, Int.reduceAdd, Int.reduceSub, Int.reduceNeg, Int.reduceMul]))
      | (refine And.intro (fun _ => ?_) (fun _ => ?_) <;> first | (exfalso; omega) | (rename_i hz_; exact absurd trivial hz_) | ((conv => whnf); (try simp only [Int.reduceToNat, Int.toNat_natCast, fp_up_c, fp_up_s, fp_up_i, fp_cp_c, fp_g_s, Nat.reduceBEq, Int.reduceAdd, Int.reduceSub, Int.reduceNeg, Int.reduceMul])))
      | (refine And.intro (by simp [fp_rg, fp_up, fp_cp] <;> omega) ?_; (conv => whnf); (try simp only [Int.reduceToNat, Int.toNat_natCast, fp_up_c, fp_up_s, fp_up_i, fp_cp_c, fp_g_s, Nat.reduceBEq, Int.reduceAdd, Int.reduceSub, Int.reduceNeg, Int.reduceMul]))
      | fail)
  refine hN _ _ _ _ (lp_body (k := 0) (a := 0) (m := 7) hb (lp_read hb 7) (by omega) (by rw [tx.2.2 1 (by decide) (by decide)]; exact hn) (by simp [fp_up]) (by omega) ?_)
  rw [e18]
  intro H' u1 u2 u3 u4
  refine hq H' (fp_tx_t tx u1) (fun q => ?_) u4
  obtain ⟨v1, v2, v3⟩ := u3 q
  rw [Nat.zero_add] at v1 v3
  exact ⟨v1, v2, v3⟩
