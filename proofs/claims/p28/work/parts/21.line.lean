/-! the line of sitters -/
def fp_lrem (G : FpG) (k : Nat) : FpG := fun c i => if c = 9 ∧ i = 3 then G 9 3 - 1 else if (c = 10 ∨ c = 11 ∨ c = 12) ∧ k ≤ i ∧ (i : Int) + 1 < G 9 3 then G c (i + 1) else G c i
def fp_ladd (G : FpG) (p w t : Int) : FpG := fun c i => if c = 9 ∧ i = 3 then G 9 3 + 1 else if (i : Int) = G 9 3 then (if c = 10 then p else if c = 11 then w else if c = 12 then t else G c i) else G c i
set_option maxHeartbeats 600000 in
set_option maxRecDepth 100000 in
theorem sp_remove {L d g t : Nat} {H : FpH} {Q : FpQ} (h : (t : Int) < H g 9 3 ∧ H g 9 3 ≤ 12) (hq : Q none (fp_g H g (fp_lrem (H g) t))) : fp_Wp L d 7 0 (fp_en 7 [.inr (g, 9), .inl (t : Int)]) [] H Q := by
  refine fp_go 1000 [] (fun KN KC hN hC => ?_)
  conv => whnf
  (try simp only [Int.reduceToNat, Int.toNat_natCast, fp_up_c, fp_up_s, fp_up_i, fp_cp_c, fp_g_s, Nat.reduceBEq, Int.reduceAdd, Int.reduceSub, Int.reduceNeg, Int.reduceMul])
  (repeat' first
      | (refine And.intro (by first | omega | (unfold fp_rg; omega)) ?_; (try intro _); (conv => whnf); (try simp only [Int.reduceToNat, Int.toNat_natCast, fp_up_c, fp_up_s, fp_up_i, fp_cp_c, fp_g_s, Nat.reduceBEq, Int.reduceAdd, Int.reduceSub, Int.reduceNeg, Int.reduceMul]))
      | (refine And.intro (fun _ => ?_) (fun _ => ?_) <;> first | (exfalso; omega) | (rename_i hz_; exact absurd trivial hz_) | ((conv => whnf); (try simp only [Int.reduceToNat, Int.toNat_natCast, fp_up_c, fp_up_s, fp_up_i, fp_cp_c, fp_g_s, Nat.reduceBEq, Int.reduceAdd, Int.reduceSub, Int.reduceNeg, Int.reduceMul])))
      | (refine And.intro (by simp [fp_rg, fp_up, fp_cp] <;> omega) ?_; (conv => whnf); (try simp only [Int.reduceToNat, Int.toNat_natCast, fp_up_c, fp_up_s, fp_up_i, fp_cp_c, fp_g_s, Nat.reduceBEq, Int.reduceAdd, Int.reduceSub, Int.reduceNeg, Int.reduceMul]))
      | fail)
  refine fp_eqQ hq ?_
  refine fp_hext (fun x hx y z => ?_) (fun y z => ?_)
  · simp [fp_up, fp_cp, fp_g, hx]
  · simp only [fp_up, fp_cp, fp_g, true_and, if_true, fp_lrem]
    grind
set_option maxHeartbeats 600000 in
set_option maxRecDepth 100000 in
theorem sp_ladd {L d g : Nat} {p w t : Int} {H : FpH} {Q : FpQ} (h : 0 ≤ H g 9 3 ∧ H g 9 3 < 12) (hq : Q (some (.inl (H g 9 3 + 1))) (fp_g H g (fp_ladd (H g) p w t))) : fp_Wp L d 6 0 (fp_en 6 [.inr (g, 9), .inl p, .inl w, .inl t]) [] H Q := by
  refine fp_go 1000 [] (fun KN KC hN hC => ?_)
  conv => whnf
  (try simp only [Int.reduceToNat, Int.toNat_natCast, fp_up_c, fp_up_s, fp_up_i, fp_cp_c, fp_g_s, Nat.reduceBEq, Int.reduceAdd, Int.reduceSub, Int.reduceNeg, Int.reduceMul])
  (repeat' first
      | (refine And.intro (by first | omega | (unfold fp_rg; omega)) ?_; (try intro _); (conv => whnf); (try simp only [Int.reduceToNat, Int.toNat_natCast, fp_up_c, fp_up_s, fp_up_i, fp_cp_c, fp_g_s, Nat.reduceBEq, Int.reduceAdd, Int.reduceSub, Int.reduceNeg, Int.reduceMul]))
      | (refine And.intro (fun _ => ?_) (fun _ => ?_) <;> first | (exfalso; omega) | (rename_i hz_; exact absurd trivial hz_) | ((conv => whnf); (try simp only [Int.reduceToNat, Int.toNat_natCast, fp_up_c, fp_up_s, fp_up_i, fp_cp_c, fp_g_s, Nat.reduceBEq, Int.reduceAdd, Int.reduceSub, Int.reduceNeg, Int.reduceMul])))
      | (refine And.intro (by simp [fp_rg, fp_up, fp_cp] <;> omega) ?_; (conv => whnf); (try simp only [Int.reduceToNat, Int.toNat_natCast, fp_up_c, fp_up_s, fp_up_i, fp_cp_c, fp_g_s, Nat.reduceBEq, Int.reduceAdd, Int.reduceSub, Int.reduceNeg, Int.reduceMul]))
      | fail)
  refine fp_eqQ hq ?_
  refine fp_hext (fun x hx y z => ?_) (fun y z => ?_)
  · simp [fp_up, fp_cp, fp_g, hx]
  · simp only [fp_up, fp_cp, fp_g, true_and, if_true, fp_ladd]
    grind
def fp_lose (tk : Int) : Nat → FpG → FpG
  | 0, G => G
  | n + 1, G => if G 12 n - tk ≤ 0 then fp_lose tk n (fp_lrem (fp_gu G 12 n (G 12 n - tk)) n) else fp_lose tk n (fp_gu G 12 n (G 12 n - tk))
set_option maxHeartbeats 600000 in
set_option maxRecDepth 100000 in
theorem lp_lose {L d g : Nat} {tk bf : Int} {Q : FpQ} (htk : 1 ≤ tk ∧ tk ≤ 4) (hbf : 0 ≤ bf ∧ bf ≤ 12) : ∀ (n : Nat) (H : FpH) (i : Int), i = (n : Int) - 1 → (n : Int) ≤ H g 9 3 → H g 9 3 ≤ 12 → (∀ t, t < n → 1 ≤ H g 12 t ∧ H g 12 t ≤ 99) → Q (some (.inl (bf - fp_lose tk n (H g) 9 3))) (fp_g H g (fp_lose tk n (H g))) → fp_Wp L (d + 1) 8 12 [some (.inr (g, 9)), some (.inl tk), some (.inl bf), some (.inl i)] [] H Q := by
  intro n
  induction n with
  | zero =>
    intro H i hi h1 h2 h3 hq
    refine fp_go 1000 [12] (fun KN KC hN hC => ?_)
    conv => whnf
    (try simp only [Int.reduceToNat, Int.toNat_natCast, fp_up_c, fp_up_s, fp_up_i, fp_cp_c, fp_g_s, Nat.reduceBEq, Int.reduceAdd, Int.reduceSub, Int.reduceNeg, Int.reduceMul])
    (repeat' first
        | (refine And.intro (by first | omega | (unfold fp_rg; omega)) ?_; (try intro _); (conv => whnf); (try simp only [Int.reduceToNat, Int.toNat_natCast, fp_up_c, fp_up_s, fp_up_i, fp_cp_c, fp_g_s, Nat.reduceBEq, Int.reduceAdd, Int.reduceSub, Int.reduceNeg, Int.reduceMul]))
        | (refine And.intro (fun _ => ?_) (fun _ => ?_) <;> first | (exfalso; omega) | (rename_i hz_; exact absurd trivial hz_) | ((conv => whnf); (try simp only [Int.reduceToNat, Int.toNat_natCast, fp_up_c, fp_up_s, fp_up_i, fp_cp_c, fp_g_s, Nat.reduceBEq, Int.reduceAdd, Int.reduceSub, Int.reduceNeg, Int.reduceMul])))
        | (refine And.intro (by simp [fp_rg, fp_up, fp_cp] <;> omega) ?_; (conv => whnf); (try simp only [Int.reduceToNat, Int.toNat_natCast, fp_up_c, fp_up_s, fp_up_i, fp_cp_c, fp_g_s, Nat.reduceBEq, Int.reduceAdd, Int.reduceSub, Int.reduceNeg, Int.reduceMul]))
        | fail)
    simpa [fp_lose, fp_g_i] using hq
  | succ n ih =>
    intro H i hi h1 h2 h3 hq
    have hn := h3 n (by omega)
    obtain rfl : i = (n : Int) := by omega
    refine fp_go 1000 [12] (fun KN KC hN hC => ?_)
    conv => whnf
    (try simp only [Int.reduceToNat, Int.toNat_natCast, fp_up_c, fp_up_s, fp_up_i, fp_cp_c, fp_g_s, Nat.reduceBEq, Int.reduceAdd, Int.reduceSub, Int.reduceNeg, Int.reduceMul])
    (repeat' first
        | (refine And.intro (by first | omega | (unfold fp_rg; omega)) ?_; (try intro _); (conv => whnf); (try simp only [Int.reduceToNat, Int.toNat_natCast, fp_up_c, fp_up_s, fp_up_i, fp_cp_c, fp_g_s, Nat.reduceBEq, Int.reduceAdd, Int.reduceSub, Int.reduceNeg, Int.reduceMul]))
        | (refine And.intro (fun _ => ?_) (fun _ => ?_) <;> first | (exfalso; omega) | (rename_i hz_; exact absurd trivial hz_) | ((conv => whnf); (try simp only [Int.reduceToNat, Int.toNat_natCast, fp_up_c, fp_up_s, fp_up_i, fp_cp_c, fp_g_s, Nat.reduceBEq, Int.reduceAdd, Int.reduceSub, Int.reduceNeg, Int.reduceMul])))
        | (refine And.intro (by simp [fp_rg, fp_up, fp_cp] <;> omega) ?_; (conv => whnf); (try simp only [Int.reduceToNat, Int.toNat_natCast, fp_up_c, fp_up_s, fp_up_i, fp_cp_c, fp_g_s, Nat.reduceBEq, Int.reduceAdd, Int.reduceSub, Int.reduceNeg, Int.reduceMul]))
        | fail)
    · rename_i hb
      rw [fp_lose, if_neg (by omega)] at hq
      refine hN _ _ _ _ (ih _ _ (by omega) (by simp [fp_up]; omega) (by simp [fp_up]; omega) (fun t ht => by simp [fp_up, show t ≠ n by omega]; exact h3 t (by omega)) ?_)
      simpa [fp_up_g, fp_g_s, fp_g_g] using hq
    · rename_i hb
      rw [fp_lose, if_pos (by omega)] at hq
      refine hC _ _ _ _ ⟨_, rfl, ?_⟩
      refine sp_remove ⟨by simp [fp_up]; omega, by simp [fp_up]; omega⟩ ?_
      conv => whnf
      (try simp only [Int.reduceToNat, Int.toNat_natCast, fp_up_c, fp_up_s, fp_up_i, fp_cp_c, fp_g_s, Nat.reduceBEq, Int.reduceAdd, Int.reduceSub, Int.reduceNeg, Int.reduceMul])
      (repeat' first
          | (refine And.intro (by first | omega | (unfold fp_rg; omega)) ?_; (try intro _); (conv => whnf); (try simp only [Int.reduceToNat, Int.toNat_natCast, fp_up_c, fp_up_s, fp_up_i, fp_cp_c, fp_g_s, Nat.reduceBEq, Int.reduceAdd, Int.reduceSub, Int.reduceNeg, Int.reduceMul]))
          | (refine And.intro (fun _ => ?_) (fun _ => ?_) <;> first | (exfalso; omega) | (rename_i hz_; exact absurd trivial hz_) | ((conv => whnf); (try simp only [Int.reduceToNat, Int.toNat_natCast, fp_up_c, fp_up_s, fp_up_i, fp_cp_c, fp_g_s, Nat.reduceBEq, Int.reduceAdd, Int.reduceSub, Int.reduceNeg, Int.reduceMul])))
          | (refine And.intro (by simp [fp_rg, fp_up, fp_cp] <;> omega) ?_; (conv => whnf); (try simp only [Int.reduceToNat, Int.toNat_natCast, fp_up_c, fp_up_s, fp_up_i, fp_cp_c, fp_g_s, Nat.reduceBEq, Int.reduceAdd, Int.reduceSub, Int.reduceNeg, Int.reduceMul]))
          | fail)
      refine hN _ _ _ _ (ih _ _ (by omega) (by simp [fp_up, fp_g_s, fp_lrem]; omega) (by simp [fp_up, fp_g_s, fp_lrem]; omega) (fun t ht => ?_) ?_)
      · have := h3 t (by omega)
        simp [fp_up, fp_g_s, fp_lrem, show t ≠ n by omega, show ¬ n ≤ t by omega]
        exact this
      · simpa [fp_up_g, fp_g_s, fp_g_g] using hq
set_option maxHeartbeats 600000 in
set_option maxRecDepth 100000 in
theorem sp_loseOver {L d g : Nat} {tk : Int} {H : FpH} {Q : FpQ} (htk : 1 ≤ tk ∧ tk ≤ 4) (h : 0 ≤ H g 9 3 ∧ H g 9 3 ≤ 12) (hp : ∀ t : Nat, (t : Int) < H g 9 3 → 1 ≤ H g 12 t ∧ H g 12 t ≤ 99) (hq : Q (some (.inl (H g 9 3 - fp_lose tk (H g 9 3).toNat (H g) 9 3))) (fp_g H g (fp_lose tk (H g 9 3).toNat (H g)))) : fp_Wp L (d + 1) 8 0 (fp_en 8 [.inr (g, 9), .inl tk]) [] H Q := by
  refine fp_go 1000 [12] (fun KN KC hN hC => ?_)
  conv => whnf
  (try simp only [Int.reduceToNat, Int.toNat_natCast, fp_up_c, fp_up_s, fp_up_i, fp_cp_c, fp_g_s, Nat.reduceBEq, Int.reduceAdd, Int.reduceSub, Int.reduceNeg, Int.reduceMul])
  (repeat' first
      | (refine And.intro (by first | omega | (unfold fp_rg; omega)) ?_; (try intro _); (conv => whnf); (try simp only [Int.reduceToNat, Int.toNat_natCast, fp_up_c, fp_up_s, fp_up_i, fp_cp_c, fp_g_s, Nat.reduceBEq, Int.reduceAdd, Int.reduceSub, Int.reduceNeg, Int.reduceMul]))
      | (refine And.intro (fun _ => ?_) (fun _ => ?_) <;> first | (exfalso; omega) | (rename_i hz_; exact absurd trivial hz_) | ((conv => whnf); (try simp only [Int.reduceToNat, Int.toNat_natCast, fp_up_c, fp_up_s, fp_up_i, fp_cp_c, fp_g_s, Nat.reduceBEq, Int.reduceAdd, Int.reduceSub, Int.reduceNeg, Int.reduceMul])))
      | (refine And.intro (by simp [fp_rg, fp_up, fp_cp] <;> omega) ?_; (conv => whnf); (try simp only [Int.reduceToNat, Int.toNat_natCast, fp_up_c, fp_up_s, fp_up_i, fp_cp_c, fp_g_s, Nat.reduceBEq, Int.reduceAdd, Int.reduceSub, Int.reduceNeg, Int.reduceMul]))
      | fail)
  exact hN _ _ _ _ (lp_lose htk h (H g 9 3).toNat H _ (by omega) (by omega) h.2 (fun t ht => hp t (by omega)) hq)
def fp_ct (f : Nat → Bool) : Nat → Int
  | 0 => 0
  | n + 1 => fp_ct f n + (if f n = true then 1 else 0)
theorem fp_ct_le (f : Nat → Bool) : ∀ n, 0 ≤ fp_ct f n ∧ fp_ct f n ≤ n
  | 0 => by simp [fp_ct]
  | n + 1 => by
    have := fp_ct_le f n
    simp only [fp_ct]
    split <;> omega
theorem fp_ct_s {f : Nat → Bool} {i : Int} (h : 0 ≤ i) : fp_ct f (i + 1).toNat = fp_ct f i.toNat + (if f i.toNat = true then 1 else 0) := by
  rw [show (i + 1).toNat = i.toNat + 1 by omega]; rfl
theorem fp_ct_t {f : Nat → Bool} {i : Int} (h : 0 ≤ i) (hf : f i.toNat = true) : fp_ct f i.toNat + 1 = fp_ct f (i + 1).toNat := by rw [fp_ct_s h, if_pos hf]
theorem fp_ct_f {f : Nat → Bool} {i : Int} (h : 0 ≤ i) (hf : f i.toNat = false) : fp_ct f i.toNat = fp_ct f (i + 1).toNat := by rw [fp_ct_s h, if_neg (by simp [hf])]; omega
set_option maxHeartbeats 600000 in
set_option maxRecDepth 100000 in
theorem lp_countOf {L d g : Nat} {a : Int} {H : FpH} {Q : FpQ} (h : 0 ≤ H g 9 3 ∧ H g 9 3 ≤ 12) (hq : Q (some (.inl (fp_ct (fun t => decide (H g 10 t = a)) (H g 9 3).toNat))) H) : ∀ (m : Nat) (i fd : Int), 0 ≤ i → i + m = H g 9 3 → fd = fp_ct (fun t => decide (H g 10 t = a)) i.toNat → fp_Wp L d 9 4 [some (.inr (g, 9)), some (.inl a), some (.inl fd), some (.inl i)] [] H Q := by
  intro m
  induction m with
  | zero =>
    intro i fd h0 hi hf
    refine fp_go 1000 [4] (fun KN KC hN hC => ?_)
    conv => whnf
    (try simp only [Int.reduceToNat, Int.toNat_natCast, fp_up_c, fp_up_s, fp_up_i, fp_cp_c, fp_g_s, Nat.reduceBEq, Int.reduceAdd, Int.reduceSub, Int.reduceNeg, Int.reduceMul])
    (repeat' first
        | (refine And.intro (by first | omega | (unfold fp_rg; omega)) ?_; (try intro _); (conv => whnf); (try simp only [Int.reduceToNat, Int.toNat_natCast, fp_up_c, fp_up_s, fp_up_i, fp_cp_c, fp_g_s, Nat.reduceBEq, Int.reduceAdd, Int.reduceSub, Int.reduceNeg, Int.reduceMul]))
        | (refine And.intro (fun _ => ?_) (fun _ => ?_) <;> first | (exfalso; omega) | (rename_i hz_; exact absurd trivial hz_) | ((conv => whnf); (try simp only [Int.reduceToNat, Int.toNat_natCast, fp_up_c, fp_up_s, fp_up_i, fp_cp_c, fp_g_s, Nat.reduceBEq, Int.reduceAdd, Int.reduceSub, Int.reduceNeg, Int.reduceMul])))
        | (refine And.intro (by simp [fp_rg, fp_up, fp_cp] <;> omega) ?_; (conv => whnf); (try simp only [Int.reduceToNat, Int.toNat_natCast, fp_up_c, fp_up_s, fp_up_i, fp_cp_c, fp_g_s, Nat.reduceBEq, Int.reduceAdd, Int.reduceSub, Int.reduceNeg, Int.reduceMul]))
        | fail)
    rw [hf, show i = H g 9 3 by omega]; exact hq
  | succ m ih =>
    intro i fd h0 hi hf
    have hle := fp_ct_le (fun t => decide (H g 10 t = a)) i.toNat
    refine fp_go 1000 [4] (fun KN KC hN hC => ?_)
    conv => whnf
    (try simp only [Int.reduceToNat, Int.toNat_natCast, fp_up_c, fp_up_s, fp_up_i, fp_cp_c, fp_g_s, Nat.reduceBEq, Int.reduceAdd, Int.reduceSub, Int.reduceNeg, Int.reduceMul])
    (repeat' first
        | (refine And.intro (by first | omega | (unfold fp_rg; omega)) ?_; (try intro _); (conv => whnf); (try simp only [Int.reduceToNat, Int.toNat_natCast, fp_up_c, fp_up_s, fp_up_i, fp_cp_c, fp_g_s, Nat.reduceBEq, Int.reduceAdd, Int.reduceSub, Int.reduceNeg, Int.reduceMul]))
        | (refine And.intro (fun _ => ?_) (fun _ => ?_) <;> first | (exfalso; omega) | (rename_i hz_; exact absurd trivial hz_) | ((conv => whnf); (try simp only [Int.reduceToNat, Int.toNat_natCast, fp_up_c, fp_up_s, fp_up_i, fp_cp_c, fp_g_s, Nat.reduceBEq, Int.reduceAdd, Int.reduceSub, Int.reduceNeg, Int.reduceMul])))
        | (refine And.intro (by simp [fp_rg, fp_up, fp_cp] <;> omega) ?_; (conv => whnf); (try simp only [Int.reduceToNat, Int.toNat_natCast, fp_up_c, fp_up_s, fp_up_i, fp_cp_c, fp_g_s, Nat.reduceBEq, Int.reduceAdd, Int.reduceSub, Int.reduceNeg, Int.reduceMul]))
        | fail)
    · rename_i hb
      exact hN _ _ _ _ (ih _ _ (by omega) (by omega) (by rw [hf]; exact fp_ct_t h0 (by simp [hb])))
    · rename_i hb
      exact hN _ _ _ _ (ih _ _ (by omega) (by omega) (by rw [hf]; exact fp_ct_f h0 (by simp [hb])))
set_option maxHeartbeats 600000 in
set_option maxRecDepth 100000 in
theorem sp_countOf {L d g : Nat} {a : Int} {H : FpH} {Q : FpQ} (h : 0 ≤ H g 9 3 ∧ H g 9 3 ≤ 12) (hq : Q (some (.inl (fp_ct (fun t => decide (H g 10 t = a)) (H g 9 3).toNat))) H) : fp_Wp L d 9 0 (fp_en 9 [.inr (g, 9), .inl a]) [] H Q := by
  refine fp_go 1000 [4] (fun KN KC hN hC => ?_)
  conv => whnf
  (try simp only [Int.reduceToNat, Int.toNat_natCast, fp_up_c, fp_up_s, fp_up_i, fp_cp_c, fp_g_s, Nat.reduceBEq, Int.reduceAdd, Int.reduceSub, Int.reduceNeg, Int.reduceMul])
  (repeat' first
      | (refine And.intro (by first | omega | (unfold fp_rg; omega)) ?_; (try intro _); (conv => whnf); (try simp only [Int.reduceToNat, Int.toNat_natCast, fp_up_c, fp_up_s, fp_up_i, fp_cp_c, fp_g_s, Nat.reduceBEq, Int.reduceAdd, Int.reduceSub, Int.reduceNeg, Int.reduceMul]))
      | (refine And.intro (fun _ => ?_) (fun _ => ?_) <;> first | (exfalso; omega) | (rename_i hz_; exact absurd trivial hz_) | ((conv => whnf); (try simp only [Int.reduceToNat, Int.toNat_natCast, fp_up_c, fp_up_s, fp_up_i, fp_cp_c, fp_g_s, Nat.reduceBEq, Int.reduceAdd, Int.reduceSub, Int.reduceNeg, Int.reduceMul])))
      | (refine And.intro (by simp [fp_rg, fp_up, fp_cp] <;> omega) ?_; (conv => whnf); (try simp only [Int.reduceToNat, Int.toNat_natCast, fp_up_c, fp_up_s, fp_up_i, fp_cp_c, fp_g_s, Nat.reduceBEq, Int.reduceAdd, Int.reduceSub, Int.reduceNeg, Int.reduceMul]))
      | fail)
  exact hN _ _ _ _ (lp_countOf h hq (H g 9 3).toNat 0 0 (by omega) (by omega) rfl)
set_option maxHeartbeats 600000 in
set_option maxRecDepth 100000 in
theorem lp_countOfSide {L d g : Nat} {a sd : Int} {H : FpH} {Q : FpQ} (h : 0 ≤ H g 9 3 ∧ H g 9 3 ≤ 12) (hq : Q (some (.inl (fp_ct (fun t => decide ((H g 11 t = sd ∨ H g 11 t = 2) ∧ H g 10 t = a)) (H g 9 3).toNat))) H) : ∀ (m : Nat) (i fd : Int) (l5 : Option FpV), 0 ≤ i → i + m = H g 9 3 → fd = fp_ct (fun t => decide ((H g 11 t = sd ∨ H g 11 t = 2) ∧ H g 10 t = a)) i.toNat → fp_Wp L d 10 5 [some (.inr (g, 9)), some (.inl a), some (.inl sd), some (.inl fd), some (.inl i), l5] [] H Q := by
  intro m
  induction m with
  | zero =>
    intro i fd l5 h0 hi hf
    refine fp_go 1000 [5] (fun KN KC hN hC => ?_)
    conv => whnf
    (try simp only [Int.reduceToNat, Int.toNat_natCast, fp_up_c, fp_up_s, fp_up_i, fp_cp_c, fp_g_s, Nat.reduceBEq, Int.reduceAdd, Int.reduceSub, Int.reduceNeg, Int.reduceMul])
    (repeat' first
        | (refine And.intro (by first | omega | (unfold fp_rg; omega)) ?_; (try intro _); (conv => whnf); (try simp only [Int.reduceToNat, Int.toNat_natCast, fp_up_c, fp_up_s, fp_up_i, fp_cp_c, fp_g_s, Nat.reduceBEq, Int.reduceAdd, Int.reduceSub, Int.reduceNeg, Int.reduceMul]))
        | (refine And.intro (fun _ => ?_) (fun _ => ?_) <;> first | (exfalso; omega) | (rename_i hz_; exact absurd trivial hz_) | ((conv => whnf); (try simp only [Int.reduceToNat, Int.toNat_natCast, fp_up_c, fp_up_s, fp_up_i, fp_cp_c, fp_g_s, Nat.reduceBEq, Int.reduceAdd, Int.reduceSub, Int.reduceNeg, Int.reduceMul])))
        | (refine And.intro (by simp [fp_rg, fp_up, fp_cp] <;> omega) ?_; (conv => whnf); (try simp only [Int.reduceToNat, Int.toNat_natCast, fp_up_c, fp_up_s, fp_up_i, fp_cp_c, fp_g_s, Nat.reduceBEq, Int.reduceAdd, Int.reduceSub, Int.reduceNeg, Int.reduceMul]))
        | fail)
    rw [hf, show i = H g 9 3 by omega]; exact hq
  | succ m ih =>
    intro i fd l5 h0 hi hf
    have hle := fp_ct_le (fun t => decide ((H g 11 t = sd ∨ H g 11 t = 2) ∧ H g 10 t = a)) i.toNat
    refine fp_go 1000 [5] (fun KN KC hN hC => ?_)
    conv => whnf
    (try simp only [Int.reduceToNat, Int.toNat_natCast, fp_up_c, fp_up_s, fp_up_i, fp_cp_c, fp_g_s, Nat.reduceBEq, Int.reduceAdd, Int.reduceSub, Int.reduceNeg, Int.reduceMul])
    (repeat' first
        | (refine And.intro (by first | omega | (unfold fp_rg; omega)) ?_; (try intro _); (conv => whnf); (try simp only [Int.reduceToNat, Int.toNat_natCast, fp_up_c, fp_up_s, fp_up_i, fp_cp_c, fp_g_s, Nat.reduceBEq, Int.reduceAdd, Int.reduceSub, Int.reduceNeg, Int.reduceMul]))
        | (refine And.intro (fun _ => ?_) (fun _ => ?_) <;> first | (exfalso; omega) | (rename_i hz_; exact absurd trivial hz_) | ((conv => whnf); (try simp only [Int.reduceToNat, Int.toNat_natCast, fp_up_c, fp_up_s, fp_up_i, fp_cp_c, fp_g_s, Nat.reduceBEq, Int.reduceAdd, Int.reduceSub, Int.reduceNeg, Int.reduceMul])))
        | (refine And.intro (by simp [fp_rg, fp_up, fp_cp] <;> omega) ?_; (conv => whnf); (try simp only [Int.reduceToNat, Int.toNat_natCast, fp_up_c, fp_up_s, fp_up_i, fp_cp_c, fp_g_s, Nat.reduceBEq, Int.reduceAdd, Int.reduceSub, Int.reduceNeg, Int.reduceMul]))
        | fail)
    all_goals first
      | exact hN _ _ _ _ (ih _ _ _ (by omega) (by omega) (by rw [hf]; exact fp_ct_t h0 (decide_eq_true (by omega))))
      | exact hN _ _ _ _ (ih _ _ _ (by omega) (by omega) (by rw [hf]; exact fp_ct_f h0 (decide_eq_false (by omega))))
set_option maxHeartbeats 600000 in
set_option maxRecDepth 100000 in
theorem sp_countOfSide {L d g : Nat} {a sd : Int} {H : FpH} {Q : FpQ} (h : 0 ≤ H g 9 3 ∧ H g 9 3 ≤ 12) (hq : Q (some (.inl (fp_ct (fun t => decide ((H g 11 t = sd ∨ H g 11 t = 2) ∧ H g 10 t = a)) (H g 9 3).toNat))) H) : fp_Wp L d 10 0 (fp_en 10 [.inr (g, 9), .inl a, .inl sd]) [] H Q := by
  refine fp_go 1000 [5] (fun KN KC hN hC => ?_)
  conv => whnf
  (try simp only [Int.reduceToNat, Int.toNat_natCast, fp_up_c, fp_up_s, fp_up_i, fp_cp_c, fp_g_s, Nat.reduceBEq, Int.reduceAdd, Int.reduceSub, Int.reduceNeg, Int.reduceMul])
  (repeat' first
      | (refine And.intro (by first | omega | (unfold fp_rg; omega)) ?_; (try intro _); (conv => whnf); (try simp only [Int.reduceToNat, Int.toNat_natCast, fp_up_c, fp_up_s, fp_up_i, fp_cp_c, fp_g_s, Nat.reduceBEq, Int.reduceAdd, Int.reduceSub, Int.reduceNeg, Int.reduceMul]))
      | (refine And.intro (fun _ => ?_) (fun _ => ?_) <;> first | (exfalso; omega) | (rename_i hz_; exact absurd trivial hz_) | ((conv => whnf); (try simp only [Int.reduceToNat, Int.toNat_natCast, fp_up_c, fp_up_s, fp_up_i, fp_cp_c, fp_g_s, Nat.reduceBEq, Int.reduceAdd, Int.reduceSub, Int.reduceNeg, Int.reduceMul])))
      | (refine And.intro (by simp [fp_rg, fp_up, fp_cp] <;> omega) ?_; (conv => whnf); (try simp only [Int.reduceToNat, Int.toNat_natCast, fp_up_c, fp_up_s, fp_up_i, fp_cp_c, fp_g_s, Nat.reduceBEq, Int.reduceAdd, Int.reduceSub, Int.reduceNeg, Int.reduceMul]))
      | fail)
  exact hN _ _ _ _ (lp_countOfSide h hq (H g 9 3).toNat 0 0 _ (by omega) (by omega) rfl)
