/-! the strips -/
def fp_srem (G : FpG) (k : Nat) : FpG := fun c i => if c = 6 ∧ i = 2 then G 6 2 - 1 else if (c = 7 ∨ c = 8) ∧ k ≤ i ∧ (i : Int) + 1 < G 6 2 then G c (i + 1) else G c i
def fp_sadd (G : FpG) (l t : Int) : FpG := fun c i => if c = 6 ∧ i = 2 then G 6 2 + 1 else if (i : Int) = G 6 2 then (if c = 7 then l else if c = 8 then t else G c i) else G c i
def fp_scut (G : FpG) (k : Nat) (v : Int) : FpG := if G 7 k - v = 0 then fp_srem (fp_gu G 7 k (G 7 k - v)) k else fp_gu G 7 k (G 7 k - v)
def fp_sm (f : Nat → Int) : Nat → Int
  | 0 => 0
  | n + 1 => fp_sm f n + f n
theorem fp_sm_le {f : Nat → Int} {B : Int} : ∀ n : Nat, (∀ i, i < n → 0 ≤ f i ∧ f i ≤ B) → 0 ≤ fp_sm f n ∧ fp_sm f n ≤ n * B
  | 0, _ => by simp [fp_sm]
  | n + 1, h => by
    have h1 := fp_sm_le n (fun i hi => h i (by omega))
    have h2 := h n (by omega)
    simp only [fp_sm]
    have e : ((n + 1 : Nat) : Int) * B = n * B + B := by rw [Int.natCast_add, Int.add_mul]; simp
    rw [e]
    omega
theorem fp_sm_s {f : Nat → Int} {i : Int} (h : 0 ≤ i) : fp_sm f i.toNat + f i.toNat = fp_sm f (i + 1).toNat := by
  rw [show (i + 1).toNat = i.toNat + 1 by omega]; rfl
theorem fp_sm_c {f f' : Nat → Int} : ∀ n : Nat, (∀ i, i < n → f i = f' i) → fp_sm f n = fp_sm f' n
  | 0, _ => rfl
  | n + 1, h => by simp only [fp_sm]; rw [fp_sm_c n (fun i hi => h i (by omega)), h n (by omega)]
set_option maxHeartbeats 600000 in
set_option maxRecDepth 100000 in
theorem sp_srem {L d g t : Nat} {H : FpH} {Q : FpQ} (h : (t : Int) < H g 6 2 ∧ H g 6 2 ≤ 6) (hq : Q none (fp_g H g (fp_srem (H g) t))) : fp_Wp L d 49 0 (fp_en 49 [.inr (g, 6), .inl (t : Int)]) [] H Q := by
  refine fp_go 1000 [] (fun KN KC hN hC => ?_)
  conv => whnf
  (try simp only [Int.reduceToNat, Int.toNat_natCast, fp_up_c, fp_up_s, fp_up_i, fp_cp_c, fp_g_s, Nat.reduceBEq, Int.reduceAdd, Int.reduceSub, Int.reduceNeg, Int.reduceMul])
  (repeat' first
      | (refine And.intro (by first | omega | (unfold fp_rg; omega)) ?_; (try intro _); (conv => whnf); (try simp only [Int.reduceToNat, Int.toNat_natCast, fp_up_c, fp_up_s, fp_up_i, fp_cp_c, fp_g_s, Nat.reduceBEq, Int.reduceAdd, Int.reduceSub, Int.reduceNeg, Int.reduceMul]))
      | (refine And.intro (fun _ => ?_) (fun _ => ?_) <;> first | (exfalso; omega) | (rename_i hz_; exact absurd trivial hz_) | ((conv => whnf); (try simp only [Int.reduceToNat, Int.toNat_natCast, fp_up_c, fp_up_s, fp_up_i, fp_cp_c, fp_g_s, Nat.reduceBEq, Int.reduceAdd, Int.reduceSub, Int.reduceNeg, Int.reduceMul])))
      | (refine And.intro (by simp [fp_rg, fp_up, fp_cp] <;> omega) ?_; (conv => whnf); (try simp only [Int.reduceToNat, Int.toNat_natCast, fp_up_c, fp_up_s, fp_up_i, fp_cp_c, fp_g_s, Nat.reduceBEq, Int.reduceAdd, Int.reduceSub, Int.reduceNeg, Int.reduceMul]))
      | fail)
  refine fp_eqQ hq ?_
  refine fp_hext (fun x hx y z => ?_) (fun y z => ?_)
  · simp [fp_up, fp_cp, fp_g, hx]
  · simp only [fp_up, fp_cp, fp_g, true_and, if_true, fp_srem]
    grind
set_option maxHeartbeats 600000 in
set_option maxRecDepth 100000 in
theorem sp_sadd {L d g : Nat} {l t : Int} {H : FpH} {Q : FpQ} (h : 0 ≤ H g 6 2 ∧ H g 6 2 < 6) (hq : Q (some (.inl (H g 6 2))) (fp_g H g (fp_sadd (H g) l t))) : fp_Wp L d 47 0 (fp_en 47 [.inr (g, 6), .inl l, .inl t]) [] H Q := by
  refine fp_go 1000 [] (fun KN KC hN hC => ?_)
  conv => whnf
  (try simp only [Int.reduceToNat, Int.toNat_natCast, fp_up_c, fp_up_s, fp_up_i, fp_cp_c, fp_g_s, Nat.reduceBEq, Int.reduceAdd, Int.reduceSub, Int.reduceNeg, Int.reduceMul])
  (repeat' first
      | (refine And.intro (by first | omega | (unfold fp_rg; omega)) ?_; (try intro _); (conv => whnf); (try simp only [Int.reduceToNat, Int.toNat_natCast, fp_up_c, fp_up_s, fp_up_i, fp_cp_c, fp_g_s, Nat.reduceBEq, Int.reduceAdd, Int.reduceSub, Int.reduceNeg, Int.reduceMul]))
      | (refine And.intro (fun _ => ?_) (fun _ => ?_) <;> first | (exfalso; omega) | (rename_i hz_; exact absurd trivial hz_) | ((conv => whnf); (try simp only [Int.reduceToNat, Int.toNat_natCast, fp_up_c, fp_up_s, fp_up_i, fp_cp_c, fp_g_s, Nat.reduceBEq, Int.reduceAdd, Int.reduceSub, Int.reduceNeg, Int.reduceMul])))
      | (refine And.intro (by simp [fp_rg, fp_up, fp_cp] <;> omega) ?_; (conv => whnf); (try simp only [Int.reduceToNat, Int.toNat_natCast, fp_up_c, fp_up_s, fp_up_i, fp_cp_c, fp_g_s, Nat.reduceBEq, Int.reduceAdd, Int.reduceSub, Int.reduceNeg, Int.reduceMul]))
      | fail)
  refine fp_eqQ hq ?_
  refine fp_hext (fun x hx y z => ?_) (fun y z => ?_)
  · simp [fp_up, fp_cp, fp_g, hx]
  · simp only [fp_up, fp_cp, fp_g, true_and, if_true, fp_sadd]
    grind
set_option maxHeartbeats 600000 in
set_option maxRecDepth 100000 in
theorem sp_shorten {L d g t : Nat} {v : Int} {H : FpH} {Q : FpQ} (h : (t : Int) < H g 6 2 ∧ H g 6 2 ≤ 6) (hv : 0 ≤ v ∧ v ≤ H g 7 t ∧ H g 7 t ≤ 200) (hq : Q none (fp_g H g (fp_scut (H g) t v))) : fp_Wp L (d + 1) 48 0 (fp_en 48 [.inr (g, 6), .inl (t : Int), .inl v]) [] H Q := by
  unfold fp_scut at hq
  refine fp_go 1000 [] (fun KN KC hN hC => ?_)
  conv => whnf
  (try simp only [Int.reduceToNat, Int.toNat_natCast, fp_up_c, fp_up_s, fp_up_i, fp_cp_c, fp_g_s, Nat.reduceBEq, Int.reduceAdd, Int.reduceSub, Int.reduceNeg, Int.reduceMul])
  (repeat' first
      | (refine And.intro (by first | omega | (unfold fp_rg; omega)) ?_; (try intro _); (conv => whnf); (try simp only [Int.reduceToNat, Int.toNat_natCast, fp_up_c, fp_up_s, fp_up_i, fp_cp_c, fp_g_s, Nat.reduceBEq, Int.reduceAdd, Int.reduceSub, Int.reduceNeg, Int.reduceMul]))
      | (refine And.intro (fun _ => ?_) (fun _ => ?_) <;> first | (exfalso; omega) | (rename_i hz_; exact absurd trivial hz_) | ((conv => whnf); (try simp only [Int.reduceToNat, Int.toNat_natCast, fp_up_c, fp_up_s, fp_up_i, fp_cp_c, fp_g_s, Nat.reduceBEq, Int.reduceAdd, Int.reduceSub, Int.reduceNeg, Int.reduceMul])))
      | (refine And.intro (by simp [fp_rg, fp_up, fp_cp] <;> omega) ?_; (conv => whnf); (try simp only [Int.reduceToNat, Int.toNat_natCast, fp_up_c, fp_up_s, fp_up_i, fp_cp_c, fp_g_s, Nat.reduceBEq, Int.reduceAdd, Int.reduceSub, Int.reduceNeg, Int.reduceMul]))
      | fail)
  · rename_i hb
    rw [if_pos hb] at hq
    refine hC _ _ _ _ ⟨_, rfl, ?_⟩
    refine sp_srem ⟨by simp [fp_up]; omega, by simp [fp_up]; omega⟩ ?_
    conv => whnf
    (try simp only [Int.reduceToNat, Int.toNat_natCast, fp_up_c, fp_up_s, fp_up_i, fp_cp_c, fp_g_s, Nat.reduceBEq, Int.reduceAdd, Int.reduceSub, Int.reduceNeg, Int.reduceMul])
    (repeat' first
        | (refine And.intro (by first | omega | (unfold fp_rg; omega)) ?_; (try intro _); (conv => whnf); (try simp only [Int.reduceToNat, Int.toNat_natCast, fp_up_c, fp_up_s, fp_up_i, fp_cp_c, fp_g_s, Nat.reduceBEq, Int.reduceAdd, Int.reduceSub, Int.reduceNeg, Int.reduceMul]))
        | (refine And.intro (fun _ => ?_) (fun _ => ?_) <;> first | (exfalso; omega) | (rename_i hz_; exact absurd trivial hz_) | ((conv => whnf); (try simp only [Int.reduceToNat, Int.toNat_natCast, fp_up_c, fp_up_s, fp_up_i, fp_cp_c, fp_g_s, Nat.reduceBEq, Int.reduceAdd, Int.reduceSub, Int.reduceNeg, Int.reduceMul])))
        | (refine And.intro (by simp [fp_rg, fp_up, fp_cp] <;> omega) ?_; (conv => whnf); (try simp only [Int.reduceToNat, Int.toNat_natCast, fp_up_c, fp_up_s, fp_up_i, fp_cp_c, fp_g_s, Nat.reduceBEq, Int.reduceAdd, Int.reduceSub, Int.reduceNeg, Int.reduceMul]))
        | fail)
    simpa [fp_up_g, fp_g_s, fp_g_g] using hq
  · rename_i hb
    rw [if_neg hb] at hq
    simpa [fp_up_g] using hq
set_option maxHeartbeats 600000 in
set_option maxRecDepth 100000 in
theorem lp_sumL {L d g : Nat} {H : FpH} {Q : FpQ} (h : 0 ≤ H g 6 2 ∧ H g 6 2 ≤ 6) (hl : ∀ i : Nat, (i : Int) < H g 6 2 → 0 ≤ H g 7 i ∧ H g 7 i ≤ 200) (hq : Q (some (.inl (fp_sm (H g 7) (H g 6 2).toNat))) H) : ∀ (m : Nat) (i fd : Int), 0 ≤ i → i + m = H g 6 2 → fd = fp_sm (H g 7) i.toNat → fp_Wp L d 50 4 [some (.inr (g, 6)), some (.inl fd), some (.inl i)] [] H Q := by
  intro m
  induction m with
  | zero =>
    intro i fd h0 hi hf
    refine fp_go 1000 [4] (fun KN KC hN hC => ?_)
    conv => whnf
    (try simp only [Int.reduceToNat, Int.toNat_natCast, fp_up_c, fp_up_s, fp_up_i, fp_cp_c, fp_g_s, Nat.reduceBEq, Int.reduceAdd, Int.reduceSub, Int.reduceNeg, Int.reduceMul])
    (repeat' first
        | (refine And.intro (by first | omega | (unfold fp_rg; omega)) ?_; (try intro _); (conv => whnf); (try simp only [Int.reduceToNat, Int.toNat_natCast, fp_up_c, fp_up_s, fp_up_i, fp_cp_c, fp_g_s, Nat.reduceBEq, Int.reduceAdd, Int.reduceSub, Int.reduceNeg, Int.reduceMul]))
        | (refine And.intro (fun _ => ?_) (fun _ => ?_) <;> first | (exfalso; omega) | (rename_i hz_; exact absurd trivial hz_) | ((conv => whnf); (try simp only [Int.reduceToNat, Int.toNat_natCast, fp_up_c, fp_up_s, fp_up_i, fp_cp_c, fp_g_s, Nat.reduceBEq, Int.reduceAdd, Int.reduceSub, Int.reduceNeg, Int.reduceMul])))
        | (refine And.intro (by simp [fp_rg, fp_up, fp_cp] <;> omega) ?_; (conv => whnf); (try simp only [Int.reduceToNat, Int.toNat_natCast, fp_up_c, fp_up_s, fp_up_i, fp_cp_c, fp_g_s, Nat.reduceBEq, Int.reduceAdd, Int.reduceSub, Int.reduceNeg, Int.reduceMul]))
        | fail)
    rw [hf, show i = H g 6 2 by omega]; exact hq
  | succ m ih =>
    intro i fd h0 hi hf
    have hle := fp_sm_le (f := H g 7) (B := 200) i.toNat (fun j hj => hl j (by omega))
    have hl1 := hl i.toNat (by omega)
    refine fp_go 1000 [4] (fun KN KC hN hC => ?_)
    conv => whnf
    (try simp only [Int.reduceToNat, Int.toNat_natCast, fp_up_c, fp_up_s, fp_up_i, fp_cp_c, fp_g_s, Nat.reduceBEq, Int.reduceAdd, Int.reduceSub, Int.reduceNeg, Int.reduceMul])
    (repeat' first
        | (refine And.intro (by first | omega | (unfold fp_rg; omega)) ?_; (try intro _); (conv => whnf); (try simp only [Int.reduceToNat, Int.toNat_natCast, fp_up_c, fp_up_s, fp_up_i, fp_cp_c, fp_g_s, Nat.reduceBEq, Int.reduceAdd, Int.reduceSub, Int.reduceNeg, Int.reduceMul]))
        | (refine And.intro (fun _ => ?_) (fun _ => ?_) <;> first | (exfalso; omega) | (rename_i hz_; exact absurd trivial hz_) | ((conv => whnf); (try simp only [Int.reduceToNat, Int.toNat_natCast, fp_up_c, fp_up_s, fp_up_i, fp_cp_c, fp_g_s, Nat.reduceBEq, Int.reduceAdd, Int.reduceSub, Int.reduceNeg, Int.reduceMul])))
        | (refine And.intro (by simp [fp_rg, fp_up, fp_cp] <;> omega) ?_; (conv => whnf); (try simp only [Int.reduceToNat, Int.toNat_natCast, fp_up_c, fp_up_s, fp_up_i, fp_cp_c, fp_g_s, Nat.reduceBEq, Int.reduceAdd, Int.reduceSub, Int.reduceNeg, Int.reduceMul]))
        | fail)
    exact hN _ _ _ _ (ih _ _ (by omega) (by omega) (by rw [hf]; exact fp_sm_s h0))
set_option maxHeartbeats 600000 in
set_option maxRecDepth 100000 in
theorem sp_sumL {L d g : Nat} {H : FpH} {Q : FpQ} (h : 0 ≤ H g 6 2 ∧ H g 6 2 ≤ 6) (hl : ∀ i : Nat, (i : Int) < H g 6 2 → 0 ≤ H g 7 i ∧ H g 7 i ≤ 200) (hq : Q (some (.inl (fp_sm (H g 7) (H g 6 2).toNat))) H) : fp_Wp L d 50 0 (fp_en 50 [.inr (g, 6)]) [] H Q := by
  refine fp_go 1000 [4] (fun KN KC hN hC => ?_)
  conv => whnf
  (try simp only [Int.reduceToNat, Int.toNat_natCast, fp_up_c, fp_up_s, fp_up_i, fp_cp_c, fp_g_s, Nat.reduceBEq, Int.reduceAdd, Int.reduceSub, Int.reduceNeg, Int.reduceMul])
  (repeat' first
      | (refine And.intro (by first | omega | (unfold fp_rg; omega)) ?_; (try intro _); (conv => whnf); (try simp only [Int.reduceToNat, Int.toNat_natCast, fp_up_c, fp_up_s, fp_up_i, fp_cp_c, fp_g_s, Nat.reduceBEq, Int.reduceAdd, Int.reduceSub, Int.reduceNeg, Int.reduceMul]))
      | (refine And.intro (fun _ => ?_) (fun _ => ?_) <;> first | (exfalso; omega) | (rename_i hz_; exact absurd trivial hz_) | ((conv => whnf); (try simp only [Int.reduceToNat, Int.toNat_natCast, fp_up_c, fp_up_s, fp_up_i, fp_cp_c, fp_g_s, Nat.reduceBEq, Int.reduceAdd, Int.reduceSub, Int.reduceNeg, Int.reduceMul])))
      | (refine And.intro (by simp [fp_rg, fp_up, fp_cp] <;> omega) ?_; (conv => whnf); (try simp only [Int.reduceToNat, Int.toNat_natCast, fp_up_c, fp_up_s, fp_up_i, fp_cp_c, fp_g_s, Nat.reduceBEq, Int.reduceAdd, Int.reduceSub, Int.reduceNeg, Int.reduceMul]))
      | fail)
  exact hN _ _ _ _ (lp_sumL h hl hq (H g 6 2).toNat 0 0 (by omega) (by omega) rfl)
