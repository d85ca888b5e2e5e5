/-! the text -/
def fp_dg (T : Nat → Int) (n : Nat) (lo : Int) (k : Nat) : Bool := decide (k < n) && decide (lo ≤ T k) && decide (T k ≤ 57)
theorem fp_dg_t {T : Nat → Int} {n k : Nat} {lo : Int} : fp_dg T n lo k = true ↔ k < n ∧ lo ≤ T k ∧ T k ≤ 57 := by
  simp [fp_dg, and_assoc]
theorem fp_dg_f {T : Nat → Int} {n k : Nat} {lo : Int} (h : ¬ (k < n ∧ lo ≤ T k ∧ T k ≤ 57)) : fp_dg T n lo k = false := by
  cases e : fp_dg T n lo k
  · rfl
  · exact absurd (fp_dg_t.mp e) h
def fp_rw (T : Nat → Int) (n : Nat) : Nat → Nat → Nat × Bool
  | 0, a => (a, true)
  | m + 1, a => if fp_dg T n 49 a = true then fp_rw T n m (a + 1) else (a, false)
def fp_wa (T : Nat → Int) (n a : Nat) : Option Int := if a < n ∧ T a = 108 then some 0 else if a < n ∧ T a = 114 then some 1 else if a < n ∧ T a = 99 then some 2 else none
def fp_pa (T : Nat → Int) (n a : Nat) : Nat × Int := if fp_dg T n 49 a = true then (if fp_dg T n 48 (a + 1) = true then (a + 2, (T a - 48) * 10 + (T (a + 1) - 48)) else (a + 1, T a - 48)) else (a, 20)
/-- an entry from a on: whether it is right, where it ends or is wrong, want, patience -/
def fp_pe (T : Nat → Int) (n a : Nat) : Bool × Nat × Int × Int := match fp_rw T n 8 a with
  | (b, false) => (false, b, 0, 0)
  | (b, true) => match fp_wa T n b with
    | none => (false, b, 0, 0)
    | some w => (true, (fp_pa T n (b + 1)).1, w, (fp_pa T n (b + 1)).2)
/-- m entries at most: the fault, or -1; how many entries -/
def fp_sq (T : Nat → Int) (n : Nat) : Nat → Nat → Int × Nat
  | 0, a => ((a : Int), 0)
  | m + 1, a => match fp_pe T n a with
    | (false, b, _) => ((b : Int), 0)
    | (true, b, _) => if b = n then (-1, 1) else if T b = 59 then ((fp_sq T n m (b + 1)).1, (fp_sq T n m (b + 1)).2 + 1) else ((b : Int), 0)
theorem fp_rw_b {T : Nat → Int} {n : Nat} : ∀ m a, a ≤ n → a ≤ (fp_rw T n m a).1 ∧ (fp_rw T n m a).1 ≤ n ∧ ((fp_rw T n m a).2 = true → (fp_rw T n m a).1 = a + m ∧ ∀ j, j < m → 49 ≤ T (a + j) ∧ T (a + j) ≤ 57)
  | 0, a, h => ⟨Nat.le_refl _, h, fun _ => ⟨rfl, fun j hj => by omega⟩⟩
  | m + 1, a, h => by
    simp only [fp_rw]
    split
    · rename_i hd
      have hd := fp_dg_t.mp hd
      obtain ⟨h1, h2, h3⟩ := fp_rw_b (T := T) (n := n) m (a + 1) (by omega)
      refine ⟨by omega, h2, fun q => ?_⟩
      obtain ⟨h4, h5⟩ := h3 q
      refine ⟨by omega, fun j hj => ?_⟩
      cases j with
      | zero => exact hd.2
      | succ j => have := h5 j (by omega); rw [show a + (j + 1) = a + 1 + j by omega]; exact this
    · exact ⟨Nat.le_refl _, h, fun q => by cases q⟩
theorem fp_pa_b {T : Nat → Int} {n a : Nat} (h : a ≤ n) : a ≤ (fp_pa T n a).1 ∧ (fp_pa T n a).1 ≤ n ∧ 1 ≤ (fp_pa T n a).2 ∧ (fp_pa T n a).2 ≤ 99 := by
  unfold fp_pa
  split
  · rename_i h1
    have h1 := fp_dg_t.mp h1
    split
    · rename_i h2
      have h2 := fp_dg_t.mp h2
      simp only
      omega
    · simp only
      omega
  · simp only
    omega
theorem fp_wa_b {T : Nat → Int} {n a : Nat} {w : Int} (h : fp_wa T n a = some w) : a < n ∧ 0 ≤ w ∧ w ≤ 2 := by
  unfold fp_wa at h
  split at h
  · cases h; rename_i q; exact ⟨q.1, by omega⟩
  · split at h
    · cases h; rename_i q; exact ⟨q.1, by omega⟩
    · split at h
      · cases h; rename_i q; exact ⟨q.1, by omega⟩
      · cases h
/-- what stays while the text is read -/
def fp_tx (H H' : FpH) : Prop := (∀ x, x ≠ 7 → H' x = H x) ∧ (∀ c, c ≠ 17 → c ≠ 19 → c ≠ 20 → c ≠ 21 → H' 7 c = H 7 c) ∧ (∀ i, i ≠ 5 → i ≠ 6 → H' 7 17 i = H 7 17 i)
theorem fp_tx_r {H : FpH} : fp_tx H H := ⟨fun _ _ => rfl, fun _ _ _ _ _ => rfl, fun _ _ _ => rfl⟩
theorem fp_tx_t {H H1 H2 : FpH} (h : fp_tx H H1) (h' : fp_tx H1 H2) : fp_tx H H2 := ⟨fun x hx => (h'.1 x hx).trans (h.1 x hx), fun c a b d e => (h'.2.1 c a b d e).trans (h.2.1 c a b d e), fun i a b => (h'.2.2 i a b).trans (h.2.2 i a b)⟩
theorem fp_tx_u {H : FpH} {c i : Nat} {v : Int} (h : (c = 17 ∧ (i = 5 ∨ i = 6)) ∨ c = 19 ∨ c = 20 ∨ c = 21) : fp_tx H (fp_up H 7 c i v) := by
  refine ⟨fun x hx => fp_up_n hx, fun c' h1 h2 h3 h4 => ?_, fun i' h1 h2 => ?_⟩
  · funext z; unfold fp_up; rw [if_neg (by omega)]
  · unfold fp_up; rw [if_neg (by omega)]
theorem fp_up_up {H : FpH} {g c i : Nat} {v w : Int} : fp_up (fp_up H g c i v) g c i w = fp_up H g c i w := by
  funext x y z
  unfold fp_up
  split <;> simp [*]
theorem fp_up_id {H : FpH} {g c i : Nat} {v : Int} (h : H g c i = v) : fp_up H g c i v = H := by
  funext x y z
  unfold fp_up
  split
  · rename_i q; obtain ⟨rfl, rfl, rfl⟩ := q; exact h.symm
  · rfl
set_option maxHeartbeats 600000 in
set_option maxRecDepth 100000 in
theorem sp_isDigit {L d n a : Nat} {lo : Int} {H : FpH} {Q : FpQ} (hn : H 7 17 1 = (n : Int)) (ha : H 7 17 6 = (a : Int)) (hb : n ≤ 80) (h1 : fp_dg (H 7 18) n lo a = true → Q (some (.inl 1)) H) (h0 : fp_dg (H 7 18) n lo a = false → Q (some (.inl 0)) H) : fp_Wp L d 31 0 (fp_en 31 [.inr (7, 17), .inl lo]) [] H Q := by
  refine fp_go 1000 [] (fun KN KC hN hC => ?_)
  conv => whnf
  (try simp only [hn, ha, Int.reduceToNat, Int.toNat_natCast, fp_up_c, fp_up_s, fp_up_i, fp_cp_c, fp_g_s, Nat.reduceBEq, Int.reduceAdd, Int.reduceSub, Int.reduceNeg, Int.reduceMul])
  (repeat' first
      | (refine And.intro (by first | omega | (unfold fp_rg; omega)) ?_; (try intro _); (conv => whnf); (try simp only [hn, ha, Int.reduceToNat, Int.toNat_natCast, fp_up_c, fp_up_s, fp_up_i, fp_cp_c, fp_g_s, Nat.reduceBEq, Int.reduceAdd, Int.reduceSub, Int.reduceNeg, Int.reduceMul]))
      | (refine And.intro (fun _ => ?_) (fun _ => ?_) <;> first | (exfalso; omega) | (rename_i hz_; exact absurd trivial hz_) | ((conv => whnf); (try simp only [hn, ha, Int.reduceToNat, Int.toNat_natCast, fp_up_c, fp_up_s, fp_up_i, fp_cp_c, fp_g_s, Nat.reduceBEq, Int.reduceAdd, Int.reduceSub, Int.reduceNeg, Int.reduceMul])))
      | (refine And.intro (by simp [fp_rg, fp_up, fp_cp] <;> omega) ?_; (conv => whnf); (try simp only [hn, ha, Int.reduceToNat, Int.toNat_natCast, fp_up_c, fp_up_s, fp_up_i, fp_cp_c, fp_g_s, Nat.reduceBEq, Int.reduceAdd, Int.reduceSub, Int.reduceNeg, Int.reduceMul]))
      | fail)
  all_goals first | exact h1 (fp_dg_t.mpr (by omega)) | exact h0 (fp_dg_f (by omega))
set_option maxHeartbeats 600000 in
set_option maxRecDepth 100000 in
theorem sp_readDigit {L d n a : Nat} {H : FpH} {Q : FpQ} (hn : H 7 17 1 = (n : Int)) (ha : H 7 17 6 = (a : Int)) (hb : n ≤ 80) (hd : a < n ∧ 48 ≤ H 7 18 a ∧ H 7 18 a ≤ 57) (hq : Q (some (.inl (H 7 18 a - 48))) (fp_up H 7 17 6 ((a : Int) + 1))) : fp_Wp L d 32 0 (fp_en 32 [.inr (7, 17)]) [] H Q := by
  refine fp_go 1000 [] (fun KN KC hN hC => ?_)
  conv => whnf
  (try simp only [hn, ha, Int.reduceToNat, Int.toNat_natCast, fp_up_c, fp_up_s, fp_up_i, fp_cp_c, fp_g_s, Nat.reduceBEq, Int.reduceAdd, Int.reduceSub, Int.reduceNeg, Int.reduceMul])
  (repeat' first
      | (refine And.intro (by first | omega | (unfold fp_rg; omega)) ?_; (try intro _); (conv => whnf); (try simp only [hn, ha, Int.reduceToNat, Int.toNat_natCast, fp_up_c, fp_up_s, fp_up_i, fp_cp_c, fp_g_s, Nat.reduceBEq, Int.reduceAdd, Int.reduceSub, Int.reduceNeg, Int.reduceMul]))
      | (refine And.intro (fun _ => ?_) (fun _ => ?_) <;> first | (exfalso; omega) | (rename_i hz_; exact absurd trivial hz_) | ((conv => whnf); (try simp only [hn, ha, Int.reduceToNat, Int.toNat_natCast, fp_up_c, fp_up_s, fp_up_i, fp_cp_c, fp_g_s, Nat.reduceBEq, Int.reduceAdd, Int.reduceSub, Int.reduceNeg, Int.reduceMul])))
      | (refine And.intro (by simp [fp_rg, fp_up, fp_cp] <;> omega) ?_; (conv => whnf); (try simp only [hn, ha, Int.reduceToNat, Int.toNat_natCast, fp_up_c, fp_up_s, fp_up_i, fp_cp_c, fp_g_s, Nat.reduceBEq, Int.reduceAdd, Int.reduceSub, Int.reduceNeg, Int.reduceMul]))
      | fail)
  exact hq
set_option maxHeartbeats 600000 in
set_option maxRecDepth 100000 in
theorem sp_takeC {L d n a : Nat} {ch : Int} {H : FpH} {Q : FpQ} (hn : H 7 17 1 = (n : Int)) (ha : H 7 17 6 = (a : Int)) (hb : n ≤ 80) (h1 : a < n ∧ H 7 18 a = ch → Q (some (.inl 1)) (fp_up H 7 17 6 ((a : Int) + 1))) (h0 : ¬ (a < n ∧ H 7 18 a = ch) → Q (some (.inl 0)) H) : fp_Wp L d 33 0 (fp_en 33 [.inr (7, 17), .inl ch]) [] H Q := by
  refine fp_go 1000 [] (fun KN KC hN hC => ?_)
  conv => whnf
  (try simp only [hn, ha, Int.reduceToNat, Int.toNat_natCast, fp_up_c, fp_up_s, fp_up_i, fp_cp_c, fp_g_s, Nat.reduceBEq, Int.reduceAdd, Int.reduceSub, Int.reduceNeg, Int.reduceMul])
  (repeat' first
      | (refine And.intro (by first | omega | (unfold fp_rg; omega)) ?_; (try intro _); (conv => whnf); (try simp only [hn, ha, Int.reduceToNat, Int.toNat_natCast, fp_up_c, fp_up_s, fp_up_i, fp_cp_c, fp_g_s, Nat.reduceBEq, Int.reduceAdd, Int.reduceSub, Int.reduceNeg, Int.reduceMul]))
      | (refine And.intro (fun _ => ?_) (fun _ => ?_) <;> first | (exfalso; omega) | (rename_i hz_; exact absurd trivial hz_) | ((conv => whnf); (try simp only [hn, ha, Int.reduceToNat, Int.toNat_natCast, fp_up_c, fp_up_s, fp_up_i, fp_cp_c, fp_g_s, Nat.reduceBEq, Int.reduceAdd, Int.reduceSub, Int.reduceNeg, Int.reduceMul])))
      | (refine And.intro (by simp [fp_rg, fp_up, fp_cp] <;> omega) ?_; (conv => whnf); (try simp only [hn, ha, Int.reduceToNat, Int.toNat_natCast, fp_up_c, fp_up_s, fp_up_i, fp_cp_c, fp_g_s, Nat.reduceBEq, Int.reduceAdd, Int.reduceSub, Int.reduceNeg, Int.reduceMul]))
      | fail)
  all_goals first | exact h1 (by omega) | exact h0 (by omega)
