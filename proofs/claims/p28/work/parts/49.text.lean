/-! a cell of the script; the text of two sitters -/
set_option maxHeartbeats 600000 in
set_option maxRecDepth 100000 in
theorem sp_cell {L d : Nat} {k : Int} {H : FpH} {Q : FpQ} (hL : L ≤ 2560) (hk : 0 ≤ k ∧ k ≤ 100) (hq : ∀ c, 0 ≤ c ∧ c ≤ 2147483647 → Q (some (.inl c)) H) : fp_Wp L d 63 0 (fp_en 63 [.inr (9, 26), .inl k]) [] H Q := by
  refine fp_go 1000 [] (fun KN KC hN hC => ?_)
  conv => whnf
  (try simp only [Int.reduceToNat, Int.toNat_natCast, fp_up_c, fp_up_s, fp_up_i, fp_cp_c, fp_g_s, Nat.reduceBEq, Int.reduceAdd, Int.reduceSub, Int.reduceNeg, Int.reduceMul, Int.one_mul])
  (repeat' first
      | (refine And.intro (by first | omega | (unfold fp_rg; omega)) ?_; (try intro _); (conv => whnf); (try simp only [Int.reduceToNat, Int.toNat_natCast, fp_up_c, fp_up_s, fp_up_i, fp_cp_c, fp_g_s, Nat.reduceBEq, Int.reduceAdd, Int.reduceSub, Int.reduceNeg, Int.reduceMul, Int.one_mul]))
      | (refine And.intro (fun _ => ?_) (fun _ => ?_) <;> first | (exfalso; omega) | (rename_i hz_; exact absurd trivial hz_) | ((conv => whnf); (try simp only [Int.reduceToNat, Int.toNat_natCast, fp_up_c, fp_up_s, fp_up_i, fp_cp_c, fp_g_s, Nat.reduceBEq, Int.reduceAdd, Int.reduceSub, Int.reduceNeg, Int.reduceMul, Int.one_mul])))
      | (refine And.intro (fun _ => ?_) ?_ <;> first | (exfalso; omega) | trivial | ((conv => whnf); (try simp only [Int.reduceToNat, Int.toNat_natCast, fp_up_c, fp_up_s, fp_up_i, fp_cp_c, fp_g_s, Nat.reduceBEq, Int.reduceAdd, Int.reduceSub, Int.reduceNeg, Int.reduceMul, Int.one_mul])))
      | (refine And.intro (by simp [fp_rg, fp_up, fp_cp] <;> omega) ?_; (conv => whnf); (try simp only [Int.reduceToNat, Int.toNat_natCast, fp_up_c, fp_up_s, fp_up_i, fp_cp_c, fp_g_s, Nat.reduceBEq, Int.reduceAdd, Int.reduceSub, Int.reduceNeg, Int.reduceMul, Int.one_mul]))
      | fail)
  all_goals exact hq _ (by omega)
/-- the text alone was typed -/
def fq_tf (H K : FpH) : Prop := (∀ g, g ≠ 7 → K g = H g) ∧ (∀ c, c ≠ 17 → c ≠ 18 → K 7 c = H 7 c) ∧ (∀ i, i ≠ 1 → K 7 17 i = H 7 17 i)
theorem fq_tf_r {H : FpH} : fq_tf H H := ⟨fun _ _ => rfl, fun _ _ _ => rfl, fun _ _ => rfl⟩
theorem fq_tf_t {H K M : FpH} (h : fq_tf H K) (h' : fq_tf K M) : fq_tf H M := ⟨fun g hg => (h'.1 g hg).trans (h.1 g hg), fun c a b => (h'.2.1 c a b).trans (h.2.1 c a b), fun i hi => (h'.2.2 i hi).trans (h.2.2 i hi)⟩
theorem st_type {L d a : Nat} {ch : Int} {H0 H : FpH} {Q : FpQ} (hf : fq_tf H0 H) (hl : H 7 17 1 = (a : Int)) (ha : a < 80) (hch : 0 ≤ ch ∧ ch < 65536) (hq : ∀ K, fq_tf H0 K → K 7 17 1 = (a : Int) + 1 → K 7 18 a = ch → (∀ i, i ≠ a → K 7 18 i = H 7 18 i) → Q (some (.inl ((a : Int) + 1))) K) : fp_Wp L d 62 0 (fp_en 62 [.inr (7, 14), .inl ch]) [] H Q := by
  refine sp_type hch (by omega) (fun h => by omega) (fun _ => ?_)
  rw [hl]
  refine hq _ (fq_tf_t hf ⟨fun g hg => ?_, fun c h1 h2 => ?_, fun i hi => ?_⟩) ?_ ?_ (fun i hi => ?_)
  · funext c i
    simp [fp_up, hg]
  · funext i
    simp [fp_up, h1, h2]
  · simp [fp_up, hi]
  · simp [fp_up]
  · simp [fp_up]
  · simp only [Int.toNat_natCast]
    simp [fp_up, hi]
/-- so many digits were typed behind place a -/
def fq_td (a k : Nat) (H0 K : FpH) : Prop := fq_tf H0 K ∧ K 7 17 1 = (a : Int) + k ∧ (∀ j, j < k → 49 ≤ K 7 18 (a + j) ∧ K 7 18 (a + j) ≤ 57) ∧ (∀ i, i < a → K 7 18 i = H0 7 18 i)
set_option maxHeartbeats 600000 in
set_option maxRecDepth 100000 in
theorem le_k {L d a : Nat} {y w t : Int} {H0 : FpH} {Q : FpQ} (hy : 0 ≤ y ∧ y ≤ 2147483647) (ha : a ≤ 60) (hk : ∀ K (l4 : Int), fq_td a 8 H0 K → fp_Wp L (d + 1) 65 38 [some (.inr (7, 14)), some (.inl y), some (.inl w), some (.inl t), some (.inl l4), some (.inl 8)] [] K Q) : ∀ (m k : Nat) (l4 : Int) (H : FpH), k + m = 8 → fq_td a k H0 H → fp_Wp L (d + 1) 65 6 [some (.inr (7, 14)), some (.inl y), some (.inl w), some (.inl t), some (.inl l4), some (.inl (k : Int))] [] H Q := by
  intro m
  induction m with
  | zero =>
    intro k l4 H hkm hd
    obtain rfl : k = 8 := by omega
    have hk1 := hk H l4 hd
    refine fp_go 1000 [38] (fun KN KC hN hC => ?_)
    conv => whnf
    (try simp only [Int.reduceToNat, Int.toNat_natCast, fp_up_c, fp_up_s, fp_up_i, fp_cp_c, fp_g_s, Nat.reduceBEq, Int.reduceAdd, Int.reduceSub, Int.reduceNeg, Int.reduceMul, Int.one_mul])
    (repeat' first
        | (refine And.intro (by first | omega | (unfold fp_rg; omega)) ?_; (try intro _); (conv => whnf); (try simp only [Int.reduceToNat, Int.toNat_natCast, fp_up_c, fp_up_s, fp_up_i, fp_cp_c, fp_g_s, Nat.reduceBEq, Int.reduceAdd, Int.reduceSub, Int.reduceNeg, Int.reduceMul, Int.one_mul]))
        | (refine And.intro (fun _ => ?_) (fun _ => ?_) <;> first | (exfalso; omega) | (rename_i hz_; exact absurd trivial hz_) | ((conv => whnf); (try simp only [Int.reduceToNat, Int.toNat_natCast, fp_up_c, fp_up_s, fp_up_i, fp_cp_c, fp_g_s, Nat.reduceBEq, Int.reduceAdd, Int.reduceSub, Int.reduceNeg, Int.reduceMul, Int.one_mul])))
        | (refine And.intro (fun _ => ?_) ?_ <;> first | (exfalso; omega) | trivial | ((conv => whnf); (try simp only [Int.reduceToNat, Int.toNat_natCast, fp_up_c, fp_up_s, fp_up_i, fp_cp_c, fp_g_s, Nat.reduceBEq, Int.reduceAdd, Int.reduceSub, Int.reduceNeg, Int.reduceMul, Int.one_mul])))
        | (refine And.intro (by simp [fp_rg, fp_up, fp_cp] <;> omega) ?_; (conv => whnf); (try simp only [Int.reduceToNat, Int.toNat_natCast, fp_up_c, fp_up_s, fp_up_i, fp_cp_c, fp_g_s, Nat.reduceBEq, Int.reduceAdd, Int.reduceSub, Int.reduceNeg, Int.reduceMul, Int.one_mul]))
        | fail)
    exact hN _ _ _ _ hk1
  | succ m ih =>
    intro k l4 H hkm hd
    obtain ⟨d1, d2, d3, d4⟩ := hd
    refine fp_go 1000 [6] (fun KN KC hN hC => ?_)
    conv => whnf
    (try simp only [Int.reduceToNat, Int.toNat_natCast, fp_up_c, fp_up_s, fp_up_i, fp_cp_c, fp_g_s, Nat.reduceBEq, Int.reduceAdd, Int.reduceSub, Int.reduceNeg, Int.reduceMul, Int.one_mul])
    (repeat' first
        | (refine And.intro (by first | omega | (unfold fp_rg; omega)) ?_; (try intro _); (conv => whnf); (try simp only [Int.reduceToNat, Int.toNat_natCast, fp_up_c, fp_up_s, fp_up_i, fp_cp_c, fp_g_s, Nat.reduceBEq, Int.reduceAdd, Int.reduceSub, Int.reduceNeg, Int.reduceMul, Int.one_mul]))
        | (refine And.intro (fun _ => ?_) (fun _ => ?_) <;> first | (exfalso; omega) | (rename_i hz_; exact absurd trivial hz_) | ((conv => whnf); (try simp only [Int.reduceToNat, Int.toNat_natCast, fp_up_c, fp_up_s, fp_up_i, fp_cp_c, fp_g_s, Nat.reduceBEq, Int.reduceAdd, Int.reduceSub, Int.reduceNeg, Int.reduceMul, Int.one_mul])))
        | (refine And.intro (fun _ => ?_) ?_ <;> first | (exfalso; omega) | trivial | ((conv => whnf); (try simp only [Int.reduceToNat, Int.toNat_natCast, fp_up_c, fp_up_s, fp_up_i, fp_cp_c, fp_g_s, Nat.reduceBEq, Int.reduceAdd, Int.reduceSub, Int.reduceNeg, Int.reduceMul, Int.one_mul])))
        | (refine And.intro (by simp [fp_rg, fp_up, fp_cp] <;> omega) ?_; (conv => whnf); (try simp only [Int.reduceToNat, Int.toNat_natCast, fp_up_c, fp_up_s, fp_up_i, fp_cp_c, fp_g_s, Nat.reduceBEq, Int.reduceAdd, Int.reduceSub, Int.reduceNeg, Int.reduceMul, Int.one_mul]))
        | fail)
    refine hC _ _ _ _ ⟨_, rfl, ?_⟩
    refine st_type (a := a + k) d1 (by omega) (by omega) (by omega) (fun K k1 k2 k3 k4 => ?_)
    have ih1 := fun l4 => ih (k + 1) l4 K (by omega) ⟨k1, by omega, fun j hj => by
      by_cases e : j = k
      · subst e; rw [k3]; omega
      · rw [k4 _ (by omega)]; exact d3 j (by omega), fun i hi => by rw [k4 _ (by omega)]; exact d4 i hi⟩
    conv => whnf
    (try simp only [Int.reduceToNat, Int.toNat_natCast, fp_up_c, fp_up_s, fp_up_i, fp_cp_c, fp_g_s, Nat.reduceBEq, Int.reduceAdd, Int.reduceSub, Int.reduceNeg, Int.reduceMul, Int.one_mul])
    (repeat' first
        | (refine And.intro (by first | omega | (unfold fp_rg; omega)) ?_; (try intro _); (conv => whnf); (try simp only [Int.reduceToNat, Int.toNat_natCast, fp_up_c, fp_up_s, fp_up_i, fp_cp_c, fp_g_s, Nat.reduceBEq, Int.reduceAdd, Int.reduceSub, Int.reduceNeg, Int.reduceMul, Int.one_mul]))
        | (refine And.intro (fun _ => ?_) (fun _ => ?_) <;> first | (exfalso; omega) | (rename_i hz_; exact absurd trivial hz_) | ((conv => whnf); (try simp only [Int.reduceToNat, Int.toNat_natCast, fp_up_c, fp_up_s, fp_up_i, fp_cp_c, fp_g_s, Nat.reduceBEq, Int.reduceAdd, Int.reduceSub, Int.reduceNeg, Int.reduceMul, Int.one_mul])))
        | (refine And.intro (fun _ => ?_) ?_ <;> first | (exfalso; omega) | trivial | ((conv => whnf); (try simp only [Int.reduceToNat, Int.toNat_natCast, fp_up_c, fp_up_s, fp_up_i, fp_cp_c, fp_g_s, Nat.reduceBEq, Int.reduceAdd, Int.reduceSub, Int.reduceNeg, Int.reduceMul, Int.one_mul])))
        | (refine And.intro (by simp [fp_rg, fp_up, fp_cp] <;> omega) ?_; (conv => whnf); (try simp only [Int.reduceToNat, Int.toNat_natCast, fp_up_c, fp_up_s, fp_up_i, fp_cp_c, fp_g_s, Nat.reduceBEq, Int.reduceAdd, Int.reduceSub, Int.reduceNeg, Int.reduceMul, Int.one_mul]))
        | fail)
    exact hN _ _ _ _ (ih1 _)
set_option maxHeartbeats 600000 in
set_option maxRecDepth 100000 in
theorem sp_entryL {L d a : Nat} {y : Int} {H : FpH} {Q : FpQ} (hy : 0 ≤ y ∧ y ≤ 2147483647) (ha : a ≤ 60) (hl : H 7 17 1 = (a : Int)) (hq : ∀ K, fq_tf H K → K 7 17 1 = (a : Int) + 9 → (∀ j, j < 8 → 49 ≤ K 7 18 (a + j) ∧ K 7 18 (a + j) ≤ 57) → K 7 18 (a + 8) = 108 → (∀ i, i < a → K 7 18 i = H 7 18 i) → Q (some (.inl ((a : Int) + 9))) K) : fp_Wp L (d + 1) 65 0 (fp_en 65 [.inr (7, 14), .inl y, .inl 0, .inl 0]) [] H Q := by
  refine fp_go 1000 [6] (fun KN KC hN hC => ?_)
  conv => whnf
  (try simp only [Int.reduceToNat, Int.toNat_natCast, fp_up_c, fp_up_s, fp_up_i, fp_cp_c, fp_g_s, Nat.reduceBEq, Int.reduceAdd, Int.reduceSub, Int.reduceNeg, Int.reduceMul, Int.one_mul])
  (repeat' first
      | (refine And.intro (by first | omega | (unfold fp_rg; omega)) ?_; (try intro _); (conv => whnf); (try simp only [Int.reduceToNat, Int.toNat_natCast, fp_up_c, fp_up_s, fp_up_i, fp_cp_c, fp_g_s, Nat.reduceBEq, Int.reduceAdd, Int.reduceSub, Int.reduceNeg, Int.reduceMul, Int.one_mul]))
      | (refine And.intro (fun _ => ?_) (fun _ => ?_) <;> first | (exfalso; omega) | (rename_i hz_; exact absurd trivial hz_) | ((conv => whnf); (try simp only [Int.reduceToNat, Int.toNat_natCast, fp_up_c, fp_up_s, fp_up_i, fp_cp_c, fp_g_s, Nat.reduceBEq, Int.reduceAdd, Int.reduceSub, Int.reduceNeg, Int.reduceMul, Int.one_mul])))
      | (refine And.intro (fun _ => ?_) ?_ <;> first | (exfalso; omega) | trivial | ((conv => whnf); (try simp only [Int.reduceToNat, Int.toNat_natCast, fp_up_c, fp_up_s, fp_up_i, fp_cp_c, fp_g_s, Nat.reduceBEq, Int.reduceAdd, Int.reduceSub, Int.reduceNeg, Int.reduceMul, Int.one_mul])))
      | (refine And.intro (by simp [fp_rg, fp_up, fp_cp] <;> omega) ?_; (conv => whnf); (try simp only [Int.reduceToNat, Int.toNat_natCast, fp_up_c, fp_up_s, fp_up_i, fp_cp_c, fp_g_s, Nat.reduceBEq, Int.reduceAdd, Int.reduceSub, Int.reduceNeg, Int.reduceMul, Int.one_mul]))
      | fail)
  refine hN _ _ _ _ (le_k (a := a) (H0 := H) hy ha (fun K l4 hd => ?_) 8 0 0 H (by omega) ⟨fq_tf_r, by omega, fun j hj => by omega, fun _ _ => rfl⟩)
  obtain ⟨d1, d2, d3, d4⟩ := hd
  refine fp_go 1000 [] (fun KN KC hN hC => ?_)
  conv => whnf
  (try simp only [Int.reduceToNat, Int.toNat_natCast, fp_up_c, fp_up_s, fp_up_i, fp_cp_c, fp_g_s, Nat.reduceBEq, Int.reduceAdd, Int.reduceSub, Int.reduceNeg, Int.reduceMul, Int.one_mul])
  (repeat' first
      | (refine And.intro (by first | omega | (unfold fp_rg; omega)) ?_; (try intro _); (conv => whnf); (try simp only [Int.reduceToNat, Int.toNat_natCast, fp_up_c, fp_up_s, fp_up_i, fp_cp_c, fp_g_s, Nat.reduceBEq, Int.reduceAdd, Int.reduceSub, Int.reduceNeg, Int.reduceMul, Int.one_mul]))
      | (refine And.intro (fun _ => ?_) (fun _ => ?_) <;> first | (exfalso; omega) | (rename_i hz_; exact absurd trivial hz_) | ((conv => whnf); (try simp only [Int.reduceToNat, Int.toNat_natCast, fp_up_c, fp_up_s, fp_up_i, fp_cp_c, fp_g_s, Nat.reduceBEq, Int.reduceAdd, Int.reduceSub, Int.reduceNeg, Int.reduceMul, Int.one_mul])))
      | (refine And.intro (fun _ => ?_) ?_ <;> first | (exfalso; omega) | trivial | ((conv => whnf); (try simp only [Int.reduceToNat, Int.toNat_natCast, fp_up_c, fp_up_s, fp_up_i, fp_cp_c, fp_g_s, Nat.reduceBEq, Int.reduceAdd, Int.reduceSub, Int.reduceNeg, Int.reduceMul, Int.one_mul])))
      | (refine And.intro (by simp [fp_rg, fp_up, fp_cp] <;> omega) ?_; (conv => whnf); (try simp only [Int.reduceToNat, Int.toNat_natCast, fp_up_c, fp_up_s, fp_up_i, fp_cp_c, fp_g_s, Nat.reduceBEq, Int.reduceAdd, Int.reduceSub, Int.reduceNeg, Int.reduceMul, Int.one_mul]))
      | fail)
  refine hC _ _ _ _ ⟨_, rfl, ?_⟩
  refine st_type (a := a + 8) d1 (by omega) (by omega) (by omega) (fun K2 k1 k2 k3 k4 => ?_)
  have hq1 := hq K2 k1 (by omega) (fun j hj => by rw [k4 _ (by omega)]; exact d3 j hj) k3 (fun i hi => by rw [k4 _ (by omega)]; exact d4 i hi)
  have e : ((a + 8 : Nat) : Int) + 1 = (a : Int) + 9 := by omega
  rw [e]
  conv => whnf
  (try simp only [Int.reduceToNat, Int.toNat_natCast, fp_up_c, fp_up_s, fp_up_i, fp_cp_c, fp_g_s, Nat.reduceBEq, Int.reduceAdd, Int.reduceSub, Int.reduceNeg, Int.reduceMul, Int.one_mul])
  (repeat' first
      | (refine And.intro (by first | omega | (unfold fp_rg; omega)) ?_; (try intro _); (conv => whnf); (try simp only [Int.reduceToNat, Int.toNat_natCast, fp_up_c, fp_up_s, fp_up_i, fp_cp_c, fp_g_s, Nat.reduceBEq, Int.reduceAdd, Int.reduceSub, Int.reduceNeg, Int.reduceMul, Int.one_mul]))
      | (refine And.intro (fun _ => ?_) (fun _ => ?_) <;> first | (exfalso; omega) | (rename_i hz_; exact absurd trivial hz_) | ((conv => whnf); (try simp only [Int.reduceToNat, Int.toNat_natCast, fp_up_c, fp_up_s, fp_up_i, fp_cp_c, fp_g_s, Nat.reduceBEq, Int.reduceAdd, Int.reduceSub, Int.reduceNeg, Int.reduceMul, Int.one_mul])))
      | (refine And.intro (fun _ => ?_) ?_ <;> first | (exfalso; omega) | trivial | ((conv => whnf); (try simp only [Int.reduceToNat, Int.toNat_natCast, fp_up_c, fp_up_s, fp_up_i, fp_cp_c, fp_g_s, Nat.reduceBEq, Int.reduceAdd, Int.reduceSub, Int.reduceNeg, Int.reduceMul, Int.one_mul])))
      | (refine And.intro (by simp [fp_rg, fp_up, fp_cp] <;> omega) ?_; (conv => whnf); (try simp only [Int.reduceToNat, Int.toNat_natCast, fp_up_c, fp_up_s, fp_up_i, fp_cp_c, fp_g_s, Nat.reduceBEq, Int.reduceAdd, Int.reduceSub, Int.reduceNeg, Int.reduceMul, Int.one_mul]))
      | fail)
  exact hq1
set_option maxHeartbeats 600000 in
set_option maxRecDepth 100000 in
theorem sp_entryC {L d a : Nat} {y : Int} {H : FpH} {Q : FpQ} (hy : 0 ≤ y ∧ y ≤ 2147483647) (ha : a ≤ 60) (hl : H 7 17 1 = (a : Int)) (hq : ∀ K, fq_tf H K → K 7 17 1 = (a : Int) + 10 → (∀ j, j < 8 → 49 ≤ K 7 18 (a + j) ∧ K 7 18 (a + j) ≤ 57) → K 7 18 (a + 8) = 99 → K 7 18 (a + 9) = 57 → (∀ i, i < a → K 7 18 i = H 7 18 i) → Q (some (.inl ((a : Int) + 10))) K) : fp_Wp L (d + 1) 65 0 (fp_en 65 [.inr (7, 14), .inl y, .inl 2, .inl 9]) [] H Q := by
  refine fp_go 1000 [6] (fun KN KC hN hC => ?_)
  conv => whnf
  (try simp only [Int.reduceToNat, Int.toNat_natCast, fp_up_c, fp_up_s, fp_up_i, fp_cp_c, fp_g_s, Nat.reduceBEq, Int.reduceAdd, Int.reduceSub, Int.reduceNeg, Int.reduceMul, Int.one_mul])
  (repeat' first
      | (refine And.intro (by first | omega | (unfold fp_rg; omega)) ?_; (try intro _); (conv => whnf); (try simp only [Int.reduceToNat, Int.toNat_natCast, fp_up_c, fp_up_s, fp_up_i, fp_cp_c, fp_g_s, Nat.reduceBEq, Int.reduceAdd, Int.reduceSub, Int.reduceNeg, Int.reduceMul, Int.one_mul]))
      | (refine And.intro (fun _ => ?_) (fun _ => ?_) <;> first | (exfalso; omega) | (rename_i hz_; exact absurd trivial hz_) | ((conv => whnf); (try simp only [Int.reduceToNat, Int.toNat_natCast, fp_up_c, fp_up_s, fp_up_i, fp_cp_c, fp_g_s, Nat.reduceBEq, Int.reduceAdd, Int.reduceSub, Int.reduceNeg, Int.reduceMul, Int.one_mul])))
      | (refine And.intro (fun _ => ?_) ?_ <;> first | (exfalso; omega) | trivial | ((conv => whnf); (try simp only [Int.reduceToNat, Int.toNat_natCast, fp_up_c, fp_up_s, fp_up_i, fp_cp_c, fp_g_s, Nat.reduceBEq, Int.reduceAdd, Int.reduceSub, Int.reduceNeg, Int.reduceMul, Int.one_mul])))
      | (refine And.intro (by simp [fp_rg, fp_up, fp_cp] <;> omega) ?_; (conv => whnf); (try simp only [Int.reduceToNat, Int.toNat_natCast, fp_up_c, fp_up_s, fp_up_i, fp_cp_c, fp_g_s, Nat.reduceBEq, Int.reduceAdd, Int.reduceSub, Int.reduceNeg, Int.reduceMul, Int.one_mul]))
      | fail)
  refine hN _ _ _ _ (le_k (a := a) (H0 := H) hy ha (fun K l4 hd => ?_) 8 0 0 H (by omega) ⟨fq_tf_r, by omega, fun j hj => by omega, fun _ _ => rfl⟩)
  obtain ⟨d1, d2, d3, d4⟩ := hd
  refine fp_go 1000 [] (fun KN KC hN hC => ?_)
  conv => whnf
  (try simp only [Int.reduceToNat, Int.toNat_natCast, fp_up_c, fp_up_s, fp_up_i, fp_cp_c, fp_g_s, Nat.reduceBEq, Int.reduceAdd, Int.reduceSub, Int.reduceNeg, Int.reduceMul, Int.one_mul])
  (repeat' first
      | (refine And.intro (by first | omega | (unfold fp_rg; omega)) ?_; (try intro _); (conv => whnf); (try simp only [Int.reduceToNat, Int.toNat_natCast, fp_up_c, fp_up_s, fp_up_i, fp_cp_c, fp_g_s, Nat.reduceBEq, Int.reduceAdd, Int.reduceSub, Int.reduceNeg, Int.reduceMul, Int.one_mul]))
      | (refine And.intro (fun _ => ?_) (fun _ => ?_) <;> first | (exfalso; omega) | (rename_i hz_; exact absurd trivial hz_) | ((conv => whnf); (try simp only [Int.reduceToNat, Int.toNat_natCast, fp_up_c, fp_up_s, fp_up_i, fp_cp_c, fp_g_s, Nat.reduceBEq, Int.reduceAdd, Int.reduceSub, Int.reduceNeg, Int.reduceMul, Int.one_mul])))
      | (refine And.intro (fun _ => ?_) ?_ <;> first | (exfalso; omega) | trivial | ((conv => whnf); (try simp only [Int.reduceToNat, Int.toNat_natCast, fp_up_c, fp_up_s, fp_up_i, fp_cp_c, fp_g_s, Nat.reduceBEq, Int.reduceAdd, Int.reduceSub, Int.reduceNeg, Int.reduceMul, Int.one_mul])))
      | (refine And.intro (by simp [fp_rg, fp_up, fp_cp] <;> omega) ?_; (conv => whnf); (try simp only [Int.reduceToNat, Int.toNat_natCast, fp_up_c, fp_up_s, fp_up_i, fp_cp_c, fp_g_s, Nat.reduceBEq, Int.reduceAdd, Int.reduceSub, Int.reduceNeg, Int.reduceMul, Int.one_mul]))
      | fail)
  refine hC _ _ _ _ ⟨_, rfl, ?_⟩
  refine st_type (a := a + 8) d1 (by omega) (by omega) (by omega) (fun K2 k1 k2 k3 k4 => ?_)
  conv => whnf
  (try simp only [Int.reduceToNat, Int.toNat_natCast, fp_up_c, fp_up_s, fp_up_i, fp_cp_c, fp_g_s, Nat.reduceBEq, Int.reduceAdd, Int.reduceSub, Int.reduceNeg, Int.reduceMul, Int.one_mul])
  (repeat' first
      | (refine And.intro (by first | omega | (unfold fp_rg; omega)) ?_; (try intro _); (conv => whnf); (try simp only [Int.reduceToNat, Int.toNat_natCast, fp_up_c, fp_up_s, fp_up_i, fp_cp_c, fp_g_s, Nat.reduceBEq, Int.reduceAdd, Int.reduceSub, Int.reduceNeg, Int.reduceMul, Int.one_mul]))
      | (refine And.intro (fun _ => ?_) (fun _ => ?_) <;> first | (exfalso; omega) | (rename_i hz_; exact absurd trivial hz_) | ((conv => whnf); (try simp only [Int.reduceToNat, Int.toNat_natCast, fp_up_c, fp_up_s, fp_up_i, fp_cp_c, fp_g_s, Nat.reduceBEq, Int.reduceAdd, Int.reduceSub, Int.reduceNeg, Int.reduceMul, Int.one_mul])))
      | (refine And.intro (fun _ => ?_) ?_ <;> first | (exfalso; omega) | trivial | ((conv => whnf); (try simp only [Int.reduceToNat, Int.toNat_natCast, fp_up_c, fp_up_s, fp_up_i, fp_cp_c, fp_g_s, Nat.reduceBEq, Int.reduceAdd, Int.reduceSub, Int.reduceNeg, Int.reduceMul, Int.one_mul])))
      | (refine And.intro (by simp [fp_rg, fp_up, fp_cp] <;> omega) ?_; (conv => whnf); (try simp only [Int.reduceToNat, Int.toNat_natCast, fp_up_c, fp_up_s, fp_up_i, fp_cp_c, fp_g_s, Nat.reduceBEq, Int.reduceAdd, Int.reduceSub, Int.reduceNeg, Int.reduceMul, Int.one_mul]))
      | fail)
  refine hC _ _ _ _ ⟨_, rfl, ?_⟩
  refine st_type (a := a + 9) k1 (by omega) (by omega) (by omega) (fun K3 m1 m2 m3 m4 => ?_)
  have hq1 := hq K3 m1 (by omega) (fun j hj => by rw [m4 _ (by omega), k4 _ (by omega)]; exact d3 j hj) (by rw [m4 _ (by omega)]; exact k3) (by rw [m3]; omega) (fun i hi => by rw [m4 _ (by omega), k4 _ (by omega)]; exact d4 i hi)
  have e : ((a + 9 : Nat) : Int) + 1 = (a : Int) + 10 := by omega
  rw [e]
  conv => whnf
  (try simp only [Int.reduceToNat, Int.toNat_natCast, fp_up_c, fp_up_s, fp_up_i, fp_cp_c, fp_g_s, Nat.reduceBEq, Int.reduceAdd, Int.reduceSub, Int.reduceNeg, Int.reduceMul, Int.one_mul])
  (repeat' first
      | (refine And.intro (by first | omega | (unfold fp_rg; omega)) ?_; (try intro _); (conv => whnf); (try simp only [Int.reduceToNat, Int.toNat_natCast, fp_up_c, fp_up_s, fp_up_i, fp_cp_c, fp_g_s, Nat.reduceBEq, Int.reduceAdd, Int.reduceSub, Int.reduceNeg, Int.reduceMul, Int.one_mul]))
      | (refine And.intro (fun _ => ?_) (fun _ => ?_) <;> first | (exfalso; omega) | (rename_i hz_; exact absurd trivial hz_) | ((conv => whnf); (try simp only [Int.reduceToNat, Int.toNat_natCast, fp_up_c, fp_up_s, fp_up_i, fp_cp_c, fp_g_s, Nat.reduceBEq, Int.reduceAdd, Int.reduceSub, Int.reduceNeg, Int.reduceMul, Int.one_mul])))
      | (refine And.intro (fun _ => ?_) ?_ <;> first | (exfalso; omega) | trivial | ((conv => whnf); (try simp only [Int.reduceToNat, Int.toNat_natCast, fp_up_c, fp_up_s, fp_up_i, fp_cp_c, fp_g_s, Nat.reduceBEq, Int.reduceAdd, Int.reduceSub, Int.reduceNeg, Int.reduceMul, Int.one_mul])))
      | (refine And.intro (by simp [fp_rg, fp_up, fp_cp] <;> omega) ?_; (conv => whnf); (try simp only [Int.reduceToNat, Int.toNat_natCast, fp_up_c, fp_up_s, fp_up_i, fp_cp_c, fp_g_s, Nat.reduceBEq, Int.reduceAdd, Int.reduceSub, Int.reduceNeg, Int.reduceMul, Int.one_mul]))
      | fail)
  exact hq1
/-! what the text says -/
theorem fp_rw_ok {T : Nat → Int} {n : Nat} : ∀ (m a : Nat), a + m ≤ n → (∀ j, j < m → 49 ≤ T (a + j) ∧ T (a + j) ≤ 57) → fp_rw T n m a = (a + m, true)
  | 0, _, _, _ => rfl
  | m + 1, a, h, hT => by
    have h0 := hT 0 (by omega)
    rw [Nat.add_zero] at h0
    have e : fp_dg T n 49 a = true := by
      unfold fp_dg
      simp only [Bool.and_eq_true, decide_eq_true_eq]
      omega
    simp only [fp_rw, e, if_true]
    rw [fp_rw_ok m (a + 1) (by omega) (fun j hj => by have := hT (j + 1) (by omega); rw [show a + 1 + j = a + (j + 1) by omega]; exact this)]
    rw [show a + 1 + m = a + (m + 1) by omega]
theorem fq_pe_0 {T : Nat → Int} (h1 : ∀ j, j < 8 → 49 ≤ T (0 + j) ∧ T (0 + j) ≤ 57) (h2 : T 8 = 108) (h3 : T 9 = 59) : fp_pe T 20 0 = (true, 9, 0, 20) := by
  unfold fp_pe
  rw [fp_rw_ok 8 0 (by omega) h1]
  have e1 : fp_wa T 20 8 = some 0 := by
    unfold fp_wa
    rw [if_pos ⟨by omega, h2⟩]
  have e2 : fp_pa T 20 9 = (9, 20) := by
    have : fp_dg T 20 49 9 = false := by
      unfold fp_dg
      simp only [Bool.and_eq_false_iff, decide_eq_false_iff_not]
      omega
    unfold fp_pa
    rw [if_neg (by rw [this]; decide)]
  dsimp only
  rw [show 0 + 8 = 8 by rfl, e1]
  dsimp only
  rw [show 8 + 1 = 9 by rfl, e2]
theorem fq_pe_10 {T : Nat → Int} (h4 : ∀ j, j < 8 → 49 ≤ T (10 + j) ∧ T (10 + j) ≤ 57) (h5 : T 18 = 99) (h6 : T 19 = 57) : fp_pe T 20 10 = (true, 20, 2, 9) := by
  unfold fp_pe
  rw [fp_rw_ok 8 10 (by omega) h4]
  have e1 : fp_wa T 20 18 = some 2 := by
    unfold fp_wa
    rw [if_neg (by omega), if_neg (by omega), if_pos ⟨by omega, h5⟩]
  have e2 : fp_pa T 20 19 = (20, 9) := by
    have a1 : fp_dg T 20 49 19 = true := by
      unfold fp_dg
      simp only [Bool.and_eq_true, decide_eq_true_eq]
      omega
    have a2 : fp_dg T 20 48 20 = false := by
      unfold fp_dg
      simp only [Bool.and_eq_false_iff, decide_eq_false_iff_not]
      omega
    unfold fp_pa
    rw [if_pos a1, if_neg (by rw [show 19 + 1 = 20 by rfl, a2]; decide), h6]
    rfl
  dsimp only
  rw [show 10 + 8 = 18 by rfl, e1]
  dsimp only
  rw [show 18 + 1 = 19 by rfl, e2]
theorem fq_sq_2 {T : Nat → Int} (h1 : ∀ j, j < 8 → 49 ≤ T (0 + j) ∧ T (0 + j) ≤ 57) (h2 : T 8 = 108) (h3 : T 9 = 59) (h4 : ∀ j, j < 8 → 49 ≤ T (10 + j) ∧ T (10 + j) ≤ 57) (h5 : T 18 = 99) (h6 : T 19 = 57) : fp_sq T 20 8 0 = (-1, 2) := by
  have e2 : fp_sq T 20 7 10 = (-1, 1) := by
    unfold fp_sq
    rw [fq_pe_10 h4 h5 h6]
    rfl
  unfold fp_sq
  rw [fq_pe_0 h1 h2 h3]
  dsimp only
  rw [if_neg (by omega), if_pos h3, show 9 + 1 = 10 by rfl, e2]
theorem fq_sq_0 {T : Nat → Int} : fp_sq T 0 8 0 = (0, 0) := rfl
theorem fq_nb_in {G : FpG} {f : Nat → Int} (h : 0 ≤ G 1 4 ∧ G 1 4 < 10) : ∃ r G1, fq_nb G f = some (r, G1) ∧ G1 9 3 = G 9 3 ∧ (r : Int) < G1 1 4 ∧ G1 1 4 ≤ G 1 4 + 1 ∧ G 1 4 ≤ G1 1 4 ∧ (∀ i, G1 3 i = G 3 i) ∧ (∀ i, G1 4 i = G 4 i) ∧ (∀ i, G1 5 i = G 5 i) := by
  unfold fq_nb
  rcases fp_ff_out (f := fun q => fp_dc (fq_mt G f q)) (G 1 4).toNat with ⟨r, e, h1, -, -⟩ | ⟨e, -⟩
  · rw [e]
    exact ⟨r, G, rfl, rfl, by omega, by omega, by omega, fun _ => rfl, fun _ => rfl, fun _ => rfl⟩
  · rw [e]
    dsimp only
    rw [if_neg (by omega)]
    refine ⟨_, _, rfl, fp_padd_z.2, ?_, ?_, ?_, fun i => fp_padd_o (by rfl) (by rfl), fun i => fp_padd_o (by rfl) (by rfl), fun i => fp_padd_o (by rfl) (by rfl)⟩
    · rw [fp_padd_z.1]; omega
    · rw [fp_padd_z.1]; omega
    · rw [fp_padd_z.1]; omega
/-- both sitters come -/
theorem fq_cm_2 {T : Nat → Int} {G : FpG} (h1 : ∀ j, j < 8 → 49 ≤ T (0 + j) ∧ T (0 + j) ≤ 57) (h2 : T 8 = 108) (h3 : T 9 = 59) (h4 : ∀ j, j < 8 → 49 ≤ T (10 + j) ∧ T (10 + j) ≤ 57) (h5 : T 18 = 99) (h6 : T 19 = 57) (hp : G 1 4 = 0) (hl : G 9 3 = 0) (hz : ∀ p, p < 10 → G 3 p = 0 ∧ G 4 p = 0 ∧ G 5 p = 0) : ∃ X, fq_cm T 20 2 0 G = some X ∧ X 9 3 = 2 ∧ fq_J X ∧ X 1 4 ≤ 2 := by
  obtain ⟨r, G1, e1, a1, a2, a3, a3', a4, a5, a6⟩ := fq_nb_in (G := G) (f := fun j => T (0 + j) - 48) (by omega)
  have b93 : ∀ (r w t : Int), fp_ladd G1 r w t 9 3 = 1 := fun r w t => by simp [fp_ladd]; omega
  have b14 : ∀ (r w t : Int), fp_ladd G1 r w t 1 4 = G1 1 4 := fun r w t => fp_ladd_o (by rfl) (by rfl) (by rfl) (by rfl)
  obtain ⟨r2, G2, e2, c1, c2, c3, c3', c4, c5, c6⟩ := fq_nb_in (G := fp_ladd G1 (r : Int) 0 20) (f := fun j => T (10 + j) - 48) (by rw [b14]; omega)
  rw [b93] at c1
  rw [b14] at c3 c3'
  refine ⟨fp_ladd G2 (r2 : Int) 2 9, ?_, ?_, ⟨fun p hp => ?_, ?_⟩, ?_⟩
  · simp only [fq_cm, e1, fq_pe_0 h1 h2 h3]
    rw [if_neg (by omega)]
    simp only [Nat.reduceAdd, e2, fq_pe_10 h4 h5 h6]
    rw [if_neg (by omega)]
  · simp [fp_ladd]; omega
  · rw [fp_ladd_o (by rfl) (by rfl) (by rfl) (by rfl), fp_ladd_o (by rfl) (by rfl) (by rfl) (by rfl), fp_ladd_o (by rfl) (by rfl) (by rfl) (by rfl), c4, c5, c6, fp_ladd_o (by rfl) (by rfl) (by rfl) (by rfl), fp_ladd_o (by rfl) (by rfl) (by rfl) (by rfl), fp_ladd_o (by rfl) (by rfl) (by rfl) (by rfl), a4, a5, a6]
    have := hz p hp
    omega
  · rw [fp_ladd_o (by rfl) (by rfl) (by rfl) (by rfl)]; omega
  · rw [fp_ladd_o (by rfl) (by rfl) (by rfl) (by rfl)]; omega
