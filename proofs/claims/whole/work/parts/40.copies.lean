/-! the model: its row of numbers -/
/-- another content of the model's row -/
def fq_s (H : FpH) (s : Nat → Int) : FpH := fun g c i => if g = 8 ∧ c = 23 then s i else H g c i
def fq_su (s : Nat → Int) (i : Nat) (v : Int) : Nat → Int := fun j => if j = i then v else s j
theorem fq_s_8 {H : FpH} {s : Nat → Int} : fq_s H s 8 23 = s := by funext i; simp [fq_s]
theorem fq_s_c {H : FpH} {s : Nat → Int} {c : Nat} (h : (c == 23) = false) : fq_s H s 8 c = H 8 c := by
  have : c ≠ 23 := fun e => by subst e; simp at h
  funext i; simp [fq_s, this]
theorem fq_s_n {H : FpH} {s : Nat → Int} {g : Nat} (h : (g == 8) = false) : fq_s H s g = H g := by
  have : g ≠ 8 := fun e => by subst e; simp at h
  funext c i; simp [fq_s, this]
theorem fq_s_s {H : FpH} {s s' : Nat → Int} : fq_s (fq_s H s) s' = fq_s H s' := by
  funext g c i
  simp only [fq_s]
  split <;> rfl
theorem fq_s_i {H : FpH} : fq_s H (H 8 23) = H := by
  funext g c i
  simp only [fq_s]
  split
  · rename_i h; rw [h.1, h.2]
  · rfl
theorem fq_s_u {H : FpH} {i : Nat} {v : Int} : fp_up H 8 23 i v = fq_s H (fq_su (H 8 23) i v) := by
  funext g c j
  simp only [fp_up, fq_s, fq_su]
  grind
theorem fq_su_s {s : Nat → Int} {i : Nat} {v : Int} : fq_su s i v i = v := by simp [fq_su]
theorem fq_su_i {s : Nat → Int} {i j : Nat} {v : Int} (h : (j == i) = false) : fq_su s i v j = s j := by
  have : j ≠ i := fun e => by subst e; simp at h
  simp [fq_su, this]
theorem fq_at {s : Nat → Int} {i j : Nat} (h : i = j) : s i = s j := by rw [h]
theorem fq_ca_1 (a : Nat) : (a : Int) + 1 = ((a + 1 : Nat) : Int) := rfl
theorem fq_ca_2 (a : Nat) : (a : Int) + 2 = ((a + 2 : Nat) : Int) := rfl
theorem fq_ca_3 (a : Nat) : (a : Int) + 3 = ((a + 3 : Nat) : Int) := rfl
theorem fq_ca_4 (a : Nat) : (a : Int) + 4 = ((a + 4 : Nat) : Int) := rfl
theorem fq_ca_5 (a : Nat) : (a : Int) + 5 = ((a + 5 : Nat) : Int) := rfl
theorem fq_ca_6 (a : Nat) : (a : Int) + 6 = ((a + 6 : Nat) : Int) := rfl
theorem fq_ca_7 (a : Nat) : (a : Int) + 7 = ((a + 7 : Nat) : Int) := rfl
theorem fq_ca_8 (a : Nat) : (a : Int) + 8 = ((a + 8 : Nat) : Int) := rfl
theorem fq_ca_9 (a : Nat) : (a : Int) + 9 = ((a + 9 : Nat) : Int) := rfl
theorem fq_ca_10 (a : Nat) : (a : Int) + 10 = ((a + 10 : Nat) : Int) := rfl
theorem fq_ca_11 (a : Nat) : (a : Int) + 11 = ((a + 11 : Nat) : Int) := rfl
theorem fq_ca_114 (a : Nat) : (a : Int) + 114 = ((a + 114 : Nat) : Int) := rfl
theorem fq_ca_115 (a : Nat) : (a : Int) + 115 = ((a + 115 : Nat) : Int) := rfl
theorem fq_ca_127 (a : Nat) : (a : Int) + 127 = ((a + 127 : Nat) : Int) := rfl
theorem fq_ca_128 (a : Nat) : (a : Int) + 128 = ((a + 128 : Nat) : Int) := rfl
theorem fq_ca_164 (a : Nat) : (a : Int) + 164 = ((a + 164 : Nat) : Int) := rfl
theorem fq_ca_165 (a : Nat) : (a : Int) + 165 = ((a + 165 : Nat) : Int) := rfl
theorem fq_ca_166 (a : Nat) : (a : Int) + 166 = ((a + 166 : Nat) : Int) := rfl
theorem fq_ca_167 (a : Nat) : (a : Int) + 167 = ((a + 167 : Nat) : Int) := rfl
theorem fq_ca_168 (a : Nat) : (a : Int) + 168 = ((a + 168 : Nat) : Int) := rfl
theorem fq_ca_169 (a : Nat) : (a : Int) + 169 = ((a + 169 : Nat) : Int) := rfl
theorem fq_ca_170 (a : Nat) : (a : Int) + 170 = ((a + 170 : Nat) : Int) := rfl
theorem fq_cb_2 (a : Nat) : 2 + (a : Int) = ((2 + a : Nat) : Int) := rfl
theorem fq_cb_3 (a : Nat) : 3 + (a : Int) = ((3 + a : Nat) : Int) := rfl
theorem fq_cb_4 (a : Nat) : 4 + (a : Int) = ((4 + a : Nat) : Int) := rfl
theorem fq_cb_11 (a : Nat) : 11 + (a : Int) = ((11 + a : Nat) : Int) := rfl
theorem fq_cb_115 (a : Nat) : 115 + (a : Int) = ((115 + a : Nat) : Int) := rfl
theorem fq_cb_128 (a : Nat) : 128 + (a : Int) = ((128 + a : Nat) : Int) := rfl
theorem fq_cb_170 (a : Nat) : 170 + (a : Int) = ((170 + a : Nat) : Int) := rfl
theorem fq_cb_1020 (a : Nat) : 1020 + (a : Int) = ((1020 + a : Nat) : Int) := rfl
theorem fq_cm_2 (a : Nat) : 2 * (a : Int) = ((2 * a : Nat) : Int) := rfl
theorem fq_cm_3 (a : Nat) : 3 * (a : Int) = ((3 * a : Nat) : Int) := rfl
theorem fq_cm_11 (a : Nat) : 11 * (a : Int) = ((11 * a : Nat) : Int) := rfl
theorem fq_cm_170 (a : Nat) : 170 * (a : Int) = ((170 * a : Nat) : Int) := rfl
theorem fq_c4 (a b : Nat) : (a : Int) + (b : Int) = ((a + b : Nat) : Int) := rfl
/-- one slot onto another, from its place k on -/
def fq_cpk (f t k : Nat) (s : Nat → Int) : Nat → Int := fun i => if 170 * t + k ≤ i ∧ i < 170 * t + 170 then s (170 * f + (i - 170 * t)) else s i
def fq_cpy (f t : Nat) (s : Nat → Int) : Nat → Int := fq_cpk f t 0 s
theorem fq_cpk_s {f t k : Nat} {s : Nat → Int} (hk : k < 170) (hft : f ≠ t) : fq_cpk f t (k + 1) (fq_su s (170 * t + k) (s (170 * f + k))) = fq_cpk f t k s := by
  funext i
  simp only [fq_cpk, fq_su]
  by_cases h1 : i = 170 * t + k
  · subst h1
    rw [if_neg (by omega), if_pos rfl, if_pos (by omega)]
    exact fq_at (by omega)
  · by_cases h2 : 170 * t + (k + 1) ≤ i ∧ i < 170 * t + 170
    · rw [if_pos h2, if_neg (by omega), if_pos (by omega)]
    · rw [if_neg h2, if_neg h1, if_neg (by omega)]
theorem fq_cpk_e {f t : Nat} {s : Nat → Int} : fq_cpk f t 170 s = s := by
  funext i
  simp only [fq_cpk]
  rw [if_neg (by omega)]
set_option maxHeartbeats 600000 in
set_option maxRecDepth 100000 in
theorem lp_copies {L d f t : Nat} {Q : FpQ} (h : f < 7 ∧ t < 7 ∧ f ≠ t) : ∀ (m k : Nat) (H : FpH), k + m = 170 → Q none (fq_s H (fq_cpk f t k (H 8 23))) → fp_Wp L d 87 2 [some (.inr (8, 22)), some (.inl (f : Int)), some (.inl (t : Int)), some (.inl (k : Int))] [] H Q := by
  intro m
  induction m with
  | zero =>
    intro k H hk hq
    obtain rfl : k = 170 := by omega
    rw [fq_cpk_e, fq_s_i] at hq
    refine fp_go 1000 [2] (fun KN KC hN hC => ?_)
    conv => whnf
    (try simp only [Int.reduceToNat, Int.toNat_natCast, fp_up_c, fp_up_s, fp_up_i, fp_cp_c, fp_g_s, Nat.reduceBEq, Int.reduceAdd, Int.reduceSub, Int.reduceNeg, Int.reduceMul, fp_gu_c, fp_gu_s, fq_s_8, fq_s_c, fq_s_n, fq_s_s, fq_s_u, fq_su_s, fq_su_i, fq_ca_1, fq_ca_2, fq_ca_3, fq_ca_4, fq_ca_5, fq_ca_6, fq_ca_7, fq_ca_8, fq_ca_9, fq_ca_10, fq_ca_11, fq_ca_114, fq_ca_115, fq_ca_127, fq_ca_128, fq_ca_164, fq_ca_165, fq_ca_166, fq_ca_167, fq_ca_168, fq_ca_169, fq_ca_170, fq_cb_2, fq_cb_3, fq_cb_4, fq_cb_11, fq_cb_115, fq_cb_128, fq_cb_170, fq_cb_1020, fq_cm_2, fq_cm_3, fq_cm_11, fq_cm_170, fq_c4, Nat.zero_add, Int.zero_add])
    (repeat' first
        | (refine And.intro (by first | omega | (unfold fp_rg; omega)) ?_; (try intro _); (conv => whnf); (try simp only [Int.reduceToNat, Int.toNat_natCast, fp_up_c, fp_up_s, fp_up_i, fp_cp_c, fp_g_s, Nat.reduceBEq, Int.reduceAdd, Int.reduceSub, Int.reduceNeg, Int.reduceMul, fp_gu_c, fp_gu_s, fq_s_8, fq_s_c, fq_s_n, fq_s_s, fq_s_u, fq_su_s, fq_su_i, fq_ca_1, fq_ca_2, fq_ca_3, fq_ca_4, fq_ca_5, fq_ca_6, fq_ca_7, fq_ca_8, fq_ca_9, fq_ca_10, fq_ca_11, fq_ca_114, fq_ca_115, fq_ca_127, fq_ca_128, fq_ca_164, fq_ca_165, fq_ca_166, fq_ca_167, fq_ca_168, fq_ca_169, fq_ca_170, fq_cb_2, fq_cb_3, fq_cb_4, fq_cb_11, fq_cb_115, fq_cb_128, fq_cb_170, fq_cb_1020, fq_cm_2, fq_cm_3, fq_cm_11, fq_cm_170, fq_c4, Nat.zero_add, Int.zero_add]))
        | (refine And.intro (fun _ => ?_) (fun _ => ?_) <;> first | (exfalso; omega) | (rename_i hz_; exact absurd trivial hz_) | ((conv => whnf); (try simp only [Int.reduceToNat, Int.toNat_natCast, fp_up_c, fp_up_s, fp_up_i, fp_cp_c, fp_g_s, Nat.reduceBEq, Int.reduceAdd, Int.reduceSub, Int.reduceNeg, Int.reduceMul, fp_gu_c, fp_gu_s, fq_s_8, fq_s_c, fq_s_n, fq_s_s, fq_s_u, fq_su_s, fq_su_i, fq_ca_1, fq_ca_2, fq_ca_3, fq_ca_4, fq_ca_5, fq_ca_6, fq_ca_7, fq_ca_8, fq_ca_9, fq_ca_10, fq_ca_11, fq_ca_114, fq_ca_115, fq_ca_127, fq_ca_128, fq_ca_164, fq_ca_165, fq_ca_166, fq_ca_167, fq_ca_168, fq_ca_169, fq_ca_170, fq_cb_2, fq_cb_3, fq_cb_4, fq_cb_11, fq_cb_115, fq_cb_128, fq_cb_170, fq_cb_1020, fq_cm_2, fq_cm_3, fq_cm_11, fq_cm_170, fq_c4, Nat.zero_add, Int.zero_add])))
        | (refine And.intro (fun _ => ?_) ?_ <;> first | (exfalso; omega) | trivial | ((conv => whnf); (try simp only [Int.reduceToNat, Int.toNat_natCast, fp_up_c, fp_up_s, fp_up_i, fp_cp_c, fp_g_s, Nat.reduceBEq, Int.reduceAdd, Int.reduceSub, Int.reduceNeg, Int.reduceMul, fp_gu_c, fp_gu_s, fq_s_8, fq_s_c, fq_s_n, fq_s_s, fq_s_u, fq_su_s, fq_su_i, fq_ca_1, fq_ca_2, fq_ca_3, fq_ca_4, fq_ca_5, fq_ca_6, fq_ca_7, fq_ca_8, fq_ca_9, fq_ca_10, fq_ca_11, fq_ca_114, fq_ca_115, fq_ca_127, fq_ca_128, fq_ca_164, fq_ca_165, fq_ca_166, fq_ca_167, fq_ca_168, fq_ca_169, fq_ca_170, fq_cb_2, fq_cb_3, fq_cb_4, fq_cb_11, fq_cb_115, fq_cb_128, fq_cb_170, fq_cb_1020, fq_cm_2, fq_cm_3, fq_cm_11, fq_cm_170, fq_c4, Nat.zero_add, Int.zero_add])))
        | (refine And.intro (by simp [fp_rg, fp_up, fp_cp] <;> omega) ?_; (conv => whnf); (try simp only [Int.reduceToNat, Int.toNat_natCast, fp_up_c, fp_up_s, fp_up_i, fp_cp_c, fp_g_s, Nat.reduceBEq, Int.reduceAdd, Int.reduceSub, Int.reduceNeg, Int.reduceMul, fp_gu_c, fp_gu_s, fq_s_8, fq_s_c, fq_s_n, fq_s_s, fq_s_u, fq_su_s, fq_su_i, fq_ca_1, fq_ca_2, fq_ca_3, fq_ca_4, fq_ca_5, fq_ca_6, fq_ca_7, fq_ca_8, fq_ca_9, fq_ca_10, fq_ca_11, fq_ca_114, fq_ca_115, fq_ca_127, fq_ca_128, fq_ca_164, fq_ca_165, fq_ca_166, fq_ca_167, fq_ca_168, fq_ca_169, fq_ca_170, fq_cb_2, fq_cb_3, fq_cb_4, fq_cb_11, fq_cb_115, fq_cb_128, fq_cb_170, fq_cb_1020, fq_cm_2, fq_cm_3, fq_cm_11, fq_cm_170, fq_c4, Nat.zero_add, Int.zero_add]))
        | fail)
    exact hq
  | succ m ih =>
    intro k H hk hq
    refine fp_go 1000 [2] (fun KN KC hN hC => ?_)
    conv => whnf
    (try simp only [Int.reduceToNat, Int.toNat_natCast, fp_up_c, fp_up_s, fp_up_i, fp_cp_c, fp_g_s, Nat.reduceBEq, Int.reduceAdd, Int.reduceSub, Int.reduceNeg, Int.reduceMul, fp_gu_c, fp_gu_s, fq_s_8, fq_s_c, fq_s_n, fq_s_s, fq_s_u, fq_su_s, fq_su_i, fq_ca_1, fq_ca_2, fq_ca_3, fq_ca_4, fq_ca_5, fq_ca_6, fq_ca_7, fq_ca_8, fq_ca_9, fq_ca_10, fq_ca_11, fq_ca_114, fq_ca_115, fq_ca_127, fq_ca_128, fq_ca_164, fq_ca_165, fq_ca_166, fq_ca_167, fq_ca_168, fq_ca_169, fq_ca_170, fq_cb_2, fq_cb_3, fq_cb_4, fq_cb_11, fq_cb_115, fq_cb_128, fq_cb_170, fq_cb_1020, fq_cm_2, fq_cm_3, fq_cm_11, fq_cm_170, fq_c4, Nat.zero_add, Int.zero_add])
    (repeat' first
        | (refine And.intro (by first | omega | (unfold fp_rg; omega)) ?_; (try intro _); (conv => whnf); (try simp only [Int.reduceToNat, Int.toNat_natCast, fp_up_c, fp_up_s, fp_up_i, fp_cp_c, fp_g_s, Nat.reduceBEq, Int.reduceAdd, Int.reduceSub, Int.reduceNeg, Int.reduceMul, fp_gu_c, fp_gu_s, fq_s_8, fq_s_c, fq_s_n, fq_s_s, fq_s_u, fq_su_s, fq_su_i, fq_ca_1, fq_ca_2, fq_ca_3, fq_ca_4, fq_ca_5, fq_ca_6, fq_ca_7, fq_ca_8, fq_ca_9, fq_ca_10, fq_ca_11, fq_ca_114, fq_ca_115, fq_ca_127, fq_ca_128, fq_ca_164, fq_ca_165, fq_ca_166, fq_ca_167, fq_ca_168, fq_ca_169, fq_ca_170, fq_cb_2, fq_cb_3, fq_cb_4, fq_cb_11, fq_cb_115, fq_cb_128, fq_cb_170, fq_cb_1020, fq_cm_2, fq_cm_3, fq_cm_11, fq_cm_170, fq_c4, Nat.zero_add, Int.zero_add]))
        | (refine And.intro (fun _ => ?_) (fun _ => ?_) <;> first | (exfalso; omega) | (rename_i hz_; exact absurd trivial hz_) | ((conv => whnf); (try simp only [Int.reduceToNat, Int.toNat_natCast, fp_up_c, fp_up_s, fp_up_i, fp_cp_c, fp_g_s, Nat.reduceBEq, Int.reduceAdd, Int.reduceSub, Int.reduceNeg, Int.reduceMul, fp_gu_c, fp_gu_s, fq_s_8, fq_s_c, fq_s_n, fq_s_s, fq_s_u, fq_su_s, fq_su_i, fq_ca_1, fq_ca_2, fq_ca_3, fq_ca_4, fq_ca_5, fq_ca_6, fq_ca_7, fq_ca_8, fq_ca_9, fq_ca_10, fq_ca_11, fq_ca_114, fq_ca_115, fq_ca_127, fq_ca_128, fq_ca_164, fq_ca_165, fq_ca_166, fq_ca_167, fq_ca_168, fq_ca_169, fq_ca_170, fq_cb_2, fq_cb_3, fq_cb_4, fq_cb_11, fq_cb_115, fq_cb_128, fq_cb_170, fq_cb_1020, fq_cm_2, fq_cm_3, fq_cm_11, fq_cm_170, fq_c4, Nat.zero_add, Int.zero_add])))
        | (refine And.intro (fun _ => ?_) ?_ <;> first | (exfalso; omega) | trivial | ((conv => whnf); (try simp only [Int.reduceToNat, Int.toNat_natCast, fp_up_c, fp_up_s, fp_up_i, fp_cp_c, fp_g_s, Nat.reduceBEq, Int.reduceAdd, Int.reduceSub, Int.reduceNeg, Int.reduceMul, fp_gu_c, fp_gu_s, fq_s_8, fq_s_c, fq_s_n, fq_s_s, fq_s_u, fq_su_s, fq_su_i, fq_ca_1, fq_ca_2, fq_ca_3, fq_ca_4, fq_ca_5, fq_ca_6, fq_ca_7, fq_ca_8, fq_ca_9, fq_ca_10, fq_ca_11, fq_ca_114, fq_ca_115, fq_ca_127, fq_ca_128, fq_ca_164, fq_ca_165, fq_ca_166, fq_ca_167, fq_ca_168, fq_ca_169, fq_ca_170, fq_cb_2, fq_cb_3, fq_cb_4, fq_cb_11, fq_cb_115, fq_cb_128, fq_cb_170, fq_cb_1020, fq_cm_2, fq_cm_3, fq_cm_11, fq_cm_170, fq_c4, Nat.zero_add, Int.zero_add])))
        | (refine And.intro (by simp [fp_rg, fp_up, fp_cp] <;> omega) ?_; (conv => whnf); (try simp only [Int.reduceToNat, Int.toNat_natCast, fp_up_c, fp_up_s, fp_up_i, fp_cp_c, fp_g_s, Nat.reduceBEq, Int.reduceAdd, Int.reduceSub, Int.reduceNeg, Int.reduceMul, fp_gu_c, fp_gu_s, fq_s_8, fq_s_c, fq_s_n, fq_s_s, fq_s_u, fq_su_s, fq_su_i, fq_ca_1, fq_ca_2, fq_ca_3, fq_ca_4, fq_ca_5, fq_ca_6, fq_ca_7, fq_ca_8, fq_ca_9, fq_ca_10, fq_ca_11, fq_ca_114, fq_ca_115, fq_ca_127, fq_ca_128, fq_ca_164, fq_ca_165, fq_ca_166, fq_ca_167, fq_ca_168, fq_ca_169, fq_ca_170, fq_cb_2, fq_cb_3, fq_cb_4, fq_cb_11, fq_cb_115, fq_cb_128, fq_cb_170, fq_cb_1020, fq_cm_2, fq_cm_3, fq_cm_11, fq_cm_170, fq_c4, Nat.zero_add, Int.zero_add]))
        | fail)
    refine hN _ _ _ _ (ih (k + 1) _ (by omega) ?_)
    rw [fq_s_8, fq_s_s, fq_cpk_s (by omega) h.2.2]
    exact hq
set_option maxHeartbeats 600000 in
set_option maxRecDepth 100000 in
theorem sp_copies {L d f t : Nat} {H : FpH} {Q : FpQ} (h : f < 7 ∧ t < 7 ∧ f ≠ t) (hq : Q none (fq_s H (fq_cpy f t (H 8 23)))) : fp_Wp L d 87 0 (fp_en 87 [.inr (8, 22), .inl (f : Int), .inl (t : Int)]) [] H Q := by
  refine fp_go 1000 [2] (fun KN KC hN hC => ?_)
  conv => whnf
  (try simp only [Int.reduceToNat, Int.toNat_natCast, fp_up_c, fp_up_s, fp_up_i, fp_cp_c, fp_g_s, Nat.reduceBEq, Int.reduceAdd, Int.reduceSub, Int.reduceNeg, Int.reduceMul, fp_gu_c, fp_gu_s, fq_s_8, fq_s_c, fq_s_n, fq_s_s, fq_s_u, fq_su_s, fq_su_i, fq_ca_1, fq_ca_2, fq_ca_3, fq_ca_4, fq_ca_5, fq_ca_6, fq_ca_7, fq_ca_8, fq_ca_9, fq_ca_10, fq_ca_11, fq_ca_114, fq_ca_115, fq_ca_127, fq_ca_128, fq_ca_164, fq_ca_165, fq_ca_166, fq_ca_167, fq_ca_168, fq_ca_169, fq_ca_170, fq_cb_2, fq_cb_3, fq_cb_4, fq_cb_11, fq_cb_115, fq_cb_128, fq_cb_170, fq_cb_1020, fq_cm_2, fq_cm_3, fq_cm_11, fq_cm_170, fq_c4, Nat.zero_add, Int.zero_add])
  (repeat' first
      | (refine And.intro (by first | omega | (unfold fp_rg; omega)) ?_; (try intro _); (conv => whnf); (try simp only [Int.reduceToNat, Int.toNat_natCast, fp_up_c, fp_up_s, fp_up_i, fp_cp_c, fp_g_s, Nat.reduceBEq, Int.reduceAdd, Int.reduceSub, Int.reduceNeg, Int.reduceMul, fp_gu_c, fp_gu_s, fq_s_8, fq_s_c, fq_s_n, fq_s_s, fq_s_u, fq_su_s, fq_su_i, fq_ca_1, fq_ca_2, fq_ca_3, fq_ca_4, fq_ca_5, fq_ca_6, fq_ca_7, fq_ca_8, fq_ca_9, fq_ca_10, fq_ca_11, fq_ca_114, fq_ca_115, fq_ca_127, fq_ca_128, fq_ca_164, fq_ca_165, fq_ca_166, fq_ca_167, fq_ca_168, fq_ca_169, fq_ca_170, fq_cb_2, fq_cb_3, fq_cb_4, fq_cb_11, fq_cb_115, fq_cb_128, fq_cb_170, fq_cb_1020, fq_cm_2, fq_cm_3, fq_cm_11, fq_cm_170, fq_c4, Nat.zero_add, Int.zero_add]))
      | (refine And.intro (fun _ => ?_) (fun _ => ?_) <;> first | (exfalso; omega) | (rename_i hz_; exact absurd trivial hz_) | ((conv => whnf); (try simp only [Int.reduceToNat, Int.toNat_natCast, fp_up_c, fp_up_s, fp_up_i, fp_cp_c, fp_g_s, Nat.reduceBEq, Int.reduceAdd, Int.reduceSub, Int.reduceNeg, Int.reduceMul, fp_gu_c, fp_gu_s, fq_s_8, fq_s_c, fq_s_n, fq_s_s, fq_s_u, fq_su_s, fq_su_i, fq_ca_1, fq_ca_2, fq_ca_3, fq_ca_4, fq_ca_5, fq_ca_6, fq_ca_7, fq_ca_8, fq_ca_9, fq_ca_10, fq_ca_11, fq_ca_114, fq_ca_115, fq_ca_127, fq_ca_128, fq_ca_164, fq_ca_165, fq_ca_166, fq_ca_167, fq_ca_168, fq_ca_169, fq_ca_170, fq_cb_2, fq_cb_3, fq_cb_4, fq_cb_11, fq_cb_115, fq_cb_128, fq_cb_170, fq_cb_1020, fq_cm_2, fq_cm_3, fq_cm_11, fq_cm_170, fq_c4, Nat.zero_add, Int.zero_add])))
      | (refine And.intro (fun _ => ?_) ?_ <;> first | (exfalso; omega) | trivial | ((conv => whnf); (try simp only [Int.reduceToNat, Int.toNat_natCast, fp_up_c, fp_up_s, fp_up_i, fp_cp_c, fp_g_s, Nat.reduceBEq, Int.reduceAdd, Int.reduceSub, Int.reduceNeg, Int.reduceMul, fp_gu_c, fp_gu_s, fq_s_8, fq_s_c, fq_s_n, fq_s_s, fq_s_u, fq_su_s, fq_su_i, fq_ca_1, fq_ca_2, fq_ca_3, fq_ca_4, fq_ca_5, fq_ca_6, fq_ca_7, fq_ca_8, fq_ca_9, fq_ca_10, fq_ca_11, fq_ca_114, fq_ca_115, fq_ca_127, fq_ca_128, fq_ca_164, fq_ca_165, fq_ca_166, fq_ca_167, fq_ca_168, fq_ca_169, fq_ca_170, fq_cb_2, fq_cb_3, fq_cb_4, fq_cb_11, fq_cb_115, fq_cb_128, fq_cb_170, fq_cb_1020, fq_cm_2, fq_cm_3, fq_cm_11, fq_cm_170, fq_c4, Nat.zero_add, Int.zero_add])))
      | (refine And.intro (by simp [fp_rg, fp_up, fp_cp] <;> omega) ?_; (conv => whnf); (try simp only [Int.reduceToNat, Int.toNat_natCast, fp_up_c, fp_up_s, fp_up_i, fp_cp_c, fp_g_s, Nat.reduceBEq, Int.reduceAdd, Int.reduceSub, Int.reduceNeg, Int.reduceMul, fp_gu_c, fp_gu_s, fq_s_8, fq_s_c, fq_s_n, fq_s_s, fq_s_u, fq_su_s, fq_su_i, fq_ca_1, fq_ca_2, fq_ca_3, fq_ca_4, fq_ca_5, fq_ca_6, fq_ca_7, fq_ca_8, fq_ca_9, fq_ca_10, fq_ca_11, fq_ca_114, fq_ca_115, fq_ca_127, fq_ca_128, fq_ca_164, fq_ca_165, fq_ca_166, fq_ca_167, fq_ca_168, fq_ca_169, fq_ca_170, fq_cb_2, fq_cb_3, fq_cb_4, fq_cb_11, fq_cb_115, fq_cb_128, fq_cb_170, fq_cb_1020, fq_cm_2, fq_cm_3, fq_cm_11, fq_cm_170, fq_c4, Nat.zero_add, Int.zero_add]))
      | fail)
  exact hN _ _ _ _ (lp_copies h 170 0 H (by omega) hq)
