/-! cuts, serving: what a state keeps to stays -/
theorem fp_srem_z {G : FpG} {k : Nat} : fp_srem G k 6 2 = G 6 2 - 1 := by simp [fp_srem]
theorem fq_K5_scut {s : Nat} {v : Int} {G : FpG} (h : fq_K5 G) (hs : (s : Int) < G 6 2 ∧ G 6 2 ≤ 6) (hv : 0 ≤ v ∧ v ≤ G 7 s) : fq_K5 (fp_scut G s v) ∧ 0 ≤ fp_scut G s v 6 2 ∧ fp_scut G s v 6 2 ≤ 6 := by
  have hs' := h s hs.1
  unfold fp_scut
  split
  · refine ⟨fun t ht => ?_, ?_, ?_⟩
    · have ha := h t
      have hb := h (t + 1)
      simp [fp_srem, fp_gu] at ht ⊢
      split
      · rw [if_neg (by omega)]; exact hb (by omega)
      · rw [if_neg (by omega)]; exact ha (by omega)
    · simp [fp_srem, fp_gu]; omega
    · simp [fp_srem, fp_gu]; omega
  · refine ⟨fun t ht => ?_, ?_, ?_⟩
    · have ha := h t
      simp [fp_gu] at ht ⊢
      have := ha ht
      split
      · omega
      · exact this
    · simp [fp_gu]; omega
    · simp [fp_gu]; omega
theorem fq_I_mk {n f : Int} {p s : Nat} {G : FpG} (hn : 1 ≤ n) (h : fq_I n G) (hp : (p : Int) < G 1 4) (hs : (s : Int) < G 6 2) (hf : 0 ≤ f ∧ f < 4) (hw : fp_tkn G p f ≤ G 7 s) : fq_I (n + 1) (fp_mk G p s f) := by
  have hk := fp_tkn_le (fq_okc h hp) hf
  have hpw := fp_pw hf
  obtain ⟨h1, h2, h3, h4, h5, h6, h7⟩ := h
  have hsc := fq_K5_scut h5 ⟨hs, h1.2.1.2⟩ ⟨hk.1, hw⟩
  have hp10 : p < 10 := by have := h1.1; omega
  have h3p := h3 p hp10
  have h75 := h7 5 (by omega) (by omega)
  have h77 := h7 7 (by omega) (by omega)
  have h78 := h7 8 (by omega) (by omega)
  unfold fp_mk
  refine fq_I_tp hn ⟨?_, ?_, fun q hq => ?_, fun q hq hq2 => ?_, ?_, ?_, fun k a b => ?_⟩ ?_ ?_ (by omega)
  · simp only [fp_gu_c, Nat.reduceBEq]
    refine ⟨?_, hsc.2, ?_⟩
    · rw [fp_scut_o (by rfl) (by rfl) (by rfl)]; exact h1.1
    · simp only [fp_scut_o, Nat.reduceBEq]; exact h1.2.2
  · simp only [fp_gu_c, fp_scut_o, Nat.reduceBEq]; exact h2
  · have := h3 q hq
    simp only [fp_gu_c, fp_scut_o, Nat.reduceBEq]
    by_cases e : q = p
    · subst e; simp [fp_gu]; omega
    · have eb : (q == p) = false := by simpa using e
      simp only [fp_gu_i eb, fp_scut_o, fp_gu_c, Nat.reduceBEq]; omega
  · have e14 : fp_gu (fp_gu (fp_gu (fp_gu (fp_scut G s (fp_tkn G p f)) 0 8 (G 0 8 + fp_tkn G p f)) 3 p (G 3 p + (fp_ly f + 1) / 2)) 4 p (G 4 p + fp_ly f / 2)) 5 p (G 5 p + fp_ly f) 1 4 = G 1 4 := by
      simp only [fp_gu_c, fp_scut_o, Nat.reduceBEq]
    rw [e14] at hq
    have := h4 q hq hq2
    have e : (q == p) = false := by
      have : q ≠ p := by omega
      simpa using this
    simp only [fp_gu_i e, fp_gu_c, fp_scut_o, Nat.reduceBEq]; exact this
  · unfold fq_K5 at hsc
    simp only [fp_gu_c, Nat.reduceBEq]; exact hsc.1
  · simp only [fp_gu_c, fp_scut_o, Nat.reduceBEq]; exact h6
  · have := h7 k a b
    simp only [fp_gu_c, Nat.reduceBEq]
    by_cases e : k = 8
    · subst e; rw [fp_gu_s]; omega
    · rw [fp_gu_i (by simpa using e), fp_scut_o (by rfl) (by rfl) (by rfl)]; omega
  · simp only [fp_gu_c, Nat.reduceBEq]; rw [fp_gu_i (by rfl), fp_scut_o (by rfl) (by rfl) (by rfl)]; exact h75.2
  · simp only [fp_gu_c, Nat.reduceBEq]; rw [fp_gu_i (by rfl), fp_scut_o (by rfl) (by rfl) (by rfl)]; exact h77.2
theorem fq_I_trn {n r : Int} {p : Nat} {G : FpG} (hn : 1 ≤ n) (h : fq_I n G) (hp : (p : Int) < G 1 4) (ho : ¬ (if r = 0 then G 4 p else G 3 p) = 0) : fq_I (n + 1) (fq_trn G p r) := by
  obtain ⟨h1, h2, h3, h4, h5, h6, h7⟩ := h
  have hp10 : p < 10 := by have := h1.1; omega
  have h3p := h3 p hp10
  have h75 := h7 5 (by omega) (by omega)
  have h77 := h7 7 (by omega) (by omega)
  have key : ∀ u v : Int, 0 ≤ u ∧ u ≤ 1000 * n + 1 → 0 ≤ v ∧ v ≤ 1000 * n + 1 → fq_I (n + 1) (fp_tp (fp_gu (fp_gu G 3 p u) 4 p v) 1) := fun u v hu hv => by
    refine fq_I_tp hn ⟨?_, ?_, fun q hq => ?_, fun q hq hq2 => ?_, ?_, ?_, fun k a b => ?_⟩ ?_ ?_ (by omega)
    · simp only [fp_gu_c, Nat.reduceBEq]; exact h1
    · simp only [fp_gu_c, Nat.reduceBEq]; exact h2
    · have := h3 q hq
      simp only [fp_gu_c, Nat.reduceBEq]
      by_cases e : q = p
      · subst e; simp [fp_gu]; omega
      · have eb : (q == p) = false := by simpa using e
        simp only [fp_gu_i eb, fp_gu_c, Nat.reduceBEq]; omega
    · simp only [fp_gu_c, Nat.reduceBEq] at hq
      have := h4 q hq hq2
      have e : (q == p) = false := by
        have : q ≠ p := by omega
        simpa using this
      simp only [fp_gu_i e, fp_gu_c, Nat.reduceBEq]; exact this
    · simp only [fp_gu_c, Nat.reduceBEq]; exact h5
    · simp only [fp_gu_c, Nat.reduceBEq]; exact h6
    · simp only [fp_gu_c, Nat.reduceBEq]; have := h7 k a b; omega
    · simp only [fp_gu_c, Nat.reduceBEq]; exact h75.2
    · simp only [fp_gu_c, Nat.reduceBEq]; exact h77.2
  unfold fq_trn
  split
  · rename_i hr
    rw [if_pos hr] at ho
    exact key _ _ (by omega) (by omega)
  · rename_i hr
    rw [if_neg hr] at ho
    exact key _ _ (by omega) (by omega)
theorem fq_I_set {n k v : Int} {G : FpG} (h : fq_I n G) (hk : 0 ≤ k ∧ k ≤ 2) (hv : fq_lo k ≤ v ∧ v ≤ fq_hi k) : fq_I n (fp_gu G 13 k.toNat v) := by
  obtain ⟨h1, h2, h3, h4, h5, h6, h7⟩ := h
  refine ⟨?_, ?_, ?_, ?_, ?_, ?_, ?_⟩
  · have hk3 : k = 0 ∨ k = 1 ∨ k = 2 := by omega
    rcases hk3 with rfl | rfl | rfl
    · simp [fq_lo, fq_hi] at hv; simp [fp_gu]; omega
    · simp [fq_lo, fq_hi] at hv; simp [fp_gu]; omega
    · simp [fq_lo, fq_hi] at hv; simp [fp_gu]; omega
  · simp only [fp_gu_c, Nat.reduceBEq]; exact h2
  · simp only [fp_gu_c, Nat.reduceBEq]; exact h3
  · simp only [fp_gu_c, Nat.reduceBEq]; exact h4
  · simp only [fp_gu_c, Nat.reduceBEq]; exact h5
  · simp only [fp_gu_c, Nat.reduceBEq]; exact h6
  · simp only [fp_gu_c, Nat.reduceBEq]; exact h7
/-- one serving: what grows, grows little -/
theorem fq_ho_all {B : Int} {t k : Nat} {G : FpG} (h : fq_K1 G ∧ fq_K2 G ∧ (∀ p, p < 10 → (0 ≤ G 3 p ∧ G 3 p ≤ B) ∧ (0 ≤ G 4 p ∧ G 4 p ≤ B) ∧ (0 ≤ G 5 p ∧ G 5 p ≤ B)) ∧ fq_K4 G ∧ fq_K5 G ∧ fq_K6 G) (ht : (t : Int) < G 9 3) (hk : (k : Int) < G 1 4) (hh : fp_has G k (G 11 t)) :
    fq_K1 (fp_ho G t k) ∧ fq_K2 (fp_ho G t k) ∧ (∀ p, p < 10 → (0 ≤ fp_ho G t k 3 p ∧ fp_ho G t k 3 p ≤ B) ∧ (0 ≤ fp_ho G t k 4 p ∧ fp_ho G t k 4 p ≤ B) ∧ (0 ≤ fp_ho G t k 5 p ∧ fp_ho G t k 5 p ≤ B)) ∧ fq_K4 (fp_ho G t k) ∧ fq_K5 (fp_ho G t k) ∧ fq_K6 (fp_ho G t k) := by
  obtain ⟨h1, h2, h3, h4, h5, h6⟩ := h
  have o : ∀ c i, (c == 0) = false → (c == 3) = false → (c == 4) = false → (c == 9) = false → (c == 10) = false → (c == 11) = false → (c == 12) = false → fp_ho G t k c i = G c i := fun c i a b d e f g i => fp_ho_o a b d e f g i
  refine ⟨?_, fun p j hp hj => ?_, fun p hp => ?_, fun p hp hp2 => ?_, fun s hs => ?_, fun t' ht' => ?_⟩
  · unfold fq_K1 at h1 ⊢
    rw [fp_ho_1, o 6 2 rfl rfl rfl rfl rfl rfl rfl, fp_ho_93, o 13 0 rfl rfl rfl rfl rfl rfl rfl, o 13 1 rfl rfl rfl rfl rfl rfl rfl, o 13 2 rfl rfl rfl rfl rfl rfl rfl]
    obtain ⟨a1, a2, a3, a4⟩ := h1
    exact ⟨a1, a2, by omega, a4⟩
  · rw [fp_ho_1] at hp
    rw [o 2 _ rfl rfl rfl rfl rfl rfl rfl]; exact h2 p j hp hj
  · have := h3 p hp
    unfold fp_has at hh
    rw [fp_ho_3, fp_ho_4, o 5 _ rfl rfl rfl rfl rfl rfl rfl]
    refine ⟨?_, ?_, this.2.2⟩
    · split
      · rename_i q; obtain ⟨rfl, q⟩ := q; omega
      · omega
    · split
      · rename_i q; obtain ⟨rfl, q⟩ := q; omega
      · omega
  · rw [fp_ho_1] at hp
    have := h4 p hp hp2
    rw [fp_ho_3, fp_ho_4, o 5 _ rfl rfl rfl rfl rfl rfl rfl, if_neg (by omega), if_neg (by omega)]
    exact this
  · rw [o 6 2 rfl rfl rfl rfl rfl rfl rfl] at hs
    rw [o 7 _ rfl rfl rfl rfl rfl rfl rfl, o 8 _ rfl rfl rfl rfl rfl rfl rfl]; exact h5 s hs
  · rw [fp_ho_93] at ht'
    rw [fp_ho_1, fp_ho_l (Or.inl rfl) (by omega), fp_ho_l (Or.inr (Or.inl rfl)) (by omega), fp_ho_l (Or.inr (Or.inr rfl)) (by omega)]
    split
    · exact h6 _ (by omega)
    · exact h6 _ (by omega)
theorem fq_I_ho {n : Int} {t k : Nat} {G : FpG} (hn : 1 ≤ n) (h : fq_I n G) (ht : (t : Int) < G 9 3) (hk : (k : Int) < G 1 4) (hh : fp_has G k (G 11 t)) : fq_I (n + 1) (fp_ho G t k) := by
  obtain ⟨h1, h2, h3, h4, h5, h6, h7⟩ := h
  obtain ⟨k1, k2, k3, k4, k5, k6⟩ := fq_ho_all (B := 1000 * n) ⟨h1, h2, h3, h4, h5, h6⟩ ht hk hh
  refine ⟨k1, k2, fun p hp => ?_, k4, k5, k6, fun i a b => ?_⟩
  · have := k3 p hp; omega
  · have h7i := h7 i a b
    have h74 := h7 4 (by omega) (by omega)
    have h76 := h7 6 (by omega) (by omega)
    rw [fp_ho_0]
    split
    · omega
    · split
      · split <;> omega
      · omega
theorem fq_hoa_all {B : Int} : ∀ (m t : Nat) (G : FpG), (t : Int) + m = G 9 3 → (fq_K1 G ∧ fq_K2 G ∧ (∀ p, p < 10 → (0 ≤ G 3 p ∧ G 3 p ≤ B) ∧ (0 ≤ G 4 p ∧ G 4 p ≤ B) ∧ (0 ≤ G 5 p ∧ G 5 p ≤ B)) ∧ fq_K4 G ∧ fq_K5 G ∧ fq_K6 G) →
    (fq_K1 (fp_hoa m t G) ∧ fq_K2 (fp_hoa m t G) ∧ (∀ p, p < 10 → (0 ≤ fp_hoa m t G 3 p ∧ fp_hoa m t G 3 p ≤ B) ∧ (0 ≤ fp_hoa m t G 4 p ∧ fp_hoa m t G 4 p ≤ B) ∧ (0 ≤ fp_hoa m t G 5 p ∧ fp_hoa m t G 5 p ≤ B)) ∧ fq_K4 (fp_hoa m t G) ∧ fq_K5 (fp_hoa m t G) ∧ fq_K6 (fp_hoa m t G)) ∧
    (∀ i, G 0 i ≤ fp_hoa m t G 0 i ∧ fp_hoa m t G 0 i ≤ G 0 i + 5 * m) ∧ fp_hoa m t G 9 3 ≤ G 9 3
  | 0, t, G, _, h => ⟨h, fun i => by simp [fp_hoa], by simp [fp_hoa]⟩
  | m + 1, t, G, ht, h => by
    have ht9 : (t : Int) < G 9 3 := by omega
    rcases fp_ff_out (f := fp_okB G t) (G 1 4).toNat with ⟨r, h1, h2, h3, h4⟩ | ⟨h1, h2⟩
    · have hok := fp_dc_i h3
      have hr : (r : Int) < G 1 4 := by have := h.1.1; omega
      have e : fp_hoa (m + 1) t G = fp_hoa m t (fp_ho G t r) := by simp only [fp_hoa, h1]
      have ha := fq_ho_all h ht9 hr hok.2
      obtain ⟨b1, b2, b3⟩ := fq_hoa_all (B := B) m t (fp_ho G t r) (by rw [fp_ho_93]; omega) ha
      rw [e]
      refine ⟨b1, fun i => ?_, by rw [fp_ho_93] at b3; omega⟩
      have := b2 i
      rw [fp_ho_0] at this
      split at this
      · rename_i q; subst q; omega
      · split at this
        · rename_i q; subst q; split at this <;> omega
        · omega
    · have e : fp_hoa (m + 1) t G = fp_hoa m (t + 1) G := by simp only [fp_hoa, h1]
      obtain ⟨b1, b2, b3⟩ := fq_hoa_all (B := B) m (t + 1) G (by omega) h
      rw [e]
      refine ⟨b1, fun i => ?_, b3⟩
      have := b2 i
      omega
theorem fq_I_sa {n : Int} {G : FpG} (hn : 1 ≤ n) (h : fq_I n G) : fq_I (n + 1) (fq_sa G) := by
  obtain ⟨h1, h2, h3, h4, h5, h6, h7⟩ := h
  have h9 := h1.2.2.1
  obtain ⟨⟨k1, k2, k3, k4, k5, k6⟩, k7, -⟩ := fq_hoa_all (B := 1000 * n) (G 9 3).toNat 0 G (by omega) ⟨h1, h2, h3, h4, h5, h6⟩
  refine ⟨k1, k2, fun p hp => ?_, k4, k5, k6, fun i a b => ?_⟩
  · have := k3 p hp; unfold fq_sa; omega
  · have h7i := h7 i a b
    have := k7 i
    unfold fq_sa
    omega
theorem fq_I_nb {n : Int} {f : Nat → Int} {G G1 : FpG} {r : Nat} (h : fq_I n G) (hf : ∀ j, j < 8 → 1 ≤ f j ∧ f j ≤ 9) (e : fq_nb G f = some (r, G1)) : fq_I n G1 ∧ (r : Int) < G1 1 4 ∧ G1 9 3 = G 9 3 := by
  unfold fq_nb at e
  rcases fp_ff_out (f := fun q => fp_dc (fq_mt G f q)) (G 1 4).toNat with ⟨q, h1, h2, h3, h4⟩ | ⟨h1, h2⟩
  · rw [h1] at e
    cases e
    exact ⟨h, by have := h.1.1; omega, rfl⟩
  · rw [h1] at e
    simp only at e
    split at e
    · cases e
    · cases e
      exact ⟨fq_I_padd h hf (by omega), by rw [fp_padd_z.1]; have := h.1.1; omega, fp_padd_z.2⟩
theorem fq_I_cm {nn : Int} {T : Nat → Int} {n : Nat} : ∀ (m a : Nat) (G X : FpG), a ≤ n → fq_I nn G → (fp_sq T n m a).1 = -1 → fq_cm T n (fp_sq T n m a).2 a G = some X → fq_I nn X
  | 0, a, G, X, _, _, hz, _ => by simp only [fp_sq] at hz; omega
  | m + 1, a, G, X, han, h, hz, e => by
    have hb := fp_pe_b (T := T) han
    rcases hpe : fp_pe T n a with ⟨ok, b, w, p⟩
    rw [hpe] at hb
    cases ok with
    | false => simp only [fp_sq, hpe] at hz; omega
    | true =>
      have hb2 := hb.2.2 rfl
      simp only at hb2
      have step : ∀ c, fq_cm T n (c + 1) a G = some X → ∃ G2, fq_I nn G2 ∧ fq_cm T n c (b + 1) G2 = some X := fun c hc => by
        simp only [fq_cm, hpe] at hc
        split at hc
        · cases hc
        · rename_i r G1 hnb
          split at hc
          · cases hc
          · obtain ⟨i1, i2, i3⟩ := fq_I_nb h (fun j hj => by have := hb2.2.1 j hj; omega) hnb
            exact ⟨_, fq_I_ladd i1 ⟨by omega, i2⟩ hb2.2.2.1 hb2.2.2.2 (by omega), hc⟩
      simp only [fp_sq, hpe] at hz e
      split at hz
      · rename_i hbn
        rw [if_pos hbn] at e
        obtain ⟨G2, i1, i2⟩ := step 0 e
        simp only [fq_cm] at i2
        cases i2
        exact i1
      · rename_i hbn
        rw [if_neg hbn] at e
        split at hz
        · rename_i h59
          rw [if_pos h59] at e
          obtain ⟨G2, i1, i2⟩ := step _ e
          exact fq_I_cm m (b + 1) G2 X (by have := hb.2.1; simp only at this; omega) i1 hz i2
        · simp only at hz; omega
