/-! the stall and the model side by side -/
theorem fq_R_cp {b : Nat} {G F : FpG} {s : Nat → Int} (hB : fq_B F) (hR : fq_R b F s) : fq_R b (fp_cpG G F) s := by
  obtain ⟨b1, b2, b3⟩ := hB
  obtain ⟨⟨a0, a1, a2, a3, a4, a5⟩, ⟨c4, c5, c6, c7, c8, c9⟩, h3, h4, h5⟩ := hR
  have e : ∀ c i, fp_rel c i → fp_cpG G F c i = F c i := fun c i hr => fp_cpG_e hr
  have e14 := e 1 4 (by unfold fp_rel; omega)
  have e62 := e 6 2 (by unfold fp_rel; omega)
  have e93 := e 9 3 (by unfold fp_rel; omega)
  refine ⟨⟨?_, ?_, ?_, ?_, ?_, ?_⟩, ⟨?_, ?_, ?_, ?_, ?_, ?_⟩, fun p hp => ?_, fun q hq => ?_, fun t ht => ?_⟩
  case refine_8 =>
    rw [e14, c5]
    exact fp_sm_c _ (fun i hi => (e 5 i (by unfold fp_rel; omega)).symm)
  case refine_13 =>
    rw [e14] at hp
    obtain ⟨d1, d2, d3, d4⟩ := h3 p hp
    refine ⟨fun j hj => ?_, ?_, ?_, ?_⟩
    · rw [e 2 _ (by unfold fp_rel; omega)]; exact d1 j hj
    · rw [e 3 _ (by unfold fp_rel; omega)]; exact d2
    · rw [e 4 _ (by unfold fp_rel; omega)]; exact d3
    · rw [e 5 _ (by unfold fp_rel; omega)]; exact d4
  case refine_14 =>
    rw [e62] at hq
    rw [e 7 q (by unfold fp_rel; omega), e 8 q (by unfold fp_rel; omega)]
    exact h4 q hq
  case refine_15 =>
    rw [e93] at ht
    rw [e 10 t (by unfold fp_rel; omega), e 11 t (by unfold fp_rel; omega), e 12 t (by unfold fp_rel; omega)]
    exact h5 t ht
  all_goals
    rw [e _ _ (by unfold fp_rel; omega)]
    assumption
def fq_g (H : FpH) (k : Nat) : Nat := 3 + ((H 7 15 1 + (k : Int)) % 4).toNat
def fq_T (H : FpH) : Prop := (0 ≤ H 7 17 1 ∧ H 7 17 1 ≤ 80) ∧ H 8 22 4 = H 7 17 1 ∧ H 8 24 = H 7 18 ∧ (∀ i, 0 ≤ H 8 24 i ∧ H 8 24 i < 65536)
def fq_Z (H : FpH) : Prop := H 9 27 0 = 0 ∧ H 9 27 1 = 0 ∧ H 9 27 2 = 1 ∧ H 9 28 0 = 9 ∧ H 9 28 1 = 3 ∧ H 9 28 2 = 24
def fq_REL (n : Int) (H : FpH) : Prop := fq_I n (H 0) ∧ fq_Y H ∧ fq_R 0 (H 0) (H 8 23) ∧ H 8 22 1 = H 7 15 2 ∧
  (∀ k : Nat, k < 4 → (k : Int) < H 7 15 2 → fq_I n (H (fq_g H k)) ∧ fq_R (170 * (k + 1)) (H (fq_g H k)) (H 8 23)) ∧
  H 8 22 2 = H 7 14 3 ∧ (¬ H 7 14 3 = 0 → fq_I n (H 2) ∧ fq_R 850 (H 2) (H 8 23)) ∧ fq_T H ∧ fq_Z H
theorem fq_I_mv {n : Int} {G : FpG} (h : fq_I n G) {b b' : Nat} {s s' : Nat → Int} (hs : ∀ i, i < 170 → s' (b' + i) = s (b + i)) (hR : fq_R b G s) : fq_R b' G s' := fq_R_mv ⟨h.1.1.2, h.1.2.1.2, h.1.2.2.1.2⟩ hs hR
/-- the class's side of a call that is no act -/
def fq_cl (H K : FpH) : Prop := (∀ g, g ≠ 1 → g ≠ 7 → K g = H g) ∧ K 7 14 = H 7 14 ∧ K 7 15 = H 7 15 ∧ K 7 17 1 = H 7 17 1 ∧ K 7 18 = H 7 18
theorem fq_cl_r {H : FpH} : fq_cl H H := ⟨fun _ _ _ => rfl, rfl, rfl, rfl, rfl⟩
theorem fq_REL_0 {n : Int} {H K : FpH} {M' : FpG} (h : fq_REL n H) (hK : fq_cl H K) (hM : fq_ac (H 8) M' none) : fq_REL n (fp_g K 8 M') := by
  obtain ⟨h1, h2, h3, h4, h5, h6, h7, ⟨t1, t2, t3, t4⟩, hz⟩ := h
  obtain ⟨k1, k14, k15, k17, k18⟩ := hK
  obtain ⟨m1, m2, m3, m4, m5⟩ := hM
  have e : ∀ g, g ≠ 8 → fp_g K 8 M' g = K g := fun g hg => fp_g_n hg
  have e8 : fp_g K 8 M' 8 = M' := fp_g_s
  have e7 := e 7 (by omega)
  have eg : ∀ k, fq_g (fp_g K 8 M') k = fq_g H k := fun k => by unfold fq_g; rw [e7, k15]
  have egr : ∀ k : Nat, fp_g K 8 M' (fq_g H k) = H (fq_g H k) := fun k => by
    have : fq_g H k < 7 ∧ 3 ≤ fq_g H k := by unfold fq_g; omega
    rw [e _ (by omega), k1 _ (by omega) (by omega)]
  have e0 : fp_g K 8 M' 0 = H 0 := by rw [e 0 (by omega), k1 0 (by omega) (by omega)]
  have e2 : fp_g K 8 M' 2 = H 2 := by rw [e 2 (by omega), k1 2 (by omega) (by omega)]
  have e9 : fp_g K 8 M' 9 = H 9 := by rw [e 9 (by omega), k1 9 (by omega) (by omega)]
  refine ⟨?_, ?_, ?_, ?_, fun k hk hk2 => ?_, ?_, fun hk => ?_, ⟨?_, ?_, ?_, ?_⟩, ?_⟩
  · rw [e0]; exact h1
  · unfold fq_Y at h2 ⊢; rw [e7, k15]; exact h2
  · rw [e0, e8]; exact fq_I_mv h1 (fun i hi => m1 _ (by omega)) h3
  · rw [e8, e7, m2, k15]; exact h4
  · rw [e7, k15] at hk2
    rw [eg, egr, e8]
    obtain ⟨q1, q2⟩ := h5 k hk hk2
    exact ⟨q1, fq_I_mv q1 (fun i hi => m1 _ (by omega)) q2⟩
  · rw [e8, e7, m3, k14]; exact h6
  · rw [e7, k14] at hk
    rw [e2, e8]
    obtain ⟨q1, q2⟩ := h7 hk
    exact ⟨q1, fq_I_mv q1 (fun i hi => m1 _ (by omega)) q2⟩
  · rw [e7, k17]; exact t1
  · rw [e8, e7, m4, k17]; exact t2
  · rw [e8, e7, m5, k18]; exact t3
  · rw [e8, m5]; exact t4
  · unfold fq_Z at hz ⊢; rw [e9]; exact hz
theorem fq_REL_1 {n : Int} {H : FpH} {M' G' G1 : FpG} (h : fq_REL n H) (hI : fq_I (n + 1) G1) (hM : fq_ac (H 8) M' (some G')) (hG : fq_R 0 G' (M' 23) → fq_R 0 G1 (M' 23)) : fq_REL (n + 1) (fp_g (fp_g (fp_push H) 0 G1) 8 M') := by
  obtain ⟨h1, h2, h3, h4, h5, h6, h7, ⟨t1, t2, t3, t4⟩, hz⟩ := h
  obtain ⟨m1, m2, m3, m4, m5, m6, m7⟩ := hM
  have hY := h2
  obtain ⟨y1, y2⟩ := h2
  have e : ∀ g, g ≠ 8 → g ≠ 0 → fp_g (fp_g (fp_push H) 0 G1) 8 M' g = fp_push H g := fun g hg h0 => by rw [fp_g_n hg, fp_g_n h0]
  have e8 : fp_g (fp_g (fp_push H) 0 G1) 8 M' 8 = M' := fp_g_s
  have e0 : fp_g (fp_g (fp_push H) 0 G1) 8 M' 0 = G1 := by rw [fp_g_n (by omega), fp_g_s]
  have hpk : fp_pk H < 7 ∧ 3 ≤ fp_pk H := by unfold fp_pk; omega
  have ep : ∀ g, g ≠ 7 → g ≠ fp_pk H → fp_push H g = H g := fun g h7 hk => by unfold fp_push; rw [if_neg hk, if_neg h7]
  have ek : fp_push H (fp_pk H) = fp_cpG (H (fp_pk H)) (H 0) := by unfold fp_push; rw [if_pos rfl]
  have e7 : fp_push H 7 = fp_gu (fp_gu (H 7) 15 1 (fp_po H)) 15 2 (fp_pn H + 1) := by unfold fp_push; rw [if_neg (by omega), if_pos rfl]
  have e7' : fp_g (fp_g (fp_push H) 0 G1) 8 M' 7 = fp_gu (fp_gu (H 7) 15 1 (fp_po H)) 15 2 (fp_pn H + 1) := (e 7 (by omega) (by omega)).trans e7
  have eo : fp_g (fp_g (fp_push H) 0 G1) 8 M' 7 15 1 = fp_po H := by rw [e7']; simp [fp_gu]
  have es : fp_g (fp_g (fp_push H) 0 G1) 8 M' 7 15 2 = fp_pn H + 1 := by rw [e7']; simp [fp_gu]
  have e2 : fp_g (fp_g (fp_push H) 0 G1) 8 M' 2 = H 2 := by rw [e 2 (by omega) (by omega), ep 2 (by omega) (by omega)]
  have e9 : fp_g (fp_g (fp_push H) 0 G1) 8 M' 9 = H 9 := by rw [e 9 (by omega) (by omega), ep 9 (by omega) (by omega)]
  have e714 : fp_g (fp_g (fp_push H) 0 G1) 8 M' 7 14 3 = H 7 14 3 := by rw [e7']; simp [fp_gu]
  have e717 : fp_g (fp_g (fp_push H) 0 G1) 8 M' 7 17 1 = H 7 17 1 := by rw [e7']; simp [fp_gu]
  have e718 : fp_g (fp_g (fp_push H) 0 G1) 8 M' 7 18 = H 7 18 := by rw [e7']; funext i; simp [fp_gu]
  have hB := fq_I_B h1
  have hpo : fp_po H = if H 7 15 2 = 4 then (H 7 15 1 + 1) % 4 else H 7 15 1 := rfl
  have hpn : fp_pn H = if H 7 15 2 = 4 then 3 else H 7 15 2 := rfl
  have hpkd : fp_pk H = 3 + ((fp_po H + fp_pn H) % 4).toNat := rfl
  have m1' : M' 22 1 = fp_pn H + 1 := by rw [m1, h4, hpn]; split <;> rfl
  refine ⟨?_, ?_, ?_, ?_, fun k hk hk2 => ?_, ?_, fun hk => ?_, ⟨?_, ?_, ?_, ?_⟩, ?_⟩
  · rw [e0]; exact hI
  · unfold fq_Y; rw [eo, es, hpo, hpn]; split <;> omega
  · rw [e0, e8]; exact hG m2
  · rw [e8, es]; exact m1'
  · rw [es] at hk2
    have hm3 := m3 k
    rw [e8]
    unfold fq_g
    rw [eo]
    by_cases hl : (k : Int) = fp_pn H
    · have eg : 3 + ((fp_po H + (k : Int)) % 4).toNat = fp_pk H := by rw [hpkd, hl]
      rw [eg, e _ (by omega) (by omega), ek]
      refine ⟨fq_I_cp (fq_I_m h1 (by omega)), fq_R_cp hB (fq_I_mv (b := 0) (s := H 8 23) h1 (fun i hi => ?_) h3)⟩
      rw [hm3 i hk (by rw [m1']; omega) hi, Nat.zero_add]
      rw [h4]
      by_cases h44 : H 7 15 2 = 4
      · rw [if_pos h44]
        rw [if_pos h44] at hpn
        rw [if_neg (by omega)]
      · rw [if_neg h44]
        rw [if_neg h44] at hpn
        rw [if_pos (by omega)]
    · have eg : 3 + ((fp_po H + (k : Int)) % 4).toNat ≠ fp_pk H := by
        rw [hpkd]
        by_cases h44 : H 7 15 2 = 4
        · rw [if_pos h44] at hpo hpn; omega
        · rw [if_neg h44] at hpo hpn; omega
      rw [e _ (by omega) (by omega), ep _ (by omega) eg]
      by_cases h44 : H 7 15 2 = 4
      · rw [if_pos h44] at hpo hpn
        obtain ⟨q1, q2⟩ := h5 (k + 1) (by omega) (by omega)
        have e5 : fq_g H (k + 1) = 3 + ((fp_po H + (k : Int)) % 4).toNat := by unfold fq_g; rw [hpo]; omega
        rw [e5] at q1 q2
        refine ⟨fq_I_m q1 (by omega), fq_I_mv q1 (fun i hi => ?_) q2⟩
        rw [hm3 i hk (by rw [m1']; omega) hi, h4, if_pos h44, if_pos (by omega)]
      · rw [if_neg h44] at hpo hpn
        obtain ⟨q1, q2⟩ := h5 k hk (by omega)
        have e5 : fq_g H k = 3 + ((fp_po H + (k : Int)) % 4).toNat := by unfold fq_g; rw [hpo]
        rw [e5] at q1 q2
        refine ⟨fq_I_m q1 (by omega), fq_I_mv q1 (fun i hi => ?_) q2⟩
        rw [hm3 i hk (by rw [m1']; omega) hi, h4, if_neg h44, if_neg (by omega)]
  · rw [e8, e714, m5]; exact h6
  · rw [e714] at hk
    rw [e2, e8]
    obtain ⟨q1, q2⟩ := h7 hk
    exact ⟨fq_I_m q1 (by omega), fq_I_mv q1 (fun i hi => m4 _ (by omega) (by omega)) q2⟩
  · rw [e717]; exact t1
  · rw [e8, e717, m6]; exact t2
  · rw [e8, e718, m7]; exact t3
  · rw [e8, m7]; exact t4
  · unfold fq_Z at hz ⊢; rw [e9]; exact hz
