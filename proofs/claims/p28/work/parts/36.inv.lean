/-! what a state keeps to stays -/
theorem fp_sadd_o {G : FpG} {l t : Int} {c i : Nat} (h6 : (c == 6) = false) (h7 : (c == 7) = false) (h8 : (c == 8) = false) : fp_sadd G l t c i = G c i := by
  simp only [beq_eq_false_iff_ne] at h6 h7 h8
  simp [fp_sadd, h6, h7, h8]
theorem fp_padd_o {G : FpG} {f : Nat → Int} {c i : Nat} (h1 : (c == 1) = false) (h2 : (c == 2) = false) : fp_padd G f c i = G c i := by
  simp only [beq_eq_false_iff_ne] at h1 h2
  simp [fp_padd, h1, h2]
theorem fp_ladd_o {G : FpG} {p w t : Int} {c i : Nat} (h9 : (c == 9) = false) (h10 : (c == 10) = false) (h11 : (c == 11) = false) (h12 : (c == 12) = false) : fp_ladd G p w t c i = G c i := by
  simp only [beq_eq_false_iff_ne] at h9 h10 h11 h12
  simp [fp_ladd, h9, h10, h11, h12]
def fq_K1 (G : FpG) : Prop := (0 ≤ G 1 4 ∧ G 1 4 ≤ 10) ∧ (0 ≤ G 6 2 ∧ G 6 2 ≤ 6) ∧ (0 ≤ G 9 3 ∧ G 9 3 ≤ 12) ∧ (0 ≤ G 13 0 ∧ G 13 0 ≤ 9) ∧ (0 ≤ G 13 1 ∧ G 13 1 ≤ 3) ∧ (1 ≤ G 13 2 ∧ G 13 2 ≤ 24)
def fq_K2 (G : FpG) : Prop := ∀ p j : Nat, (p : Int) < G 1 4 → j < 8 → 1 ≤ G 2 (8 * p + j) ∧ G 2 (8 * p + j) ≤ 9
def fq_K3 (n : Int) (G : FpG) : Prop := ∀ p, p < 10 → (0 ≤ G 3 p ∧ G 3 p ≤ 1000 * n) ∧ (0 ≤ G 4 p ∧ G 4 p ≤ 1000 * n) ∧ (0 ≤ G 5 p ∧ G 5 p ≤ 1000 * n)
def fq_K4 (G : FpG) : Prop := ∀ p : Nat, G 1 4 ≤ (p : Int) → p < 10 → G 3 p = 0 ∧ G 4 p = 0 ∧ G 5 p = 0
def fq_K5 (G : FpG) : Prop := ∀ s : Nat, (s : Int) < G 6 2 → (1 ≤ G 7 s ∧ G 7 s ≤ 200) ∧ (1 ≤ G 8 s ∧ G 8 s ≤ 3)
def fq_K6 (G : FpG) : Prop := ∀ t : Nat, (t : Int) < G 9 3 → (0 ≤ G 10 t ∧ G 10 t < G 1 4) ∧ (0 ≤ G 11 t ∧ G 11 t ≤ 2) ∧ (1 ≤ G 12 t ∧ G 12 t ≤ 99)
def fq_K7 (n : Int) (G : FpG) : Prop := ∀ k, 4 ≤ k → k < 9 → 0 ≤ G 0 k ∧ G 0 k ≤ 1000 * n
theorem fq_I_k {n : Int} {G : FpG} : fq_I n G ↔ fq_K1 G ∧ fq_K2 G ∧ fq_K3 n G ∧ fq_K4 G ∧ fq_K5 G ∧ fq_K6 G ∧ fq_K7 n G := Iff.rfl
theorem fq_I_m {n m : Int} {G : FpG} (h : fq_I n G) (hm : n ≤ m) : fq_I m G := by
  obtain ⟨h1, h2, h3, h4, h5, h6, h7⟩ := h
  refine ⟨h1, h2, fun p hp => ?_, h4, h5, h6, fun k a b => ?_⟩
  · have := h3 p hp; omega
  · have := h7 k a b; omega
theorem fq_I_cp {n : Int} {G F : FpG} (h : fq_I n F) : fq_I n (fp_cpG G F) := by
  obtain ⟨h1, h2, h3, h4, h5, h6, h7⟩ := h
  have e : ∀ c i, fp_rel c i → fp_cpG G F c i = F c i := fun c i hr => by unfold fp_cpG; unfold fp_rel at hr; rw [if_pos hr]
  have e14 := e 1 4 (by unfold fp_rel; omega)
  have e62 := e 6 2 (by unfold fp_rel; omega)
  have e93 := e 9 3 (by unfold fp_rel; omega)
  refine ⟨?_, fun p j hp hj => ?_, fun p hp => ?_, fun p hp hp2 => ?_, fun s hs => ?_, fun t ht => ?_, fun k a b => ?_⟩
  · rw [e14, e62, e93, e 13 0 (by unfold fp_rel; omega), e 13 1 (by unfold fp_rel; omega), e 13 2 (by unfold fp_rel; omega)]; exact h1
  · rw [e14] at hp
    rw [e 2 _ (by unfold fp_rel; have := h1.1; omega)]; exact h2 p j hp hj
  · rw [e 3 p (by unfold fp_rel; omega), e 4 p (by unfold fp_rel; omega), e 5 p (by unfold fp_rel; omega)]; exact h3 p hp
  · rw [e14] at hp
    rw [e 3 p (by unfold fp_rel; omega), e 4 p (by unfold fp_rel; omega), e 5 p (by unfold fp_rel; omega)]; exact h4 p hp hp2
  · rw [e62] at hs
    rw [e 7 s (by unfold fp_rel; have := h1.2.1; omega), e 8 s (by unfold fp_rel; have := h1.2.1; omega)]; exact h5 s hs
  · rw [e93] at ht
    have := h1.2.2.1
    rw [e14, e 10 t (by unfold fp_rel; omega), e 11 t (by unfold fp_rel; omega), e 12 t (by unfold fp_rel; omega)]; exact h6 t ht
  · rw [e 0 k (by unfold fp_rel; omega)]; exact h7 k a b
/-- states that agree on what is told -/
theorem fq_I_buy {n l t : Int} {G : FpG} (h : fq_I n G) (hl : 1 ≤ l ∧ l ≤ 200) (ht : 1 ≤ t ∧ t ≤ 3) (hs : G 6 2 < 6) (hc : t + l / 20 ≤ G 0 4) : fq_I n (fp_sadd (fp_gu G 0 4 (G 0 4 - (t + l / 20))) l t) := by
  obtain ⟨h1, h2, h3, h4, h5, h6, h7⟩ := h
  refine ⟨?_, ?_, ?_, ?_, fun s hs => ?_, ?_, fun k a b => ?_⟩
  · simp [fp_sadd, fp_gu]; omega
  · simp only [fp_sadd_o, fp_gu_c, Nat.reduceBEq]; exact h2
  · simp only [fp_sadd_o, fp_gu_c, Nat.reduceBEq]; exact h3
  · simp only [fp_sadd_o, fp_gu_c, Nat.reduceBEq]; exact h4
  · have h5s := h5 s
    simp [fp_sadd, fp_gu] at hs ⊢
    split
    · simp [*]
    · exact h5s (by omega)
  · simp only [fp_sadd_o, fp_gu_c, Nat.reduceBEq]; exact h6
  · have h7k := h7 k a b
    simp [fp_sadd, fp_gu]
    split
    · rename_i q; subst q; omega
    · exact h7k
theorem fq_I_trade {n t : Int} {s : Nat} {G : FpG} (h : fq_I n G) (ht : 1 ≤ t ∧ t ≤ 3) (hs : (s : Int) < G 6 2) (hc : 10 ≤ G 7 s) : fq_I n (fp_gu (fp_gu G 7 s (G 7 s - 2)) 8 s t) := by
  obtain ⟨h1, h2, h3, h4, h5, h6, h7⟩ := h
  refine ⟨?_, ?_, ?_, ?_, fun s' hs' => ?_, ?_, ?_⟩
  · simp only [fp_gu_c, Nat.reduceBEq]; exact h1
  · simp only [fp_gu_c, Nat.reduceBEq]; exact h2
  · simp only [fp_gu_c, Nat.reduceBEq]; exact h3
  · simp only [fp_gu_c, Nat.reduceBEq]; exact h4
  · simp only [fp_gu_c, Nat.reduceBEq] at hs'
    have h5s := h5 s' hs'
    simp [fp_gu]
    split
    · rename_i q; subst q; omega
    · exact h5s
  · simp only [fp_gu_c, Nat.reduceBEq]; exact h6
  · simp only [fp_gu_c, Nat.reduceBEq]; exact h7
theorem fq_I_part {n l : Int} {s : Nat} {G : FpG} (h : fq_I n G) (hl : 1 ≤ l ∧ l < G 7 s) (hs : (s : Int) < G 6 2) (hs6 : G 6 2 < 6) : fq_I n (fp_sadd (fp_gu G 7 s l) (G 7 s - l) (G 8 s)) := by
  obtain ⟨h1, h2, h3, h4, h5, h6, h7⟩ := h
  refine ⟨?_, ?_, ?_, ?_, fun s' hs' => ?_, ?_, ?_⟩
  · simp [fp_sadd, fp_gu]; omega
  · simp only [fp_sadd_o, fp_gu_c, Nat.reduceBEq]; exact h2
  · simp only [fp_sadd_o, fp_gu_c, Nat.reduceBEq]; exact h3
  · simp only [fp_sadd_o, fp_gu_c, Nat.reduceBEq]; exact h4
  · have h5s := h5 s hs
    have h5s' := h5 s'
    simp [fp_sadd, fp_gu] at hs' ⊢
    split
    · simp [*]; omega
    · have := h5s' (by omega)
      split
      · omega
      · exact this
  · simp only [fp_sadd_o, fp_gu_c, Nat.reduceBEq]; exact h6
  · simp only [fp_sadd_o, fp_gu_c, Nat.reduceBEq]; exact h7
theorem fq_I_padd {n : Int} {f : Nat → Int} {G : FpG} (h : fq_I n G) (hf : ∀ j, j < 8 → 1 ≤ f j ∧ f j ≤ 9) (hp : G 1 4 < 10) : fq_I n (fp_padd G f) := by
  obtain ⟨h1, h2, h3, h4, h5, h6, h7⟩ := h
  refine ⟨?_, fun p j hp hj => ?_, ?_, fun p hp hp2 => ?_, ?_, fun t ht => ?_, ?_⟩
  · simp [fp_padd]; omega
  · have h2p := h2 p j
    have hfj := hf (8 * p + j - 8 * (G 1 4).toNat)
    simp [fp_padd] at hp ⊢
    split
    · exact hfj (by omega)
    · exact h2p (by omega) hj
  · simp only [fp_padd_o, Nat.reduceBEq]; exact h3
  · have h4p := h4 p
    rw [fp_padd_z.1] at hp
    simp only [fp_padd_o, Nat.reduceBEq]
    exact h4p (by omega) hp2
  · simp only [fp_padd_o, Nat.reduceBEq]; exact h5
  · simp only [fp_padd_o, Nat.reduceBEq] at ht ⊢
    rw [fp_padd_z.1]
    have := h6 t ht
    omega
  · simp only [fp_padd_o, Nat.reduceBEq]; exact h7
theorem fq_I_draw {n w : Int} {p j : Nat} {G : FpG} (h : fq_I n G) (hp : (p : Int) < G 1 4) (hj : j < 8) (hw : 1 ≤ w ∧ w ≤ 9) (h10 : G 1 4 < 10) : fq_I n (fp_gu (fp_padd G (fun i => G 2 (8 * p + i))) 2 (8 * (G 1 4).toNat + j) w) := by
  have hq := fq_I_padd h (fun i hi => h.2.1 p i hp hi) h10
  generalize fp_padd G (fun i => G 2 (8 * p + i)) = F at hq ⊢
  obtain ⟨h1, h2, h3, h4, h5, h6, h7⟩ := hq
  refine ⟨?_, fun q i hq hi => ?_, ?_, ?_, ?_, ?_, ?_⟩
  · simp only [fp_gu_c, Nat.reduceBEq]; exact h1
  · simp only [fp_gu_c, Nat.reduceBEq] at hq
    have := h2 q i hq hi
    simp [fp_gu]
    split
    · exact hw
    · exact this
  · simp only [fp_gu_c, Nat.reduceBEq]; exact h3
  · simp only [fp_gu_c, Nat.reduceBEq]; exact h4
  · simp only [fp_gu_c, Nat.reduceBEq]; exact h5
  · simp only [fp_gu_c, Nat.reduceBEq]; exact h6
  · simp only [fp_gu_c, Nat.reduceBEq]; exact h7
theorem fq_I_ladd {n p w t : Int} {G : FpG} (h : fq_I n G) (hp : 0 ≤ p ∧ p < G 1 4) (hw : 0 ≤ w ∧ w ≤ 2) (ht : 1 ≤ t ∧ t ≤ 99) (h12 : G 9 3 < 12) : fq_I n (fp_ladd G p w t) := by
  obtain ⟨h1, h2, h3, h4, h5, h6, h7⟩ := h
  refine ⟨?_, ?_, ?_, ?_, ?_, fun t' ht' => ?_, ?_⟩
  · simp [fp_ladd]; omega
  · simp only [fp_ladd_o, Nat.reduceBEq]; exact h2
  · simp only [fp_ladd_o, Nat.reduceBEq]; exact h3
  · simp only [fp_ladd_o, Nat.reduceBEq]; exact h4
  · simp only [fp_ladd_o, Nat.reduceBEq]; exact h5
  · have h6t := h6 t'
    simp [fp_ladd] at ht' ⊢
    split
    · omega
    · exact h6t (by omega)
  · simp only [fp_ladd_o, Nat.reduceBEq]; exact h7
theorem fq_K6_lrem {k : Nat} {G : FpG} (h : fq_K6 G) (hk : (k : Int) < G 9 3) : fq_K6 (fp_lrem G k) := by
  intro t ht
  have ha := h t
  have hb := h (t + 1)
  simp [fp_lrem] at ht ⊢
  split
  · exact hb (by omega)
  · exact ha (by omega)
theorem fq_K6_lrem2 {k : Nat} {v : Int} {G : FpG} (h : fq_K6 G) (hk : (k : Int) < G 9 3) : fq_K6 (fp_lrem (fp_gu G 12 k v) k) := by
  intro t ht
  have ha := h t
  have hb := h (t + 1)
  simp [fp_lrem, fp_gu] at ht ⊢
  split
  · rw [if_neg (by omega)]; exact hb (by omega)
  · rw [if_neg (by omega)]; exact ha (by omega)
theorem fq_K6_gu {k : Nat} {v : Int} {G : FpG} (h : fq_K6 G) (hv : 1 ≤ v ∧ v ≤ 99) : fq_K6 (fp_gu G 12 k v) := by
  intro t ht
  have ha := h t
  simp [fp_gu] at ht ⊢
  have := ha ht
  split
  · omega
  · exact this
theorem fq_K6_lose {tk : Int} (htk : 1 ≤ tk) : ∀ (n : Nat) (G : FpG), (n : Int) ≤ G 9 3 → fq_K6 G → fq_K6 (fp_lose tk n G)
  | 0, G, _, h => h
  | n + 1, G, hn, h => by
    have hp := h n (by omega)
    simp only [fp_lose]
    split
    · exact fq_K6_lose htk n _ (by simp [fp_lrem, fp_gu]; omega) (fq_K6_lrem2 h (by omega))
    · exact fq_K6_lose htk n _ (by simp [fp_gu]; omega) (fq_K6_gu h (by omega))
theorem fq_I_tp {n t : Int} {G : FpG} (hn : 1 ≤ n) (h : fq_I (n + 1) G) (h05 : G 0 5 ≤ 1000 * n) (h07 : G 0 7 ≤ 1000 * n) (ht : 1 ≤ t ∧ t ≤ 4) : fq_I (n + 1) (fp_tp G t) := by
  obtain ⟨h1, h2, h3, h4, h5, h6, h7⟩ := h
  have hz := fp_lose_z (t := t) (G 9 3).toNat (fp_gu G 0 5 (G 0 5 + t))
  rw [fp_gu_c (by rfl)] at hz
  have hk := fq_K6_lose ht.1 (G 9 3).toNat (fp_gu G 0 5 (G 0 5 + t)) (by rw [fp_gu_c (by rfl)]; have := h1.2.2.1; omega) (by unfold fq_K6; simp only [fp_gu_c, Nat.reduceBEq]; exact h6)
  unfold fp_tp
  refine ⟨?_, ?_, fun p hp => ?_, ?_, ?_, ?_, fun k a b => ?_⟩
  · simp only [fp_lose_o, fp_gu_c, Nat.reduceBEq]; obtain ⟨a1, a2, a3, a4⟩ := h1; exact ⟨a1, a2, by omega, a4⟩
  · simp only [fp_lose_o, fp_gu_c, Nat.reduceBEq]; exact h2
  · simp only [fp_lose_o, fp_gu_c, Nat.reduceBEq]; have := h3 p hp; omega
  · simp only [fp_lose_o, fp_gu_c, Nat.reduceBEq]; exact h4
  · simp only [fp_lose_o, fp_gu_c, Nat.reduceBEq]; exact h5
  · unfold fq_K6 at hk
    simp only [fp_gu_c, Nat.reduceBEq]
    simp only [fp_lose_o, fp_gu_c, Nat.reduceBEq] at hk ⊢
    exact hk
  · have h7k := h7 k a b
    have h75 := h7 5 (by omega) (by omega)
    have h77 := h7 7 (by omega) (by omega)
    have h193 := h1.2.2.1
    generalize fp_lose t (G 9 3).toNat (fp_gu G 0 5 (G 0 5 + t)) 9 3 = z at hz ⊢
    by_cases hk7 : k = 7
    · subst hk7; rw [fp_gu_s]; omega
    · have e : fp_gu (fp_lose t (G 9 3).toNat (fp_gu G 0 5 (G 0 5 + t))) 0 7 (G 0 7 + (G 9 3 - z)) 0 k = fp_gu G 0 5 (G 0 5 + t) 0 k := by
        rw [fp_gu_i (by simpa using hk7), fp_lose_o (by rfl) (by rfl) (by rfl) (by rfl)]
      rw [e]
      by_cases hk5 : k = 5
      · subst hk5; rw [fp_gu_s]; omega
      · rw [fp_gu_i (by simpa using hk5)]; omega
