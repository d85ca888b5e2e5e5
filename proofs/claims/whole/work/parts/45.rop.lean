/-! how a state that the model keeps changes -/
def fq_sh (a lo k : Nat) (s : Nat → Int) : Nat → Int := fun i => if lo ≤ i ∧ i < k then s (i + a) else s i
theorem fq_sh_o {a lo k i : Nat} {s : Nat → Int} (h : i < lo ∨ k ≤ i) : fq_sh a lo k s i = s i := by
  unfold fq_sh; rw [if_neg (by omega)]
theorem fq_sh_0 {a lo : Nat} {s : Nat → Int} : fq_sh a lo lo s = s := by
  funext i; exact fq_sh_o (by omega)
theorem fq_sh_s {a lo k : Nat} {s : Nat → Int} (h : lo ≤ k) (ha : 0 < a) : fq_su (fq_sh a lo k s) k (fq_sh a lo k s (k + a)) = fq_sh a lo (k + 1) s := by
  funext i
  rw [fq_sh_o (i := k + a) (by omega)]
  simp only [fq_su, fq_sh]
  by_cases e : i = k
  · subst e; rw [if_pos rfl, if_pos (by omega)]
  · rw [if_neg e]
    by_cases e2 : lo ≤ i ∧ i < k
    · rw [if_pos e2, if_pos (by omega)]
    · rw [if_neg e2, if_neg (by omega)]
theorem fp_sm_u {f : Nat → Int} {k : Nat} {v : Int} : ∀ n : Nat, k < n → fp_sm (fun i => if i = k then v else f i) n = fp_sm f n + (v - f k)
  | 0, h => by omega
  | n + 1, h => by
    simp only [fp_sm]
    by_cases e : n = k
    · subst e
      rw [if_pos rfl, fp_sm_c (f := fun i => if i = n then v else f i) (f' := f) n (fun i hi => if_neg (by omega))]
      omega
    · rw [fp_sm_u n (by omega), if_neg e]
      omega
def fq_B (G : FpG) : Prop := (0 ≤ G 1 4 ∧ G 1 4 ≤ 10) ∧ (0 ≤ G 6 2 ∧ G 6 2 ≤ 6) ∧ (0 ≤ G 9 3 ∧ G 9 3 ≤ 12)
theorem fq_I_B {n : Int} {G : FpG} (h : fq_I n G) : fq_B G := ⟨h.1.1, h.1.2.1, h.1.2.2.1⟩

theorem fq_R_g3 {b : Nat} {k : Nat} {v : Int} {G : FpG} {s : Nat → Int} (hR : fq_R b G s) (hB : fq_B G) (hk : (k : Int) < G 1 4) : fq_R b (fp_gu G 3 k v) (fq_su s (b + 4 + 11 * k + 8) v) := by
  obtain ⟨⟨a0, a1, a2, a3, a4, a5⟩, ⟨c4, c5, c6, c7, c8, c9⟩, h3, h4, h5⟩ := hR
  obtain ⟨b1, b2, b3⟩ := hB
  refine ⟨⟨?_, ?_, ?_, ?_, ?_, ?_⟩, ⟨?_, ?_, ?_, ?_, ?_, ?_⟩, fun p hp => ?_, fun q hq => ?_, fun t ht => ?_⟩
  case refine_8 =>
    have e5 : (fp_gu G 3 k v) 5 = G 5 := by funext i; simp [fp_gu]
    have e14 : (fp_gu G 3 k v) 1 4 = G 1 4 := by simp [fp_gu]
    rw [e5, e14]
    simp only [fq_su]
    (repeat' split) <;> omega
  case refine_13 =>
    simp only [fp_gu, fq_su, true_and, and_true, Nat.reduceEqDiff, false_and, and_false, if_false, if_true, true_or, or_true, false_or, or_false] at hp
    have hp' : (p : Int) < G 1 4 := by (repeat' split at hp) <;> omega
    obtain ⟨d1, d2, d3, d4⟩ := h3 p hp'
    refine ⟨fun j hj => ?_, ?_, ?_, ?_⟩
    · have := d1 j hj
      try simp only [fp_gu, fq_su, true_and, and_true, Nat.reduceEqDiff, false_and, and_false, if_false, if_true, true_or, or_true, false_or, or_false]
      (repeat' split) <;> omega
    all_goals
      try simp only [fp_gu, fq_su, true_and, and_true, Nat.reduceEqDiff, false_and, and_false, if_false, if_true, true_or, or_true, false_or, or_false]
      try ((repeat' split) <;> omega)
  case refine_14 =>
    simp only [fp_gu, fq_su, true_and, and_true, Nat.reduceEqDiff, false_and, and_false, if_false, if_true, true_or, or_true, false_or, or_false] at hq
    have hq' : (q : Int) < G 6 2 := by (repeat' split at hq) <;> omega
    obtain ⟨d1, d2⟩ := h4 q hq'
    refine ⟨?_, ?_⟩
    all_goals
      try simp only [fp_gu, fq_su, true_and, and_true, Nat.reduceEqDiff, false_and, and_false, if_false, if_true, true_or, or_true, false_or, or_false]
      try ((repeat' split) <;> omega)
  case refine_15 =>
    simp only [fp_gu, fq_su, true_and, and_true, Nat.reduceEqDiff, false_and, and_false, if_false, if_true, true_or, or_true, false_or, or_false] at ht
    have ht' : (t : Int) < G 9 3 := by (repeat' split at ht) <;> omega
    obtain ⟨d1, d2, d3⟩ := h5 t ht'
    refine ⟨?_, ?_, ?_⟩
    all_goals
      try simp only [fp_gu, fq_su, true_and, and_true, Nat.reduceEqDiff, false_and, and_false, if_false, if_true, true_or, or_true, false_or, or_false]
      try ((repeat' split) <;> omega)
  all_goals
    try simp only [fp_gu, fq_su, true_and, and_true, Nat.reduceEqDiff, false_and, and_false, if_false, if_true, true_or, or_true, false_or, or_false]
    try ((repeat' split) <;> omega)
theorem fq_R_g4 {b : Nat} {k : Nat} {v : Int} {G : FpG} {s : Nat → Int} (hR : fq_R b G s) (hB : fq_B G) (hk : (k : Int) < G 1 4) : fq_R b (fp_gu G 4 k v) (fq_su s (b + 4 + 11 * k + 9) v) := by
  obtain ⟨⟨a0, a1, a2, a3, a4, a5⟩, ⟨c4, c5, c6, c7, c8, c9⟩, h3, h4, h5⟩ := hR
  obtain ⟨b1, b2, b3⟩ := hB
  refine ⟨⟨?_, ?_, ?_, ?_, ?_, ?_⟩, ⟨?_, ?_, ?_, ?_, ?_, ?_⟩, fun p hp => ?_, fun q hq => ?_, fun t ht => ?_⟩
  case refine_8 =>
    have e5 : (fp_gu G 4 k v) 5 = G 5 := by funext i; simp [fp_gu]
    have e14 : (fp_gu G 4 k v) 1 4 = G 1 4 := by simp [fp_gu]
    rw [e5, e14]
    simp only [fq_su]
    (repeat' split) <;> omega
  case refine_13 =>
    simp only [fp_gu, fq_su, true_and, and_true, Nat.reduceEqDiff, false_and, and_false, if_false, if_true, true_or, or_true, false_or, or_false] at hp
    have hp' : (p : Int) < G 1 4 := by (repeat' split at hp) <;> omega
    obtain ⟨d1, d2, d3, d4⟩ := h3 p hp'
    refine ⟨fun j hj => ?_, ?_, ?_, ?_⟩
    · have := d1 j hj
      try simp only [fp_gu, fq_su, true_and, and_true, Nat.reduceEqDiff, false_and, and_false, if_false, if_true, true_or, or_true, false_or, or_false]
      (repeat' split) <;> omega
    all_goals
      try simp only [fp_gu, fq_su, true_and, and_true, Nat.reduceEqDiff, false_and, and_false, if_false, if_true, true_or, or_true, false_or, or_false]
      try ((repeat' split) <;> omega)
  case refine_14 =>
    simp only [fp_gu, fq_su, true_and, and_true, Nat.reduceEqDiff, false_and, and_false, if_false, if_true, true_or, or_true, false_or, or_false] at hq
    have hq' : (q : Int) < G 6 2 := by (repeat' split at hq) <;> omega
    obtain ⟨d1, d2⟩ := h4 q hq'
    refine ⟨?_, ?_⟩
    all_goals
      try simp only [fp_gu, fq_su, true_and, and_true, Nat.reduceEqDiff, false_and, and_false, if_false, if_true, true_or, or_true, false_or, or_false]
      try ((repeat' split) <;> omega)
  case refine_15 =>
    simp only [fp_gu, fq_su, true_and, and_true, Nat.reduceEqDiff, false_and, and_false, if_false, if_true, true_or, or_true, false_or, or_false] at ht
    have ht' : (t : Int) < G 9 3 := by (repeat' split at ht) <;> omega
    obtain ⟨d1, d2, d3⟩ := h5 t ht'
    refine ⟨?_, ?_, ?_⟩
    all_goals
      try simp only [fp_gu, fq_su, true_and, and_true, Nat.reduceEqDiff, false_and, and_false, if_false, if_true, true_or, or_true, false_or, or_false]
      try ((repeat' split) <;> omega)
  all_goals
    try simp only [fp_gu, fq_su, true_and, and_true, Nat.reduceEqDiff, false_and, and_false, if_false, if_true, true_or, or_true, false_or, or_false]
    try ((repeat' split) <;> omega)
theorem fq_R_g04 {b : Nat} {v : Int} {G : FpG} {s : Nat → Int} (hR : fq_R b G s) (hB : fq_B G)  : fq_R b (fp_gu G 0 4 v) (fq_su s (b + 168) v) := by
  obtain ⟨⟨a0, a1, a2, a3, a4, a5⟩, ⟨c4, c5, c6, c7, c8, c9⟩, h3, h4, h5⟩ := hR
  obtain ⟨b1, b2, b3⟩ := hB
  refine ⟨⟨?_, ?_, ?_, ?_, ?_, ?_⟩, ⟨?_, ?_, ?_, ?_, ?_, ?_⟩, fun p hp => ?_, fun q hq => ?_, fun t ht => ?_⟩
  case refine_8 =>
    have e5 : (fp_gu G 0 4 v) 5 = G 5 := by funext i; simp [fp_gu]
    have e14 : (fp_gu G 0 4 v) 1 4 = G 1 4 := by simp [fp_gu]
    rw [e5, e14]
    simp only [fq_su]
    (repeat' split) <;> omega
  case refine_13 =>
    simp only [fp_gu, fq_su, true_and, and_true, Nat.reduceEqDiff, false_and, and_false, if_false, if_true, true_or, or_true, false_or, or_false] at hp
    have hp' : (p : Int) < G 1 4 := by (repeat' split at hp) <;> omega
    obtain ⟨d1, d2, d3, d4⟩ := h3 p hp'
    refine ⟨fun j hj => ?_, ?_, ?_, ?_⟩
    · have := d1 j hj
      try simp only [fp_gu, fq_su, true_and, and_true, Nat.reduceEqDiff, false_and, and_false, if_false, if_true, true_or, or_true, false_or, or_false]
      (repeat' split) <;> omega
    all_goals
      try simp only [fp_gu, fq_su, true_and, and_true, Nat.reduceEqDiff, false_and, and_false, if_false, if_true, true_or, or_true, false_or, or_false]
      try ((repeat' split) <;> omega)
  case refine_14 =>
    simp only [fp_gu, fq_su, true_and, and_true, Nat.reduceEqDiff, false_and, and_false, if_false, if_true, true_or, or_true, false_or, or_false] at hq
    have hq' : (q : Int) < G 6 2 := by (repeat' split at hq) <;> omega
    obtain ⟨d1, d2⟩ := h4 q hq'
    refine ⟨?_, ?_⟩
    all_goals
      try simp only [fp_gu, fq_su, true_and, and_true, Nat.reduceEqDiff, false_and, and_false, if_false, if_true, true_or, or_true, false_or, or_false]
      try ((repeat' split) <;> omega)
  case refine_15 =>
    simp only [fp_gu, fq_su, true_and, and_true, Nat.reduceEqDiff, false_and, and_false, if_false, if_true, true_or, or_true, false_or, or_false] at ht
    have ht' : (t : Int) < G 9 3 := by (repeat' split at ht) <;> omega
    obtain ⟨d1, d2, d3⟩ := h5 t ht'
    refine ⟨?_, ?_, ?_⟩
    all_goals
      try simp only [fp_gu, fq_su, true_and, and_true, Nat.reduceEqDiff, false_and, and_false, if_false, if_true, true_or, or_true, false_or, or_false]
      try ((repeat' split) <;> omega)
  all_goals
    try simp only [fp_gu, fq_su, true_and, and_true, Nat.reduceEqDiff, false_and, and_false, if_false, if_true, true_or, or_true, false_or, or_false]
    try ((repeat' split) <;> omega)
theorem fq_R_g05 {b : Nat} {v : Int} {G : FpG} {s : Nat → Int} (hR : fq_R b G s) (hB : fq_B G)  : fq_R b (fp_gu G 0 5 v) (fq_su s (b + 164) v) := by
  obtain ⟨⟨a0, a1, a2, a3, a4, a5⟩, ⟨c4, c5, c6, c7, c8, c9⟩, h3, h4, h5⟩ := hR
  obtain ⟨b1, b2, b3⟩ := hB
  refine ⟨⟨?_, ?_, ?_, ?_, ?_, ?_⟩, ⟨?_, ?_, ?_, ?_, ?_, ?_⟩, fun p hp => ?_, fun q hq => ?_, fun t ht => ?_⟩
  case refine_8 =>
    have e5 : (fp_gu G 0 5 v) 5 = G 5 := by funext i; simp [fp_gu]
    have e14 : (fp_gu G 0 5 v) 1 4 = G 1 4 := by simp [fp_gu]
    rw [e5, e14]
    simp only [fq_su]
    (repeat' split) <;> omega
  case refine_13 =>
    simp only [fp_gu, fq_su, true_and, and_true, Nat.reduceEqDiff, false_and, and_false, if_false, if_true, true_or, or_true, false_or, or_false] at hp
    have hp' : (p : Int) < G 1 4 := by (repeat' split at hp) <;> omega
    obtain ⟨d1, d2, d3, d4⟩ := h3 p hp'
    refine ⟨fun j hj => ?_, ?_, ?_, ?_⟩
    · have := d1 j hj
      try simp only [fp_gu, fq_su, true_and, and_true, Nat.reduceEqDiff, false_and, and_false, if_false, if_true, true_or, or_true, false_or, or_false]
      (repeat' split) <;> omega
    all_goals
      try simp only [fp_gu, fq_su, true_and, and_true, Nat.reduceEqDiff, false_and, and_false, if_false, if_true, true_or, or_true, false_or, or_false]
      try ((repeat' split) <;> omega)
  case refine_14 =>
    simp only [fp_gu, fq_su, true_and, and_true, Nat.reduceEqDiff, false_and, and_false, if_false, if_true, true_or, or_true, false_or, or_false] at hq
    have hq' : (q : Int) < G 6 2 := by (repeat' split at hq) <;> omega
    obtain ⟨d1, d2⟩ := h4 q hq'
    refine ⟨?_, ?_⟩
    all_goals
      try simp only [fp_gu, fq_su, true_and, and_true, Nat.reduceEqDiff, false_and, and_false, if_false, if_true, true_or, or_true, false_or, or_false]
      try ((repeat' split) <;> omega)
  case refine_15 =>
    simp only [fp_gu, fq_su, true_and, and_true, Nat.reduceEqDiff, false_and, and_false, if_false, if_true, true_or, or_true, false_or, or_false] at ht
    have ht' : (t : Int) < G 9 3 := by (repeat' split at ht) <;> omega
    obtain ⟨d1, d2, d3⟩ := h5 t ht'
    refine ⟨?_, ?_, ?_⟩
    all_goals
      try simp only [fp_gu, fq_su, true_and, and_true, Nat.reduceEqDiff, false_and, and_false, if_false, if_true, true_or, or_true, false_or, or_false]
      try ((repeat' split) <;> omega)
  all_goals
    try simp only [fp_gu, fq_su, true_and, and_true, Nat.reduceEqDiff, false_and, and_false, if_false, if_true, true_or, or_true, false_or, or_false]
    try ((repeat' split) <;> omega)
theorem fq_R_g06 {b : Nat} {v : Int} {G : FpG} {s : Nat → Int} (hR : fq_R b G s) (hB : fq_B G)  : fq_R b (fp_gu G 0 6 v) (fq_su s (b + 166) v) := by
  obtain ⟨⟨a0, a1, a2, a3, a4, a5⟩, ⟨c4, c5, c6, c7, c8, c9⟩, h3, h4, h5⟩ := hR
  obtain ⟨b1, b2, b3⟩ := hB
  refine ⟨⟨?_, ?_, ?_, ?_, ?_, ?_⟩, ⟨?_, ?_, ?_, ?_, ?_, ?_⟩, fun p hp => ?_, fun q hq => ?_, fun t ht => ?_⟩
  case refine_8 =>
    have e5 : (fp_gu G 0 6 v) 5 = G 5 := by funext i; simp [fp_gu]
    have e14 : (fp_gu G 0 6 v) 1 4 = G 1 4 := by simp [fp_gu]
    rw [e5, e14]
    simp only [fq_su]
    (repeat' split) <;> omega
  case refine_13 =>
    simp only [fp_gu, fq_su, true_and, and_true, Nat.reduceEqDiff, false_and, and_false, if_false, if_true, true_or, or_true, false_or, or_false] at hp
    have hp' : (p : Int) < G 1 4 := by (repeat' split at hp) <;> omega
    obtain ⟨d1, d2, d3, d4⟩ := h3 p hp'
    refine ⟨fun j hj => ?_, ?_, ?_, ?_⟩
    · have := d1 j hj
      try simp only [fp_gu, fq_su, true_and, and_true, Nat.reduceEqDiff, false_and, and_false, if_false, if_true, true_or, or_true, false_or, or_false]
      (repeat' split) <;> omega
    all_goals
      try simp only [fp_gu, fq_su, true_and, and_true, Nat.reduceEqDiff, false_and, and_false, if_false, if_true, true_or, or_true, false_or, or_false]
      try ((repeat' split) <;> omega)
  case refine_14 =>
    simp only [fp_gu, fq_su, true_and, and_true, Nat.reduceEqDiff, false_and, and_false, if_false, if_true, true_or, or_true, false_or, or_false] at hq
    have hq' : (q : Int) < G 6 2 := by (repeat' split at hq) <;> omega
    obtain ⟨d1, d2⟩ := h4 q hq'
    refine ⟨?_, ?_⟩
    all_goals
      try simp only [fp_gu, fq_su, true_and, and_true, Nat.reduceEqDiff, false_and, and_false, if_false, if_true, true_or, or_true, false_or, or_false]
      try ((repeat' split) <;> omega)
  case refine_15 =>
    simp only [fp_gu, fq_su, true_and, and_true, Nat.reduceEqDiff, false_and, and_false, if_false, if_true, true_or, or_true, false_or, or_false] at ht
    have ht' : (t : Int) < G 9 3 := by (repeat' split at ht) <;> omega
    obtain ⟨d1, d2, d3⟩ := h5 t ht'
    refine ⟨?_, ?_, ?_⟩
    all_goals
      try simp only [fp_gu, fq_su, true_and, and_true, Nat.reduceEqDiff, false_and, and_false, if_false, if_true, true_or, or_true, false_or, or_false]
      try ((repeat' split) <;> omega)
  all_goals
    try simp only [fp_gu, fq_su, true_and, and_true, Nat.reduceEqDiff, false_and, and_false, if_false, if_true, true_or, or_true, false_or, or_false]
    try ((repeat' split) <;> omega)
theorem fq_R_g07 {b : Nat} {v : Int} {G : FpG} {s : Nat → Int} (hR : fq_R b G s) (hB : fq_B G)  : fq_R b (fp_gu G 0 7 v) (fq_su s (b + 167) v) := by
  obtain ⟨⟨a0, a1, a2, a3, a4, a5⟩, ⟨c4, c5, c6, c7, c8, c9⟩, h3, h4, h5⟩ := hR
  obtain ⟨b1, b2, b3⟩ := hB
  refine ⟨⟨?_, ?_, ?_, ?_, ?_, ?_⟩, ⟨?_, ?_, ?_, ?_, ?_, ?_⟩, fun p hp => ?_, fun q hq => ?_, fun t ht => ?_⟩
  case refine_8 =>
    have e5 : (fp_gu G 0 7 v) 5 = G 5 := by funext i; simp [fp_gu]
    have e14 : (fp_gu G 0 7 v) 1 4 = G 1 4 := by simp [fp_gu]
    rw [e5, e14]
    simp only [fq_su]
    (repeat' split) <;> omega
  case refine_13 =>
    simp only [fp_gu, fq_su, true_and, and_true, Nat.reduceEqDiff, false_and, and_false, if_false, if_true, true_or, or_true, false_or, or_false] at hp
    have hp' : (p : Int) < G 1 4 := by (repeat' split at hp) <;> omega
    obtain ⟨d1, d2, d3, d4⟩ := h3 p hp'
    refine ⟨fun j hj => ?_, ?_, ?_, ?_⟩
    · have := d1 j hj
      try simp only [fp_gu, fq_su, true_and, and_true, Nat.reduceEqDiff, false_and, and_false, if_false, if_true, true_or, or_true, false_or, or_false]
      (repeat' split) <;> omega
    all_goals
      try simp only [fp_gu, fq_su, true_and, and_true, Nat.reduceEqDiff, false_and, and_false, if_false, if_true, true_or, or_true, false_or, or_false]
      try ((repeat' split) <;> omega)
  case refine_14 =>
    simp only [fp_gu, fq_su, true_and, and_true, Nat.reduceEqDiff, false_and, and_false, if_false, if_true, true_or, or_true, false_or, or_false] at hq
    have hq' : (q : Int) < G 6 2 := by (repeat' split at hq) <;> omega
    obtain ⟨d1, d2⟩ := h4 q hq'
    refine ⟨?_, ?_⟩
    all_goals
      try simp only [fp_gu, fq_su, true_and, and_true, Nat.reduceEqDiff, false_and, and_false, if_false, if_true, true_or, or_true, false_or, or_false]
      try ((repeat' split) <;> omega)
  case refine_15 =>
    simp only [fp_gu, fq_su, true_and, and_true, Nat.reduceEqDiff, false_and, and_false, if_false, if_true, true_or, or_true, false_or, or_false] at ht
    have ht' : (t : Int) < G 9 3 := by (repeat' split at ht) <;> omega
    obtain ⟨d1, d2, d3⟩ := h5 t ht'
    refine ⟨?_, ?_, ?_⟩
    all_goals
      try simp only [fp_gu, fq_su, true_and, and_true, Nat.reduceEqDiff, false_and, and_false, if_false, if_true, true_or, or_true, false_or, or_false]
      try ((repeat' split) <;> omega)
  all_goals
    try simp only [fp_gu, fq_su, true_and, and_true, Nat.reduceEqDiff, false_and, and_false, if_false, if_true, true_or, or_true, false_or, or_false]
    try ((repeat' split) <;> omega)
theorem fq_R_g08 {b : Nat} {v : Int} {G : FpG} {s : Nat → Int} (hR : fq_R b G s) (hB : fq_B G)  : fq_R b (fp_gu G 0 8 v) (fq_su s (b + 169) v) := by
  obtain ⟨⟨a0, a1, a2, a3, a4, a5⟩, ⟨c4, c5, c6, c7, c8, c9⟩, h3, h4, h5⟩ := hR
  obtain ⟨b1, b2, b3⟩ := hB
  refine ⟨⟨?_, ?_, ?_, ?_, ?_, ?_⟩, ⟨?_, ?_, ?_, ?_, ?_, ?_⟩, fun p hp => ?_, fun q hq => ?_, fun t ht => ?_⟩
  case refine_8 =>
    have e5 : (fp_gu G 0 8 v) 5 = G 5 := by funext i; simp [fp_gu]
    have e14 : (fp_gu G 0 8 v) 1 4 = G 1 4 := by simp [fp_gu]
    rw [e5, e14]
    simp only [fq_su]
    (repeat' split) <;> omega
  case refine_13 =>
    simp only [fp_gu, fq_su, true_and, and_true, Nat.reduceEqDiff, false_and, and_false, if_false, if_true, true_or, or_true, false_or, or_false] at hp
    have hp' : (p : Int) < G 1 4 := by (repeat' split at hp) <;> omega
    obtain ⟨d1, d2, d3, d4⟩ := h3 p hp'
    refine ⟨fun j hj => ?_, ?_, ?_, ?_⟩
    · have := d1 j hj
      try simp only [fp_gu, fq_su, true_and, and_true, Nat.reduceEqDiff, false_and, and_false, if_false, if_true, true_or, or_true, false_or, or_false]
      (repeat' split) <;> omega
    all_goals
      try simp only [fp_gu, fq_su, true_and, and_true, Nat.reduceEqDiff, false_and, and_false, if_false, if_true, true_or, or_true, false_or, or_false]
      try ((repeat' split) <;> omega)
  case refine_14 =>
    simp only [fp_gu, fq_su, true_and, and_true, Nat.reduceEqDiff, false_and, and_false, if_false, if_true, true_or, or_true, false_or, or_false] at hq
    have hq' : (q : Int) < G 6 2 := by (repeat' split at hq) <;> omega
    obtain ⟨d1, d2⟩ := h4 q hq'
    refine ⟨?_, ?_⟩
    all_goals
      try simp only [fp_gu, fq_su, true_and, and_true, Nat.reduceEqDiff, false_and, and_false, if_false, if_true, true_or, or_true, false_or, or_false]
      try ((repeat' split) <;> omega)
  case refine_15 =>
    simp only [fp_gu, fq_su, true_and, and_true, Nat.reduceEqDiff, false_and, and_false, if_false, if_true, true_or, or_true, false_or, or_false] at ht
    have ht' : (t : Int) < G 9 3 := by (repeat' split at ht) <;> omega
    obtain ⟨d1, d2, d3⟩ := h5 t ht'
    refine ⟨?_, ?_, ?_⟩
    all_goals
      try simp only [fp_gu, fq_su, true_and, and_true, Nat.reduceEqDiff, false_and, and_false, if_false, if_true, true_or, or_true, false_or, or_false]
      try ((repeat' split) <;> omega)
  all_goals
    try simp only [fp_gu, fq_su, true_and, and_true, Nat.reduceEqDiff, false_and, and_false, if_false, if_true, true_or, or_true, false_or, or_false]
    try ((repeat' split) <;> omega)
theorem fq_R_g12 {b : Nat} {k : Nat} {v : Int} {G : FpG} {s : Nat → Int} (hR : fq_R b G s) (hB : fq_B G) (hk : (k : Int) < G 9 3) : fq_R b (fp_gu G 12 k v) (fq_su s (b + 128 + 3 * k + 2) v) := by
  obtain ⟨⟨a0, a1, a2, a3, a4, a5⟩, ⟨c4, c5, c6, c7, c8, c9⟩, h3, h4, h5⟩ := hR
  obtain ⟨b1, b2, b3⟩ := hB
  refine ⟨⟨?_, ?_, ?_, ?_, ?_, ?_⟩, ⟨?_, ?_, ?_, ?_, ?_, ?_⟩, fun p hp => ?_, fun q hq => ?_, fun t ht => ?_⟩
  case refine_8 =>
    have e5 : (fp_gu G 12 k v) 5 = G 5 := by funext i; simp [fp_gu]
    have e14 : (fp_gu G 12 k v) 1 4 = G 1 4 := by simp [fp_gu]
    rw [e5, e14]
    simp only [fq_su]
    (repeat' split) <;> omega
  case refine_13 =>
    simp only [fp_gu, fq_su, true_and, and_true, Nat.reduceEqDiff, false_and, and_false, if_false, if_true, true_or, or_true, false_or, or_false] at hp
    have hp' : (p : Int) < G 1 4 := by (repeat' split at hp) <;> omega
    obtain ⟨d1, d2, d3, d4⟩ := h3 p hp'
    refine ⟨fun j hj => ?_, ?_, ?_, ?_⟩
    · have := d1 j hj
      try simp only [fp_gu, fq_su, true_and, and_true, Nat.reduceEqDiff, false_and, and_false, if_false, if_true, true_or, or_true, false_or, or_false]
      (repeat' split) <;> omega
    all_goals
      try simp only [fp_gu, fq_su, true_and, and_true, Nat.reduceEqDiff, false_and, and_false, if_false, if_true, true_or, or_true, false_or, or_false]
      try ((repeat' split) <;> omega)
  case refine_14 =>
    simp only [fp_gu, fq_su, true_and, and_true, Nat.reduceEqDiff, false_and, and_false, if_false, if_true, true_or, or_true, false_or, or_false] at hq
    have hq' : (q : Int) < G 6 2 := by (repeat' split at hq) <;> omega
    obtain ⟨d1, d2⟩ := h4 q hq'
    refine ⟨?_, ?_⟩
    all_goals
      try simp only [fp_gu, fq_su, true_and, and_true, Nat.reduceEqDiff, false_and, and_false, if_false, if_true, true_or, or_true, false_or, or_false]
      try ((repeat' split) <;> omega)
  case refine_15 =>
    simp only [fp_gu, fq_su, true_and, and_true, Nat.reduceEqDiff, false_and, and_false, if_false, if_true, true_or, or_true, false_or, or_false] at ht
    have ht' : (t : Int) < G 9 3 := by (repeat' split at ht) <;> omega
    obtain ⟨d1, d2, d3⟩ := h5 t ht'
    refine ⟨?_, ?_, ?_⟩
    all_goals
      try simp only [fp_gu, fq_su, true_and, and_true, Nat.reduceEqDiff, false_and, and_false, if_false, if_true, true_or, or_true, false_or, or_false]
      try ((repeat' split) <;> omega)
  all_goals
    try simp only [fp_gu, fq_su, true_and, and_true, Nat.reduceEqDiff, false_and, and_false, if_false, if_true, true_or, or_true, false_or, or_false]
    try ((repeat' split) <;> omega)
theorem fq_R_g7 {b : Nat} {k : Nat} {v : Int} {G : FpG} {s : Nat → Int} (hR : fq_R b G s) (hB : fq_B G) (hk : (k : Int) < G 6 2) : fq_R b (fp_gu G 7 k v) (fq_su s (b + 115 + 2 * k) v) := by
  obtain ⟨⟨a0, a1, a2, a3, a4, a5⟩, ⟨c4, c5, c6, c7, c8, c9⟩, h3, h4, h5⟩ := hR
  obtain ⟨b1, b2, b3⟩ := hB
  refine ⟨⟨?_, ?_, ?_, ?_, ?_, ?_⟩, ⟨?_, ?_, ?_, ?_, ?_, ?_⟩, fun p hp => ?_, fun q hq => ?_, fun t ht => ?_⟩
  case refine_8 =>
    have e5 : (fp_gu G 7 k v) 5 = G 5 := by funext i; simp [fp_gu]
    have e14 : (fp_gu G 7 k v) 1 4 = G 1 4 := by simp [fp_gu]
    rw [e5, e14]
    simp only [fq_su]
    (repeat' split) <;> omega
  case refine_13 =>
    simp only [fp_gu, fq_su, true_and, and_true, Nat.reduceEqDiff, false_and, and_false, if_false, if_true, true_or, or_true, false_or, or_false] at hp
    have hp' : (p : Int) < G 1 4 := by (repeat' split at hp) <;> omega
    obtain ⟨d1, d2, d3, d4⟩ := h3 p hp'
    refine ⟨fun j hj => ?_, ?_, ?_, ?_⟩
    · have := d1 j hj
      try simp only [fp_gu, fq_su, true_and, and_true, Nat.reduceEqDiff, false_and, and_false, if_false, if_true, true_or, or_true, false_or, or_false]
      (repeat' split) <;> omega
    all_goals
      try simp only [fp_gu, fq_su, true_and, and_true, Nat.reduceEqDiff, false_and, and_false, if_false, if_true, true_or, or_true, false_or, or_false]
      try ((repeat' split) <;> omega)
  case refine_14 =>
    simp only [fp_gu, fq_su, true_and, and_true, Nat.reduceEqDiff, false_and, and_false, if_false, if_true, true_or, or_true, false_or, or_false] at hq
    have hq' : (q : Int) < G 6 2 := by (repeat' split at hq) <;> omega
    obtain ⟨d1, d2⟩ := h4 q hq'
    refine ⟨?_, ?_⟩
    all_goals
      try simp only [fp_gu, fq_su, true_and, and_true, Nat.reduceEqDiff, false_and, and_false, if_false, if_true, true_or, or_true, false_or, or_false]
      try ((repeat' split) <;> omega)
  case refine_15 =>
    simp only [fp_gu, fq_su, true_and, and_true, Nat.reduceEqDiff, false_and, and_false, if_false, if_true, true_or, or_true, false_or, or_false] at ht
    have ht' : (t : Int) < G 9 3 := by (repeat' split at ht) <;> omega
    obtain ⟨d1, d2, d3⟩ := h5 t ht'
    refine ⟨?_, ?_, ?_⟩
    all_goals
      try simp only [fp_gu, fq_su, true_and, and_true, Nat.reduceEqDiff, false_and, and_false, if_false, if_true, true_or, or_true, false_or, or_false]
      try ((repeat' split) <;> omega)
  all_goals
    try simp only [fp_gu, fq_su, true_and, and_true, Nat.reduceEqDiff, false_and, and_false, if_false, if_true, true_or, or_true, false_or, or_false]
    try ((repeat' split) <;> omega)
theorem fq_R_g8 {b : Nat} {k : Nat} {v : Int} {G : FpG} {s : Nat → Int} (hR : fq_R b G s) (hB : fq_B G) (hk : (k : Int) < G 6 2) : fq_R b (fp_gu G 8 k v) (fq_su s (b + 115 + 2 * k + 1) v) := by
  obtain ⟨⟨a0, a1, a2, a3, a4, a5⟩, ⟨c4, c5, c6, c7, c8, c9⟩, h3, h4, h5⟩ := hR
  obtain ⟨b1, b2, b3⟩ := hB
  refine ⟨⟨?_, ?_, ?_, ?_, ?_, ?_⟩, ⟨?_, ?_, ?_, ?_, ?_, ?_⟩, fun p hp => ?_, fun q hq => ?_, fun t ht => ?_⟩
  case refine_8 =>
    have e5 : (fp_gu G 8 k v) 5 = G 5 := by funext i; simp [fp_gu]
    have e14 : (fp_gu G 8 k v) 1 4 = G 1 4 := by simp [fp_gu]
    rw [e5, e14]
    simp only [fq_su]
    (repeat' split) <;> omega
  case refine_13 =>
    simp only [fp_gu, fq_su, true_and, and_true, Nat.reduceEqDiff, false_and, and_false, if_false, if_true, true_or, or_true, false_or, or_false] at hp
    have hp' : (p : Int) < G 1 4 := by (repeat' split at hp) <;> omega
    obtain ⟨d1, d2, d3, d4⟩ := h3 p hp'
    refine ⟨fun j hj => ?_, ?_, ?_, ?_⟩
    · have := d1 j hj
      try simp only [fp_gu, fq_su, true_and, and_true, Nat.reduceEqDiff, false_and, and_false, if_false, if_true, true_or, or_true, false_or, or_false]
      (repeat' split) <;> omega
    all_goals
      try simp only [fp_gu, fq_su, true_and, and_true, Nat.reduceEqDiff, false_and, and_false, if_false, if_true, true_or, or_true, false_or, or_false]
      try ((repeat' split) <;> omega)
  case refine_14 =>
    simp only [fp_gu, fq_su, true_and, and_true, Nat.reduceEqDiff, false_and, and_false, if_false, if_true, true_or, or_true, false_or, or_false] at hq
    have hq' : (q : Int) < G 6 2 := by (repeat' split at hq) <;> omega
    obtain ⟨d1, d2⟩ := h4 q hq'
    refine ⟨?_, ?_⟩
    all_goals
      try simp only [fp_gu, fq_su, true_and, and_true, Nat.reduceEqDiff, false_and, and_false, if_false, if_true, true_or, or_true, false_or, or_false]
      try ((repeat' split) <;> omega)
  case refine_15 =>
    simp only [fp_gu, fq_su, true_and, and_true, Nat.reduceEqDiff, false_and, and_false, if_false, if_true, true_or, or_true, false_or, or_false] at ht
    have ht' : (t : Int) < G 9 3 := by (repeat' split at ht) <;> omega
    obtain ⟨d1, d2, d3⟩ := h5 t ht'
    refine ⟨?_, ?_, ?_⟩
    all_goals
      try simp only [fp_gu, fq_su, true_and, and_true, Nat.reduceEqDiff, false_and, and_false, if_false, if_true, true_or, or_true, false_or, or_false]
      try ((repeat' split) <;> omega)
  all_goals
    try simp only [fp_gu, fq_su, true_and, and_true, Nat.reduceEqDiff, false_and, and_false, if_false, if_true, true_or, or_true, false_or, or_false]
    try ((repeat' split) <;> omega)
theorem fq_R_g13 {b : Nat} {k : Nat} {v : Int} {G : FpG} {s : Nat → Int} (hR : fq_R b G s) (hB : fq_B G) (hk : k < 3) : fq_R b (fp_gu G 13 k v) (fq_su s (b + k) v) := by
  obtain ⟨⟨a0, a1, a2, a3, a4, a5⟩, ⟨c4, c5, c6, c7, c8, c9⟩, h3, h4, h5⟩ := hR
  obtain ⟨b1, b2, b3⟩ := hB
  refine ⟨⟨?_, ?_, ?_, ?_, ?_, ?_⟩, ⟨?_, ?_, ?_, ?_, ?_, ?_⟩, fun p hp => ?_, fun q hq => ?_, fun t ht => ?_⟩
  case refine_8 =>
    have e5 : (fp_gu G 13 k v) 5 = G 5 := by funext i; simp [fp_gu]
    have e14 : (fp_gu G 13 k v) 1 4 = G 1 4 := by simp [fp_gu]
    rw [e5, e14]
    simp only [fq_su]
    (repeat' split) <;> omega
  case refine_13 =>
    simp only [fp_gu, fq_su, true_and, and_true, Nat.reduceEqDiff, false_and, and_false, if_false, if_true, true_or, or_true, false_or, or_false] at hp
    have hp' : (p : Int) < G 1 4 := by (repeat' split at hp) <;> omega
    obtain ⟨d1, d2, d3, d4⟩ := h3 p hp'
    refine ⟨fun j hj => ?_, ?_, ?_, ?_⟩
    · have := d1 j hj
      try simp only [fp_gu, fq_su, true_and, and_true, Nat.reduceEqDiff, false_and, and_false, if_false, if_true, true_or, or_true, false_or, or_false]
      (repeat' split) <;> omega
    all_goals
      try simp only [fp_gu, fq_su, true_and, and_true, Nat.reduceEqDiff, false_and, and_false, if_false, if_true, true_or, or_true, false_or, or_false]
      try ((repeat' split) <;> omega)
  case refine_14 =>
    simp only [fp_gu, fq_su, true_and, and_true, Nat.reduceEqDiff, false_and, and_false, if_false, if_true, true_or, or_true, false_or, or_false] at hq
    have hq' : (q : Int) < G 6 2 := by (repeat' split at hq) <;> omega
    obtain ⟨d1, d2⟩ := h4 q hq'
    refine ⟨?_, ?_⟩
    all_goals
      try simp only [fp_gu, fq_su, true_and, and_true, Nat.reduceEqDiff, false_and, and_false, if_false, if_true, true_or, or_true, false_or, or_false]
      try ((repeat' split) <;> omega)
  case refine_15 =>
    simp only [fp_gu, fq_su, true_and, and_true, Nat.reduceEqDiff, false_and, and_false, if_false, if_true, true_or, or_true, false_or, or_false] at ht
    have ht' : (t : Int) < G 9 3 := by (repeat' split at ht) <;> omega
    obtain ⟨d1, d2, d3⟩ := h5 t ht'
    refine ⟨?_, ?_, ?_⟩
    all_goals
      try simp only [fp_gu, fq_su, true_and, and_true, Nat.reduceEqDiff, false_and, and_false, if_false, if_true, true_or, or_true, false_or, or_false]
      try ((repeat' split) <;> omega)
  all_goals
    try simp only [fp_gu, fq_su, true_and, and_true, Nat.reduceEqDiff, false_and, and_false, if_false, if_true, true_or, or_true, false_or, or_false]
    try ((repeat' split) <;> omega)
theorem fq_R_g5 {b : Nat} {k : Nat} {v w : Int} {G : FpG} {s : Nat → Int} (hR : fq_R b G s) (hB : fq_B G) (hk : (k : Int) < G 1 4) (hw : w = G 5 k) : fq_R b (fp_gu G 5 k v) (fq_su (fq_su s (b + 4 + 11 * k + 10) v) (b + 165) (s (b + 165) + (v - w))) := by
  obtain ⟨⟨a0, a1, a2, a3, a4, a5⟩, ⟨c4, c5, c6, c7, c8, c9⟩, h3, h4, h5⟩ := hR
  obtain ⟨b1, b2, b3⟩ := hB
  refine ⟨⟨?_, ?_, ?_, ?_, ?_, ?_⟩, ⟨?_, ?_, ?_, ?_, ?_, ?_⟩, fun p hp => ?_, fun q hq => ?_, fun t ht => ?_⟩
  case refine_8 =>
    have e5 : (fp_gu G 5 k v) 5 = (fun i => if i = k then v else G 5 i) := by funext i; simp [fp_gu]
    have e14 : (fp_gu G 5 k v) 1 4 = G 1 4 := by simp [fp_gu]
    rw [e5, e14, fp_sm_u _ (show k < (G 1 4).toNat by omega)]
    simp only [fq_su]
    rw [if_pos trivial, c5, hw]
  case refine_13 =>
    simp only [fp_gu, fq_su, true_and, and_true, Nat.reduceEqDiff, false_and, and_false, if_false, if_true, true_or, or_true, false_or, or_false] at hp
    have hp' : (p : Int) < G 1 4 := by (repeat' split at hp) <;> omega
    obtain ⟨d1, d2, d3, d4⟩ := h3 p hp'
    refine ⟨fun j hj => ?_, ?_, ?_, ?_⟩
    · have := d1 j hj
      try simp only [fp_gu, fq_su, true_and, and_true, Nat.reduceEqDiff, false_and, and_false, if_false, if_true, true_or, or_true, false_or, or_false]
      (repeat' split) <;> omega
    all_goals
      try simp only [fp_gu, fq_su, true_and, and_true, Nat.reduceEqDiff, false_and, and_false, if_false, if_true, true_or, or_true, false_or, or_false]
      try ((repeat' split) <;> omega)
  case refine_14 =>
    simp only [fp_gu, fq_su, true_and, and_true, Nat.reduceEqDiff, false_and, and_false, if_false, if_true, true_or, or_true, false_or, or_false] at hq
    have hq' : (q : Int) < G 6 2 := by (repeat' split at hq) <;> omega
    obtain ⟨d1, d2⟩ := h4 q hq'
    refine ⟨?_, ?_⟩
    all_goals
      try simp only [fp_gu, fq_su, true_and, and_true, Nat.reduceEqDiff, false_and, and_false, if_false, if_true, true_or, or_true, false_or, or_false]
      try ((repeat' split) <;> omega)
  case refine_15 =>
    simp only [fp_gu, fq_su, true_and, and_true, Nat.reduceEqDiff, false_and, and_false, if_false, if_true, true_or, or_true, false_or, or_false] at ht
    have ht' : (t : Int) < G 9 3 := by (repeat' split at ht) <;> omega
    obtain ⟨d1, d2, d3⟩ := h5 t ht'
    refine ⟨?_, ?_, ?_⟩
    all_goals
      try simp only [fp_gu, fq_su, true_and, and_true, Nat.reduceEqDiff, false_and, and_false, if_false, if_true, true_or, or_true, false_or, or_false]
      try ((repeat' split) <;> omega)
  all_goals
    try simp only [fp_gu, fq_su, true_and, and_true, Nat.reduceEqDiff, false_and, and_false, if_false, if_true, true_or, or_true, false_or, or_false]
    try ((repeat' split) <;> omega)
theorem fq_R_lrem {b : Nat} {k N : Nat} {G : FpG} {s : Nat → Int} (hR : fq_R b G s) (hB : fq_B G) (hk : (k : Int) < G 9 3) (hN : (N : Int) + 1 = G 9 3) : fq_R b (fp_lrem G k) (fq_sh 3 (b + 128 + 3 * k) (b + 128 + 3 * N) (fq_su s (b + 127) (G 9 3 - 1))) := by
  obtain ⟨⟨a0, a1, a2, a3, a4, a5⟩, ⟨c4, c5, c6, c7, c8, c9⟩, h3, h4, h5⟩ := hR
  obtain ⟨b1, b2, b3⟩ := hB
  refine ⟨⟨?_, ?_, ?_, ?_, ?_, ?_⟩, ⟨?_, ?_, ?_, ?_, ?_, ?_⟩, fun p hp => ?_, fun q hq => ?_, fun t ht => ?_⟩
  case refine_8 =>
    have e5 : (fp_lrem G k) 5 = G 5 := by funext i; simp [fp_lrem]
    have e14 : (fp_lrem G k) 1 4 = G 1 4 := by simp [fp_lrem]
    rw [e5, e14]
    simp only [fq_su, fq_sh]
    (repeat' split) <;> omega
  case refine_13 =>
    simp only [fp_lrem, fq_su, fq_sh, true_and, and_true, Nat.reduceEqDiff, false_and, and_false, if_false, if_true, true_or, or_true, false_or, or_false] at hp
    have hp' : (p : Int) < G 1 4 := by (repeat' split at hp) <;> omega
    obtain ⟨d1, d2, d3, d4⟩ := h3 p hp'
    refine ⟨fun j hj => ?_, ?_, ?_, ?_⟩
    · have := d1 j hj
      try simp only [fp_lrem, fq_su, fq_sh, true_and, and_true, Nat.reduceEqDiff, false_and, and_false, if_false, if_true, true_or, or_true, false_or, or_false]
      (repeat' split) <;> omega
    all_goals
      try simp only [fp_lrem, fq_su, fq_sh, true_and, and_true, Nat.reduceEqDiff, false_and, and_false, if_false, if_true, true_or, or_true, false_or, or_false]
      try ((repeat' split) <;> omega)
  case refine_14 =>
    simp only [fp_lrem, fq_su, fq_sh, true_and, and_true, Nat.reduceEqDiff, false_and, and_false, if_false, if_true, true_or, or_true, false_or, or_false] at hq
    have hq' : (q : Int) < G 6 2 := by (repeat' split at hq) <;> omega
    obtain ⟨d1, d2⟩ := h4 q hq'
    refine ⟨?_, ?_⟩
    all_goals
      try simp only [fp_lrem, fq_su, fq_sh, true_and, and_true, Nat.reduceEqDiff, false_and, and_false, if_false, if_true, true_or, or_true, false_or, or_false]
      try ((repeat' split) <;> omega)
  case refine_15 =>
    simp only [fp_lrem, fq_su, fq_sh, true_and, and_true, Nat.reduceEqDiff, false_and, and_false, if_false, if_true, true_or, or_true, false_or, or_false] at ht
    have ht' : (t : Int) < G 9 3 := by (repeat' split at ht) <;> omega
    have ht2 : (t : Int) + 1 < G 9 3 := by (repeat' split at ht) <;> omega
    obtain ⟨d1, d2, d3⟩ := h5 t ht'
    obtain ⟨f1, f2, f3⟩ := h5 (t + 1) (by omega)
    have f1' := (fq_at (s := s) (show b + 128 + 3 * t + 3 = b + 128 + 3 * (t + 1) by omega)).trans f1
    have f2' := (fq_at (s := s) (show b + 128 + 3 * t + 1 + 3 = b + 128 + 3 * (t + 1) + 1 by omega)).trans f2
    have f3' := (fq_at (s := s) (show b + 128 + 3 * t + 2 + 3 = b + 128 + 3 * (t + 1) + 2 by omega)).trans f3
    refine ⟨?_, ?_, ?_⟩
    all_goals
      try simp only [fp_lrem, fq_su, fq_sh, true_and, and_true, Nat.reduceEqDiff, false_and, and_false, if_false, if_true, true_or, or_true, false_or, or_false]
      try ((repeat' split) <;> omega)
  all_goals
    try simp only [fp_lrem, fq_su, fq_sh, true_and, and_true, Nat.reduceEqDiff, false_and, and_false, if_false, if_true, true_or, or_true, false_or, or_false]
    try ((repeat' split) <;> omega)
theorem fq_R_srem {b : Nat} {k N : Nat} {G : FpG} {s : Nat → Int} (hR : fq_R b G s) (hB : fq_B G) (hk : (k : Int) < G 6 2) (hN : (N : Int) + 1 = G 6 2) : fq_R b (fp_srem G k) (fq_sh 2 (b + 115 + 2 * k) (b + 115 + 2 * N) (fq_su s (b + 114) (G 6 2 - 1))) := by
  obtain ⟨⟨a0, a1, a2, a3, a4, a5⟩, ⟨c4, c5, c6, c7, c8, c9⟩, h3, h4, h5⟩ := hR
  obtain ⟨b1, b2, b3⟩ := hB
  refine ⟨⟨?_, ?_, ?_, ?_, ?_, ?_⟩, ⟨?_, ?_, ?_, ?_, ?_, ?_⟩, fun p hp => ?_, fun q hq => ?_, fun t ht => ?_⟩
  case refine_8 =>
    have e5 : (fp_srem G k) 5 = G 5 := by funext i; simp [fp_srem]
    have e14 : (fp_srem G k) 1 4 = G 1 4 := by simp [fp_srem]
    rw [e5, e14]
    simp only [fq_su, fq_sh]
    (repeat' split) <;> omega
  case refine_13 =>
    simp only [fp_srem, fq_su, fq_sh, true_and, and_true, Nat.reduceEqDiff, false_and, and_false, if_false, if_true, true_or, or_true, false_or, or_false] at hp
    have hp' : (p : Int) < G 1 4 := by (repeat' split at hp) <;> omega
    obtain ⟨d1, d2, d3, d4⟩ := h3 p hp'
    refine ⟨fun j hj => ?_, ?_, ?_, ?_⟩
    · have := d1 j hj
      try simp only [fp_srem, fq_su, fq_sh, true_and, and_true, Nat.reduceEqDiff, false_and, and_false, if_false, if_true, true_or, or_true, false_or, or_false]
      (repeat' split) <;> omega
    all_goals
      try simp only [fp_srem, fq_su, fq_sh, true_and, and_true, Nat.reduceEqDiff, false_and, and_false, if_false, if_true, true_or, or_true, false_or, or_false]
      try ((repeat' split) <;> omega)
  case refine_14 =>
    simp only [fp_srem, fq_su, fq_sh, true_and, and_true, Nat.reduceEqDiff, false_and, and_false, if_false, if_true, true_or, or_true, false_or, or_false] at hq
    have hq' : (q : Int) < G 6 2 := by (repeat' split at hq) <;> omega
    have ht2 : (q : Int) + 1 < G 6 2 := by (repeat' split at hq) <;> omega
    obtain ⟨d1, d2⟩ := h4 q hq'
    obtain ⟨f1, f2⟩ := h4 (q + 1) (by omega)
    have f1' := (fq_at (s := s) (show b + 115 + 2 * q + 2 = b + 115 + 2 * (q + 1) by omega)).trans f1
    have f2' := (fq_at (s := s) (show b + 115 + 2 * q + 1 + 2 = b + 115 + 2 * (q + 1) + 1 by omega)).trans f2
    refine ⟨?_, ?_⟩
    all_goals
      try simp only [fp_srem, fq_su, fq_sh, true_and, and_true, Nat.reduceEqDiff, false_and, and_false, if_false, if_true, true_or, or_true, false_or, or_false]
      try ((repeat' split) <;> omega)
  case refine_15 =>
    simp only [fp_srem, fq_su, fq_sh, true_and, and_true, Nat.reduceEqDiff, false_and, and_false, if_false, if_true, true_or, or_true, false_or, or_false] at ht
    have ht' : (t : Int) < G 9 3 := by (repeat' split at ht) <;> omega
    obtain ⟨d1, d2, d3⟩ := h5 t ht'
    refine ⟨?_, ?_, ?_⟩
    all_goals
      try simp only [fp_srem, fq_su, fq_sh, true_and, and_true, Nat.reduceEqDiff, false_and, and_false, if_false, if_true, true_or, or_true, false_or, or_false]
      try ((repeat' split) <;> omega)
  all_goals
    try simp only [fp_srem, fq_su, fq_sh, true_and, and_true, Nat.reduceEqDiff, false_and, and_false, if_false, if_true, true_or, or_true, false_or, or_false]
    try ((repeat' split) <;> omega)
theorem fq_R_ladd {b : Nat} {N : Nat} {p0 w t0 : Int} {G : FpG} {s : Nat → Int} (hR : fq_R b G s) (hB : fq_B G) (hN : G 9 3 = (N : Int)) (hN12 : N < 12) : fq_R b (fp_ladd G p0 w t0) (fq_su (fq_su (fq_su (fq_su s (b + 128 + 3 * N) p0) (b + 128 + 3 * N + 1) w) (b + 128 + 3 * N + 2) t0) (b + 127) (G 9 3 + 1)) := by
  obtain ⟨⟨a0, a1, a2, a3, a4, a5⟩, ⟨c4, c5, c6, c7, c8, c9⟩, h3, h4, h5⟩ := hR
  obtain ⟨b1, b2, b3⟩ := hB
  refine ⟨⟨?_, ?_, ?_, ?_, ?_, ?_⟩, ⟨?_, ?_, ?_, ?_, ?_, ?_⟩, fun p hp => ?_, fun q hq => ?_, fun t ht => ?_⟩
  case refine_8 =>
    have e5 : (fp_ladd G p0 w t0) 5 = G 5 := by funext i; simp [fp_ladd]
    have e14 : (fp_ladd G p0 w t0) 1 4 = G 1 4 := by simp [fp_ladd]
    rw [e5, e14]
    simp only [fq_su, fq_sh]
    (repeat' split) <;> omega
  case refine_13 =>
    simp only [fp_ladd, fq_su, true_and, and_true, Nat.reduceEqDiff, false_and, and_false, if_false, if_true, true_or, or_true, false_or, or_false] at hp
    have hp' : (p : Int) < G 1 4 := by (repeat' split at hp) <;> omega
    obtain ⟨d1, d2, d3, d4⟩ := h3 p hp'
    refine ⟨fun j hj => ?_, ?_, ?_, ?_⟩
    · have := d1 j hj
      try simp only [fp_ladd, fq_su, true_and, and_true, Nat.reduceEqDiff, false_and, and_false, if_false, if_true, true_or, or_true, false_or, or_false]
      (repeat' split) <;> omega
    all_goals
      try simp only [fp_ladd, fq_su, true_and, and_true, Nat.reduceEqDiff, false_and, and_false, if_false, if_true, true_or, or_true, false_or, or_false]
      try ((repeat' split) <;> omega)
  case refine_14 =>
    simp only [fp_ladd, fq_su, true_and, and_true, Nat.reduceEqDiff, false_and, and_false, if_false, if_true, true_or, or_true, false_or, or_false] at hq
    have hq' : (q : Int) < G 6 2 := by (repeat' split at hq) <;> omega
    obtain ⟨d1, d2⟩ := h4 q hq'
    refine ⟨?_, ?_⟩
    all_goals
      try simp only [fp_ladd, fq_su, true_and, and_true, Nat.reduceEqDiff, false_and, and_false, if_false, if_true, true_or, or_true, false_or, or_false]
      try ((repeat' split) <;> omega)
  case refine_15 =>
    simp only [fp_ladd, fq_su, true_and, and_true, Nat.reduceEqDiff, false_and, and_false, if_false, if_true, true_or, or_true, false_or, or_false] at ht
    have ht' : (t : Int) < G 9 3 + 1 := by (repeat' split at ht) <;> omega
    have hd : t ≠ N → s (b + 128 + 3 * t) = G 10 t ∧ s (b + 128 + 3 * t + 1) = G 11 t ∧ s (b + 128 + 3 * t + 2) = G 12 t := fun h => h5 t (by omega)
    refine ⟨?_, ?_, ?_⟩
    all_goals
      try simp only [fp_ladd, fq_su, true_and, and_true, Nat.reduceEqDiff, false_and, and_false, if_false, if_true, true_or, or_true, false_or, or_false]
      try ((repeat' split) <;> omega)
  all_goals
    try simp only [fp_ladd, fq_su, true_and, and_true, Nat.reduceEqDiff, false_and, and_false, if_false, if_true, true_or, or_true, false_or, or_false]
    try ((repeat' split) <;> omega)
theorem fq_R_sadd {b : Nat} {N : Nat} {l0 t0 : Int} {G : FpG} {s : Nat → Int} (hR : fq_R b G s) (hB : fq_B G) (hN : G 6 2 = (N : Int)) (hN6 : N < 6) : fq_R b (fp_sadd G l0 t0) (fq_su (fq_su (fq_su s (b + 115 + 2 * N) l0) (b + 115 + 2 * N + 1) t0) (b + 114) (G 6 2 + 1)) := by
  obtain ⟨⟨a0, a1, a2, a3, a4, a5⟩, ⟨c4, c5, c6, c7, c8, c9⟩, h3, h4, h5⟩ := hR
  obtain ⟨b1, b2, b3⟩ := hB
  refine ⟨⟨?_, ?_, ?_, ?_, ?_, ?_⟩, ⟨?_, ?_, ?_, ?_, ?_, ?_⟩, fun p hp => ?_, fun q hq => ?_, fun t ht => ?_⟩
  case refine_8 =>
    have e5 : (fp_sadd G l0 t0) 5 = G 5 := by funext i; simp [fp_sadd]
    have e14 : (fp_sadd G l0 t0) 1 4 = G 1 4 := by simp [fp_sadd]
    rw [e5, e14]
    simp only [fq_su, fq_sh]
    (repeat' split) <;> omega
  case refine_13 =>
    simp only [fp_sadd, fq_su, true_and, and_true, Nat.reduceEqDiff, false_and, and_false, if_false, if_true, true_or, or_true, false_or, or_false] at hp
    have hp' : (p : Int) < G 1 4 := by (repeat' split at hp) <;> omega
    obtain ⟨d1, d2, d3, d4⟩ := h3 p hp'
    refine ⟨fun j hj => ?_, ?_, ?_, ?_⟩
    · have := d1 j hj
      try simp only [fp_sadd, fq_su, true_and, and_true, Nat.reduceEqDiff, false_and, and_false, if_false, if_true, true_or, or_true, false_or, or_false]
      (repeat' split) <;> omega
    all_goals
      try simp only [fp_sadd, fq_su, true_and, and_true, Nat.reduceEqDiff, false_and, and_false, if_false, if_true, true_or, or_true, false_or, or_false]
      try ((repeat' split) <;> omega)
  case refine_14 =>
    simp only [fp_sadd, fq_su, true_and, and_true, Nat.reduceEqDiff, false_and, and_false, if_false, if_true, true_or, or_true, false_or, or_false] at hq
    have hq' : (q : Int) < G 6 2 + 1 := by (repeat' split at hq) <;> omega
    have hd : q ≠ N → s (b + 115 + 2 * q) = G 7 q ∧ s (b + 115 + 2 * q + 1) = G 8 q := fun h => h4 q (by omega)
    refine ⟨?_, ?_⟩
    all_goals
      try simp only [fp_sadd, fq_su, true_and, and_true, Nat.reduceEqDiff, false_and, and_false, if_false, if_true, true_or, or_true, false_or, or_false]
      try ((repeat' split) <;> omega)
  case refine_15 =>
    simp only [fp_sadd, fq_su, true_and, and_true, Nat.reduceEqDiff, false_and, and_false, if_false, if_true, true_or, or_true, false_or, or_false] at ht
    have ht' : (t : Int) < G 9 3 := by (repeat' split at ht) <;> omega
    obtain ⟨d1, d2, d3⟩ := h5 t ht'
    refine ⟨?_, ?_, ?_⟩
    all_goals
      try simp only [fp_sadd, fq_su, true_and, and_true, Nat.reduceEqDiff, false_and, and_false, if_false, if_true, true_or, or_true, false_or, or_false]
      try ((repeat' split) <;> omega)
  all_goals
    try simp only [fp_sadd, fq_su, true_and, and_true, Nat.reduceEqDiff, false_and, and_false, if_false, if_true, true_or, or_true, false_or, or_false]
    try ((repeat' split) <;> omega)
theorem fq_R_g2 {b : Nat} {k j : Nat} {v : Int} {G : FpG} {s : Nat → Int} (hR : fq_R b G s) (hB : fq_B G) (hk : (k : Int) < G 1 4) (hj : j < 8) : fq_R b (fp_gu G 2 (8 * k + j) v) (fq_su s (b + 4 + 11 * k + j) v) := by
  obtain ⟨⟨a0, a1, a2, a3, a4, a5⟩, ⟨c4, c5, c6, c7, c8, c9⟩, h3, h4, h5⟩ := hR
  obtain ⟨b1, b2, b3⟩ := hB
  refine ⟨⟨?_, ?_, ?_, ?_, ?_, ?_⟩, ⟨?_, ?_, ?_, ?_, ?_, ?_⟩, fun p hp => ?_, fun q hq => ?_, fun t ht => ?_⟩
  case refine_8 =>
    have e5 : (fp_gu G 2 (8 * k + j) v) 5 = G 5 := by funext i; simp [fp_gu]
    have e14 : (fp_gu G 2 (8 * k + j) v) 1 4 = G 1 4 := by simp [fp_gu]
    rw [e5, e14]
    simp only [fq_su]
    (repeat' split) <;> omega
  case refine_13 =>
    simp only [fp_gu, fq_su, true_and, and_true, Nat.reduceEqDiff, false_and, and_false, if_false, if_true, true_or, or_true, false_or, or_false] at hp
    have hp' : (p : Int) < G 1 4 := by (repeat' split at hp) <;> omega
    obtain ⟨d1, d2, d3, d4⟩ := h3 p hp'
    refine ⟨fun j hj => ?_, ?_, ?_, ?_⟩
    · have := d1 j hj
      try simp only [fp_gu, fq_su, true_and, and_true, Nat.reduceEqDiff, false_and, and_false, if_false, if_true, true_or, or_true, false_or, or_false]
      (repeat' split) <;> omega
    all_goals
      try simp only [fp_gu, fq_su, true_and, and_true, Nat.reduceEqDiff, false_and, and_false, if_false, if_true, true_or, or_true, false_or, or_false]
      try ((repeat' split) <;> omega)
  case refine_14 =>
    simp only [fp_gu, fq_su, true_and, and_true, Nat.reduceEqDiff, false_and, and_false, if_false, if_true, true_or, or_true, false_or, or_false] at hq
    have hq' : (q : Int) < G 6 2 := by (repeat' split at hq) <;> omega
    obtain ⟨d1, d2⟩ := h4 q hq'
    refine ⟨?_, ?_⟩
    all_goals
      try simp only [fp_gu, fq_su, true_and, and_true, Nat.reduceEqDiff, false_and, and_false, if_false, if_true, true_or, or_true, false_or, or_false]
      try ((repeat' split) <;> omega)
  case refine_15 =>
    simp only [fp_gu, fq_su, true_and, and_true, Nat.reduceEqDiff, false_and, and_false, if_false, if_true, true_or, or_true, false_or, or_false] at ht
    have ht' : (t : Int) < G 9 3 := by (repeat' split at ht) <;> omega
    obtain ⟨d1, d2, d3⟩ := h5 t ht'
    refine ⟨?_, ?_, ?_⟩
    all_goals
      try simp only [fp_gu, fq_su, true_and, and_true, Nat.reduceEqDiff, false_and, and_false, if_false, if_true, true_or, or_true, false_or, or_false]
      try ((repeat' split) <;> omega)
  all_goals
    try simp only [fp_gu, fq_su, true_and, and_true, Nat.reduceEqDiff, false_and, and_false, if_false, if_true, true_or, or_true, false_or, or_false]
    try ((repeat' split) <;> omega)
theorem fq_R_padd {b N : Nat} {f : Nat → Int} {G : FpG} {s s' : Nat → Int} (hR : fq_R b G s) (hB : fq_B G) (hN : G 1 4 = (N : Int)) (hN10 : N < 10) (hz : G 3 N = 0 ∧ G 4 N = 0 ∧ G 5 N = 0)
    (hs : ∀ i, i < b + 4 + 11 * N ∨ b + 4 + 11 * N + 11 ≤ i → i ≠ b + 3 → s' i = s i) (hw : ∀ j, j < 8 → s' (b + 4 + 11 * N + j) = f j) (h8 : s' (b + 4 + 11 * N + 8) = 0 ∧ s' (b + 4 + 11 * N + 9) = 0 ∧ s' (b + 4 + 11 * N + 10) = 0) (hc : s' (b + 3) = G 1 4 + 1) : fq_R b (fp_padd G f) s' := by
  obtain ⟨⟨a0, a1, a2, a3, a4, a5⟩, ⟨c4, c5, c6, c7, c8, c9⟩, h3, h4, h5⟩ := hR
  obtain ⟨b1, b2, b3⟩ := hB
  have e14 : fp_padd G f 1 4 = G 1 4 + 1 := by simp [fp_padd]
  have eo : ∀ c i, (c == 1) = false → (c == 2) = false → fp_padd G f c i = G c i := fun c i h1 h2 => fp_padd_o h1 h2
  refine ⟨⟨?_, ?_, ?_, ?_, ?_, ?_⟩, ⟨?_, ?_, ?_, ?_, ?_, ?_⟩, fun p hp => ?_, fun q hq => ?_, fun t ht => ?_⟩
  case refine_4 => rw [hc, e14]
  case refine_8 =>
    have e5 : fp_padd G f 5 = G 5 := by funext i; exact eo 5 i rfl rfl
    rw [e5, e14, show (G 1 4 + 1).toNat = (G 1 4).toNat + 1 by omega, hs _ (by omega) (by omega), c5]
    simp only [fp_sm]
    rw [show (G 1 4).toNat = N by omega, hz.2.2]
    omega
  case refine_13 =>
    rw [e14] at hp
    rw [eo 3 p rfl rfl, eo 4 p rfl rfl, eo 5 p rfl rfl]
    by_cases e : p = N
    · subst e
      refine ⟨fun j hj => ?_, by omega, by omega, by omega⟩
      rw [hw j hj]
      unfold fp_padd
      rw [if_neg (by omega), if_pos (by omega)]
      exact fq_at (by omega)
    · obtain ⟨d1, d2, d3, d4⟩ := h3 p (by omega)
      refine ⟨fun j hj => ?_, ?_, ?_, ?_⟩
      · rw [hs _ (by omega) (by omega), d1 j hj]
        unfold fp_padd
        rw [if_neg (by omega), if_neg (by omega)]
      · rw [hs _ (by omega) (by omega), d2]
      · rw [hs _ (by omega) (by omega), d3]
      · rw [hs _ (by omega) (by omega), d4]
  case refine_14 =>
    rw [eo 6 2 rfl rfl] at hq
    rw [eo 7 q rfl rfl, eo 8 q rfl rfl]
    rw [hs _ (by omega) (by omega), hs _ (by omega) (by omega)]
    exact h4 q hq
  case refine_15 =>
    rw [eo 9 3 rfl rfl] at ht
    rw [eo 10 t rfl rfl, eo 11 t rfl rfl, eo 12 t rfl rfl]
    rw [hs _ (by omega) (by omega), hs _ (by omega) (by omega), hs _ (by omega) (by omega)]
    exact h5 t ht
  all_goals
    rw [hs _ (by omega) (by omega), eo _ _ rfl rfl]
    assumption
/-- nothing but a slot changes -/
def fq_fr (b : Nat) (s s' : Nat → Int) : Prop := ∀ i, i < b ∨ b + 170 ≤ i → s' i = s i
theorem fq_fr_r {b : Nat} {s : Nat → Int} : fq_fr b s s := fun _ _ => rfl
theorem fq_fr_t {b : Nat} {s s' s'' : Nat → Int} (h : fq_fr b s s') (h2 : fq_fr b s' s'') : fq_fr b s s'' := fun i hi => (h2 i hi).trans (h i hi)
theorem fq_fr_u {b i : Nat} {v : Int} {s s' : Nat → Int} (h : fq_fr b s s') (hi : b ≤ i ∧ i < b + 170) : fq_fr b s (fq_su s' i v) := fun j hj => by
  simp only [fq_su]
  rw [if_neg (by omega)]
  exact h j hj
theorem fq_fr_sh {b a lo k : Nat} {s s' : Nat → Int} (h : fq_fr b s s') (hi : b ≤ lo ∧ k ≤ b + 170) : fq_fr b s (fq_sh a lo k s') := fun j hj => by
  rw [fq_sh_o (by omega)]
  exact h j hj

