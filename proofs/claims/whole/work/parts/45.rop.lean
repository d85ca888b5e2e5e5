/-! how a state that the model keeps changes -/
def fq_sh (a lo k : Nat) (s : Nat → Int) : Nat → Int := fun i => if lo ≤ i ∧ i < k then s (i + a) else s i
theorem fq_sh_o {a lo k i : Nat} {s : Nat → Int} (h : i < lo ∨ k ≤ i) : fq_sh a lo k s i = s i := by
  unfold fq_sh; rw [if_neg (by omega)]
theorem fq_sh_0 {a lo : Nat} {s : Nat → Int} : fq_sh a lo lo s = s := by
  funext i; exact fq_sh_o (by omega)
theorem fq_sh_s {a lo k : Nat} {s : Nat → Int} (h : lo ≤ k) (ha : 0 < a) : fq_su (fq_sh a lo k s) k (fq_sh a lo k s (k + a)) = fq_sh a lo (k + 1) s := by
  funext i
  rw [fq_sh_o (i := k + a) (by omega)]
  simp only [fq_su, fq_sh]
  by_cases e : i = k
  · subst e; rw [if_pos rfl, if_pos (by omega)]
  · rw [if_neg e]
    by_cases e2 : lo ≤ i ∧ i < k
    · rw [if_pos e2, if_pos (by omega)]
    · rw [if_neg e2, if_neg (by omega)]
theorem fp_sm_u {f : Nat → Int} {k : Nat} {v : Int} : ∀ n : Nat, k < n → fp_sm (fun i => if i = k then v else f i) n = fp_sm f n + (v - f k)
  | 0, h => by omega
  | n + 1, h => by
    simp only [fp_sm]
    by_cases e : n = k
    · subst e
      rw [if_pos rfl, fp_sm_c (f := fun i => if i = n then v else f i) (f' := f) n (fun i hi => if_neg (by omega))]
      omega
    · rw [fp_sm_u n (by omega), if_neg e]
      omega
def fq_B (G : FpG) : Prop := (0 ≤ G 1 4 ∧ G 1 4 ≤ 10) ∧ (0 ≤ G 6 2 ∧ G 6 2 ≤ 6) ∧ (0 ≤ G 9 3 ∧ G 9 3 ≤ 12)
theorem fq_I_B {n : Int} {G : FpG} (h : fq_I n G) : fq_B G := ⟨h.1.1, h.1.2.1, h.1.2.2.1⟩

theorem fq_R_g3 {b : Nat} {k : Nat} {v : Int} {G : FpG} {s : Nat → Int} (hR : fq_R b G s) (hB : fq_B G) (hk : (k : Int) < G 1 4) : fq_R b (fp_gu G 3 k v) (fq_su s (b + 4 + 11 * k + 8) v) := by
  obtain ⟨⟨a0, a1, a2, a3, a4, a5⟩, ⟨c4, c5, c6, c7, c8, c9⟩, h3, h4, h5⟩ := hR
  obtain ⟨b1, b2, b3⟩ := hB
  refine ⟨⟨?_, ?_, ?_, ?_, ?_, ?_⟩, ⟨?_, ?_, ?_, ?_, ?_, ?_⟩, fun p hp => ?_, fun q hq => ?_, fun t ht => ?_⟩
  case refine_8 =>
    have e5 : (fp_gu G 3 k v) 5 = G 5 := by funext i; simp [fp_gu]
    have e14 : (fp_gu G 3 k v) 1 4 = G 1 4 := by simp [fp_gu]
    rw [e5, e14]
    simp only [fq_su]
    (repeat' split) <;> omega
  case refine_13 =>
    simp only [fp_gu, fq_su, true_and, and_true, Nat.reduceEqDiff, false_and, and_false, if_false, if_true, true_or, or_true, false_or, or_false] at hp
    have hp' : (p : Int) < G 1 4 := by (repeat' split at hp) <;> omega
    obtain ⟨d1, d2, d3, d4⟩ := h3 p hp'
    refine ⟨fun j hj => ?_, ?_, ?_, ?_⟩
    · have := d1 j hj
      try simp only [fp_gu, fq_su, true_and, and_true, Nat.reduceEqDiff, false_and, and_false, if_false, if_true, true_or, or_true, false_or, or_false]
      (repeat' split) <;> omega
    all_goals
      try simp only [fp_gu, fq_su, true_and, and_true, Nat.reduceEqDiff, false_and, and_false, if_false, if_true, true_or, or_true, false_or, or_false]
      try ((repeat' split) <;> omega)
  case refine_14 =>
    simp only [fp_gu, fq_su, true_and, and_true, Nat.reduceEqDiff, false_and, and_false, if_false, if_true, true_or, or_true, false_or, or_false] at hq
    have hq' : (q : Int) < G 6 2 := by (repeat' split at hq) <;> omega
    obtain ⟨d1, d2⟩ := h4 q hq'
    refine ⟨?_, ?_⟩
    all_goals
      try simp only [fp_gu, fq_su, true_and, and_true, Nat.reduceEqDiff, false_and, and_false, if_false, if_true, true_or, or_true, false_or, or_false]
      try ((repeat' split) <;> omega)
  case refine_15 =>
    simp only [fp_gu, fq_su, true_and, and_true, Nat.reduceEqDiff, false_and, and_false, if_false, if_true, true_or, or_true, false_or, or_false] at ht
    have ht' : (t : Int) < G 9 3 := by (repeat' split at ht) <;> omega
    obtain ⟨d1, d2, d3⟩ := h5 t ht'
    refine ⟨?_, ?_, ?_⟩
    all_goals
      try simp only [fp_gu, fq_su, true_and, and_true, Nat.reduceEqDiff, false_and, and_false, if_false, if_true, true_or, or_true, false_or, or_false]
      try ((repeat' split) <;> omega)
  all_goals
    try simp only [fp_gu, fq_su, true_and, and_true, Nat.reduceEqDiff, false_and, and_false, if_false, if_true, true_or, or_true, false_or, or_false]
    try ((repeat' split) <;> omega)
theorem fq_R_g4 {b : Nat} {k : Nat} {v : Int} {G : FpG} {s : Nat → Int} (hR : fq_R b G s) (hB : fq_B G) (hk : (k : Int) < G 1 4) : fq_R b (fp_gu G 4 k v) (fq_su s (b + 4 + 11 * k + 9) v) := by
  obtain ⟨⟨a0, a1, a2, a3, a4, a5⟩, ⟨c4, c5, c6, c7, c8, c9⟩, h3, h4, h5⟩ := hR
  obtain ⟨b1, b2, b3⟩ := hB
  refine ⟨⟨?_, ?_, ?_, ?_, ?_, ?_⟩, ⟨?_, ?_, ?_, ?_, ?_, ?_⟩, fun p hp => ?_, fun q hq => ?_, fun t ht => ?_⟩
  case refine_8 =>
    have e5 : (fp_gu G 4 k v) 5 = G 5 := by funext i; simp [fp_gu]
    have e14 : (fp_gu G 4 k v) 1 4 = G 1 4 := by simp [fp_gu]
    rw [e5, e14]
    simp only [fq_su]
    (repeat' split) <;> omega
  case refine_13 =>
    simp only [fp_gu, fq_su, true_and, and_true, Nat.reduceEqDiff, false_and, and_false, if_false, if_true, true_or, or_true, false_or, or_false] at hp
    have hp' : (p : Int) < G 1 4 := by (repeat' split at hp) <;> omega
    obtain ⟨d1, d2, d3, d4⟩ := h3 p hp'
    refine ⟨fun j hj => ?_, ?_, ?_, ?_⟩
    · have := d1 j hj
      try simp only [fp_gu, fq_su, true_and, and_true, Nat.reduceEqDiff, false_and, and_false, if_false, if_true, true_or, or_true, false_or, or_false]
      (repeat' split) <;> omega
    all_goals
      try simp only [fp_gu, fq_su, true_and, and_true, Nat.reduceEqDiff, false_and, and_false, if_false, if_true, true_or, or_true, false_or, or_false]
      try ((repeat' split) <;> omega)
  case refine_14 =>
    simp only [fp_gu, fq_su, true_and, and_true, Nat.reduceEqDiff, false_and, and_false, if_false, if_true, true_or, or_true, false_or, or_false] at hq
    have hq' : (q : Int) < G 6 2 := by (repeat' split at hq) <;> omega
    obtain ⟨d1, d2⟩ := h4 q hq'
    refine ⟨?_, ?_⟩
    all_goals
      try simp only [fp_gu, fq_su, true_and, and_true, Nat.reduceEqDiff, false_and, and_false, if_false, if_true, true_or, or_true, false_or, or_false]
      try ((repeat' split) <;> omega)
  case refine_15 =>
    simp only [fp_gu, fq_su, true_and, and_true, Nat.reduceEqDiff, false_and, and_false, if_false, if_true, true_or, or_true, false_or, or_false] at ht
    have ht' : (t : Int) < G 9 3 := by (repeat' split at ht) <;> omega
    obtain ⟨d1, d2, d3⟩ := h5 t ht'
    refine ⟨?_, ?_, ?_⟩
    all_goals
      try simp only [fp_gu, fq_su, true_and, and_true, Nat.reduceEqDiff, false_and, and_false, if_false, if_true, true_or, or_true, false_or, or_false]
      try ((repeat' split) <;> omega)
  all_goals
    try simp only [fp_gu, fq_su, true_and, and_true, Nat.reduceEqDiff, false_and, and_false, if_false, if_true, true_or, or_true, false_or, or_false]
    try ((repeat' split) <;> omega)
theorem fq_R_g04 {b : Nat} {v : Int} {G : FpG} {s : Nat → Int} (hR : fq_R b G s) (hB : fq_B G)  : fq_R b (fp_gu G 0 4 v) (fq_su s (b + 168) v) := by
  obtain ⟨⟨a0, a1, a2, a3, a4, a5⟩, ⟨c4, c5, c6, c7, c8, c9⟩, h3, h4, h5⟩ := hR
  obtain ⟨b1, b2, b3⟩ := hB
  refine ⟨⟨?_, ?_, ?_, ?_, ?_, ?_⟩, ⟨?_, ?_, ?_, ?_, ?_, ?_⟩, fun p hp => ?_, fun q hq => ?_, fun t ht => ?_⟩
  case refine_8 =>
    have e5 : (fp_gu G 0 4 v) 5 = G 5 := by funext i; simp [fp_gu]
    have e14 : (fp_gu G 0 4 v) 1 4 = G 1 4 := by simp [fp_gu]
    rw [e5, e14]
    simp only [fq_su]
    (repeat' split) <;> omega
  case refine_13 =>
    simp only [fp_gu, fq_su, true_and, and_true, Nat.reduceEqDiff, false_and, and_false, if_false, if_true, true_or, or_true, false_or, or_false] at hp
    have hp' : (p : Int) < G 1 4 := by (repeat' split at hp) <;> omega
    obtain ⟨d1, d2, d3, d4⟩ := h3 p hp'
    refine ⟨fun j hj => ?_, ?_, ?_, ?_⟩
    · have := d1 j hj
      try simp only [fp_gu, fq_su, true_and, and_true, Nat.reduceEqDiff, false_and, and_false, if_false, if_true, true_or, or_true, false_or, or_false]
      (repeat' split) <;> omega
    all_goals
      try simp only [fp_gu, fq_su, true_and, and_true, Nat.reduceEqDiff, false_and, and_false, if_false, if_true, true_or, or_true, false_or, or_false]
      try ((repeat' split) <;> omega)
  case refine_14 =>
    simp only [fp_gu, fq_su, true_and, and_true, Nat.reduceEqDiff, false_and, and_false, if_false, if_true, true_or, or_true, false_or, or_false] at hq
    have hq' : (q : Int) < G 6 2 := by (repeat' split at hq) <;> omega
    obtain ⟨d1, d2⟩ := h4 q hq'
    refine ⟨?_, ?_⟩
    all_goals
      try simp only [fp_gu, fq_su, true_and, and_true, Nat.reduceEqDiff, false_and, and_false, if_false, if_true, true_or, or_true, false_or, or_false]
      try ((repeat' split) <;> omega)
  case refine_15 =>
    simp only [fp_gu, fq_su, true_and, and_true, Nat.reduceEqDiff, false_and, and_false, if_false, if_true, true_or, or_true, false_or, or_false] at ht
    have ht' : (t : Int) < G 9 3 := by (repeat' split at ht) <;> omega
    obtain ⟨d1, d2, d3⟩ := h5 t ht'
    refine ⟨?_, ?_, ?_⟩
    all_goals
      try simp only [fp_gu, fq_su, true_and, and_true, Nat.reduceEqDiff, false_and, and_false, if_false, if_true, true_or, or_true, false_or, or_false]
      try ((repeat' split) <;> omega)
  all_goals
    try simp only [fp_gu, fq_su, true_and, and_true, Nat.reduceEqDiff, false_and, and_false, if_false, if_true, true_or, or_true, false_or, or_false]
    try ((repeat' split) <;> omega)
theorem fq_R_g05 {b : Nat} {v : Int} {G : FpG} {s : Nat → Int} (hR : fq_R b G s) (hB : fq_B G)  : fq_R b (fp_gu G 0 5 v) (fq_su s (b + 164) v) := by
  obtain ⟨⟨a0, a1, a2, a3, a4, a5⟩, ⟨c4, c5, c6, c7, c8, c9⟩, h3, h4, h5⟩ := hR
  obtain ⟨b1, b2, b3⟩ := hB
  refine ⟨⟨?_, ?_, ?_, ?_, ?_, ?_⟩, ⟨?_, ?_, ?_, ?_, ?_, ?_⟩, fun p hp => ?_, fun q hq => ?_, fun t ht => ?_⟩
  case refine_8 =>
    have e5 : (fp_gu G 0 5 v) 5 = G 5 := by funext i; simp [fp_gu]
    have e14 : (fp_gu G 0 5 v) 1 4 = G 1 4 := by simp [fp_gu]
    rw [e5, e14]
    simp only [fq_su]
    (repeat' split) <;> omega
  case refine_13 =>
    simp only [fp_gu, fq_su, true_and, and_true, Nat.reduceEqDiff, false_and, and_false, if_false, if_true, true_or, or_true, false_or, or_false] at hp
    have hp' : (p : Int) < G 1 4 := by (repeat' split at hp) <;> omega
    obtain ⟨d1, d2, d3, d4⟩ := h3 p hp'
    refine ⟨fun j hj => ?_, ?_, ?_, ?_⟩
    · have := d1 j hj
      try simp only [fp_gu, fq_su, true_and, and_true, Nat.reduceEqDiff, false_and, and_false, if_false, if_true, true_or, or_true, false_or, or_false]
      (repeat' split) <;> omega
    all_goals
      try simp only [fp_gu, fq_su, true_and, and_true, Nat.reduceEqDiff, false_and, and_false, if_false, if_true, true_or, or_true, false_or, or_false]
      try ((repeat' split) <;> omega)
  case refine_14 =>
    simp only [fp_gu, fq_su, true_and, and_true, Nat.reduceEqDiff, false_and, and_false, if_false, if_true, true_or, or_true, false_or, or_false] at hq
    have hq' : (q : Int) < G 6 2 := by (repeat' split at hq) <;> omega
    obtain ⟨d1, d2⟩ := h4 q hq'
    refine ⟨?_, ?_⟩
    all_goals
      try simp only [fp_gu, fq_su, true_and, and_true, Nat.reduceEqDiff, false_and, and_false, if_false, if_true, true_or, or_true, false_or, or_false]
      try ((repeat' split) <;> omega)
  case refine_15 =>
    simp only [fp_gu, fq_su, true_and, and_true, Nat.reduceEqDiff, false_and, and_false, if_false, if_true, true_or, or_true, false_or, or_false] at ht
    have ht' : (t : Int) < G 9 3 := by (repeat' split at ht) <;> omega
    obtain ⟨d1, d2, d3⟩ := h5 t ht'
    refine ⟨?_, ?_, ?_⟩
    all_goals
      try simp only [fp_gu, fq_su, true_and, and_true, Nat.reduceEqDiff, false_and, and_false, if_false, if_true, true_or, or_true, false_or, or_false]
      try ((repeat' split) <;> omega)
  all_goals
    try simp only [fp_gu, fq_su, true_and, and_true, Nat.reduceEqDiff, false_and, and_false, if_false, if_true, true_or, or_true, false_or, or_false]
    try ((repeat' split) <;> omega)
theorem fq_R_g06 {b : Nat} {v : Int} {G : FpG} {s : Nat → Int} (hR : fq_R b G s) (hB : fq_B G)  : fq_R b (fp_gu G 0 6 v) (fq_su s (b + 166) v) := by
  obtain ⟨⟨a0, a1, a2, a3, a4, a5⟩, ⟨c4, c5, c6, c7, c8, c9⟩, h3, h4, h5⟩ := hR
  obtain ⟨b1, b2, b3⟩ := hB
  refine ⟨⟨?_, ?_, ?_, ?_, ?_, ?_⟩, ⟨?_, ?_, ?_, ?_, ?_, ?_⟩, fun p hp => ?_, fun q hq => ?_, fun t ht => ?_⟩
  case refine_8 =>
    have e5 : (fp_gu G 0 6 v) 5 = G 5 := by funext i; simp [fp_gu]
    have e14 : (fp_gu G 0 6 v) 1 4 = G 1 4 := by simp [fp_gu]
    rw [e5, e14]
    simp only [fq_su]
    (repeat' split) <;> omega
  case refine_13 =>
    simp only [fp_gu, fq_su, true_and, and_true, Nat.reduceEqDiff, false_and, and_false, if_false, if_true, true_or, or_true, false_or, or_false] at hp
    have hp' : (p : Int) < G 1 4 := by (repeat' split at hp) <;> omega
    obtain ⟨d1, d2, d3, d4⟩ := h3 p hp'
    refine ⟨fun j hj => ?_, ?_, ?_, ?_⟩
    · have := d1 j hj
      try simp only [fp_gu, fq_su, true_and, and_true, Nat.reduceEqDiff, false_and, and_false, if_false, if_true, true_or, or_true, false_or, or_false]
      (repeat' split) <;> omega
    all_goals
      try simp only [fp_gu, fq_su, true_and, and_true, Nat.reduceEqDiff, false_and, and_false, if_false, if_true, true_or, or_true, false_or, or_false]
      try ((repeat' split) <;> omega)
  case refine_14 =>
    simp only [fp_gu, fq_su, true_and, and_true, Nat.reduceEqDiff, false_and, and_false, if_false, if_true, true_or, or_true, false_or, or_false] at hq
    have hq' : (q : Int) < G 6 2 := by (repeat' split at hq) <;> omega
    obtain ⟨d1, d2⟩ := h4 q hq'
    refine ⟨?_, ?_⟩
    all_goals
      try simp only [fp_gu, fq_su, true_and, and_true, Nat.reduceEqDiff, false_and, and_false, if_false, if_true, true_or, or_true, false_or, or_false]
      try ((repeat' split) <;> omega)
  case refine_15 =>
    simp only [fp_gu, fq_su, true_and, and_true, Nat.reduceEqDiff, false_and, and_false, if_false, if_true, true_or, or_true, false_or, or_false] at ht
    have ht' : (t : Int) < G 9 3 := by (repeat' split at ht) <;> omega
    obtain ⟨d1, d2, d3⟩ := h5 t ht'
    refine ⟨?_, ?_, ?_⟩
    all_goals
      try simp only [fp_gu, fq_su, true_and, and_true, Nat.reduceEqDiff, false_and, and_false, if_false, if_true, true_or, or_true, false_or, or_false]
      try ((repeat' split) <;> omega)
  all_goals
    try simp only [fp_gu, fq_su, true_and, and_true, Nat.reduceEqDiff, false_and, and_false, if_false, if_true, true_or, or_true, false_or, or_false]
    try ((repeat' split) <;> omega)
theorem fq_R_g07 {b : Nat} {v : Int} {G : FpG} {s : Nat → Int} (hR : fq_R b G s) (hB : fq_B G)  : fq_R b (fp_gu G 0 7 v) (fq_su s (b + 167) v) := by
  obtain ⟨⟨a0, a1, a2, a3, a4, a5⟩, ⟨c4, c5, c6, c7, c8, c9⟩, h3, h4, h5⟩ := hR
  obtain ⟨b1, b2, b3⟩ := hB
  refine ⟨⟨?_, ?_, ?_, ?_, ?_, ?_⟩, ⟨?_, ?_, ?_, ?_, ?_, ?_⟩, fun p hp => ?_, fun q hq => ?_, fun t ht => ?_⟩
  case refine_8 =>
    have e5 : (fp_gu G 0 7 v) 5 = G 5 := by funext i; simp [fp_gu]
    have e14 : (fp_gu G 0 7 v) 1 4 = G 1 4 := by simp [fp_gu]
    rw [e5, e14]
    simp only [fq_su]
    (repeat' split) <;> omega
  case refine_13 =>
    simp only [fp_gu, fq_su, true_and, and_true, Nat.reduceEqDiff, false_and, and_false, if_false, if_true, true_or, or_true, false_or, or_false] at hp
    have hp' : (p : Int) < G 1 4 := by (repeat' split at hp) <;> omega
    obtain ⟨d1, d2, d3, d4⟩ := h3 p hp'
    refine ⟨fun j hj => ?_, ?_, ?_, ?_⟩
    · have := d1 j hj
      try simp only [fp_gu, fq_su, true_and, and_true, Nat.reduceEqDiff, false_and, and_false, if_false, if_true, true_or, or_true, false_or, or_false]
      (repeat' split) <;> omega
    all_goals
      try simp only [fp_gu, fq_su, true_and, and_true, Nat.reduceEqDiff, false_and, and_false, if_false, if_true, true_or, or_true, false_or, or_false]
      try ((repeat' split) <;> omega)
  case refine_14 =>
    simp only [fp_gu, fq_su, true_and, and_true, Nat.reduceEqDiff, false_and, and_false, if_false, if_true, true_or, or_true, false_or, or_false] at hq
    have hq' : (q : Int) < G 6 2 := by (repeat' split at hq) <;> omega
    obtain ⟨d1, d2⟩ := h4 q hq'
    refine ⟨?_, ?_⟩
    all_goals
      try simp only [fp_gu, fq_su, true_and, and_true, Nat.reduceEqDiff, false_and, and_false, if_false, if_true, true_or, or_true, false_or, or_false]
      try ((repeat' split) <;> omega)
  case refine_15 =>
    simp only [fp_gu, fq_su, true_and, and_true, Nat.reduceEqDiff, false_and, and_false, if_false, if_true, true_or, or_true, false_or, or_false] at ht
    have ht' : (t : Int) < G 9 3 := by (repeat' split at ht) <;> omega
    obtain ⟨d1, d2, d3⟩ := h5 t ht'
    refine ⟨?_, ?_, ?_⟩
    all_goals
      try simp only [fp_gu, fq_su, true_and, and_true, Nat.reduceEqDiff, false_and, and_false, if_false, if_true, true_or, or_true, false_or, or_false]
      try ((repeat' split) <;> omega)
  all_goals
    try simp only [fp_gu, fq_su, true_and, and_true, Nat.reduceEqDiff, false_and, and_false, if_false, if_true, true_or, or_true, false_or, or_false]
    try ((repeat' split) <;> omega)
theorem fq_R_g08 {b : Nat} {v : Int} {G : FpG} {s : Nat → Int} (hR : fq_R b G s) (hB : fq_B G)  : fq_R b (fp_gu G 0 8 v) (fq_su s (b + 169) v) := by
  obtain ⟨⟨a0, a1, a2, a3, a4, a5⟩, ⟨c4, c5, c6, c7, c8, c9⟩, h3, h4, h5⟩ := hR
  obtain ⟨b1, b2, b3⟩ := hB
  refine ⟨⟨?_, ?_, ?_, ?_, ?_, ?_⟩, ⟨?_, ?_, ?_, ?_, ?_, ?_⟩, fun p hp => ?_, fun q hq => ?_, fun t ht => ?_⟩
  case refine_8 =>
    have e5 : (fp_gu G 0 8 v) 5 = G 5 := by funext i; simp [fp_gu]
    have e14 : (fp_gu G 0 8 v) 1 4 = G 1 4 := by simp [fp_gu]
    rw [e5, e14]
    simp only [fq_su]
    (repeat' split) <;> omega
  case refine_13 =>
    simp only [fp_gu, fq_su, true_and, and_true, Nat.reduceEqDiff, false_and, and_false, if_false, if_true, true_or, or_true, false_or, or_false] at hp
    have hp' : (p : Int) < G 1 4 := by (repeat' split at hp) <;> omega
    obtain ⟨d1, d2, d3, d4⟩ := h3 p hp'
    refine ⟨fun j hj => ?_, ?_, ?_, ?_⟩
    · have := d1 j hj
      try simp only [fp_gu, fq_su, true_and, and_true, Nat.reduceEqDiff, false_and, and_false, if_false, if_true, true_or, or_true, false_or, or_false]
      (repeat' split) <;> omega
    all_goals
      try simp only [fp_gu, fq_su, true_and, and_true, Nat.reduceEqDiff, false_and, and_false, if_false, if_true, true_or, or_true, false_or, or_false]
      try ((repeat' split) <;> omega)
  case refine_14 =>
    simp only [fp_gu, fq_su, true_and, and_true, Nat.reduceEqDiff, false_and, and_false, if_false, if_true, true_or, or_true, false_or, or_false] at hq
    have hq' : (q : Int) < G 6 2 := by (repeat' split at hq) <;> omega
    obtain ⟨d1, d2⟩ := h4 q hq'
    refine ⟨?_, ?_⟩
    all_goals
      try simp only [fp_gu, fq_su, true_and, and_true, Nat.reduceEqDiff, false_and, and_false, if_false, if_true, true_or, or_true, false_or, or_false]
      try ((repeat' split) <;> omega)
  case refine_15 =>
    simp only [fp_gu, fq_su, true_and, and_true, Nat.reduceEqDiff, false_and, and_false, if_false, if_true, true_or, or_true, false_or, or_false] at ht
    have ht' : (t : Int) < G 9 3 := by (repeat' split at ht) <;> omega
    obtain ⟨d1, d2, d3⟩ := h5 t ht'
    refine ⟨?_, ?_, ?_⟩
    all_goals
      try simp only [fp_gu, fq_su, true_and, and_true, Nat.reduceEqDiff, false_and, and_false, if_false, if_true, true_or, or_true, false_or, or_false]
      try ((repeat' split) <;> omega)
  all_goals
    try simp only [fp_gu, fq_su, true_and, and_true, Nat.reduceEqDiff, false_and, and_false, if_false, if_true, true_or, or_true, false_or, or_false]
    try ((repeat' split) <;> omega)
theorem fq_R_g12 {b : Nat} {k : Nat} {v : Int} {G : FpG} {s : Nat → Int} (hR : fq_R b G s) (hB : fq_B G) (hk : (k : Int) < G 9 3) : fq_R b (fp_gu G 12 k v) (fq_su s (b + 128 + 3 * k + 2) v) := by
  obtain ⟨⟨a0, a1, a2, a3, a4, a5⟩, ⟨c4, c5, c6, c7, c8, c9⟩, h3, h4, h5⟩ := hR
  obtain ⟨b1, b2, b3⟩ := hB
  refine ⟨⟨?_, ?_, ?_, ?_, ?_, ?_⟩, ⟨?_, ?_, ?_, ?_, ?_, ?_⟩, fun p hp => ?_, fun q hq => ?_, fun t ht => ?_⟩
  case refine_8 =>
    have e5 : (fp_gu G 12 k v) 5 = G 5 := by funext i; simp [fp_gu]
    have e14 : (fp_gu G 12 k v) 1 4 = G 1 4 := by simp [fp_gu]
    rw [e5, e14]
    simp only [fq_su]
    (repeat' split) <;> omega
  case refine_13 =>
    simp only [fp_gu, fq_su, true_and, and_true, Nat.reduceEqDiff, false_and, and_false, if_false, if_true, true_or, or_true, false_or, or_false] at hp
    have hp' : (p : Int) < G 1 4 := by (repeat' split at hp) <;> omega
    obtain ⟨d1, d2, d3, d4⟩ := h3 p hp'
    refine ⟨fun j hj => ?_, ?_, ?_, ?_⟩
    · have := d1 j hj
      try simp only [fp_gu, fq_su, true_and, and_true, Nat.reduceEqDiff, false_and, and_false, if_false, if_true, true_or, or_true, false_or, or_false]
      (repeat' split) <;> omega
    all_goals
      try simp only [fp_gu, fq_su, true_and, and_true, Nat.reduceEqDiff, false_and, and_false, if_false, if_true, true_or, or_true, false_or, or_false]
      try ((repeat' split) <;> omega)
  case refine_14 =>
    simp only [fp_gu, fq_su, true_and, and_true, Nat.reduceEqDiff, false_and, and_false, if_false, if_true, true_or, or_true, false_or, or_false] at hq
    have hq' : (q : Int) < G 6 2 := by (repeat' split at hq) <;> omega
    obtain ⟨d1, d2⟩ := h4 q hq'
    refine ⟨?_, ?_⟩
    all_goals
      try simp only [fp_gu, fq_su, true_and, and_true, Nat.reduceEqDiff, false_and, and_false, if_false, if_true, true_or, or_true, false_or, or_false]
      try ((repeat' split) <;> omega)
  case refine_15 =>
    simp only [fp_gu, fq_su, true_and, and_true, Nat.reduceEqDiff, false_and, and_false, if_false, if_true, true_or, or_true, false_or, or_false] at ht
    have ht' : (t : Int) < G 9 3 := by (repeat' split at ht) <;> omega
    obtain ⟨d1, d2, d3⟩ := h5 t ht'
    refine ⟨?_, ?_, ?_⟩
    all_goals
      try simp only [fp_gu, fq_su, true_and, and_true, Nat.reduceEqDiff, false_and, and_false, if_false, if_true, true_or, or_true, false_or, or_false]
      try ((repeat' split) <;> omega)
  all_goals
    try simp only [fp_gu, fq_su, true_and, and_true, Nat.reduceEqDiff, false_and, and_false, if_false, if_true, true_or, or_true, false_or, or_false]
    try ((repeat' split) <;> omega)
theorem fq_R_g7 {b : Nat} {k : Nat} {v : Int} {G : FpG} {s : Nat → Int} (hR : fq_R b G s) (hB : fq_B G) (hk : (k : Int) < G 6 2) : fq_R b (fp_gu G 7 k v) (fq_su s (b + 115 + 2 * k) v) := by
  obtain ⟨⟨a0, a1, a2, a3, a4, a5⟩, ⟨c4, c5, c6, c7, c8, c9⟩, h3, h4, h5⟩ := hR
  obtain ⟨b1, b2, b3⟩ := hB
  refine ⟨⟨?_, ?_, ?_, ?_, ?_, ?_⟩, ⟨?_, ?_, ?_, ?_, ?_, ?_⟩, fun p hp => ?_, fun q hq => ?_, fun t ht => ?_⟩
  case refine_8 =>
    have e5 : (fp_gu G 7 k v) 5 = G 5 := by funext i; simp [fp_gu]
    have e14 : (fp_gu G 7 k v) 1 4 = G 1 4 := by simp [fp_gu]
    rw [e5, e14]
    simp only [fq_su]
    (repeat' split) <;> omega
  case refine_13 =>
    simp only [fp_gu, fq_su, true_and, and_true, Nat.reduceEqDiff, false_and, and_false, if_false, if_true, true_or, or_true, false_or, or_false] at hp
    have hp' : (p : Int) < G 1 4 := by (repeat' split at hp) <;> omega
    obtain ⟨d1, d2, d3, d4⟩ := h3 p hp'
    refine ⟨fun j hj => ?_, ?_, ?_, ?_⟩
    · have := d1 j hj
      try simp only [fp_gu, fq_su, true_and, and_true, Nat.reduceEqDiff, false_and, and_false, if_false, if_true, true_or, or_true, false_or, or_false]
      (repeat' split) <;> omega
    all_goals
      try simp only [fp_gu, fq_su, true_and, and_true, Nat.reduceEqDiff, false_and, and_false, if_false, if_true, true_or, or_true, false_or, or_false]
      try ((repeat' split) <;> omega)
  case refine_14 =>
    simp only [fp_gu, fq_su, true_and, and_true, Nat.reduceEqDiff, false_and, and_false, if_false, if_true, true_or, or_true, false_or, or_false] at hq
    have hq' : (q : Int) < G 6 2 := by (repeat' split at hq) <;> omega
    obtain ⟨d1, d2⟩ := h4 q hq'
    refine ⟨?_, ?_⟩
    all_goals
      try simp only [fp_gu, fq_su, true_and, and_true, Nat.reduceEqDiff, false_and, and_false, if_false, if_true, true_or, or_true, false_or, or_false]
      try ((repeat' split) <;> omega)
  case refine_15 =>
    simp only [fp_gu, fq_su, true_and, and_true, Nat.reduceEqDiff, false_and, and_false, if_false, if_true, true_or, or_true, false_or, or_false] at ht
    have ht' : (t : Int) < G 9 3 := by (repeat' split at ht) <;> omega
    obtain ⟨d1, d2, d3⟩ := h5 t ht'
    refine ⟨?_, ?_, ?_⟩
    all_goals
      try simp only [fp_gu, fq_su, true_and, and_true, Nat.reduceEqDiff, false_and, and_false, if_false, if_true, true_or, or_true, false_or, or_false]
      try ((repeat' split) <;> omega)
  all_goals
    try simp only [fp_gu, fq_su, true_and, and_true, Nat.reduceEqDiff, false_and, and_false, if_false, if_true, true_or, or_true, false_or, or_false]
    try ((repeat' split) <;> omega)
theorem fq_R_g8 {b : Nat} {k : Nat} {v : Int} {G : FpG} {s : Nat → Int} (hR : fq_R b G s) (hB : fq_B G) (hk : (k : Int) < G 6 2) : fq_R b (fp_gu G 8 k v) (fq_su s (b + 115 + 2 * k + 1) v) := by
  obtain ⟨⟨a0, a1, a2, a3, a4, a5⟩, ⟨c4, c5, c6, c7, c8, c9⟩, h3, h4, h5⟩ := hR
  obtain ⟨b1, b2, b3⟩ := hB
  refine ⟨⟨?_, ?_, ?_, ?_, ?_, ?_⟩, ⟨?_, ?_, ?_, ?_, ?_, ?_⟩, fun p hp => ?_, fun q hq => ?_, fun t ht => ?_⟩
  case refine_8 =>
    have e5 : (fp_gu G 8 k v) 5 = G 5 := by funext i; simp [fp_gu]
    have e14 : (fp_gu G 8 k v) 1 4 = G 1 4 := by simp [fp_gu]
    rw [e5, e14]
    simp only [fq_su]
    (repeat' split) <;> omega
  case refine_13 =>
    simp only [fp_gu, fq_su, true_and, and_true, Nat.reduceEqDiff, false_and, and_false, if_false, if_true, true_or, or_true, false_or, or_false] at hp
    have hp' : (p : Int) < G 1 4 := by (repeat' split at hp) <;> omega
    obtain ⟨d1, d2, d3, d4⟩ := h3 p hp'
    refine ⟨fun j hj => ?_, ?_, ?_, ?_⟩
    · have := d1 j hj
      try simp only [fp_gu, fq_su, true_and, and_true, Nat.reduceEqDiff, false_and, and_false, if_false, if_true, true_or, or_true, false_or, or_false]
      (repeat' split) <;> omega
    all_goals
      try simp only [fp_gu, fq_su, true_and, and_true, Nat.reduceEqDiff, false_and, and_false, if_false, if_true, true_or, or_true, false_or, or_false]
      try ((repeat' split) <;> omega)
  case refine_14 =>
    simp only [fp_gu, fq_su, true_and, and_true, Nat.reduceEqDiff, false_and, and_false, if_false, if_true, true_or, or_true, false_or, or_false] at hq
    have hq' : (q : Int) < G 6 2 := by (repeat' split at hq) <;> omega
    obtain ⟨d1, d2⟩ := h4 q hq'
    refine ⟨?_, ?_⟩
    all_goals
      try simp only [fp_gu, fq_su, true_and, and_true, Nat.reduceEqDiff, false_and, and_false, if_false, if_true, true_or, or_true, false_or, or_false]
      try ((repeat' split) <;> omega)
  case refine_15 =>
    simp only [fp_gu, fq_su, true_and, and_true, Nat.reduceEqDiff, false_and, and_false, if_false, if_true, true_or, or_true, false_or, or_false] at ht
    have ht' : (t : Int) < G 9 3 := by (repeat' split at ht) <;> omega
    obtain ⟨d1, d2, d3⟩ := h5 t ht'
    refine ⟨?_, ?_, ?_⟩
    all_goals
      try simp only [fp_gu, fq_su, true_and, and_true, Nat.reduceEqDiff, false_and, and_false, if_false, if_true, true_or, or_true, false_or, or_false]
      try ((repeat' split) <;> omega)
  all_goals
    try simp only [fp_gu, fq_su, true_and, and_true, Nat.reduceEqDiff, false_and, and_false, if_false, if_true, true_or, or_true, false_or, or_false]
    try ((repeat' split) <;> omega)
theorem fq_R_g13 {b : Nat} {k : Nat} {v : Int} {G : FpG} {s : Nat → Int} (hR : fq_R b G s) (hB : fq_B G) (hk : k < 3) : fq_R b (fp_gu G 13 k v) (fq_su s (b + k) v) := by
  obtain ⟨⟨a0, a1, a2, a3, a4, a5⟩, ⟨c4, c5, c6, c7, c8, c9⟩, h3, h4, h5⟩ := hR
  obtain ⟨b1, b2, b3⟩ := hB
  refine ⟨⟨?_, ?_, ?_, ?_, ?_, ?_⟩, ⟨?_, ?_, ?_, ?_, ?_, ?_⟩, fun p hp => ?_, fun q hq => ?_, fun t ht => ?_⟩
  case refine_8 =>
    have e5 : (fp_gu G 13 k v) 5 = G 5 := by funext i; simp [fp_gu]
    have e14 : (fp_gu G 13 k v) 1 4 = G 1 4 := by simp [fp_gu]
    rw [e5, e14]
    simp only [fq_su]
    (repeat' split) <;> omega
  case refine_13 =>
    simp only [fp_gu, fq_su, true_and, and_true, Nat.reduceEqDiff, false_and, and_false, if_false, if_true, true_or, or_true, false_or, or_false] at hp
    have hp' : (p : Int) < G 1 4 := by (repeat' split at hp) <;> omega
    obtain ⟨d1, d2, d3, d4⟩ := h3 p hp'
    refine ⟨fun j hj => ?_, ?_, ?_, ?_⟩
    · have := d1 j hj
      try simp only [fp_gu, fq_su, true_and, and_true, Nat.reduceEqDiff, false_and, and_false, if_false, if_true, true_or, or_true, false_or, or_false]
      (repeat' split) <;> omega
    all_goals
      try simp only [fp_gu, fq_su, true_and, and_true, Nat.reduceEqDiff, false_and, and_false, if_false, if_true, true_or, or_true, false_or, or_false]
      try ((repeat' split) <;> omega)
  case refine_14 =>
    simp only [fp_gu, fq_su, true_and, and_true, Nat.reduceEqDiff, false_and, and_false, if_false, if_true, true_or, or_true, false_or, or_false] at hq
    have hq' : (q : Int) < G 6 2 := by (repeat' split at hq) <;> omega
    obtain ⟨d1, d2⟩ := h4 q hq'
    refine ⟨?_, ?_⟩
    all_goals
      try simp only [fp_gu, fq_su, true_and, and_true, Nat.reduceEqDiff, false_and, and_false, if_false, if_true, true_or, or_true, false_or, or_false]
      try ((repeat' split) <;> omega)
  case refine_15 =>
    simp only [fp_gu, fq_su, true_and, and_true, Nat.reduceEqDiff, false_and, and_false, if_false, if_true, true_or, or_true, false_or, or_false] at ht
    have ht' : (t : Int) < G 9 3 := by (repeat' split at ht) <;> omega
    obtain ⟨d1, d2, d3⟩ := h5 t ht'
    refine ⟨?_, ?_, ?_⟩
    all_goals
      try simp only [fp_gu, fq_su, true_and, and_true, Nat.reduceEqDiff, false_and, and_false, if_false, if_true, true_or, or_true, false_or, or_false]
      try ((repeat' split) <;> omega)
  all_goals
    try simp only [fp_gu, fq_su, true_and, and_true, Nat.reduceEqDiff, false_and, and_false, if_false, if_true, true_or, or_true, false_or, or_false]
    try ((repeat' split) <;> omega)
theorem fq_R_g5 {b : Nat} {k : Nat} {v w : Int} {G : FpG} {s : Nat → Int} (hR : fq_R b G s) (hB : fq_B G) (hk : (k : Int) < G 1 4) (hw : w = G 5 k) : fq_R b (fp_gu G 5 k v) (fq_su (fq_su s (b + 4 + 11 * k + 10) v) (b + 165) (s (b + 165) + (v - w))) := by
  obtain ⟨⟨a0, a1, a2, a3, a4, a5⟩, ⟨c4, c5, c6, c7, c8, c9⟩, h3, h4, h5⟩ := hR
  obtain ⟨b1, b2, b3⟩ := hB
  refine ⟨⟨?_, ?_, ?_, ?_, ?_, ?_⟩, ⟨?_, ?_, ?_, ?_, ?_, ?_⟩, fun p hp => ?_, fun q hq => ?_, fun t ht => ?_⟩
  case refine_8 =>
    have e5 : (fp_gu G 5 k v) 5 = (fun i => if i = k then v else G 5 i) := by funext i; simp [fp_gu]
    have e14 : (fp_gu G 5 k v) 1 4 = G 1 4 := by simp [fp_gu]
    rw [e5, e14, fp_sm_u _ (show k < (G 1 4).toNat by omega)]
    simp only [fq_su]
    rw [if_pos trivial, c5, hw]
  case refine_13 =>
    simp only [fp_gu, fq_su, true_and, and_true, Nat.reduceEqDiff, false_and, and_false, if_false, if_true, true_or, or_true, false_or, or_false] at hp
    have hp' : (p : Int) < G 1 4 := by (repeat' split at hp) <;> omega
    obtain ⟨d1, d2, d3, d4⟩ := h3 p hp'
    refine ⟨fun j hj => ?_, ?_, ?_, ?_⟩
    · have := d1 j hj
      try simp only [fp_gu, fq_su, true_and, and_true, Nat.reduceEqDiff, false_and, and_false, if_false, if_true, true_or, or_true, false_or, or_false]
      (repeat' split) <;> omega
    all_goals
      try simp only [fp_gu, fq_su, true_and, and_true, Nat.reduceEqDiff, false_and, and_false, if_false, if_true, true_or, or_true, false_or, or_false]
      try ((repeat' split) <;> omega)
  case refine_14 =>
    simp only [fp_gu, fq_su, true_and, and_true, Nat.reduceEqDiff, false_and, and_false, if_false, if_true, true_or, or_true, false_or, or_false] at hq
    have hq' : (q : Int) < G 6 2 := by (repeat' split at hq) <;> omega
    obtain ⟨d1, d2⟩ := h4 q hq'
    refine ⟨?_, ?_⟩
    all_goals
      try simp only [fp_gu, fq_su, true_and, and_true, Nat.reduceEqDiff, false_and, and_false, if_false, if_true, true_or, or_true, false_or, or_false]
      try ((repeat' split) <;> omega)
  case refine_15 =>
    simp only [fp_gu, fq_su, true_and, and_true, Nat.reduceEqDiff, false_and, and_false, if_false, if_true, true_or, or_true, false_or, or_false] at ht
    have ht' : (t : Int) < G 9 3 := by (repeat' split at ht) <;> omega
    obtain ⟨d1, d2, d3⟩ := h5 t ht'
    refine ⟨?_, ?_, ?_⟩
    all_goals
      try simp only [fp_gu, fq_su, true_and, and_true, Nat.reduceEqDiff, false_and, and_false, if_false, if_true, true_or, or_true, false_or, or_false]
      try ((repeat' split) <;> omega)
  all_goals
    try simp only [fp_gu, fq_su, true_and, and_true, Nat.reduceEqDiff, false_and, and_false, if_false, if_true, true_or, or_true, false_or, or_false]
    try ((repeat' split) <;> omega)
theorem fq_R_lrem {b : Nat} {k N : Nat} {G : FpG} {s : Nat → Int} (hR : fq_R b G s) (hB : fq_B G) (hk : (k : Int) < G 9 3) (hN : (N : Int) + 1 = G 9 3) : fq_R b (fp_lrem G k) (fq_sh 3 (b + 128 + 3 * k) (b + 128 + 3 * N) (fq_su s (b + 127) (G 9 3 - 1))) := by
  obtain ⟨⟨a0, a1, a2, a3, a4, a5⟩, ⟨c4, c5, c6, c7, c8, c9⟩, h3, h4, h5⟩ := hR
  obtain ⟨b1, b2, b3⟩ := hB
  refine ⟨⟨?_, ?_, ?_, ?_, ?_, ?_⟩, ⟨?_, ?_, ?_, ?_, ?_, ?_⟩, fun p hp => ?_, fun q hq => ?_, fun t ht => ?_⟩
  case refine_8 =>
    have e5 : (fp_lrem G k) 5 = G 5 := by funext i; simp [fp_lrem]
    have e14 : (fp_lrem G k) 1 4 = G 1 4 := by simp [fp_lrem]
    rw [e5, e14]
    simp only [fq_su, fq_sh]
    (repeat' split) <;> omega
  case refine_13 =>
    simp only [fp_lrem, fq_su, fq_sh, true_and, and_true, Nat.reduceEqDiff, false_and, and_false, if_false, if_true, true_or, or_true, false_or, or_false] at hp
    have hp' : (p : Int) < G 1 4 := by (repeat' split at hp) <;> omega
    obtain ⟨d1, d2, d3, d4⟩ := h3 p hp'
    refine ⟨fun j hj => ?_, ?_, ?_, ?_⟩
    · have := d1 j hj
      try simp only [fp_lrem, fq_su, fq_sh, true_and, and_true, Nat.reduceEqDiff, false_and, and_false, if_false, if_true, true_or, or_true, false_or, or_false]
      (repeat' split) <;> omega
    all_goals
      try simp only [fp_lrem, fq_su, fq_sh, true_and, and_true, Nat.reduceEqDiff, false_and, and_false, if_false, if_true, true_or, or_true, false_or, or_false]
      try ((repeat' split) <;> omega)
  case refine_14 =>
    simp only [fp_lrem, fq_su, fq_sh, true_and, and_true, Nat.reduceEqDiff, false_and, and_false, if_false, if_true, true_or, or_true, false_or, or_false] at hq
    have hq' : (q : Int) < G 6 2 := by (repeat' split at hq) <;> omega
    obtain ⟨d1, d2⟩ := h4 q hq'
    refine ⟨?_, ?_⟩
    all_goals
      try simp only [fp_lrem, fq_su, fq_sh, true_and, and_true, Nat.reduceEqDiff, false_and, and_false, if_false, if_true, true_or, or_true, false_or, or_false]
      try ((repeat' split) <;> omega)
  case refine_15 =>
    simp only [fp_lrem, fq_su, fq_sh, true_and, and_true, Nat.reduceEqDiff, false_and, and_false, if_false, if_true, true_or, or_true, false_or, or_false] at ht
    have ht' : (t : Int) < G 9 3 := by (repeat' split at ht) <;> omega
    have ht2 : (t : Int) + 1 < G 9 3 := by (repeat' split at ht) <;> omega
    obtain ⟨d1, d2, d3⟩ := h5 t ht'
    obtain ⟨f1, f2, f3⟩ := h5 (t + 1) (by omega)
    have f1' := (fq_at (s := s) (show b + 128 + 3 * t + 3 = b + 128 + 3 * (t + 1) by omega)).trans f1
    have f2' := (fq_at (s := s) (show b + 128 + 3 * t + 1 + 3 = b + 128 + 3 * (t + 1) + 1 by omega)).trans f2
    have f3' := (fq_at (s := s) (show b + 128 + 3 * t + 2 + 3 = b + 128 + 3 * (t + 1) + 2 by omega)).trans f3
    refine ⟨?_, ?_, ?_⟩
    all_goals
      try simp only [fp_lrem, fq_su, fq_sh, true_and, and_true, Nat.reduceEqDiff, false_and, and_false, if_false, if_true, true_or, or_true, false_or, or_false]
      try ((repeat' split) <;> omega)
  all_goals
    try simp only [fp_lrem, fq_su, fq_sh, true_and, and_true, Nat.reduceEqDiff, false_and, and_false, if_false, if_true, true_or, or_true, false_or, or_false]
    try ((repeat' split) <;> omega)
theorem fq_R_srem {b : Nat} {k N : Nat} {G : FpG} {s : Nat → Int} (hR : fq_R b G s) (hB : fq_B G) (hk : (k : Int) < G 6 2) (hN : (N : Int) + 1 = G 6 2) : fq_R b (fp_srem G k) (fq_sh 2 (b + 115 + 2 * k) (b + 115 + 2 * N) (fq_su s (b + 114) (G 6 2 - 1))) := by
  obtain ⟨⟨a0, a1, a2, a3, a4, a5⟩, ⟨c4, c5, c6, c7, c8, c9⟩, h3, h4, h5⟩ := hR
  obtain ⟨b1, b2, b3⟩ := hB
  refine ⟨⟨?_, ?_, ?_, ?_, ?_, ?_⟩, ⟨?_, ?_, ?_, ?_, ?_, ?_⟩, fun p hp => ?_, fun q hq => ?_, fun t ht => ?_⟩
  case refine_8 =>
    have e5 : (fp_srem G k) 5 = G 5 := by funext i; simp [fp_srem]
    have e14 : (fp_srem G k) 1 4 = G 1 4 := by simp [fp_srem]
    rw [e5, e14]
    simp only [fq_su, fq_sh]
    (repeat' split) <;> omega
  case refine_13 =>
    simp only [fp_srem, fq_su, fq_sh, true_and, and_true, Nat.reduceEqDiff, false_and, and_false, if_false, if_true, true_or, or_true, false_or, or_false] at hp
    have hp' : (p : Int) < G 1 4 := by (repeat' split at hp) <;> omega
    obtain ⟨d1, d2, d3, d4⟩ := h3 p hp'
    refine ⟨fun j hj => ?_, ?_, ?_, ?_⟩
    · have := d1 j hj
      try simp only [fp_srem, fq_su, fq_sh, true_and, and_true, Nat.reduceEqDiff, false_and, and_false, if_false, if_true, true_or, or_true, false_or, or_false]
      (repeat' split) <;> omega
    all_goals
      try simp only [fp_srem, fq_su, fq_sh, true_and, and_true, Nat.reduceEqDiff, false_and, and_false, if_false, if_true, true_or, or_true, false_or, or_false]
      try ((repeat' split) <;> omega)
  case refine_14 =>
    simp only [fp_srem, fq_su, fq_sh, true_and, and_true, Nat.reduceEqDiff, false_and, and_false, if_false, if_true, true_or, or_true, false_or, or_false] at hq
    have hq' : (q : Int) < G 6 2 := by (repeat' split at hq) <;> omega
    have ht2 : (q : Int) + 1 < G 6 2 := by (repeat' split at hq) <;> omega
    obtain ⟨d1, d2⟩ := h4 q hq'
    obtain ⟨f1, f2⟩ := h4 (q + 1) (by omega)
    have f1' := (fq_at (s := s) (show b + 115 + 2 * q + 2 = b + 115 + 2 * (q + 1) by omega)).trans f1
    have f2' := (fq_at (s := s) (show b + 115 + 2 * q + 1 + 2 = b + 115 + 2 * (q + 1) + 1 by omega)).trans f2
    refine ⟨?_, ?_⟩
    all_goals
      try simp only [fp_srem, fq_su, fq_sh, true_and, and_true, Nat.reduceEqDiff, false_and, and_false, if_false, if_true, true_or, or_true, false_or, or_false]
      try ((repeat' split) <;> omega)
  case refine_15 =>
    simp only [fp_srem, fq_su, fq_sh, true_and, and_true, Nat.reduceEqDiff, false_and, and_false, if_false, if_true, true_or, or_true, false_or, or_false] at ht
    have ht' : (t : Int) < G 9 3 := by (repeat' split at ht) <;> omega
    obtain ⟨d1, d2, d3⟩ := h5 t ht'
    refine ⟨?_, ?_, ?_⟩
    all_goals
      try simp only [fp_srem, fq_su, fq_sh, true_and, and_true, Nat.reduceEqDiff, false_and, and_false, if_false, if_true, true_or, or_true, false_or, or_false]
      try ((repeat' split) <;> omega)
  all_goals
    try simp only [fp_srem, fq_su, fq_sh, true_and, and_true, Nat.reduceEqDiff, false_and, and_false, if_false, if_true, true_or, or_true, false_or, or_false]
    try ((repeat' split) <;> omega)
