/-! a step of the two sides -/
theorem fq_Ia_buy {n l t : Int} {G G' : FpG} (h : fq_I n G) (e : (fq_buy G l t).2 = some G') : fq_I (n + 1) G' := by
  unfold fq_buy at e
  (repeat' split at e) <;> first | (simp at e; done) | skip
  simp only [Option.some.injEq] at e
  subst e
  exact fq_I_m (fq_I_buy h (by omega) (by omega) (by omega) (by omega)) (by omega)
theorem fq_Ia_trade {n s t : Int} {G G' : FpG} (h : fq_I n G) (e : (fq_trade G s t).2 = some G') : fq_I (n + 1) G' := by
  unfold fq_trade at e
  (repeat' split at e) <;> first | (simp at e; done) | skip
  simp only [Option.some.injEq] at e
  subst e
  exact fq_I_m (fq_I_trade h (by omega) (by omega) (by omega)) (by omega)
theorem fq_Ia_part {n s l : Int} {G G' : FpG} (h : fq_I n G) (e : (fq_part G s l).2 = some G') : fq_I (n + 1) G' := by
  unfold fq_part at e
  (repeat' split at e) <;> first | (simp at e; done) | skip
  simp only [Option.some.injEq] at e
  subst e
  exact fq_I_m (fq_I_part h (by omega) (by omega) (by omega)) (by omega)
theorem fq_Ia_draw {n p j w : Int} {G G' : FpG} (h : fq_I n G) (e : (fq_draw G p j w).2 = some G') : fq_I (n + 1) G' := by
  unfold fq_draw at e
  (repeat' split at e) <;> first | (simp at e; done) | skip
  simp only [Option.some.injEq] at e
  subst e
  exact fq_I_m (fq_I_draw h (by omega) (by omega) (by omega) (by omega)) (by omega)
theorem fq_Ia_come {n p w t : Int} {G G' : FpG} (h : fq_I n G) (e : (fq_come G p w t).2 = some G') : fq_I (n + 1) G' := by
  unfold fq_come at e
  (repeat' split at e) <;> first | (simp at e; done) | skip
  simp only [Option.some.injEq] at e
  subst e
  exact fq_I_m (fq_I_ladd h (by omega) (by omega) (by omega) (by omega)) (by omega)
theorem fq_Ia_serve {n t : Int} {G G' : FpG} (hn : 1 ≤ n) (h : fq_I n G) (e : (fq_serve G t).2 = some G') : fq_I (n + 1) G' := by
  unfold fq_serve at e
  (repeat' split at e) <;> first | (simp at e; done) | skip
  rename_i h1 h2
  simp only [Option.some.injEq] at e
  subst e
  rcases fp_fr_in (G := G) (t := t.toNat) h.1.1 with h3 | ⟨k, h3, h4, h5, h6⟩
  · exact absurd h3 h2
  · rw [h3, Int.toNat_natCast]
    exact fq_I_ho hn h (by omega) h4 h6
theorem fq_Ia_cut {n p s f : Int} {G G' : FpG} (hn : 1 ≤ n) (h : fq_I n G) (e : (fq_cut G p s f).2 = some G') : fq_I (n + 1) G' := by
  unfold fq_cut at e
  (repeat' split at e) <;> first | (simp at e; done) | skip
  rename_i h1 h2 h3
  simp only [Option.some.injEq] at e
  subst e
  have h4 : fp_why G p.toNat s.toNat f = 0 := by omega
  exact fq_I_mk hn h (by omega) (by omega) (by omega) (fp_why_0 h4)
theorem fq_Ia_turn {n p r : Int} {G G' : FpG} (hn : 1 ≤ n) (h : fq_I n G) (e : (fq_turn G p r).2 = some G') : fq_I (n + 1) G' := by
  unfold fq_turn at e
  by_cases h1 : ¬ (0 ≤ p ∧ p < G 1 4)
  · rw [if_pos h1] at e; simp at e
  · rw [if_neg h1] at e
    by_cases h2 : (if r = 0 then G 4 p.toNat else G 3 p.toNat) = 0
    · rw [if_pos h2] at e; simp at e
    · rw [if_neg h2] at e
      simp only [Option.some.injEq] at e
      subst e
      exact fq_I_trn hn h (by omega) h2
theorem fq_Ia_set {n k v : Int} {G G' : FpG} (h : fq_I n G) (e : (fq_set G k v).2 = some G') : fq_I (n + 1) G' := by
  unfold fq_set at e
  (repeat' split at e) <;> first | (simp at e; done) | skip
  rename_i h1 h2 h3
  simp only [Option.some.injEq] at e
  subst e
  exact fq_I_m (fq_I_set h (by omega) (by omega)) (by omega)
