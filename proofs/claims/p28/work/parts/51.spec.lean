/-! what each act answers and leaves -/
section FQP
variable {G : FpG} {P : FqA → Prop}
theorem fq_act_ind {y : Int} (hb : y % 16 < 2 → P (fq_buy G (1 + y / 16 % 200) (1 + y / 16 / 256 % 3))) (ht : y % 16 = 2 → y / 16 % 2 = 0 → P (fq_trade G (y / 16 / 2 % 4) (1 + y / 16 / 8 % 3))) (hp : y % 16 = 2 → ¬ y / 16 % 2 = 0 → P (fq_part G (y / 16 / 2 % 4) (1 + y / 16 / 8 % 90))) (hd : ∀ p j w, P (fq_draw G p j w)) (hc : ∀ p w t, P (fq_come G p w t)) (hs : 7 ≤ y % 16 → y % 16 < 9 → P (fq_serve G (y / 16 % 5))) (hcu : 9 ≤ y % 16 → y % 16 < 14 → P (fq_cut G (y / 16 % 3) (y / 16 / 4 % 3) (y / 16 / 16 % 3))) (htu : ∀ p r, P (fq_turn G p r)) (hse : ∀ k v, P (fq_set G k v)) : P (fq_act G y) := by
  unfold fq_act
  by_cases h1 : y % 16 < 2
  · rw [if_pos h1]; exact hb h1
  rw [if_neg h1]
  by_cases h2 : y % 16 = 2
  · rw [if_pos h2]
    by_cases h2' : y / 16 % 2 = 0
    · rw [if_pos h2']; exact ht h2 h2'
    · rw [if_neg h2']; exact hp h2 h2'
  rw [if_neg h2]
  by_cases h3 : y % 16 = 3
  · rw [if_pos h3]; exact hd _ _ _
  rw [if_neg h3]
  by_cases h4 : y % 16 < 7
  · rw [if_pos h4]; exact hc _ _ _
  rw [if_neg h4]
  by_cases h5 : y % 16 < 9
  · rw [if_pos h5]; exact hs (by omega) h5
  rw [if_neg h5]
  by_cases h6 : y % 16 < 14
  · rw [if_pos h6]; exact hcu (by omega) h6
  rw [if_neg h6]
  by_cases h7 : y % 16 = 14
  · rw [if_pos h7]; exact htu _ _
  rw [if_neg h7]; exact hse _ _
end FQP
/-- an act answers at least 0, any other answer changes nothing -/
def fq_sg (a : FqA) : Prop := (a.2 = none ∧ a.1 < 0) ∨ ∃ G', a.2 = some G' ∧ 0 ≤ a.1
section FQG
variable {G : FpG} {n : Int}
theorem sg_buy {l t : Int} (h : fq_I n G) : fq_sg (fq_buy G l t) := by
  have := h.1.2.1
  unfold fq_buy
  (repeat' split) <;> first | exact Or.inl ⟨rfl, by dsimp only; omega⟩ | exact Or.inr ⟨_, rfl, by dsimp only; omega⟩
theorem sg_trade {s t : Int} : fq_sg (fq_trade G s t) := by
  unfold fq_trade
  (repeat' split) <;> first | exact Or.inl ⟨rfl, by dsimp only; omega⟩ | exact Or.inr ⟨_, rfl, by dsimp only; omega⟩
theorem sg_part {s l : Int} (h : fq_I n G) : fq_sg (fq_part G s l) := by
  have := h.1.2.1
  unfold fq_part
  (repeat' split) <;> first | exact Or.inl ⟨rfl, by dsimp only; omega⟩ | exact Or.inr ⟨_, rfl, by dsimp only; omega⟩
theorem sg_draw {p j w : Int} (h : fq_I n G) : fq_sg (fq_draw G p j w) := by
  have := h.1.1
  unfold fq_draw
  (repeat' split) <;> first | exact Or.inl ⟨rfl, by dsimp only; omega⟩ | exact Or.inr ⟨_, rfl, by dsimp only; omega⟩
theorem sg_come {p w t : Int} (h : fq_I n G) : fq_sg (fq_come G p w t) := by
  have := h.1.2.2.1
  unfold fq_come
  (repeat' split) <;> first | exact Or.inl ⟨rfl, by dsimp only; omega⟩ | exact Or.inr ⟨_, rfl, by dsimp only; omega⟩
theorem sg_turn {p r : Int} (h : fq_I n G) : fq_sg (fq_turn G p r) := by
  unfold fq_turn
  by_cases h1 : ¬ (0 ≤ p ∧ p < G 1 4)
  · rw [if_pos h1]; exact Or.inl ⟨rfl, by dsimp only; omega⟩
  · rw [if_neg h1]
    have := h.1.1
    have h3 := h.2.2.1 p.toNat (by omega)
    by_cases h2 : (if r = 0 then G 4 p.toNat else G 3 p.toNat) = 0
    · rw [if_pos h2]; exact Or.inl ⟨rfl, by dsimp only; omega⟩
    · rw [if_neg h2]
      refine Or.inr ⟨_, rfl, ?_⟩
      dsimp only
      split <;> omega
theorem sg_set {k v : Int} (h : fq_I n G) : fq_sg (fq_set G k v) := by
  have h13 := h.1.2.2.2
  unfold fq_set
  by_cases h1 : ¬ (0 ≤ k ∧ k ≤ 2)
  · rw [if_pos h1]; exact Or.inl ⟨rfl, by dsimp only; omega⟩
  · rw [if_neg h1]
    by_cases h2 : ¬ (fq_lo k ≤ v ∧ v ≤ fq_hi k)
    · rw [if_pos h2]; exact Or.inl ⟨rfl, by dsimp only; omega⟩
    · rw [if_neg h2]
      by_cases h3 : G 13 k.toNat = v
      · rw [if_pos h3]; exact Or.inl ⟨rfl, by dsimp only; omega⟩
      · rw [if_neg h3]
        refine Or.inr ⟨_, rfl, ?_⟩
        dsimp only
        have h4 : k = 0 ∨ k = 1 ∨ k = 2 := by omega
        rcases h4 with rfl | rfl | rfl
        · exact h13.1.1
        · exact h13.2.1.1
        · have := h13.2.2.1
          have e : (2 : Int).toNat = 2 := rfl
          rw [e]; omega
/-- what serving answers and leaves -/
theorem fq_serve_s {t : Int} (h : fq_I n G) (ht : 0 ≤ t) : ((fq_serve G t).2 = none ∧ (fq_serve G t).1 < 0 ∧ (fq_sit G t 3 < 0 → (fq_serve G t).1 = -1) ∧ (fq_sit G t 3 = 0 → (fq_serve G t).1 = -4) ∧ fq_sit G t 3 ≤ 0) ∨ ∃ G', (fq_serve G t).2 = some G' ∧ 0 ≤ (fq_serve G t).1 ∧ fq_sit G t 3 = 1 ∧ (fq_serve G t).1 = G 0 4 + (if fq_sit G t 1 = 2 then 5 else 2) ∧ G' 0 4 = (fq_serve G t).1 ∧ G' 0 6 = G 0 6 + 1 ∧ G' 9 3 = G 9 3 - 1 := by
  have h4 := h.2.2.2.2.2.2 4 (by omega) (by omega)
  unfold fq_serve fq_sit
  by_cases h1 : ¬ (0 ≤ t ∧ t < G 9 3)
  · rw [if_pos h1, if_pos h1]
    refine Or.inl ⟨rfl, ?_, fun _ => rfl, fun q => ?_, ?_⟩ <;> first | (dsimp only; omega) | omega
  · rw [if_neg h1, if_neg h1, if_neg h1]
    simp only [Int.reduceEq, if_false, if_true]
    by_cases h2 : fp_fr G t.toNat = -5
    · simp only [h2, if_true]
      refine Or.inl ⟨trivial, ?_, fun q => ?_, fun _ => trivial, ?_⟩ <;> omega
    · simp only [h2, if_false]
      have e4 : fp_ho G t.toNat (fp_fr G t.toNat).toNat 0 4 = G 0 4 + (if G 11 t.toNat = 2 then 5 else 2) := by rw [fp_ho_0, if_neg (by omega), if_pos rfl]
      have e6 : fp_ho G t.toNat (fp_fr G t.toNat).toNat 0 6 = G 0 6 + 1 := by rw [fp_ho_0, if_pos rfl]
      have e9 : fp_ho G t.toNat (fp_fr G t.toNat).toNat 9 3 = G 9 3 - 1 := fp_ho_93
      exact Or.inr ⟨_, rfl, by rw [e4]; split <;> omega, trivial, e4, rfl, e6, e9⟩
/-- what a cut answers and leaves -/
theorem fq_cut_s {p s f : Int} (hn : 1 ≤ n) (h : fq_I n G) (hf : 0 ≤ f ∧ f < 4) : ((fq_cut G p s f).2 = none ∧ (fq_cut G p s f).1 < 0 ∧ fq_ifc G G p s f 2 = (fq_cut G p s f).1) ∨ ∃ G', (fq_cut G p s f).2 = some G' ∧ (fq_cut G p s f).1 = fp_ly f ∧ 1 ≤ fp_ly f ∧ fp_ly f ≤ 8 ∧ 0 ≤ fq_ifc G G p s f 2 ∧ G' 0 5 = G 0 5 + 1 + f ∧ fp_sm (G' 5) (G' 1 4).toNat = fp_sm (G 5) (G 1 4).toNat + fp_ly f ∧ fq_pp G' = fq_pp G - (G' 0 8 - G 0 8) ∧ G' 0 7 = G 0 7 + fq_ifc G G p s f 3 ∧ G' 9 3 = G 9 3 - fq_ifc G G p s f 3 ∧ fq_ifc G G p s f 4 = G' 9 3 - fq_sa G' 9 3 ∧ G' 0 6 = G 0 6 ∧ fq_I (n + 1) G' ∧ (fq_J G → fq_J G') := by
  unfold fq_cut
  by_cases h1 : ¬ (0 ≤ p ∧ p < G 1 4 ∧ 0 ≤ s ∧ s < G 6 2)
  · rw [if_pos h1]
    refine Or.inl ⟨rfl, by dsimp only; omega, ?_⟩
    unfold fq_ifc
    rw [if_pos h1]
  · rw [if_neg h1, if_neg (by omega)]
    obtain ⟨p', rfl⟩ := Int.eq_ofNat_of_zero_le (show 0 ≤ p by omega)
    obtain ⟨s', rfl⟩ := Int.eq_ofNat_of_zero_le (show 0 ≤ s by omega)
    have hp : (p' : Int) < G 1 4 := by omega
    have hs : (s' : Int) < G 6 2 := by omega
    simp only [Int.toNat_natCast]
    by_cases h2 : fp_why G p' s' f = 0
    · rw [if_neg (by omega)]
      have h7 := h.2.2.2.2.1 s' hs
      have htk := fp_why_0 h2
      have hly : 1 ≤ fp_ly f ∧ fp_ly f ≤ 8 := by rcases fp_pw hf with ⟨_, e⟩ | ⟨_, e⟩ | ⟨_, e⟩ | ⟨_, e⟩ <;> omega
      rw [fi_2 hp hs hf h2, fi_3 hp hs hf h2, fi_4 hp hs hf h2]
      refine Or.inr ⟨_, rfl, rfl, hly.1, hly.2, by omega, by rw [fp_mk_05]; omega, fq_cs_mk hp, ?_, ?_, by omega, rfl, fp_mk_06, fq_I_mk hn h hp hs hf htk, fq_J_mk hf⟩
      · rw [fq_pp_mk hs, fp_mk_08]; omega
      · rw [fp_mk_07]
    · rw [if_pos (by omega)]
      rcases fp_why_in (G := G) (p := p') (s := s') (f := f) with e | e | e
      · exact absurd e h2
      · exact Or.inl ⟨rfl, by dsimp only; omega, fi_n hp hs hf (by omega) h2⟩
      · exact Or.inl ⟨rfl, by dsimp only; omega, fi_n hp hs hf (by omega) h2⟩
theorem fq_buy_s {l t : Int} {G' : FpG} (h : fq_I n G) (e : (fq_buy G l t).2 = some G') : G' 0 4 = G 0 4 - t - l / 20 ∧ fq_pp G' = fq_pp G + l := by
  have h62 := h.1.2.1
  unfold fq_buy at e
  (repeat' split at e) <;> first | (simp at e; done) | skip
  simp only [Option.some.injEq] at e
  subst e
  refine ⟨?_, ?_⟩
  · simp only [fp_sadd_o, fp_gu_s, Nat.reduceBEq]; omega
  · rw [fq_pp_sadd (by rw [fp_gu_c (by rfl)]; exact h62.1)]
    rfl
theorem fq_trade_s {s t : Int} {G' : FpG} (e : (fq_trade G s t).2 = some G') : fq_pp G' = fq_pp G - 2 := by
  unfold fq_trade at e
  (repeat' split at e) <;> first | (simp at e; done) | skip
  simp only [Option.some.injEq] at e
  subst e
  have h1 := fq_pp_u (G := G) (s := s.toNat) (v := G 7 s.toNat - 2) (by omega)
  have h2 : fq_pp (fp_gu (fp_gu G 7 s.toNat (G 7 s.toNat - 2)) 8 s.toNat t) = fq_pp (fp_gu G 7 s.toNat (G 7 s.toNat - 2)) := rfl
  rw [h2, h1]
  omega
theorem fq_part_s {s l : Int} {G' : FpG} (h : fq_I n G) (e : (fq_part G s l).2 = some G') : fq_pp G' = fq_pp G := by
  have h62 := h.1.2.1
  unfold fq_part at e
  (repeat' split at e) <;> first | (simp at e; done) | skip
  simp only [Option.some.injEq] at e
  subst e
  rw [fq_pp_sadd (by rw [fp_gu_c (by rfl)]; exact h62.1), fq_pp_u (by omega)]
  omega
theorem Ja_buy {l t : Int} {G' : FpG} (h : fq_J G) (e : (fq_buy G l t).2 = some G') : fq_J G' := by
  unfold fq_buy at e
  (repeat' split at e) <;> first | (simp at e; done) | skip
  simp only [Option.some.injEq] at e
  subst e
  exact fq_J_of h (fun i => by simp only [fp_sadd_o, fp_gu_c, Nat.reduceBEq]) (fun i => by simp only [fp_sadd_o, fp_gu_c, Nat.reduceBEq]) (fun i => by simp only [fp_sadd_o, fp_gu_c, Nat.reduceBEq]) (by simp only [fp_sadd_o, fp_gu_c, Nat.reduceBEq, Int.le_refl])
theorem Ja_trade {s t : Int} {G' : FpG} (h : fq_J G) (e : (fq_trade G s t).2 = some G') : fq_J G' := by
  unfold fq_trade at e
  (repeat' split at e) <;> first | (simp at e; done) | skip
  simp only [Option.some.injEq] at e
  subst e
  exact fq_J_of h (fun i => by simp only [fp_gu_c, Nat.reduceBEq]) (fun i => by simp only [fp_gu_c, Nat.reduceBEq]) (fun i => by simp only [fp_gu_c, Nat.reduceBEq]) (by simp only [fp_gu_c, Nat.reduceBEq, Int.le_refl])
theorem Ja_part {s l : Int} {G' : FpG} (h : fq_J G) (e : (fq_part G s l).2 = some G') : fq_J G' := by
  unfold fq_part at e
  (repeat' split at e) <;> first | (simp at e; done) | skip
  simp only [Option.some.injEq] at e
  subst e
  exact fq_J_of h (fun i => by simp only [fp_sadd_o, fp_gu_c, Nat.reduceBEq]) (fun i => by simp only [fp_sadd_o, fp_gu_c, Nat.reduceBEq]) (fun i => by simp only [fp_sadd_o, fp_gu_c, Nat.reduceBEq]) (by simp only [fp_sadd_o, fp_gu_c, Nat.reduceBEq, Int.le_refl])
theorem Ja_draw {p j w : Int} {G' : FpG} (h : fq_J G) (e : (fq_draw G p j w).2 = some G') : fq_J G' := by
  unfold fq_draw at e
  (repeat' split at e) <;> first | (simp at e; done) | skip
  simp only [Option.some.injEq] at e
  subst e
  exact fq_J_of h (fun i => by simp only [fp_padd_o, fp_gu_c, Nat.reduceBEq]) (fun i => by simp only [fp_padd_o, fp_gu_c, Nat.reduceBEq]) (fun i => by simp only [fp_padd_o, fp_gu_c, Nat.reduceBEq]) (by rw [fp_gu_c (by rfl), fp_padd_z.1]; omega)
theorem Ja_come {p w t : Int} {G' : FpG} (h : fq_J G) (e : (fq_come G p w t).2 = some G') : fq_J G' := by
  unfold fq_come at e
  (repeat' split at e) <;> first | (simp at e; done) | skip
  simp only [Option.some.injEq] at e
  subst e
  exact fq_J_of h (fun i => by simp only [fp_ladd_o, Nat.reduceBEq]) (fun i => by simp only [fp_ladd_o, Nat.reduceBEq]) (fun i => by simp only [fp_ladd_o, Nat.reduceBEq]) (by simp only [fp_ladd_o, Nat.reduceBEq, Int.le_refl])
theorem Ja_serve {t : Int} {G' : FpG} (h : fq_J G) (e : (fq_serve G t).2 = some G') : fq_J G' := by
  unfold fq_serve at e
  (repeat' split at e) <;> first | (simp at e; done) | skip
  simp only [Option.some.injEq] at e
  subst e
  exact fq_J_ho h
theorem Ja_cut {p s f : Int} {G' : FpG} (h : fq_J G) (e : (fq_cut G p s f).2 = some G') : fq_J G' := by
  unfold fq_cut at e
  (repeat' split at e) <;> first | (simp at e; done) | skip
  simp only [Option.some.injEq] at e
  subst e
  exact fq_J_mk (by omega) h
theorem Ja_turn {p r : Int} {G' : FpG} (h : fq_J G) (e : (fq_turn G p r).2 = some G') : fq_J G' := by
  unfold fq_turn at e
  by_cases h1 : ¬ (0 ≤ p ∧ p < G 1 4)
  · rw [if_pos h1] at e; simp at e
  · rw [if_neg h1] at e
    by_cases h2 : (if r = 0 then G 4 p.toNat else G 3 p.toNat) = 0
    · rw [if_pos h2] at e; simp at e
    · rw [if_neg h2] at e
      simp only [Option.some.injEq] at e
      subst e
      exact fq_J_trn h
theorem Ja_set {k v : Int} {G' : FpG} (h : fq_J G) (e : (fq_set G k v).2 = some G') : fq_J G' := by
  unfold fq_set at e
  (repeat' split at e) <;> first | (simp at e; done) | skip
  simp only [Option.some.injEq] at e
  subst e
  exact fq_J_of h (fun i => by simp only [fp_gu_c, Nat.reduceBEq]) (fun i => by simp only [fp_gu_c, Nat.reduceBEq]) (fun i => by simp only [fp_gu_c, Nat.reduceBEq]) (by simp only [fp_gu_c, Nat.reduceBEq, Int.le_refl])
theorem fq_act_sg {y : Int} (hn : 1 ≤ n) (h : fq_I n G) (hy : 0 ≤ y) : fq_sg (fq_act G y) := by
  refine fq_act_ind (P := fq_sg) (fun _ => sg_buy h) (fun _ _ => sg_trade) (fun _ _ => sg_part h) (fun _ _ _ => sg_draw h) (fun _ _ _ => sg_come h) (fun _ _ => ?_) (fun _ _ => ?_) (fun _ _ => sg_turn h) (fun _ _ => sg_set h)
  · rcases fq_serve_s (t := y / 16 % 5) h (by omega) with ⟨e, e1, -⟩ | ⟨G', e, e1, -⟩
    · exact Or.inl ⟨e, e1⟩
    · exact Or.inr ⟨G', e, e1⟩
  · rcases fq_cut_s (p := y / 16 % 3) (s := y / 16 / 4 % 3) (f := y / 16 / 16 % 3) hn h (by omega) with ⟨e, e1, -⟩ | ⟨G', e, e1, e2, -⟩
    · exact Or.inl ⟨e, e1⟩
    · exact Or.inr ⟨G', e, by omega⟩
theorem fq_act_I {y : Int} {G' : FpG} (hn : 1 ≤ n) (h : fq_I n G) (e : (fq_act G y).2 = some G') : fq_I (n + 1) G' :=
  fq_act_ind (P := fun a => a.2 = some G' → fq_I (n + 1) G') (fun _ => fq_Ia_buy h) (fun _ _ => fq_Ia_trade h) (fun _ _ => fq_Ia_part h) (fun _ _ _ => fq_Ia_draw h) (fun _ _ _ => fq_Ia_come h) (fun _ _ => fq_Ia_serve hn h) (fun _ _ => fq_Ia_cut hn h) (fun _ _ => fq_Ia_turn hn h) (fun _ _ => fq_Ia_set h) e
theorem fq_act_J {y : Int} {G' : FpG} (h : fq_J G) (e : (fq_act G y).2 = some G') : fq_J G' :=
  fq_act_ind (P := fun a => a.2 = some G' → fq_J G') (fun _ => Ja_buy h) (fun _ _ => Ja_trade h) (fun _ _ => Ja_part h) (fun _ _ _ => Ja_draw h) (fun _ _ _ => Ja_come h) (fun _ _ => Ja_serve h) (fun _ _ => Ja_cut h) (fun _ _ => Ja_turn h) (fun _ _ => Ja_set h) e
end FQG
