/-! the constructors that make arrays alone -/
section FKL
variable {l : Launch} {D : va_G} {cI cC cO : ClassId} {bF : Nat}
def fk_w1 (cI cC : ClassId) (u : Nat → Nat) : va_W := [(u 0, .inr (1, [.ref (u 1), .ref (u 2), .ref (u 3), .int (fp_oi 0)])), (u 1, .inl (cI, 12, .inl (fun _ => fp_oi 0))), (u 2, .inl (cI, 12, .inl (fun _ => fp_oi 0))), (u 3, .inl (cI, 12, .inl (fun _ => fp_oi 0)))]
set_option maxHeartbeats 4000000 in
set_option maxRecDepth 100000 in
theorem fk_m1 : fk_Met l D cI cC cO bF yX1_init cX1_init 1 1 [.null, .null, .null, .int 0] (fk_w1 cI cC) (fun h0 u => u 0 = h0) { frames := 1, cells := 3, slots := 36, locals := 12 } := by
  refine fk_ofW (by decide) rfl (Nat.le_refl 1) ?_
  intro A p e s m args below meth c Q h0 ls hF hP hD hS hl kk
  have hF : fk_S D cI cC cO bF A p s m args meth c cX1_init 1 RX1 := hF
  have hF0 := hF
  obtain ⟨⟨hx, hb, hml, hown, hts⟩, hK, hE, hA, hin⟩ := hF0
  refine lv_aload_n hx hb dX1_init_0 rfl (lv_at hl 0 rfl) ?_
  refine fk_obj hF fkMX1_3 hl.1 dX1_init_1 ⟨by decide, by decide⟩ ?_
  refine lv_aload_n hx hb dX1_init_4 rfl (lv_at hl 0 rfl) ?_
  refine lv_bipush (v := nI 12) hx hb dX1_init_5 (by decide +kernel) ?_
  refine fk_na (atype := .int) 0 hF fkA_int rfl (Or.inl rfl) rfl hP hD hS (N := 12) (by decide +kernel) (by decide +kernel) (by omega) (Nat.le_of_ble_eq_true rfl) (Nat.le_of_ble_eq_true rfl) dX1_init_7 (fun q1 H hP hD hS => ?_)
  have hP : va_P D fp_cl [(h0, .inr (1, [.null, .null, .null, .int 0])), (q1, .inl (cI, 12, .inl (fun _ => fp_oi 0)))] H := hP
  have hD : va_D A [(h0, .inr (1, [.null, .null, .null, .int 0])), (q1, .inl (cI, 12, .inl (fun _ => fp_oi 0)))] := hD
  refine fk_pf hF rfl 0 (by decide) fkFX1_9 rfl rfl (ty := .array .int) (by decide +kernel) rfl rfl (Nat.le_of_ble_eq_true rfl) hP hD hS dX1_init_9 (fun H locs hP hD hS => ?_)
  have hP : va_P D fp_cl [(h0, .inr (1, [.ref q1, .null, .null, .int 0])), (q1, .inl (cI, 12, .inl (fun _ => fp_oi 0)))] H := hP
  have hD : va_D A [(h0, .inr (1, [.ref q1, .null, .null, .int 0])), (q1, .inl (cI, 12, .inl (fun _ => fp_oi 0)))] := hD
  refine lv_aload_n hx hb dX1_init_12 rfl (lv_at hl 0 rfl) ?_
  refine lv_bipush (v := nI 12) hx hb dX1_init_13 (by decide +kernel) ?_
  refine fk_na (atype := .int) 0 hF fkA_int rfl (Or.inl rfl) rfl hP hD hS (N := 12) (by decide +kernel) (by decide +kernel) (by omega) (Nat.le_of_ble_eq_true rfl) (Nat.le_of_ble_eq_true rfl) dX1_init_15 (fun q2 H hP hD hS => ?_)
  have hP : va_P D fp_cl [(h0, .inr (1, [.ref q1, .null, .null, .int 0])), (q1, .inl (cI, 12, .inl (fun _ => fp_oi 0))), (q2, .inl (cI, 12, .inl (fun _ => fp_oi 0)))] H := hP
  have hD : va_D A [(h0, .inr (1, [.ref q1, .null, .null, .int 0])), (q1, .inl (cI, 12, .inl (fun _ => fp_oi 0))), (q2, .inl (cI, 12, .inl (fun _ => fp_oi 0)))] := hD
  refine fk_pf hF rfl 1 (by decide) fkFX1_15 rfl rfl (ty := .array .int) (by decide +kernel) rfl rfl (Nat.le_of_ble_eq_true rfl) hP hD hS dX1_init_17 (fun H locs hP hD hS => ?_)
  have hP : va_P D fp_cl [(h0, .inr (1, [.ref q1, .ref q2, .null, .int 0])), (q1, .inl (cI, 12, .inl (fun _ => fp_oi 0))), (q2, .inl (cI, 12, .inl (fun _ => fp_oi 0)))] H := hP
  have hD : va_D A [(h0, .inr (1, [.ref q1, .ref q2, .null, .int 0])), (q1, .inl (cI, 12, .inl (fun _ => fp_oi 0))), (q2, .inl (cI, 12, .inl (fun _ => fp_oi 0)))] := hD
  refine lv_aload_n hx hb dX1_init_20 rfl (lv_at hl 0 rfl) ?_
  refine lv_bipush (v := nI 12) hx hb dX1_init_21 (by decide +kernel) ?_
  refine fk_na (atype := .int) 0 hF fkA_int rfl (Or.inl rfl) rfl hP hD hS (N := 12) (by decide +kernel) (by decide +kernel) (by omega) (Nat.le_of_ble_eq_true rfl) (Nat.le_of_ble_eq_true rfl) dX1_init_23 (fun q3 H hP hD hS => ?_)
  have hP : va_P D fp_cl [(h0, .inr (1, [.ref q1, .ref q2, .null, .int 0])), (q1, .inl (cI, 12, .inl (fun _ => fp_oi 0))), (q2, .inl (cI, 12, .inl (fun _ => fp_oi 0))), (q3, .inl (cI, 12, .inl (fun _ => fp_oi 0)))] H := hP
  have hD : va_D A [(h0, .inr (1, [.ref q1, .ref q2, .null, .int 0])), (q1, .inl (cI, 12, .inl (fun _ => fp_oi 0))), (q2, .inl (cI, 12, .inl (fun _ => fp_oi 0))), (q3, .inl (cI, 12, .inl (fun _ => fp_oi 0)))] := hD
  refine fk_pf hF rfl 2 (by decide) fkFX1_18 rfl rfl (ty := .array .int) (by decide +kernel) rfl rfl (Nat.le_of_ble_eq_true rfl) hP hD hS dX1_init_25 (fun H locs hP hD hS => ?_)
  have hP : va_P D fp_cl [(h0, .inr (1, [.ref q1, .ref q2, .ref q3, .int 0])), (q1, .inl (cI, 12, .inl (fun _ => fp_oi 0))), (q2, .inl (cI, 12, .inl (fun _ => fp_oi 0))), (q3, .inl (cI, 12, .inl (fun _ => fp_oi 0)))] H := hP
  have hD : va_D A [(h0, .inr (1, [.ref q1, .ref q2, .ref q3, .int 0])), (q1, .inl (cI, 12, .inl (fun _ => fp_oi 0))), (q2, .inl (cI, 12, .inl (fun _ => fp_oi 0))), (q3, .inl (cI, 12, .inl (fun _ => fp_oi 0)))] := hD
  refine lv_aload_n hx hb dX1_init_28 rfl (lv_at hl 0 rfl) ?_
  refine lv_iconst (v := fp_oi 0) hx hb dX1_init_29 rfl ?_
  refine fk_pu hF rfl 3 (by decide) fkFX1_21 rfl rfl (ty := .int) (by decide +kernel) rfl rfl (Nat.le_of_ble_eq_true rfl) hP hD hS dX1_init_30 (fun H locs hP hD hS => ?_)
  have hP : va_P D fp_cl [(h0, .inr (1, [.ref q1, .ref q2, .ref q3, .int (fp_oi 0)])), (q1, .inl (cI, 12, .inl (fun _ => fp_oi 0))), (q2, .inl (cI, 12, .inl (fun _ => fp_oi 0))), (q3, .inl (cI, 12, .inl (fun _ => fp_oi 0)))] H := hP
  have hD : va_D A [(h0, .inr (1, [.ref q1, .ref q2, .ref q3, .int (fp_oi 0)])), (q1, .inl (cI, 12, .inl (fun _ => fp_oi 0))), (q2, .inl (cI, 12, .inl (fun _ => fp_oi 0))), (q3, .inl (cI, 12, .inl (fun _ => fp_oi 0)))] := hD
  exact kk 33 (fun k => [h0, q1, q2, q3].getD k 0) _ _ ls rfl hP hD hS dX1_init_33
def fk_w2 (cI cC : ClassId) (u : Nat → Nat) : va_W := [(u 0, .inr (2, [.ref (u 1), .ref (u 2), .ref (u 3), .ref (u 4), .int (fp_oi 0)])), (u 1, .inl (cI, 80, .inl (fun _ => fp_oi 0))), (u 2, .inl (cI, 10, .inl (fun _ => fp_oi 0))), (u 3, .inl (cI, 10, .inl (fun _ => fp_oi 0))), (u 4, .inl (cI, 10, .inl (fun _ => fp_oi 0)))]
set_option maxHeartbeats 4000000 in
set_option maxRecDepth 100000 in
theorem fk_m2 : fk_Met l D cI cC cO bF yX2_init cX2_init 1 2 [.null, .null, .null, .null, .int 0] (fk_w2 cI cC) (fun h0 u => u 0 = h0) { frames := 1, cells := 4, slots := 110, locals := 12 } := by
  refine fk_ofW (by decide) rfl (Nat.le_refl 1) ?_
  intro A p e s m args below meth c Q h0 ls hF hP hD hS hl kk
  have hF : fk_S D cI cC cO bF A p s m args meth c cX2_init 1 RX2 := hF
  have hF0 := hF
  obtain ⟨⟨hx, hb, hml, hown, hts⟩, hK, hE, hA, hin⟩ := hF0
  refine lv_aload_n hx hb dX2_init_0 rfl (lv_at hl 0 rfl) ?_
  refine fk_obj hF fkMX2_3 hl.1 dX2_init_1 ⟨by decide, by decide⟩ ?_
  refine lv_aload_n hx hb dX2_init_4 rfl (lv_at hl 0 rfl) ?_
  refine lv_bipush (v := nI 80) hx hb dX2_init_5 (by decide +kernel) ?_
  refine fk_na (atype := .int) 0 hF fkA_int rfl (Or.inl rfl) rfl hP hD hS (N := 80) (by decide +kernel) (by decide +kernel) (by omega) (Nat.le_of_ble_eq_true rfl) (Nat.le_of_ble_eq_true rfl) dX2_init_7 (fun q1 H hP hD hS => ?_)
  have hP : va_P D fp_cl [(h0, .inr (2, [.null, .null, .null, .null, .int 0])), (q1, .inl (cI, 80, .inl (fun _ => fp_oi 0)))] H := hP
  have hD : va_D A [(h0, .inr (2, [.null, .null, .null, .null, .int 0])), (q1, .inl (cI, 80, .inl (fun _ => fp_oi 0)))] := hD
  refine fk_pf hF rfl 0 (by decide) fkFX2_9 rfl rfl (ty := .array .int) (by decide +kernel) rfl rfl (Nat.le_of_ble_eq_true rfl) hP hD hS dX2_init_9 (fun H locs hP hD hS => ?_)
  have hP : va_P D fp_cl [(h0, .inr (2, [.ref q1, .null, .null, .null, .int 0])), (q1, .inl (cI, 80, .inl (fun _ => fp_oi 0)))] H := hP
  have hD : va_D A [(h0, .inr (2, [.ref q1, .null, .null, .null, .int 0])), (q1, .inl (cI, 80, .inl (fun _ => fp_oi 0)))] := hD
  refine lv_aload_n hx hb dX2_init_12 rfl (lv_at hl 0 rfl) ?_
  refine lv_bipush (v := nI 10) hx hb dX2_init_13 (by decide +kernel) ?_
  refine fk_na (atype := .int) 0 hF fkA_int rfl (Or.inl rfl) rfl hP hD hS (N := 10) (by decide +kernel) (by decide +kernel) (by omega) (Nat.le_of_ble_eq_true rfl) (Nat.le_of_ble_eq_true rfl) dX2_init_15 (fun q2 H hP hD hS => ?_)
  have hP : va_P D fp_cl [(h0, .inr (2, [.ref q1, .null, .null, .null, .int 0])), (q1, .inl (cI, 80, .inl (fun _ => fp_oi 0))), (q2, .inl (cI, 10, .inl (fun _ => fp_oi 0)))] H := hP
  have hD : va_D A [(h0, .inr (2, [.ref q1, .null, .null, .null, .int 0])), (q1, .inl (cI, 80, .inl (fun _ => fp_oi 0))), (q2, .inl (cI, 10, .inl (fun _ => fp_oi 0)))] := hD
  refine fk_pf hF rfl 1 (by decide) fkFX2_15 rfl rfl (ty := .array .int) (by decide +kernel) rfl rfl (Nat.le_of_ble_eq_true rfl) hP hD hS dX2_init_17 (fun H locs hP hD hS => ?_)
  have hP : va_P D fp_cl [(h0, .inr (2, [.ref q1, .ref q2, .null, .null, .int 0])), (q1, .inl (cI, 80, .inl (fun _ => fp_oi 0))), (q2, .inl (cI, 10, .inl (fun _ => fp_oi 0)))] H := hP
  have hD : va_D A [(h0, .inr (2, [.ref q1, .ref q2, .null, .null, .int 0])), (q1, .inl (cI, 80, .inl (fun _ => fp_oi 0))), (q2, .inl (cI, 10, .inl (fun _ => fp_oi 0)))] := hD
  refine lv_aload_n hx hb dX2_init_20 rfl (lv_at hl 0 rfl) ?_
  refine lv_bipush (v := nI 10) hx hb dX2_init_21 (by decide +kernel) ?_
  refine fk_na (atype := .int) 0 hF fkA_int rfl (Or.inl rfl) rfl hP hD hS (N := 10) (by decide +kernel) (by decide +kernel) (by omega) (Nat.le_of_ble_eq_true rfl) (Nat.le_of_ble_eq_true rfl) dX2_init_23 (fun q3 H hP hD hS => ?_)
  have hP : va_P D fp_cl [(h0, .inr (2, [.ref q1, .ref q2, .null, .null, .int 0])), (q1, .inl (cI, 80, .inl (fun _ => fp_oi 0))), (q2, .inl (cI, 10, .inl (fun _ => fp_oi 0))), (q3, .inl (cI, 10, .inl (fun _ => fp_oi 0)))] H := hP
  have hD : va_D A [(h0, .inr (2, [.ref q1, .ref q2, .null, .null, .int 0])), (q1, .inl (cI, 80, .inl (fun _ => fp_oi 0))), (q2, .inl (cI, 10, .inl (fun _ => fp_oi 0))), (q3, .inl (cI, 10, .inl (fun _ => fp_oi 0)))] := hD
  refine fk_pf hF rfl 2 (by decide) fkFX2_18 rfl rfl (ty := .array .int) (by decide +kernel) rfl rfl (Nat.le_of_ble_eq_true rfl) hP hD hS dX2_init_25 (fun H locs hP hD hS => ?_)
  have hP : va_P D fp_cl [(h0, .inr (2, [.ref q1, .ref q2, .ref q3, .null, .int 0])), (q1, .inl (cI, 80, .inl (fun _ => fp_oi 0))), (q2, .inl (cI, 10, .inl (fun _ => fp_oi 0))), (q3, .inl (cI, 10, .inl (fun _ => fp_oi 0)))] H := hP
  have hD : va_D A [(h0, .inr (2, [.ref q1, .ref q2, .ref q3, .null, .int 0])), (q1, .inl (cI, 80, .inl (fun _ => fp_oi 0))), (q2, .inl (cI, 10, .inl (fun _ => fp_oi 0))), (q3, .inl (cI, 10, .inl (fun _ => fp_oi 0)))] := hD
  refine lv_aload_n hx hb dX2_init_28 rfl (lv_at hl 0 rfl) ?_
  refine lv_bipush (v := nI 10) hx hb dX2_init_29 (by decide +kernel) ?_
  refine fk_na (atype := .int) 0 hF fkA_int rfl (Or.inl rfl) rfl hP hD hS (N := 10) (by decide +kernel) (by decide +kernel) (by omega) (Nat.le_of_ble_eq_true rfl) (Nat.le_of_ble_eq_true rfl) dX2_init_31 (fun q4 H hP hD hS => ?_)
  have hP : va_P D fp_cl [(h0, .inr (2, [.ref q1, .ref q2, .ref q3, .null, .int 0])), (q1, .inl (cI, 80, .inl (fun _ => fp_oi 0))), (q2, .inl (cI, 10, .inl (fun _ => fp_oi 0))), (q3, .inl (cI, 10, .inl (fun _ => fp_oi 0))), (q4, .inl (cI, 10, .inl (fun _ => fp_oi 0)))] H := hP
  have hD : va_D A [(h0, .inr (2, [.ref q1, .ref q2, .ref q3, .null, .int 0])), (q1, .inl (cI, 80, .inl (fun _ => fp_oi 0))), (q2, .inl (cI, 10, .inl (fun _ => fp_oi 0))), (q3, .inl (cI, 10, .inl (fun _ => fp_oi 0))), (q4, .inl (cI, 10, .inl (fun _ => fp_oi 0)))] := hD
  refine fk_pf hF rfl 3 (by decide) fkFX2_21 rfl rfl (ty := .array .int) (by decide +kernel) rfl rfl (Nat.le_of_ble_eq_true rfl) hP hD hS dX2_init_33 (fun H locs hP hD hS => ?_)
  have hP : va_P D fp_cl [(h0, .inr (2, [.ref q1, .ref q2, .ref q3, .ref q4, .int 0])), (q1, .inl (cI, 80, .inl (fun _ => fp_oi 0))), (q2, .inl (cI, 10, .inl (fun _ => fp_oi 0))), (q3, .inl (cI, 10, .inl (fun _ => fp_oi 0))), (q4, .inl (cI, 10, .inl (fun _ => fp_oi 0)))] H := hP
  have hD : va_D A [(h0, .inr (2, [.ref q1, .ref q2, .ref q3, .ref q4, .int 0])), (q1, .inl (cI, 80, .inl (fun _ => fp_oi 0))), (q2, .inl (cI, 10, .inl (fun _ => fp_oi 0))), (q3, .inl (cI, 10, .inl (fun _ => fp_oi 0))), (q4, .inl (cI, 10, .inl (fun _ => fp_oi 0)))] := hD
  refine lv_aload_n hx hb dX2_init_36 rfl (lv_at hl 0 rfl) ?_
  refine lv_iconst (v := fp_oi 0) hx hb dX2_init_37 rfl ?_
  refine fk_pu hF rfl 4 (by decide) fkFX2_24 rfl rfl (ty := .int) (by decide +kernel) rfl rfl (Nat.le_of_ble_eq_true rfl) hP hD hS dX2_init_38 (fun H locs hP hD hS => ?_)
  have hP : va_P D fp_cl [(h0, .inr (2, [.ref q1, .ref q2, .ref q3, .ref q4, .int (fp_oi 0)])), (q1, .inl (cI, 80, .inl (fun _ => fp_oi 0))), (q2, .inl (cI, 10, .inl (fun _ => fp_oi 0))), (q3, .inl (cI, 10, .inl (fun _ => fp_oi 0))), (q4, .inl (cI, 10, .inl (fun _ => fp_oi 0)))] H := hP
  have hD : va_D A [(h0, .inr (2, [.ref q1, .ref q2, .ref q3, .ref q4, .int (fp_oi 0)])), (q1, .inl (cI, 80, .inl (fun _ => fp_oi 0))), (q2, .inl (cI, 10, .inl (fun _ => fp_oi 0))), (q3, .inl (cI, 10, .inl (fun _ => fp_oi 0))), (q4, .inl (cI, 10, .inl (fun _ => fp_oi 0)))] := hD
  exact kk 41 (fun k => [h0, q1, q2, q3, q4].getD k 0) _ _ ls rfl hP hD hS dX2_init_41
def fk_w5 (cI cC : ClassId) (u : Nat → Nat) : va_W := [(u 0, .inr (5, [.ref (u 1), .ref (u 2), .int (fp_oi 0)])), (u 1, .inl (cI, 6, .inl (fun _ => fp_oi 0))), (u 2, .inl (cI, 6, .inl (fun _ => fp_oi 0)))]
set_option maxHeartbeats 4000000 in
set_option maxRecDepth 100000 in
theorem fk_m5 : fk_Met l D cI cC cO bF yX5_init cX5_init 1 5 [.null, .null, .int 0] (fk_w5 cI cC) (fun h0 u => u 0 = h0) { frames := 1, cells := 2, slots := 12, locals := 12 } := by
  refine fk_ofW (by decide) rfl (Nat.le_refl 1) ?_
  intro A p e s m args below meth c Q h0 ls hF hP hD hS hl kk
  have hF : fk_S D cI cC cO bF A p s m args meth c cX5_init 1 RX5 := hF
  have hF0 := hF
  obtain ⟨⟨hx, hb, hml, hown, hts⟩, hK, hE, hA, hin⟩ := hF0
  refine lv_aload_n hx hb dX5_init_0 rfl (lv_at hl 0 rfl) ?_
  refine fk_obj hF fkMX5_3 hl.1 dX5_init_1 ⟨by decide, by decide⟩ ?_
  refine lv_aload_n hx hb dX5_init_4 rfl (lv_at hl 0 rfl) ?_
  refine lv_bipush (v := nI 6) hx hb dX5_init_5 (by decide +kernel) ?_
  refine fk_na (atype := .int) 0 hF fkA_int rfl (Or.inl rfl) rfl hP hD hS (N := 6) (by decide +kernel) (by decide +kernel) (by omega) (Nat.le_of_ble_eq_true rfl) (Nat.le_of_ble_eq_true rfl) dX5_init_7 (fun q1 H hP hD hS => ?_)
  have hP : va_P D fp_cl [(h0, .inr (5, [.null, .null, .int 0])), (q1, .inl (cI, 6, .inl (fun _ => fp_oi 0)))] H := hP
  have hD : va_D A [(h0, .inr (5, [.null, .null, .int 0])), (q1, .inl (cI, 6, .inl (fun _ => fp_oi 0)))] := hD
  refine fk_pf hF rfl 0 (by decide) fkFX5_9 rfl rfl (ty := .array .int) (by decide +kernel) rfl rfl (Nat.le_of_ble_eq_true rfl) hP hD hS dX5_init_9 (fun H locs hP hD hS => ?_)
  have hP : va_P D fp_cl [(h0, .inr (5, [.ref q1, .null, .int 0])), (q1, .inl (cI, 6, .inl (fun _ => fp_oi 0)))] H := hP
  have hD : va_D A [(h0, .inr (5, [.ref q1, .null, .int 0])), (q1, .inl (cI, 6, .inl (fun _ => fp_oi 0)))] := hD
  refine lv_aload_n hx hb dX5_init_12 rfl (lv_at hl 0 rfl) ?_
  refine lv_bipush (v := nI 6) hx hb dX5_init_13 (by decide +kernel) ?_
  refine fk_na (atype := .int) 0 hF fkA_int rfl (Or.inl rfl) rfl hP hD hS (N := 6) (by decide +kernel) (by decide +kernel) (by omega) (Nat.le_of_ble_eq_true rfl) (Nat.le_of_ble_eq_true rfl) dX5_init_15 (fun q2 H hP hD hS => ?_)
  have hP : va_P D fp_cl [(h0, .inr (5, [.ref q1, .null, .int 0])), (q1, .inl (cI, 6, .inl (fun _ => fp_oi 0))), (q2, .inl (cI, 6, .inl (fun _ => fp_oi 0)))] H := hP
  have hD : va_D A [(h0, .inr (5, [.ref q1, .null, .int 0])), (q1, .inl (cI, 6, .inl (fun _ => fp_oi 0))), (q2, .inl (cI, 6, .inl (fun _ => fp_oi 0)))] := hD
  refine fk_pf hF rfl 1 (by decide) fkFX5_15 rfl rfl (ty := .array .int) (by decide +kernel) rfl rfl (Nat.le_of_ble_eq_true rfl) hP hD hS dX5_init_17 (fun H locs hP hD hS => ?_)
  have hP : va_P D fp_cl [(h0, .inr (5, [.ref q1, .ref q2, .int 0])), (q1, .inl (cI, 6, .inl (fun _ => fp_oi 0))), (q2, .inl (cI, 6, .inl (fun _ => fp_oi 0)))] H := hP
  have hD : va_D A [(h0, .inr (5, [.ref q1, .ref q2, .int 0])), (q1, .inl (cI, 6, .inl (fun _ => fp_oi 0))), (q2, .inl (cI, 6, .inl (fun _ => fp_oi 0)))] := hD
  refine lv_aload_n hx hb dX5_init_20 rfl (lv_at hl 0 rfl) ?_
  refine lv_iconst (v := fp_oi 0) hx hb dX5_init_21 rfl ?_
  refine fk_pu hF rfl 2 (by decide) fkFX5_18 rfl rfl (ty := .int) (by decide +kernel) rfl rfl (Nat.le_of_ble_eq_true rfl) hP hD hS dX5_init_22 (fun H locs hP hD hS => ?_)
  have hP : va_P D fp_cl [(h0, .inr (5, [.ref q1, .ref q2, .int (fp_oi 0)])), (q1, .inl (cI, 6, .inl (fun _ => fp_oi 0))), (q2, .inl (cI, 6, .inl (fun _ => fp_oi 0)))] H := hP
  have hD : va_D A [(h0, .inr (5, [.ref q1, .ref q2, .int (fp_oi 0)])), (q1, .inl (cI, 6, .inl (fun _ => fp_oi 0))), (q2, .inl (cI, 6, .inl (fun _ => fp_oi 0)))] := hD
  exact kk 25 (fun k => [h0, q1, q2].getD k 0) _ _ ls rfl hP hD hS dX5_init_25
def fk_w3 (cI cC : ClassId) (u : Nat → Nat) : va_W := [(u 0, .inr (3, [.ref (u 1), .int (fp_oi 0), .ref (u 2), .ref (u 3), .ref (u 4), .int (fp_oi 0), .int (fp_oi 0)])), (u 1, .inl (cC, 80, .inl (fun _ => fp_oi 0))), (u 2, .inl (cI, 64, .inl (fun _ => fp_oi 0))), (u 3, .inl (cI, 8, .inl (fun _ => fp_oi 0))), (u 4, .inl (cI, 8, .inl (fun _ => fp_oi 0)))]
set_option maxHeartbeats 4000000 in
set_option maxRecDepth 100000 in
theorem fk_m3 : fk_Met l D cI cC cO bF yX3_init cX3_init 1 3 [.null, .int 0, .null, .null, .null, .int 0, .int 0] (fk_w3 cI cC) (fun h0 u => u 0 = h0) { frames := 1, cells := 4, slots := 160, locals := 12 } := by
  refine fk_ofW (by decide) rfl (Nat.le_refl 1) ?_
  intro A p e s m args below meth c Q h0 ls hF hP hD hS hl kk
  have hF : fk_S D cI cC cO bF A p s m args meth c cX3_init 1 RX3 := hF
  have hF0 := hF
  obtain ⟨⟨hx, hb, hml, hown, hts⟩, hK, hE, hA, hin⟩ := hF0
  refine lv_aload_n hx hb dX3_init_0 rfl (lv_at hl 0 rfl) ?_
  refine fk_obj hF fkMX3_3 hl.1 dX3_init_1 ⟨by decide, by decide⟩ ?_
  refine lv_aload_n hx hb dX3_init_4 rfl (lv_at hl 0 rfl) ?_
  refine lv_bipush (v := nI 80) hx hb dX3_init_5 (by decide +kernel) ?_
  refine fk_na (atype := .char) 1 hF fkA_char rfl (Or.inr rfl) rfl hP hD hS (N := 80) (by decide +kernel) (by decide +kernel) (by omega) (Nat.le_of_ble_eq_true rfl) (Nat.le_of_ble_eq_true rfl) dX3_init_7 (fun q1 H hP hD hS => ?_)
  have hP : va_P D fp_cl [(h0, .inr (3, [.null, .int 0, .null, .null, .null, .int 0, .int 0])), (q1, .inl (cC, 80, .inl (fun _ => fp_oi 0)))] H := hP
  have hD : va_D A [(h0, .inr (3, [.null, .int 0, .null, .null, .null, .int 0, .int 0])), (q1, .inl (cC, 80, .inl (fun _ => fp_oi 0)))] := hD
  refine fk_pf hF rfl 0 (by decide) fkFX3_9 rfl rfl (ty := .array .char) (by decide +kernel) rfl rfl (Nat.le_of_ble_eq_true rfl) hP hD hS dX3_init_9 (fun H locs hP hD hS => ?_)
  have hP : va_P D fp_cl [(h0, .inr (3, [.ref q1, .int 0, .null, .null, .null, .int 0, .int 0])), (q1, .inl (cC, 80, .inl (fun _ => fp_oi 0)))] H := hP
  have hD : va_D A [(h0, .inr (3, [.ref q1, .int 0, .null, .null, .null, .int 0, .int 0])), (q1, .inl (cC, 80, .inl (fun _ => fp_oi 0)))] := hD
  refine lv_aload_n hx hb dX3_init_12 rfl (lv_at hl 0 rfl) ?_
  refine lv_iconst (v := fp_oi 0) hx hb dX3_init_13 rfl ?_
  refine fk_pu hF rfl 1 (by decide) fkFX3_15 rfl rfl (ty := .int) (by decide +kernel) rfl rfl (Nat.le_of_ble_eq_true rfl) hP hD hS dX3_init_14 (fun H locs hP hD hS => ?_)
  have hP : va_P D fp_cl [(h0, .inr (3, [.ref q1, .int (fp_oi 0), .null, .null, .null, .int 0, .int 0])), (q1, .inl (cC, 80, .inl (fun _ => fp_oi 0)))] H := hP
  have hD : va_D A [(h0, .inr (3, [.ref q1, .int (fp_oi 0), .null, .null, .null, .int 0, .int 0])), (q1, .inl (cC, 80, .inl (fun _ => fp_oi 0)))] := hD
  refine lv_aload_n hx hb dX3_init_17 rfl (lv_at hl 0 rfl) ?_
  refine lv_bipush (v := nI 64) hx hb dX3_init_18 (by decide +kernel) ?_
  refine fk_na (atype := .int) 0 hF fkA_int rfl (Or.inl rfl) rfl hP hD hS (N := 64) (by decide +kernel) (by decide +kernel) (by omega) (Nat.le_of_ble_eq_true rfl) (Nat.le_of_ble_eq_true rfl) dX3_init_20 (fun q2 H hP hD hS => ?_)
  have hP : va_P D fp_cl [(h0, .inr (3, [.ref q1, .int (fp_oi 0), .null, .null, .null, .int 0, .int 0])), (q1, .inl (cC, 80, .inl (fun _ => fp_oi 0))), (q2, .inl (cI, 64, .inl (fun _ => fp_oi 0)))] H := hP
  have hD : va_D A [(h0, .inr (3, [.ref q1, .int (fp_oi 0), .null, .null, .null, .int 0, .int 0])), (q1, .inl (cC, 80, .inl (fun _ => fp_oi 0))), (q2, .inl (cI, 64, .inl (fun _ => fp_oi 0)))] := hD
  refine fk_pf hF rfl 2 (by decide) fkFX3_19 rfl rfl (ty := .array .int) (by decide +kernel) rfl rfl (Nat.le_of_ble_eq_true rfl) hP hD hS dX3_init_22 (fun H locs hP hD hS => ?_)
  have hP : va_P D fp_cl [(h0, .inr (3, [.ref q1, .int (fp_oi 0), .ref q2, .null, .null, .int 0, .int 0])), (q1, .inl (cC, 80, .inl (fun _ => fp_oi 0))), (q2, .inl (cI, 64, .inl (fun _ => fp_oi 0)))] H := hP
  have hD : va_D A [(h0, .inr (3, [.ref q1, .int (fp_oi 0), .ref q2, .null, .null, .int 0, .int 0])), (q1, .inl (cC, 80, .inl (fun _ => fp_oi 0))), (q2, .inl (cI, 64, .inl (fun _ => fp_oi 0)))] := hD
  refine lv_aload_n hx hb dX3_init_25 rfl (lv_at hl 0 rfl) ?_
  refine lv_bipush (v := nI 8) hx hb dX3_init_26 (by decide +kernel) ?_
  refine fk_na (atype := .int) 0 hF fkA_int rfl (Or.inl rfl) rfl hP hD hS (N := 8) (by decide +kernel) (by decide +kernel) (by omega) (Nat.le_of_ble_eq_true rfl) (Nat.le_of_ble_eq_true rfl) dX3_init_28 (fun q3 H hP hD hS => ?_)
  have hP : va_P D fp_cl [(h0, .inr (3, [.ref q1, .int (fp_oi 0), .ref q2, .null, .null, .int 0, .int 0])), (q1, .inl (cC, 80, .inl (fun _ => fp_oi 0))), (q2, .inl (cI, 64, .inl (fun _ => fp_oi 0))), (q3, .inl (cI, 8, .inl (fun _ => fp_oi 0)))] H := hP
  have hD : va_D A [(h0, .inr (3, [.ref q1, .int (fp_oi 0), .ref q2, .null, .null, .int 0, .int 0])), (q1, .inl (cC, 80, .inl (fun _ => fp_oi 0))), (q2, .inl (cI, 64, .inl (fun _ => fp_oi 0))), (q3, .inl (cI, 8, .inl (fun _ => fp_oi 0)))] := hD
  refine fk_pf hF rfl 3 (by decide) fkFX3_23 rfl rfl (ty := .array .int) (by decide +kernel) rfl rfl (Nat.le_of_ble_eq_true rfl) hP hD hS dX3_init_30 (fun H locs hP hD hS => ?_)
  have hP : va_P D fp_cl [(h0, .inr (3, [.ref q1, .int (fp_oi 0), .ref q2, .ref q3, .null, .int 0, .int 0])), (q1, .inl (cC, 80, .inl (fun _ => fp_oi 0))), (q2, .inl (cI, 64, .inl (fun _ => fp_oi 0))), (q3, .inl (cI, 8, .inl (fun _ => fp_oi 0)))] H := hP
  have hD : va_D A [(h0, .inr (3, [.ref q1, .int (fp_oi 0), .ref q2, .ref q3, .null, .int 0, .int 0])), (q1, .inl (cC, 80, .inl (fun _ => fp_oi 0))), (q2, .inl (cI, 64, .inl (fun _ => fp_oi 0))), (q3, .inl (cI, 8, .inl (fun _ => fp_oi 0)))] := hD
  refine lv_aload_n hx hb dX3_init_33 rfl (lv_at hl 0 rfl) ?_
  refine lv_bipush (v := nI 8) hx hb dX3_init_34 (by decide +kernel) ?_
  refine fk_na (atype := .int) 0 hF fkA_int rfl (Or.inl rfl) rfl hP hD hS (N := 8) (by decide +kernel) (by decide +kernel) (by omega) (Nat.le_of_ble_eq_true rfl) (Nat.le_of_ble_eq_true rfl) dX3_init_36 (fun q4 H hP hD hS => ?_)
  have hP : va_P D fp_cl [(h0, .inr (3, [.ref q1, .int (fp_oi 0), .ref q2, .ref q3, .null, .int 0, .int 0])), (q1, .inl (cC, 80, .inl (fun _ => fp_oi 0))), (q2, .inl (cI, 64, .inl (fun _ => fp_oi 0))), (q3, .inl (cI, 8, .inl (fun _ => fp_oi 0))), (q4, .inl (cI, 8, .inl (fun _ => fp_oi 0)))] H := hP
  have hD : va_D A [(h0, .inr (3, [.ref q1, .int (fp_oi 0), .ref q2, .ref q3, .null, .int 0, .int 0])), (q1, .inl (cC, 80, .inl (fun _ => fp_oi 0))), (q2, .inl (cI, 64, .inl (fun _ => fp_oi 0))), (q3, .inl (cI, 8, .inl (fun _ => fp_oi 0))), (q4, .inl (cI, 8, .inl (fun _ => fp_oi 0)))] := hD
  refine fk_pf hF rfl 4 (by decide) fkFX3_26 rfl rfl (ty := .array .int) (by decide +kernel) rfl rfl (Nat.le_of_ble_eq_true rfl) hP hD hS dX3_init_38 (fun H locs hP hD hS => ?_)
  have hP : va_P D fp_cl [(h0, .inr (3, [.ref q1, .int (fp_oi 0), .ref q2, .ref q3, .ref q4, .int 0, .int 0])), (q1, .inl (cC, 80, .inl (fun _ => fp_oi 0))), (q2, .inl (cI, 64, .inl (fun _ => fp_oi 0))), (q3, .inl (cI, 8, .inl (fun _ => fp_oi 0))), (q4, .inl (cI, 8, .inl (fun _ => fp_oi 0)))] H := hP
  have hD : va_D A [(h0, .inr (3, [.ref q1, .int (fp_oi 0), .ref q2, .ref q3, .ref q4, .int 0, .int 0])), (q1, .inl (cC, 80, .inl (fun _ => fp_oi 0))), (q2, .inl (cI, 64, .inl (fun _ => fp_oi 0))), (q3, .inl (cI, 8, .inl (fun _ => fp_oi 0))), (q4, .inl (cI, 8, .inl (fun _ => fp_oi 0)))] := hD
  refine lv_aload_n hx hb dX3_init_41 rfl (lv_at hl 0 rfl) ?_
  refine lv_iconst (v := fp_oi 0) hx hb dX3_init_42 rfl ?_
  refine fk_pu hF rfl 5 (by decide) fkFX3_29 rfl rfl (ty := .int) (by decide +kernel) rfl rfl (Nat.le_of_ble_eq_true rfl) hP hD hS dX3_init_43 (fun H locs hP hD hS => ?_)
  have hP : va_P D fp_cl [(h0, .inr (3, [.ref q1, .int (fp_oi 0), .ref q2, .ref q3, .ref q4, .int (fp_oi 0), .int 0])), (q1, .inl (cC, 80, .inl (fun _ => fp_oi 0))), (q2, .inl (cI, 64, .inl (fun _ => fp_oi 0))), (q3, .inl (cI, 8, .inl (fun _ => fp_oi 0))), (q4, .inl (cI, 8, .inl (fun _ => fp_oi 0)))] H := hP
  have hD : va_D A [(h0, .inr (3, [.ref q1, .int (fp_oi 0), .ref q2, .ref q3, .ref q4, .int (fp_oi 0), .int 0])), (q1, .inl (cC, 80, .inl (fun _ => fp_oi 0))), (q2, .inl (cI, 64, .inl (fun _ => fp_oi 0))), (q3, .inl (cI, 8, .inl (fun _ => fp_oi 0))), (q4, .inl (cI, 8, .inl (fun _ => fp_oi 0)))] := hD
  refine lv_aload_n hx hb dX3_init_46 rfl (lv_at hl 0 rfl) ?_
  refine lv_iconst (v := fp_oi 0) hx hb dX3_init_47 rfl ?_
  refine fk_pu hF rfl 6 (by decide) fkFX3_32 rfl rfl (ty := .int) (by decide +kernel) rfl rfl (Nat.le_of_ble_eq_true rfl) hP hD hS dX3_init_48 (fun H locs hP hD hS => ?_)
  have hP : va_P D fp_cl [(h0, .inr (3, [.ref q1, .int (fp_oi 0), .ref q2, .ref q3, .ref q4, .int (fp_oi 0), .int (fp_oi 0)])), (q1, .inl (cC, 80, .inl (fun _ => fp_oi 0))), (q2, .inl (cI, 64, .inl (fun _ => fp_oi 0))), (q3, .inl (cI, 8, .inl (fun _ => fp_oi 0))), (q4, .inl (cI, 8, .inl (fun _ => fp_oi 0)))] H := hP
  have hD : va_D A [(h0, .inr (3, [.ref q1, .int (fp_oi 0), .ref q2, .ref q3, .ref q4, .int (fp_oi 0), .int (fp_oi 0)])), (q1, .inl (cC, 80, .inl (fun _ => fp_oi 0))), (q2, .inl (cI, 64, .inl (fun _ => fp_oi 0))), (q3, .inl (cI, 8, .inl (fun _ => fp_oi 0))), (q4, .inl (cI, 8, .inl (fun _ => fp_oi 0)))] := hD
  exact kk 51 (fun k => [h0, q1, q2, q3, q4].getD k 0) _ _ ls rfl hP hD hS dX3_init_51
end FKL
