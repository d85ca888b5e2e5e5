/-! the constructor of FoldedProfiles -/
section FKX
variable {l : Launch} {D : va_G} {cI cC cO : ClassId} {bF : Nat}
abbrev FkU : Type := Nat × (Nat → Nat) × (Nat → Nat) × (Nat → Nat) × ((Nat → Nat) × (Nat → Nat → Nat)) × (Nat → Nat)
def fk_w6 (cI cC cO : ClassId) (u : FkU) : va_W := (u.1, .inr (6, [.ref (u.2.1 0), .ref (u.2.2.1 0), .ref (u.2.2.2.1 0), .int (fp_oi 0), .ref (u.2.2.2.2.1.1 0), .ref (u.2.2.2.2.2 0)])) :: (fk_G cI u.2.1 ++ fk_G cI u.2.2.1 ++ fk_G cI u.2.2.2.1 ++ fk_wH cI cO u.2.2.2.2.1 ++ fk_w3 cI cC u.2.2.2.2.2)
set_option maxHeartbeats 4000000 in
set_option maxRecDepth 100000 in
theorem fk_m6 : fk_Met l D cI cC cO bF yX6_init cX6_init 1 6 [.null, .null, .null, .int 0, .null, .null] (fk_w6 cI cC cO) (fun h0 u => u.1 = h0) { frames := 4, cells := 105, slots := 1448, locals := 73 } := by
  refine fk_ofW (by decide) rfl (Nat.le_refl 1) ?_
  intro A p e s m args below meth c Q h0 ls hF hP hD hS hl kk
  have hF : fk_S D cI cC cO bF A p s m args meth c cX6_init 1 RX6 := hF
  have hF0 := hF
  obtain ⟨hX, hK, hE, hA, hin⟩ := hF0
  have hX0 := hX
  obtain ⟨hx, hb, hml, hown, hts⟩ := hX0
  have hE0 := hE
  obtain ⟨-, -, -, nw, -, -⟩ := hE0
  refine lv_aload_n hx hb dX6_init_0 rfl (lv_at hl 0 rfl) ?_
  refine fk_obj hF fkMX6_1 hl.1 dX6_init_1 ⟨by decide, by decide⟩ ?_
  refine lv_aload_n hx hb dX6_init_4 rfl (lv_at hl 0 rfl) ?_
  refine fk_mk (ci := 4) (C := RX4) (T := TX4) (N := 9) (ty := tyX4) (raw := [.null, .null, .null, .null, .int 0, .int 0, .int 0, .int 0, .int 0]) hX hK hE hA hl.1 rfl tyX4_ok (fun j hj => by rcases (show j = 0 ∨ j = 1 ∨ j = 2 ∨ j = 3 ∨ j = 4 ∨ j = 5 ∨ j = 6 ∨ j = 7 ∨ j = 8 by omega) with rfl | rfl | rfl | rfl | rfl | rfl | rfl | rfl | rfl <;> rfl) fkLX6_7 fkNX4 fkJX4 fk_m4 rfl ⟨by decide, by decide⟩ fkC_X4_init fkI_X4_init (Or.inr (nw _ (List.mem_of_getElem? (i := 0) rfl))) ⟨Nat.le_of_ble_eq_true rfl, Nat.le_of_ble_eq_true rfl⟩ (Nat.le_of_ble_eq_true rfl) (Nat.le_of_ble_eq_true rfl) dX6_init_5 dX6_init_8 dX6_init_9 (Nat.le_of_ble_eq_true rfl) hP hD hS (fun q u0 H locs hu hP hD hS => ?_)
  subst hu
  have hP : va_P D fp_cl ((h0, .inr (6, [.null, .null, .null, .int 0, .null, .null])) :: (fk_G cI u0)) H := hP
  have hD : va_D A ((h0, .inr (6, [.null, .null, .null, .int 0, .null, .null])) :: (fk_G cI u0)) := hD
  refine fk_pf hF rfl 0 (by decide) fkFX6_10 rfl rfl (ty := .object RX4) (by decide +kernel) rfl rfl (Nat.le_of_ble_eq_true rfl) hP hD hS dX6_init_12 (fun H locs hP hD hS => ?_)
  have hP : va_P D fp_cl ((h0, .inr (6, [.ref (u0 0), .null, .null, .int 0, .null, .null])) :: (fk_G cI u0)) H := hP
  have hD : va_D A ((h0, .inr (6, [.ref (u0 0), .null, .null, .int 0, .null, .null])) :: (fk_G cI u0)) := hD
  refine lv_aload_n hx hb dX6_init_15 rfl (lv_at hl 0 rfl) ?_
  refine fk_mk (ci := 4) (C := RX4) (T := TX4) (N := 9) (ty := tyX4) (raw := [.null, .null, .null, .null, .int 0, .int 0, .int 0, .int 0, .int 0]) hX hK hE hA hl.1 rfl tyX4_ok (fun j hj => by rcases (show j = 0 ∨ j = 1 ∨ j = 2 ∨ j = 3 ∨ j = 4 ∨ j = 5 ∨ j = 6 ∨ j = 7 ∨ j = 8 by omega) with rfl | rfl | rfl | rfl | rfl | rfl | rfl | rfl | rfl <;> rfl) fkLX6_7 fkNX4 fkJX4 fk_m4 rfl ⟨by decide, by decide⟩ fkC_X4_init fkI_X4_init (Or.inr (nw _ (List.mem_of_getElem? (i := 0) rfl))) ⟨Nat.le_of_ble_eq_true rfl, Nat.le_of_ble_eq_true rfl⟩ (Nat.le_of_ble_eq_true rfl) (Nat.le_of_ble_eq_true rfl) dX6_init_16 dX6_init_19 dX6_init_20 (Nat.le_of_ble_eq_true rfl) hP hD hS (fun q u1 H locs hu hP hD hS => ?_)
  subst hu
  have hP : va_P D fp_cl ((h0, .inr (6, [.ref (u0 0), .null, .null, .int 0, .null, .null])) :: (fk_G cI u0 ++ fk_G cI u1)) H := hP
  have hD : va_D A ((h0, .inr (6, [.ref (u0 0), .null, .null, .int 0, .null, .null])) :: (fk_G cI u0 ++ fk_G cI u1)) := hD
  refine fk_pf hF rfl 1 (by decide) fkFX6_16 rfl rfl (ty := .object RX4) (by decide +kernel) rfl rfl (Nat.le_of_ble_eq_true rfl) hP hD hS dX6_init_23 (fun H locs hP hD hS => ?_)
  have hP : va_P D fp_cl ((h0, .inr (6, [.ref (u0 0), .ref (u1 0), .null, .int 0, .null, .null])) :: (fk_G cI u0 ++ fk_G cI u1)) H := hP
  have hD : va_D A ((h0, .inr (6, [.ref (u0 0), .ref (u1 0), .null, .int 0, .null, .null])) :: (fk_G cI u0 ++ fk_G cI u1)) := hD
  refine lv_aload_n hx hb dX6_init_26 rfl (lv_at hl 0 rfl) ?_
  refine fk_mk (ci := 4) (C := RX4) (T := TX4) (N := 9) (ty := tyX4) (raw := [.null, .null, .null, .null, .int 0, .int 0, .int 0, .int 0, .int 0]) hX hK hE hA hl.1 rfl tyX4_ok (fun j hj => by rcases (show j = 0 ∨ j = 1 ∨ j = 2 ∨ j = 3 ∨ j = 4 ∨ j = 5 ∨ j = 6 ∨ j = 7 ∨ j = 8 by omega) with rfl | rfl | rfl | rfl | rfl | rfl | rfl | rfl | rfl <;> rfl) fkLX6_7 fkNX4 fkJX4 fk_m4 rfl ⟨by decide, by decide⟩ fkC_X4_init fkI_X4_init (Or.inr (nw _ (List.mem_of_getElem? (i := 0) rfl))) ⟨Nat.le_of_ble_eq_true rfl, Nat.le_of_ble_eq_true rfl⟩ (Nat.le_of_ble_eq_true rfl) (Nat.le_of_ble_eq_true rfl) dX6_init_27 dX6_init_30 dX6_init_31 (Nat.le_of_ble_eq_true rfl) hP hD hS (fun q u2 H locs hu hP hD hS => ?_)
  subst hu
  have hP : va_P D fp_cl ((h0, .inr (6, [.ref (u0 0), .ref (u1 0), .null, .int 0, .null, .null])) :: (fk_G cI u0 ++ fk_G cI u1 ++ fk_G cI u2)) H := hP
  have hD : va_D A ((h0, .inr (6, [.ref (u0 0), .ref (u1 0), .null, .int 0, .null, .null])) :: (fk_G cI u0 ++ fk_G cI u1 ++ fk_G cI u2)) := hD
  refine fk_pf hF rfl 2 (by decide) fkFX6_19 rfl rfl (ty := .object RX4) (by decide +kernel) rfl rfl (Nat.le_of_ble_eq_true rfl) hP hD hS dX6_init_34 (fun H locs hP hD hS => ?_)
  have hP : va_P D fp_cl ((h0, .inr (6, [.ref (u0 0), .ref (u1 0), .ref (u2 0), .int 0, .null, .null])) :: (fk_G cI u0 ++ fk_G cI u1 ++ fk_G cI u2)) H := hP
  have hD : va_D A ((h0, .inr (6, [.ref (u0 0), .ref (u1 0), .ref (u2 0), .int 0, .null, .null])) :: (fk_G cI u0 ++ fk_G cI u1 ++ fk_G cI u2)) := hD
  refine lv_aload_n hx hb dX6_init_37 rfl (lv_at hl 0 rfl) ?_
  refine lv_iconst (v := fp_oi 0) hx hb dX6_init_38 rfl ?_
  refine fk_pu hF rfl 3 (by decide) fkFX6_22 rfl rfl (ty := .boolean) (by decide +kernel) (by rw [fp_oi_0]; rfl) rfl (Nat.le_of_ble_eq_true rfl) hP hD hS dX6_init_39 (fun H locs hP hD hS => ?_)
  have hP : va_P D fp_cl ((h0, .inr (6, [.ref (u0 0), .ref (u1 0), .ref (u2 0), .int (fp_oi 0), .null, .null])) :: (fk_G cI u0 ++ fk_G cI u1 ++ fk_G cI u2)) H := hP
  have hD : va_D A ((h0, .inr (6, [.ref (u0 0), .ref (u1 0), .ref (u2 0), .int (fp_oi 0), .null, .null])) :: (fk_G cI u0 ++ fk_G cI u1 ++ fk_G cI u2)) := hD
  refine lv_aload_n hx hb dX6_init_42 rfl (lv_at hl 0 rfl) ?_
  refine fk_mk (ci := 0) (C := RX0) (T := TX0) (N := 3) (ty := tyX0) (raw := [.null, .int 0, .int 0]) hX hK hE hA hl.1 rfl tyX0_ok (fun j hj => by rcases (show j = 0 ∨ j = 1 ∨ j = 2 by omega) with rfl | rfl | rfl <;> rfl) fkLX6_26 fkNX0 fkJX0 fk_m0 rfl ⟨by decide, by decide⟩ fkC_X0_init fkI_X0_init (Or.inl fkMX6_28) ⟨Nat.le_of_ble_eq_true rfl, Nat.le_of_ble_eq_true rfl⟩ (Nat.le_of_ble_eq_true rfl) (Nat.le_of_ble_eq_true rfl) dX6_init_43 dX6_init_46 dX6_init_47 (Nat.le_of_ble_eq_true rfl) hP hD hS (fun q v H locs hu hP hD hS => ?_)
  subst hu
  have hP : va_P D fp_cl ((h0, .inr (6, [.ref (u0 0), .ref (u1 0), .ref (u2 0), .int (fp_oi 0), .null, .null])) :: (fk_G cI u0 ++ fk_G cI u1 ++ fk_G cI u2 ++ fk_wH cI cO v)) H := hP
  have hD : va_D A ((h0, .inr (6, [.ref (u0 0), .ref (u1 0), .ref (u2 0), .int (fp_oi 0), .null, .null])) :: (fk_G cI u0 ++ fk_G cI u1 ++ fk_G cI u2 ++ fk_wH cI cO v)) := hD
  refine fk_pf hF rfl 4 (by decide) fkFX6_29 rfl rfl (ty := .object RX0) (by decide +kernel) rfl rfl (Nat.le_of_ble_eq_true rfl) hP hD hS dX6_init_50 (fun H locs hP hD hS => ?_)
  have hP : va_P D fp_cl ((h0, .inr (6, [.ref (u0 0), .ref (u1 0), .ref (u2 0), .int (fp_oi 0), .ref (v.1 0), .null])) :: (fk_G cI u0 ++ fk_G cI u1 ++ fk_G cI u2 ++ fk_wH cI cO v)) H := hP
  have hD : va_D A ((h0, .inr (6, [.ref (u0 0), .ref (u1 0), .ref (u2 0), .int (fp_oi 0), .ref (v.1 0), .null])) :: (fk_G cI u0 ++ fk_G cI u1 ++ fk_G cI u2 ++ fk_wH cI cO v)) := hD
  refine lv_aload_n hx hb dX6_init_53 rfl (lv_at hl 0 rfl) ?_
  refine fk_mk (ci := 3) (C := RX3) (T := TX3) (N := 7) (ty := tyX3) (raw := [.null, .int 0, .null, .null, .null, .int 0, .int 0]) hX hK hE hA hl.1 rfl tyX3_ok (fun j hj => by rcases (show j = 0 ∨ j = 1 ∨ j = 2 ∨ j = 3 ∨ j = 4 ∨ j = 5 ∨ j = 6 by omega) with rfl | rfl | rfl | rfl | rfl | rfl | rfl <;> rfl) fkLX6_33 fkNX3 fkJX3 fk_m3 rfl ⟨by decide, by decide⟩ fkC_X3_init fkI_X3_init (Or.inr (nw _ (List.mem_of_getElem? (i := 5) rfl))) ⟨Nat.le_of_ble_eq_true rfl, Nat.le_of_ble_eq_true rfl⟩ (Nat.le_of_ble_eq_true rfl) (Nat.le_of_ble_eq_true rfl) dX6_init_54 dX6_init_57 dX6_init_58 (Nat.le_of_ble_eq_true rfl) hP hD hS (fun q t H locs hu hP hD hS => ?_)
  subst hu
  have hP : va_P D fp_cl ((h0, .inr (6, [.ref (u0 0), .ref (u1 0), .ref (u2 0), .int (fp_oi 0), .ref (v.1 0), .null])) :: (fk_G cI u0 ++ fk_G cI u1 ++ fk_G cI u2 ++ fk_wH cI cO v ++ fk_w3 cI cC t)) H := hP
  have hD : va_D A ((h0, .inr (6, [.ref (u0 0), .ref (u1 0), .ref (u2 0), .int (fp_oi 0), .ref (v.1 0), .null])) :: (fk_G cI u0 ++ fk_G cI u1 ++ fk_G cI u2 ++ fk_wH cI cO v ++ fk_w3 cI cC t)) := hD
  refine fk_pf hF rfl 5 (by decide) fkFX6_36 rfl rfl (ty := .object RX3) (by decide +kernel) rfl rfl (Nat.le_of_ble_eq_true rfl) hP hD hS dX6_init_61 (fun H locs hP hD hS => ?_)
  have hP : va_P D fp_cl ((h0, .inr (6, [.ref (u0 0), .ref (u1 0), .ref (u2 0), .int (fp_oi 0), .ref (v.1 0), .ref (t 0)])) :: (fk_G cI u0 ++ fk_G cI u1 ++ fk_G cI u2 ++ fk_wH cI cO v ++ fk_w3 cI cC t)) H := hP
  have hD : va_D A ((h0, .inr (6, [.ref (u0 0), .ref (u1 0), .ref (u2 0), .int (fp_oi 0), .ref (v.1 0), .ref (t 0)])) :: (fk_G cI u0 ++ fk_G cI u1 ++ fk_G cI u2 ++ fk_wH cI cO v ++ fk_w3 cI cC t)) := hD
  exact kk 64 (h0, u0, u1, u2, v, t) _ _ ls rfl hP hD hS dX6_init_64
end FKX
