/-! the constructor of the history -/
section FKH
variable {l : Launch} {D : va_G} {cI cC cO : ClassId} {bF : Nat} {A : Nat → Prop} {p : Program} {e : Env} {R : Room} {s : State} {m : MethodId} {args : Array Value} {below : List Frame} {meth : Method} {c : Code} {H : Heap} {locs : List Loc} {cells slots : Nat} {Q : State → Prop} {ls : Array Slot}
def fk_Hf (s : Nat → Nat → Nat) : Nat → Option Nat := fun i => if i < 4 then some (s i 0) else none
def fk_Hs (u0 u1 u2 u3 : Nat → Nat) : Nat → Nat → Nat := fun i => if i = 0 then u0 else if i = 1 then u1 else if i = 2 then u2 else u3
theorem fk_Hf_e {u0 u1 u2 u3 : Nat → Nat} : va_up (va_up (va_up (va_up (fun _ => none) 0 (some (u0 0))) 1 (some (u1 0))) 2 (some (u2 0))) 3 (some (u3 0)) = fk_Hf (fk_Hs u0 u1 u2 u3) := by
  funext j
  unfold fk_Hf fk_Hs va_up
  by_cases h3 : j = 3
  · subst h3; rfl
  · rw [if_neg h3]
    by_cases h2 : j = 2
    · subst h2; rfl
    · rw [if_neg h2]
      by_cases h1 : j = 1
      · subst h1; rfl
      · rw [if_neg h1]
        by_cases h0 : j = 0
        · subst h0; rfl
        · rw [if_neg h0, if_neg (by omega)]
def fk_wH (cI cO : ClassId) (u : (Nat → Nat) × (Nat → Nat → Nat)) : va_W := (u.1 0, .inr (0, [.ref (u.1 1), .int (fp_oi 0), .int (fp_oi 0)])) :: (u.1 1, .inl (cO, 4, .inr (.inr (.inr (.inr (fk_Hf u.2)))))) :: (fk_G cI (u.2 0) ++ fk_G cI (u.2 1) ++ fk_G cI (u.2 2) ++ fk_G cI (u.2 3))
set_option maxHeartbeats 4000000 in
set_option maxRecDepth 100000 in
theorem fk_hit (k : Nat) (hge : ¬ nI 4 ≤ nI k) (hin4 : vp_in (nI k) 4) (hcl : (nI k).toNatClampNeg = k) (hinc : nI k + Int32.ofInt 1 = nI (k + 1)) (hF : fk_S D cI cC cO bF A p s m args meth c cX0_init 2 RX0) {h0 a : Nat} {tl : va_W} {f : Nat → Option Nat}
    (hP : va_P D fp_cl ((h0, .inr (0, [.ref a, .int (fp_oi 0), .int (fp_oi 0)])) :: (a, .inl (cO, 4, .inr (.inr (.inr (.inr f))))) :: tl) H) (hD : va_D A ((h0, .inr (0, [.ref a, .int (fp_oi 0), .int (fp_oi 0)])) :: (a, .inl (cO, 4, .inr (.inr (.inr (.inr f))))) :: tl)) (hS : va_S A s.heap H locs)
    (hl : lv_has ls 2 [(1, .int (nI k)), (0, .ref h0)]) (hR : 3 ≤ R.frames ∧ 52 ≤ R.locals) (hcells : cells + 14 ≤ R.cells) (hslots : slots + 182 ≤ R.slots)
    (kk : ∀ (u : Nat → Nat) (H : Heap) (locs : List Loc) (ls : Array Slot), va_P D fp_cl ((h0, .inr (0, [.ref a, .int (fp_oi 0), .int (fp_oi 0)])) :: (a, .inl (cO, 4, .inr (.inr (.inr (.inr (va_up f k (some (u 0)))))))) :: (tl ++ fk_G cI u)) H → va_D A ((h0, .inr (0, [.ref a, .int (fp_oi 0), .int (fp_oi 0)])) :: (a, .inl (cO, 4, .inr (.inr (.inr (.inr (va_up f k (some (u 0)))))))) :: (tl ++ fk_G cI u)) → va_S A s.heap H locs → lv_has ls 2 [(1, .int (nI (k + 1))), (0, .ref h0)] → W p l e R s m args below meth c H locs (cells + 14) (slots + 182) Q (F0 m 24 ls [])) :
    W p l e R s m args below meth c H locs cells slots Q (F0 m 24 ls []) := by
  have hF0 := hF
  obtain ⟨hX, hK, hE, hA, hin⟩ := hF0
  have hX0 := hX
  obtain ⟨hx, hb, hml, hown, hts⟩ := hX0
  have hE0 := hE
  obtain ⟨-, hz, hao, nw, fn, -⟩ := hE0
  have c1 := (fp_cok (a := 0) (C := RX0) (T := TX0) (N := 3) rfl).1
  refine lv_iload_n hx hb dX0_init_24 rfl (lv_at hl 0 rfl) ?_
  refine lv_iconst (v := nI 4) hx hb dX0_init_25 (by decide +kernel) ?_
  refine lv_icmp_ge (tgt := 48) hx hb dX0_init_26 (by decide) (fun q => absurd q hge) (fun _ => ?_)
  refine lv_aload_n hx hb dX0_init_29 rfl (lv_at hl 1 rfl) ?_
  refine va_get (D := D) (ci := 0) (v := .ref a) (C := RX0) (T := TX0) (N := 3) hx hb hts c1 hown hK hP 0 rfl rfl 0 (by decide) (hts _ fkFX0_11) (fun _ h9 => h9) rfl dX0_init_30 ?_
  refine lv_iload_n hx hb dX0_init_33 rfl (lv_at hl 0 rfl) ?_
  refine fk_mk (ci := 4) (C := RX4) (T := TX4) (N := 9) (ty := tyX4) (raw := [.null, .null, .null, .null, .int 0, .int 0, .int 0, .int 0, .int 0]) (rm := { frames := 2, cells := 13, slots := 173, locals := 32 }) hX hK hE hA hl.1 rfl tyX4_ok (fun j hj => by rcases (show j = 0 ∨ j = 1 ∨ j = 2 ∨ j = 3 ∨ j = 4 ∨ j = 5 ∨ j = 6 ∨ j = 7 ∨ j = 8 by omega) with rfl | rfl | rfl | rfl | rfl | rfl | rfl | rfl | rfl <;> rfl) fkLX0_9 fkNX4 fkJX4 fk_m4 rfl ⟨by decide, by decide⟩ fkC_X4_init fkI_X4_init (Or.inr (nw _ (List.mem_of_getElem? (i := 4) rfl))) ⟨hR.1, hR.2⟩ hcells hslots dX0_init_34 dX0_init_37 dX0_init_38 (Nat.le_of_ble_eq_true rfl) hP hD hS (fun q u H locs hu hP hD hS => ?_)
  subst hu
  have hP : va_P D fp_cl ((h0, .inr (0, [.ref a, .int (fp_oi 0), .int (fp_oi 0)])) :: (a, .inl (cO, 4, .inr (.inr (.inr (.inr f))))) :: (tl ++ fk_G cI u)) H := hP
  have hD : va_D A ((h0, .inr (0, [.ref a, .int (fp_oi 0), .int (fp_oi 0)])) :: (a, .inl (cO, 4, .inr (.inr (.inr (.inr f))))) :: (tl ++ fk_G cI u)) := hD
  refine va_astq hx hb hK hP hD hS 1 2 (tl.length + 2) 4 (r := (RX4, TX4, 9)) (v := u 0) (vs := [.ref (u 1), .ref (u 6), .ref (u 9), .ref (u 13), .int (fp_oi 10), .int (fp_oi 0), .int (fp_oi 0), .int (fp_oi 0), .int (fp_oi 0)]) rfl rfl ?_ rfl hin4 dX0_init_41 (fun H locs hP hD hS => ?_)
  · show (tl ++ fk_G cI u)[tl.length]? = _
    rw [List.getElem?_append_right (Nat.le_refl _), Nat.sub_self]
    rfl
  rw [hcl] at hP hD
  refine lv_iinc (v := nI (k + 1)) (lv' := [(1, .int (nI (k + 1))), (0, .ref h0)]) hx hb dX0_init_42 hl (k := 0) rfl hinc (by decide) rfl (fun ls hl => ?_)
  refine lv_goto (tgt := 24) hx hb dX0_init_45 (by decide) ?_
  exact kk u H locs ls hP hD hS hl
set_option maxHeartbeats 4000000 in
set_option maxRecDepth 100000 in
theorem fk_m0 : fk_Met l D cI cC cO bF yX0_init cX0_init 2 0 [.null, .int 0, .int 0] (fk_wH cI cO) (fun h0 u => u.1 0 = h0) { frames := 3, cells := 57, slots := 732, locals := 52 } := by
  refine fk_ofW (by decide) rfl (by omega) ?_
  intro A p e s m args below meth c Q h0 ls hF hP hD hS hl kk
  have hF : fk_S D cI cC cO bF A p s m args meth c cX0_init 2 RX0 := hF
  have hF0 := hF
  obtain ⟨hX, hK, hE, hA, hin⟩ := hF0
  have hX0 := hX
  obtain ⟨hx, hb, hml, hown, hts⟩ := hX0
  have hE0 := hE
  obtain ⟨-, hz, hao, nw, fn, -⟩ := hE0
  refine lv_aload_n hx hb dX0_init_0 rfl (lv_at hl 0 rfl) ?_
  refine fk_obj hF fkMX0_3 hl.1 dX0_init_1 ⟨by decide, by decide⟩ ?_
  refine lv_aload_n hx hb dX0_init_4 rfl (lv_at hl 0 rfl) ?_
  refine lv_iconst (v := nI 4) hx hb dX0_init_5 (by decide +kernel) ?_
  refine va_newq (C := RX4) hx hb hown (hts _ fkLX0_9) hao hK hP hD hS hA (N' := 4) (by decide +kernel) (by decide +kernel) (by omega) (Nat.le_of_ble_eq_true rfl) (Nat.le_of_ble_eq_true rfl) dX0_init_6 (fun q1 cA H hK1 hP hD hS => ?_)
  have e1 : cA = cO := by
    have k1 := (hK1.2 3 (cA, .object RX4) rfl).2
    have k2 := (hK.2 2 (cO, .object RX4) rfl).2
    obtain ⟨-, -, -, -, -, n1⟩ := k1
    obtain ⟨-, -, -, -, -, n2⟩ := k2
    exact Option.some.inj (n1.symm.trans n2)
  subst e1
  have hP : va_P D fp_cl [(h0, .inr (0, [.null, .int 0, .int 0])), (q1, .inl (cA, 4, .inr (.inr (.inr (.inr (fun _ => none))))))] H := hP
  have hD : va_D A [(h0, .inr (0, [.null, .int 0, .int 0])), (q1, .inl (cA, 4, .inr (.inr (.inr (.inr (fun _ => none))))))] := hD
  refine fk_pf hF rfl 0 (by decide) fkFX0_11 rfl rfl (ty := .array (.object RX4)) (by decide +kernel) rfl rfl (Nat.le_of_ble_eq_true rfl) hP hD hS dX0_init_9 (fun H locs hP hD hS => ?_)
  have hP : va_P D fp_cl [(h0, .inr (0, [.ref q1, .int 0, .int 0])), (q1, .inl (cA, 4, .inr (.inr (.inr (.inr (fun _ => none))))))] H := hP
  have hD : va_D A [(h0, .inr (0, [.ref q1, .int 0, .int 0])), (q1, .inl (cA, 4, .inr (.inr (.inr (.inr (fun _ => none))))))] := hD
  refine lv_aload_n hx hb dX0_init_12 rfl (lv_at hl 0 rfl) ?_
  refine lv_iconst (v := fp_oi 0) hx hb dX0_init_13 rfl ?_
  refine fk_pu hF rfl 1 (by decide) fkFX0_17 rfl rfl (ty := .int) (by decide +kernel) rfl rfl (Nat.le_of_ble_eq_true rfl) hP hD hS dX0_init_14 (fun H locs hP hD hS => ?_)
  have hP : va_P D fp_cl [(h0, .inr (0, [.ref q1, .int (fp_oi 0), .int 0])), (q1, .inl (cA, 4, .inr (.inr (.inr (.inr (fun _ => none))))))] H := hP
  have hD : va_D A [(h0, .inr (0, [.ref q1, .int (fp_oi 0), .int 0])), (q1, .inl (cA, 4, .inr (.inr (.inr (.inr (fun _ => none))))))] := hD
  refine lv_aload_n hx hb dX0_init_17 rfl (lv_at hl 0 rfl) ?_
  refine lv_iconst (v := fp_oi 0) hx hb dX0_init_18 rfl ?_
  refine fk_pu hF rfl 2 (by decide) fkFX0_21 rfl rfl (ty := .int) (by decide +kernel) rfl rfl (Nat.le_of_ble_eq_true rfl) hP hD hS dX0_init_19 (fun H locs hP hD hS => ?_)
  have hP : va_P D fp_cl [(h0, .inr (0, [.ref q1, .int (fp_oi 0), .int (fp_oi 0)])), (q1, .inl (cA, 4, .inr (.inr (.inr (.inr (fun _ => none))))))] H := hP
  have hD : va_D A [(h0, .inr (0, [.ref q1, .int (fp_oi 0), .int (fp_oi 0)])), (q1, .inl (cA, 4, .inr (.inr (.inr (.inr (fun _ => none))))))] := hD
  refine lv_iconst (v := nI 0) hx hb dX0_init_22 (by decide +kernel) ?_
  refine lv_istore_n (lv' := [(1, .int (nI 0)), (0, .ref h0)]) hx hb dX0_init_23 rfl hl (by decide) rfl (fun ls hl => ?_)
  refine fk_hit 0 (by decide +kernel) (vp_in_nI (by omega) (by omega)) (by decide +kernel) (by decide +kernel) hF hP hD hS hl ⟨Nat.le_of_ble_eq_true rfl, Nat.le_of_ble_eq_true rfl⟩ (Nat.le_of_ble_eq_true rfl) (Nat.le_of_ble_eq_true rfl) (fun u0 H locs ls hP hD hS hl => ?_)
  refine fk_hit 1 (by decide +kernel) (vp_in_nI (by omega) (by omega)) (by decide +kernel) (by decide +kernel) hF hP hD hS hl ⟨Nat.le_of_ble_eq_true rfl, Nat.le_of_ble_eq_true rfl⟩ (Nat.le_of_ble_eq_true rfl) (Nat.le_of_ble_eq_true rfl) (fun u1 H locs ls hP hD hS hl => ?_)
  refine fk_hit 2 (by decide +kernel) (vp_in_nI (by omega) (by omega)) (by decide +kernel) (by decide +kernel) hF hP hD hS hl ⟨Nat.le_of_ble_eq_true rfl, Nat.le_of_ble_eq_true rfl⟩ (Nat.le_of_ble_eq_true rfl) (Nat.le_of_ble_eq_true rfl) (fun u2 H locs ls hP hD hS hl => ?_)
  refine fk_hit 3 (by decide +kernel) (vp_in_nI (by omega) (by omega)) (by decide +kernel) (by decide +kernel) hF hP hD hS hl ⟨Nat.le_of_ble_eq_true rfl, Nat.le_of_ble_eq_true rfl⟩ (Nat.le_of_ble_eq_true rfl) (Nat.le_of_ble_eq_true rfl) (fun u3 H locs ls hP hD hS hl => ?_)
  refine lv_iload_n hx hb dX0_init_24 rfl (lv_at hl 0 rfl) ?_
  refine lv_iconst (v := nI 4) hx hb dX0_init_25 (by decide +kernel) ?_
  refine lv_icmp_ge (tgt := 48) hx hb dX0_init_26 (by decide) (fun _ => ?_) (fun q => absurd (by decide +kernel) q)
  rw [fk_Hf_e] at hP hD
  exact kk 48 ((fun k => [h0, q1].getD k 0), fk_Hs u0 u1 u2 u3) _ _ ls rfl hP hD hS dX0_init_48
end FKH
