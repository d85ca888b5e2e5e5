/-! the model's constructor; a copy of the first settings -/
def fk_s : Nat → Int := fun j => if j = 168 then 10 else if j = 2 then 8 else if j = 0 then 1 else 0
section FKC
variable {l : Launch} {D : va_G} {cI cC cO : ClassId} {bF : Nat} {A : Nat → Prop} {p : Program} {e : Env} {R : Room} {s : State} {m : MethodId} {args : Array Value} {below : List Frame} {meth : Method} {c : Code} {cc : ByteArray} {nL : Nat} {own : String} {H : Heap} {locs : List Loc} {cells slots : Nat} {Q : State → Prop} {pc : Nat} {ls : Array Slot} {rest : List Value} {ws : va_W}
def fk_w7 (cI cC : ClassId) (u : Nat → Nat) : va_W := [(u 0, .inr (7, [.ref (u 1), .int 0, .int 0, .ref (u 2), .int 0, .int 0, .ref (u 3)])), (u 1, .inl (cI, 1190, .inl (fun j => fp_oi (fk_s j)))), (u 2, .inl (cC, 80, .inl (fun _ => fp_oi 0))), (u 3, .inl (cI, 10, .inl (fun _ => fp_oi 0)))]
theorem fk_s_e : upd (upd (upd (fun _ => fp_oi 0) (nI 0).toNatClampNeg (fp_oi 1)) (nI 2).toNatClampNeg (fp_oi 8)) (nI 168).toNatClampNeg (fp_oi 10) = fun j => fp_oi (fk_s j) := by
  have h0 : (nI 0).toNatClampNeg = 0 := by decide +kernel
  have h2 : (nI 2).toNatClampNeg = 2 := by decide +kernel
  have h3 : (nI 168).toNatClampNeg = 168 := by decide +kernel
  rw [h0, h2, h3]
  funext j
  unfold upd fk_s
  by_cases e3 : j = 168
  · rw [if_pos e3, if_pos e3]
  · rw [if_neg e3, if_neg e3]
    by_cases e2 : j = 2
    · rw [if_pos e2, if_pos e2]
    · rw [if_neg e2, if_neg e2]
      by_cases e0 : j = 0
      · rw [if_pos e0, if_pos e0]
      · rw [if_neg e0, if_neg e0]
set_option maxHeartbeats 4000000 in
set_option maxRecDepth 100000 in
theorem fk_m7 : fk_Met l D cI cC cO bF yX7_init cX7_init 1 7 [.null, .int 0, .int 0, .null, .int 0, .int 0, .null] (fk_w7 cI cC) (fun h0 u => u 0 = h0) { frames := 1, cells := 3, slots := 1280, locals := 12 } := by
  refine fk_ofW (by decide) rfl (Nat.le_refl 1) ?_
  intro A p e s m args below meth c Q h0 ls hF hP hD hS hl kk
  have hF : fk_S D cI cC cO bF A p s m args meth c cX7_init 1 RX7 := hF
  have hF0 := hF
  obtain ⟨⟨hx, hb, hml, hown, hts⟩, hK, hE, hA, hin⟩ := hF0
  have c1 := (fp_cok (a := 7) (C := RX7) (T := TX7) (N := 7) rfl).1
  refine lv_aload_n hx hb dX7_init_0 rfl (lv_at hl 0 rfl) ?_
  refine fk_obj hF fkMX7_1 hl.1 dX7_init_1 ⟨by decide, by decide⟩ ?_
  refine lv_aload_n hx hb dX7_init_4 rfl (lv_at hl 0 rfl) ?_
  refine lv_sipush (v := nI 1190) hx hb dX7_init_5 (by decide +kernel) ?_
  refine fk_na (atype := .int) 0 hF fkA_int rfl (Or.inl rfl) rfl hP hD hS (N := 1190) (by decide +kernel) (by decide +kernel) (by omega) (Nat.le_of_ble_eq_true rfl) (Nat.le_of_ble_eq_true rfl) dX7_init_8 (fun q1 H hP hD hS => ?_)
  have hP : va_P D fp_cl [(h0, .inr (7, [.null, .int 0, .int 0, .null, .int 0, .int 0, .null])), (q1, .inl (cI, 1190, .inl (fun _ => fp_oi 0)))] H := hP
  have hD : va_D A [(h0, .inr (7, [.null, .int 0, .int 0, .null, .int 0, .int 0, .null])), (q1, .inl (cI, 1190, .inl (fun _ => fp_oi 0)))] := hD
  refine fk_pf hF rfl 0 (by decide) fkFX7_7 rfl rfl (ty := .array .int) (by decide +kernel) rfl rfl (Nat.le_of_ble_eq_true rfl) hP hD hS dX7_init_10 (fun H locs hP hD hS => ?_)
  have hP : va_P D fp_cl [(h0, .inr (7, [.ref q1, .int 0, .int 0, .null, .int 0, .int 0, .null])), (q1, .inl (cI, 1190, .inl (fun _ => fp_oi 0)))] H := hP
  have hD : va_D A [(h0, .inr (7, [.ref q1, .int 0, .int 0, .null, .int 0, .int 0, .null])), (q1, .inl (cI, 1190, .inl (fun _ => fp_oi 0)))] := hD
  refine lv_aload_n hx hb dX7_init_13 rfl (lv_at hl 0 rfl) ?_
  refine lv_bipush (v := nI 80) hx hb dX7_init_14 (by decide +kernel) ?_
  refine fk_na (atype := .char) 1 hF fkA_char rfl (Or.inr rfl) rfl hP hD hS (N := 80) (by decide +kernel) (by decide +kernel) (by omega) (Nat.le_of_ble_eq_true rfl) (Nat.le_of_ble_eq_true rfl) dX7_init_16 (fun q2 H hP hD hS => ?_)
  have hP : va_P D fp_cl [(h0, .inr (7, [.ref q1, .int 0, .int 0, .null, .int 0, .int 0, .null])), (q1, .inl (cI, 1190, .inl (fun _ => fp_oi 0))), (q2, .inl (cC, 80, .inl (fun _ => fp_oi 0)))] H := hP
  have hD : va_D A [(h0, .inr (7, [.ref q1, .int 0, .int 0, .null, .int 0, .int 0, .null])), (q1, .inl (cI, 1190, .inl (fun _ => fp_oi 0))), (q2, .inl (cC, 80, .inl (fun _ => fp_oi 0)))] := hD
  refine fk_pf hF rfl 3 (by decide) fkFX7_13 rfl rfl (ty := .array .char) (by decide +kernel) rfl rfl (Nat.le_of_ble_eq_true rfl) hP hD hS dX7_init_18 (fun H locs hP hD hS => ?_)
  have hP : va_P D fp_cl [(h0, .inr (7, [.ref q1, .int 0, .int 0, .ref q2, .int 0, .int 0, .null])), (q1, .inl (cI, 1190, .inl (fun _ => fp_oi 0))), (q2, .inl (cC, 80, .inl (fun _ => fp_oi 0)))] H := hP
  have hD : va_D A [(h0, .inr (7, [.ref q1, .int 0, .int 0, .ref q2, .int 0, .int 0, .null])), (q1, .inl (cI, 1190, .inl (fun _ => fp_oi 0))), (q2, .inl (cC, 80, .inl (fun _ => fp_oi 0)))] := hD
  refine lv_aload_n hx hb dX7_init_21 rfl (lv_at hl 0 rfl) ?_
  refine lv_bipush (v := nI 10) hx hb dX7_init_22 (by decide +kernel) ?_
  refine fk_na (atype := .int) 0 hF fkA_int rfl (Or.inl rfl) rfl hP hD hS (N := 10) (by decide +kernel) (by decide +kernel) (by omega) (Nat.le_of_ble_eq_true rfl) (Nat.le_of_ble_eq_true rfl) dX7_init_24 (fun q3 H hP hD hS => ?_)
  have hP : va_P D fp_cl [(h0, .inr (7, [.ref q1, .int 0, .int 0, .ref q2, .int 0, .int 0, .null])), (q1, .inl (cI, 1190, .inl (fun _ => fp_oi 0))), (q2, .inl (cC, 80, .inl (fun _ => fp_oi 0))), (q3, .inl (cI, 10, .inl (fun _ => fp_oi 0)))] H := hP
  have hD : va_D A [(h0, .inr (7, [.ref q1, .int 0, .int 0, .ref q2, .int 0, .int 0, .null])), (q1, .inl (cI, 1190, .inl (fun _ => fp_oi 0))), (q2, .inl (cC, 80, .inl (fun _ => fp_oi 0))), (q3, .inl (cI, 10, .inl (fun _ => fp_oi 0)))] := hD
  refine fk_pf hF rfl 6 (by decide) fkFX7_17 rfl rfl (ty := .array .int) (by decide +kernel) rfl rfl (Nat.le_of_ble_eq_true rfl) hP hD hS dX7_init_26 (fun H locs hP hD hS => ?_)
  have hP : va_P D fp_cl [(h0, .inr (7, [.ref q1, .int 0, .int 0, .ref q2, .int 0, .int 0, .ref q3])), (q1, .inl (cI, 1190, .inl (fun _ => fp_oi 0))), (q2, .inl (cC, 80, .inl (fun _ => fp_oi 0))), (q3, .inl (cI, 10, .inl (fun _ => fp_oi 0)))] H := hP
  have hD : va_D A [(h0, .inr (7, [.ref q1, .int 0, .int 0, .ref q2, .int 0, .int 0, .ref q3])), (q1, .inl (cI, 1190, .inl (fun _ => fp_oi 0))), (q2, .inl (cC, 80, .inl (fun _ => fp_oi 0))), (q3, .inl (cI, 10, .inl (fun _ => fp_oi 0)))] := hD
  refine lv_aload_n hx hb dX7_init_29 rfl (lv_at hl 0 rfl) ?_
  refine va_get (D := D) (ci := 7) (v := .ref q1) (C := RX7) (T := TX7) (N := 7) hx hb hts c1 hown hK hP 0 rfl rfl 0 (by decide) (hts _ fkFX7_7) (fun _ h9 => h9) rfl dX7_init_30 ?_
  refine lv_iconst (v := nI 0) hx hb dX7_init_33 (by decide +kernel) ?_
  refine lv_iconst (v := fp_oi 1) hx hb dX7_init_34 rfl ?_
  refine va_iast hx hb hK hP hD hS 1 0 rfl rfl (vp_in_nI (by omega) (by omega)) dX7_init_35 (fun H locs hP hD hS => ?_)
  have hP : va_P D fp_cl [(h0, .inr (7, [.ref q1, .int 0, .int 0, .ref q2, .int 0, .int 0, .ref q3])), (q1, .inl (cI, 1190, .inl (upd (fun _ => fp_oi 0) (nI 0).toNatClampNeg (fp_oi 1)))), (q2, .inl (cC, 80, .inl (fun _ => fp_oi 0))), (q3, .inl (cI, 10, .inl (fun _ => fp_oi 0)))] H := hP
  have hD : va_D A [(h0, .inr (7, [.ref q1, .int 0, .int 0, .ref q2, .int 0, .int 0, .ref q3])), (q1, .inl (cI, 1190, .inl (upd (fun _ => fp_oi 0) (nI 0).toNatClampNeg (fp_oi 1)))), (q2, .inl (cC, 80, .inl (fun _ => fp_oi 0))), (q3, .inl (cI, 10, .inl (fun _ => fp_oi 0)))] := hD
  refine lv_aload_n hx hb dX7_init_36 rfl (lv_at hl 0 rfl) ?_
  refine va_get (D := D) (ci := 7) (v := .ref q1) (C := RX7) (T := TX7) (N := 7) hx hb hts c1 hown hK hP 0 rfl rfl 0 (by decide) (hts _ fkFX7_7) (fun _ h9 => h9) rfl dX7_init_37 ?_
  refine lv_iconst (v := nI 2) hx hb dX7_init_40 (by decide +kernel) ?_
  refine lv_bipush (v := fp_oi 8) hx hb dX7_init_41 (by decide +kernel) ?_
  refine va_iast hx hb hK hP hD hS 1 0 rfl rfl (vp_in_nI (by omega) (by omega)) dX7_init_43 (fun H locs hP hD hS => ?_)
  have hP : va_P D fp_cl [(h0, .inr (7, [.ref q1, .int 0, .int 0, .ref q2, .int 0, .int 0, .ref q3])), (q1, .inl (cI, 1190, .inl (upd (upd (fun _ => fp_oi 0) (nI 0).toNatClampNeg (fp_oi 1)) (nI 2).toNatClampNeg (fp_oi 8)))), (q2, .inl (cC, 80, .inl (fun _ => fp_oi 0))), (q3, .inl (cI, 10, .inl (fun _ => fp_oi 0)))] H := hP
  have hD : va_D A [(h0, .inr (7, [.ref q1, .int 0, .int 0, .ref q2, .int 0, .int 0, .ref q3])), (q1, .inl (cI, 1190, .inl (upd (upd (fun _ => fp_oi 0) (nI 0).toNatClampNeg (fp_oi 1)) (nI 2).toNatClampNeg (fp_oi 8)))), (q2, .inl (cC, 80, .inl (fun _ => fp_oi 0))), (q3, .inl (cI, 10, .inl (fun _ => fp_oi 0)))] := hD
  refine lv_aload_n hx hb dX7_init_44 rfl (lv_at hl 0 rfl) ?_
  refine va_get (D := D) (ci := 7) (v := .ref q1) (C := RX7) (T := TX7) (N := 7) hx hb hts c1 hown hK hP 0 rfl rfl 0 (by decide) (hts _ fkFX7_7) (fun _ h9 => h9) rfl dX7_init_45 ?_
  refine lv_sipush (v := nI 168) hx hb dX7_init_48 (by decide +kernel) ?_
  refine lv_bipush (v := fp_oi 10) hx hb dX7_init_51 (by decide +kernel) ?_
  refine va_iast hx hb hK hP hD hS 1 0 rfl rfl (vp_in_nI (by omega) (by omega)) dX7_init_53 (fun H locs hP hD hS => ?_)
  have hP : va_P D fp_cl [(h0, .inr (7, [.ref q1, .int 0, .int 0, .ref q2, .int 0, .int 0, .ref q3])), (q1, .inl (cI, 1190, .inl (upd (upd (upd (fun _ => fp_oi 0) (nI 0).toNatClampNeg (fp_oi 1)) (nI 2).toNatClampNeg (fp_oi 8)) (nI 168).toNatClampNeg (fp_oi 10)))), (q2, .inl (cC, 80, .inl (fun _ => fp_oi 0))), (q3, .inl (cI, 10, .inl (fun _ => fp_oi 0)))] H := hP
  have hD : va_D A [(h0, .inr (7, [.ref q1, .int 0, .int 0, .ref q2, .int 0, .int 0, .ref q3])), (q1, .inl (cI, 1190, .inl (upd (upd (upd (fun _ => fp_oi 0) (nI 0).toNatClampNeg (fp_oi 1)) (nI 2).toNatClampNeg (fp_oi 8)) (nI 168).toNatClampNeg (fp_oi 10)))), (q2, .inl (cC, 80, .inl (fun _ => fp_oi 0))), (q3, .inl (cI, 10, .inl (fun _ => fp_oi 0)))] := hD
  rw [fk_s_e] at hP hD
  exact kk 54 (fun k => [h0, q1, q2, q3].getD k 0) _ _ ls rfl hP hD hS dX7_init_54
set_option maxHeartbeats 4000000 in
theorem fk_clone (hF : fk_S D cI cC cO bF A p s m args meth c cc nL RX4) (hls : ls.size = nL) (hP : va_P D fp_cl ws H) (hD : va_D A ws) (hS : va_S A s.heap H locs) (hfr : 1 ≤ R.frames) (hlo : (rest.map fun v => v.category).sum + 14 ≤ R.locals) (hcells : cells + 1 ≤ R.cells) (hslots : slots + 3 ≤ R.slots) (hdg : decode cc pc = .ok (.invokevirtual 36, 3))
    (kk : ∀ (q : Nat) (H1 : Heap), va_P D fp_cl (ws ++ [(q, .inl (cI, 3, .inl fk_F))]) H1 → va_D A (ws ++ [(q, .inl (cI, 3, .inl fk_F))]) → va_S A s.heap H1 locs → W p l e R s m args below meth c H1 locs (cells + 1) (slots + 3) Q (F0 m (pc + 3) ls (.ref q :: rest))) : W p l e R s m args below meth c H locs cells slots Q (F0 m pc ls (.ref bF :: rest)) := by
  obtain ⟨⟨hx, hb, hml, hown, hts⟩, hK, hE, hA, hin⟩ := hF
  obtain ⟨⟨cell, e1, e2, e3, e4, e5, e6⟩, z, o, nw, fn, ca⟩ := hE
  obtain ⟨c0, t0, f1, f2, f3⟩ := Cond.castable_spec (va_Nw.use (A := args) rfl ca)
  have k0 := hK.2 0 (cI, .int) rfl
  have hcI : s.vm.findClass "[I" = some cI := k0.2
  have e7 : c0 = cI := Option.some.inj (f1.symm.trans hcI)
  subst e7
  have hsl : cell.slots = (vp_cell c0 (3, .inl fk_F)).slots := by
    have h := congrArg Cell.slots e6
    exact h
  have hsz : cell.slots.size = 3 := by rw [hsl]; exact arrV_size _ _ _
  intro T hT X
  have hcellT : T.heap[bF]? = some cell := by rw [hT, hS.2.1 bF (Array.getElem?_eq_some_iff.mp e1).1 e2]; exact e1
  obtain ⟨-, kA, hkA, comp, hkind⟩ := State.isArrayOf_alike X.warmed.alike (k0.1 0 (fun _ => .null))
  obtain ⟨-, kS, hkS, compS, hkindS⟩ := k0.1 0 (fun _ => .null)
  have hkA : T.vm.classes[c0]? = some kA := hkA
  have hkS : s.vm.classes[c0]? = some kS := hkS
  obtain ⟨vm', X', st⟩ := X.cloneArray hx hown (hts _ fkMX4_36) (hts _ fkS_clone) (hts _ fkV_clone) (hts _ fkI_clone) (hts _ fkT_clone) (a := bF) (cell := cell) hcellT e3 e4 (by rw [e5]; exact hcI) f2 (by rw [e5]; exact f3)
    (fun i v hv => by
      rw [e5]
      have hv2 : ∃ x : Int32, v = .int x := by
        rw [hsl] at hv
        have hi : i < 3 := by
          have := (Array.getElem?_eq_some_iff.mp hv).1
          have h3 : (vp_cell c0 (3, .inl fk_F)).slots.size = 3 := arrV_size _ _ _
          omega
        have h4 : (vp_cell c0 (3, .inl fk_F)).slots[i]? = some (.int (fk_F i)) := arrV_read _ _ hi
        exact ⟨_, (Option.some.inj (hv.symm.trans h4))⟩
      obtain ⟨x, rfl⟩ := hv2
      simp [State.fitsSlot, State.slotType?, hkA, hkind, fits])
    (g := F0 m pc ls (.ref bF :: rest)) rfl (by rw [hml]; exact hls) rfl (by rw [hb]; exact hdg) hfr (by show 2 * 0 + _ + 14 ≤ _; omega) hcells (by rw [hsz]; exact hslots) (hloader := by rw [e5]; exact Vm.clonesLoader_of_array hkS hkindS)
  rw [e6, hsz] at X'
  rw [e6] at st
  generalize hH1 : H.push (vp_cell c0 (3, .inl fk_F)) = H1
  have z1 : H1.size = H.size + 1 := by rw [← hH1, Array.size_push]
  have g1 : H1[H.size]? = some (vp_cell c0 (3, .inl fk_F)) := by rw [← hH1, Array.getElem?_push_size]
  have o1 : ∀ q : Nat, q < H.size → H1[q]? = H[q]? := fun q hq => by rw [← hH1, Array.getElem?_push, if_neg (Nat.ne_of_lt hq)]
  have hk : ∀ (k : Nat) (y : Nat × va_E), ws[k]? = some y → H1[y.1]? = H[y.1]? := fun k y hy => o1 y.1 ((hP k y hy).lt)
  have hP1 : va_P D fp_cl (ws ++ [(H.size, .inl (c0, 3, .inl fk_F))]) H1 := (hP.kept hk).app (fun k y hy => by
    have h1 := (List.getElem?_eq_some_iff.mp hy).1
    simp only [List.length_cons, List.length_nil] at h1
    obtain rfl : k = 0 := by omega
    cases hy
    exact g1)
  have hD1 : va_D A (ws ++ [(H.size, .inl (c0, 3, .inl fk_F))]) := hD.push hP rfl (hA _ hS.1)
  have hS1 : va_S A s.heap H1 locs := ⟨Nat.le_trans hS.1 (by omega), fun y h1 h2 => (o1 y (Nat.lt_of_lt_of_le h1 hS.1)).trans (hS.2.1 y h1 h2), hS.2.2⟩
  obtain ⟨t, b1, b2⟩ := kk H.size H1 hP1 hD1 hS1 ((T.setVm vm').pushCell (vp_cell c0 (3, .inl fk_F))) (by rw [← hH1, ← hT]; rfl) X'
  refine ⟨t, st t ?_, b2⟩
  rw [hT]
  exact b1
end FKC
