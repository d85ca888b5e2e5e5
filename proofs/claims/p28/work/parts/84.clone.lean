/-! the model's constructor; a copy of the first settings -/
section FKC
variable {l : Launch} {D : va_G} {cI cC cO : ClassId} {bF : Nat} {A : Nat → Prop} {p : Program} {e : Env} {R : Room} {s : State} {m : MethodId} {args : Array Value} {below : List Frame} {meth : Method} {c : Code} {cc : ByteArray} {nL : Nat} {own : String} {H : Heap} {locs : List Loc} {cells slots : Nat} {Q : State → Prop} {pc : Nat} {ls : Array Slot} {rest : List Value} {ws : va_W}
set_option maxHeartbeats 4000000 in
theorem fk_clone (hF : fk_S D cI cC cO bF A p s m args meth c cc nL RX4) (hls : ls.size = nL) (hP : va_P D fp_cl ws H) (hD : va_D A ws) (hS : va_S A s.heap H locs) (hfr : 1 ≤ R.frames) (hlo : (rest.map fun v => v.category).sum + 14 ≤ R.locals) (hcells : cells + 1 ≤ R.cells) (hslots : slots + 3 ≤ R.slots) (hdg : decode cc pc = .ok (.invokevirtual 36, 3))
    (kk : ∀ (q : Nat) (H1 : Heap), va_P D fp_cl (ws ++ [(q, .inl (cI, 3, .inl fk_F))]) H1 → va_D A (ws ++ [(q, .inl (cI, 3, .inl fk_F))]) → va_S A s.heap H1 locs → W p l e R s m args below meth c H1 locs (cells + 1) (slots + 3) Q (F0 m (pc + 3) ls (.ref q :: rest))) : W p l e R s m args below meth c H locs cells slots Q (F0 m pc ls (.ref bF :: rest)) := by
  obtain ⟨⟨hx, hb, hml, hown, hts⟩, hK, hE, hA, hin⟩ := hF
  obtain ⟨⟨cell, e1, e2, e3, e4, e5, e6⟩, z, o, nw, fn, ca⟩ := hE
  obtain ⟨c0, t0, f1, f2, f3⟩ := Cond.castable_spec (va_Nw.use (A := args) rfl ca)
  have k0 := hK.2 0 (cI, .int) rfl
  have hcI : s.vm.findClass "[I" = some cI := k0.2
  have e7 : c0 = cI := Option.some.inj (f1.symm.trans hcI)
  subst e7
  have hsl : cell.slots = (vp_cell c0 (3, .inl fk_F)).slots := by
    have h := congrArg Cell.slots e6
    exact h
  have hsz : cell.slots.size = 3 := by rw [hsl]; exact arrV_size _ _ _
  intro T hT X
  have hcellT : T.heap[bF]? = some cell := by rw [hT, hS.2.1 bF (Array.getElem?_eq_some_iff.mp e1).1 e2]; exact e1
  obtain ⟨-, kA, hkA, comp, hkind⟩ := State.isArrayOf_alike X.warmed.alike (k0.1 0 (fun _ => .null))
  obtain ⟨-, kS, hkS, compS, hkindS⟩ := k0.1 0 (fun _ => .null)
  have hkA : T.vm.classes[c0]? = some kA := hkA
  have hkS : s.vm.classes[c0]? = some kS := hkS
  obtain ⟨vm', X', st⟩ := X.cloneArray hx hown (hts _ fkMX4_36) (hts _ fkS_clone) (hts _ fkV_clone) (hts _ fkI_clone) (hts _ fkT_clone) (a := bF) (cell := cell) hcellT e3 e4 (by rw [e5]; exact hcI) f2 (by rw [e5]; exact f3)
    (fun i v hv => by
      rw [e5]
      have hv2 : ∃ x : Int32, v = .int x := by
        rw [hsl] at hv
        have hi : i < 3 := by
          have := (Array.getElem?_eq_some_iff.mp hv).1
          have h3 : (vp_cell c0 (3, .inl fk_F)).slots.size = 3 := arrV_size _ _ _
          omega
        have h4 : (vp_cell c0 (3, .inl fk_F)).slots[i]? = some (.int (fk_F i)) := arrV_read _ _ hi
        exact ⟨_, (Option.some.inj (hv.symm.trans h4))⟩
      obtain ⟨x, rfl⟩ := hv2
      simp [State.fitsSlot, State.slotType?, hkA, hkind, fits])
    (g := F0 m pc ls (.ref bF :: rest)) rfl (by rw [hml]; exact hls) rfl (by rw [hb]; exact hdg) hfr (by show 2 * 0 + _ + 14 ≤ _; omega) hcells (by rw [hsz]; exact hslots) (hloader := by rw [e5]; exact Vm.clonesLoader_of_array hkS hkindS)
  rw [e6, hsz] at X'
  rw [e6] at st
  generalize hH1 : H.push (vp_cell c0 (3, .inl fk_F)) = H1
  have z1 : H1.size = H.size + 1 := by rw [← hH1, Array.size_push]
  have g1 : H1[H.size]? = some (vp_cell c0 (3, .inl fk_F)) := by rw [← hH1, Array.getElem?_push_size]
  have o1 : ∀ q : Nat, q < H.size → H1[q]? = H[q]? := fun q hq => by rw [← hH1, Array.getElem?_push, if_neg (Nat.ne_of_lt hq)]
  have hk : ∀ (k : Nat) (y : Nat × va_E), ws[k]? = some y → H1[y.1]? = H[y.1]? := fun k y hy => o1 y.1 ((hP k y hy).lt)
  have hP1 : va_P D fp_cl (ws ++ [(H.size, .inl (c0, 3, .inl fk_F))]) H1 := (hP.kept hk).app (fun k y hy => by
    have h1 := (List.getElem?_eq_some_iff.mp hy).1
    simp only [List.length_cons, List.length_nil] at h1
    obtain rfl : k = 0 := by omega
    cases hy
    exact g1)
  have hD1 : va_D A (ws ++ [(H.size, .inl (c0, 3, .inl fk_F))]) := hD.push hP rfl (hA _ hS.1)
  have hS1 : va_S A s.heap H1 locs := ⟨Nat.le_trans hS.1 (by omega), fun y h1 h2 => (o1 y (Nat.lt_of_lt_of_le h1 hS.1)).trans (hS.2.1 y h1 h2), hS.2.2⟩
  obtain ⟨t, b1, b2⟩ := kk H.size H1 hP1 hD1 hS1 ((T.setVm vm').pushCell (vp_cell c0 (3, .inl fk_F))) (by rw [← hH1, ← hT]; rfl) X'
  refine ⟨t, st t ?_, b2⟩
  rw [hT]
  exact b1
end FKC
