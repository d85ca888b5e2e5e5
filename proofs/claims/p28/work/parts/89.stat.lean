/-! the statics at the start -/
def fk_3 (x y z : Int32) : Nat → Int32 := fun j => if j = 0 then x else if j = 1 then y else z
theorem fk_stat {args : Array Value} {s : State} {tm : Term} {x y z : Int32} (harr : (Cond.arrayOf tm .int).before args s = true) (hlen : (Cond.eq (.length tm) (.int 3)).before args s = true) (h0 : (Cond.eq (.elem tm (.int 0)) (.int x)).before args s = true) (h1 : (Cond.eq (.elem tm (.int 1)) (.int y)).before args s = true) (h2 : (Cond.eq (.elem tm (.int 2)) (.int z)).before args s = true) :
    ∃ (t : Nat) (cell : Cell), tm.eval args s none [] s = some (.ref t) ∧ s.heap[t]? = some cell ∧ s.isArrayOf cell .int ∧ cell.vm ≠ .unknown ∧ cell.slots.size = 3 ∧ ∀ j : Nat, j < 3 → cell.slots[j]? = some (.int (fk_3 x y z j)) := by
  have e := va_eqt hlen
  have el : ∀ j : Nat, j < 3 → (Term.elem tm (.int (Int32.ofNat j))).eval args s none [] s = some (.int (fk_3 x y z j)) := by
    intro j hj
    rcases (show j = 0 ∨ j = 1 ∨ j = 2 by omega) with rfl | rfl | rfl
    · exact va_eqt h0
    · exact va_eqt h1
    · exact va_eqt h2
  obtain ⟨t, ht, cell, c1, c2, c3, c4, c5, c6, -⟩ := va_Tof (N := 3) (f := fun j => .int (fk_3 x y z j)) (A := fun _ => False) (by omega) harr e el (fun _ _ h => h)
  refine ⟨t, cell, ht, c1, c2, c3, ?_, c6⟩
  obtain ⟨a, cell2, a1, a2, a3⟩ := Term.length_spec e
  cases ht.symm.trans a1
  obtain ⟨b1, -⟩ := State.arrayAt?_spec a2
  cases c1.symm.trans b1
  have hb : cell.slots.size < 2 ^ 31 := by
    by_cases hb : cell.slots.size < 2 ^ 31
    · exact hb
    · exfalso
      simp only [Term.eval, Option.bind_eq_bind, ht, Option.bind_some, a2] at e
      rw [if_neg hb] at e
      cases e
  have h3 : Int32.ofNat cell.slots.size = Int32.ofNat 3 := c5
  have h4 := congrArg Int32.toNatClampNeg h3
  rw [Int32.toNatClampNeg_ofNat_of_lt hb, Int32.toNatClampNeg_ofNat_of_lt (by omega)] at h4
  exact h4
theorem fk_vX {s : State} {t : Nat} {cell : Cell} {f : Nat → Int32} {g : Nat → Int} (h1 : s.heap[t]? = some cell) (h2 : s.isArrayOf cell .int) (h3 : cell.vm ≠ .unknown) (h4 : cell.slots.size = 3) (h5 : ∀ j : Nat, j < 3 → cell.slots[j]? = some (.int (f j))) (h6 : ∀ j, j < 3 → f j = fp_oi (g j)) : va_X t 3 (fun j => fp_oi (g j)) s s.heap :=
  ⟨cell, h1, h2, h3, h4, fun j hj => by rw [h5 j hj, h6 j hj]⟩
theorem fk_first {cI : ClassId} {cell : Cell} (h1 : cell.cls = cI) (h4 : cell.slots.size = 3) (h5 : ∀ j : Nat, j < 3 → cell.slots[j]? = some (.int (fk_3 1 0 8 j))) : ({ cls := cell.cls, slots := cell.slots } : Cell) = vp_cell cI (3, .inl fk_F) := by
  have hs : cell.slots = (vp_cell cI (3, .inl fk_F)).slots := by
    apply Array.ext_getElem?
    intro j
    by_cases hj : j < 3
    · have h6 : (vp_cell cI (3, .inl fk_F)).slots[j]? = some (.int (fk_F j)) := arrV_read _ _ hj
      rw [h5 j hj, h6]
      rcases (show j = 0 ∨ j = 1 ∨ j = 2 by omega) with rfl | rfl | rfl
      · exact congrArg (fun x => some (Value.int x)) (show fk_3 1 0 8 0 = fk_F 0 by decide +kernel)
      · exact congrArg (fun x => some (Value.int x)) (show fk_3 1 0 8 1 = fk_F 1 by decide +kernel)
      · exact congrArg (fun x => some (Value.int x)) (show fk_3 1 0 8 2 = fk_F 2 by decide +kernel)
    · have h6 : (vp_cell cI (3, .inl fk_F)).slots.size = 3 := arrV_size _ _ _
      rw [Array.getElem?_eq_none (by omega), Array.getElem?_eq_none (by omega)]
  rw [h1, hs]
  rfl
section FKD
variable {s : State} {args : Array Value}
theorem fk_K (hts : ∀ w ∈ fp_tb, w.before args s = true) (hao : va_AO RX4 s) : ∃ (D : va_G) (cI cC cO : ClassId), va_K D fp_cl (fp_tys cI cC cO) s := by
  have hc : ∀ (c : Nat), ∃ x : ClassId × (Nat → Nat), ∀ q, fp_cl[c]? = some q → u_Kn s q.1 q.2.1 q.2.2 x.1 x.2 := by
    intro c
    have key : ∀ (C : String) (T : u_T) (N : Nat), fp_cl[c]? = some (C, T, N) → Cond.instantiable C N ∈ fp_tb → ∃ x : ClassId × (Nat → Nat), ∀ q, fp_cl[c]? = some q → u_Kn s q.1 q.2.1 q.2.2 x.1 x.2 := by
      intro C T N hq hi
      obtain ⟨a, b, h⟩ := u_known (C := C) (T := T) (N := N) hts (fp_cok hq).1 (hts _ hi)
      refine ⟨(a, b), fun q h9 => ?_⟩
      cases hq.symm.trans h9
      exact h
    match c with
    | 0 => exact key _ _ _ rfl fkNX0
    | 1 => exact key _ _ _ rfl fkNX1
    | 2 => exact key _ _ _ rfl fkNX2
    | 3 => exact key _ _ _ rfl fkNX3
    | 4 => exact key _ _ _ rfl fkNX4
    | 5 => exact key _ _ _ rfl fkNX5
    | 6 => exact key _ _ _ rfl fkNX6
    | c + 7 => exact ⟨(0, fun _ => 0), fun q h => by
        have := (List.getElem?_eq_some_iff.mp h).1
        have h8 : fp_cl.length = 7 := rfl
        omega⟩
  obtain ⟨f, hf⟩ := Classical.axiomOfChoice hc
  obtain ⟨cI, kI, pI, i1, i2, i3⟩ := Cond.arrayClass_spec (hts _ fkA_int)
  obtain ⟨cC, kC, pC, j1, j2, j3⟩ := Cond.arrayClass_spec (hts _ fkA_char)
  obtain ⟨comp, cO, kO, o1, -, o3, o4, o5⟩ := Cond.arrayOver_spec (va_AO.use (A := args) hao)
  refine ⟨(fun c => (f c).1, fun c => (f c).2), cI, cC, cO, hf, fun k q hk => ?_⟩
  match k, hk with
  | 0, hk => cases hk; exact ⟨fun n z => ⟨fun k h => (by cases h), kI, i2, pI, i3⟩, i1⟩
  | 1, hk => cases hk; exact ⟨fun n z => ⟨fun k h => (by cases h), kC, j2, pC, j3⟩, j1⟩
  | 2, hk => cases hk; exact ⟨fun n z => ⟨fun k h => (by cases h), kO, o3, comp, o4⟩, kO, comp, o3, o4, o1, o5⟩
  | k + 3, hk =>
    have := (List.getElem?_eq_some_iff.mp hk).1
    have h8 : (fp_tys cI cC cO).length = 3 := rfl
    omega
end FKD
