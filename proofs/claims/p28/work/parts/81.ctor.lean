/-! the constructors: rows of their own -/
def fk_f : Nat → Int := fun j => if j = 0 then 1 else if j = 1 then 0 else if j = 2 then 8 else 0
def fk_F : Nat → Int32 := fun j => fp_oi (fk_f j)
def fk_nw : List Cond := [.methodLinkNest RX6 9 yX4_init RX6, .methodLinkNest RX4 11 yX2_init RX6, .methodLinkNest RX4 20 yX5_init RX6, .methodLinkNest RX4 27 yX1_init RX6, .methodLinkNest RX0 24 yX4_init RX6, .methodLinkNest RX6 35 yX3_init RX6]
/-- what the constructors take from outside: the first settings, the links of nest mates -/
def fk_E (cI : ClassId) (bF : Nat) (A : Nat → Prop) (U : State) : Prop := (∃ cell : Cell, U.heap[bF]? = some cell ∧ ¬ A bF ∧ (∀ k, cell.vm ≠ .statics k) ∧ cell.vm ≠ .unknown ∧ cell.cls = cI ∧ ({ cls := cell.cls, slots := cell.slots } : Cell) = vp_cell cI (3, .inl fk_F)) ∧ va_Z RX6 "FIRST_SETTING" "[I" (.ref bF) A U U.heap ∧ va_AO RX4 U ∧ (∀ w ∈ fk_nw, va_Nw w U) ∧ va_Nw (.fieldLinkNest RX4 32 RX6 "FIRST_SETTING" "[I" RX6) U ∧ va_Nw (.castable "[I" "java/lang/Cloneable") U
section FKE
variable {cI : ClassId} {bF : Nat} {A B : Nat → Prop} {s U : State}
theorem fk_E_of {H : Heap} {locs : List Loc} (h : fk_E cI bF A s) (hW : s.WarmedH U.vm) (hU : U.heap = H) (hS : va_S A s.heap H locs) (hAB : ∀ q, B q → A q) : fk_E cI bF B U := by
  obtain ⟨⟨cell, e1, e2, e3, e4, e5, e6⟩, z, o, nw, fn, ca⟩ := h
  refine ⟨⟨cell, ?_, fun q => e2 (hAB _ q), e3, e4, e5, e6⟩, ?_, va_AO.moved hW.alike o, fun w hw => ?_, va_Nw.warmF hW fn, va_Nw.warmC hW ca⟩
  · rw [hU, hS.2.1 bF (Array.getElem?_eq_some_iff.mp e1).1 e2]; exact e1
  · rw [hU]
    exact va_Z.moved hW.alike ((z.kept (fun a h1 h2 => hS.2.1 a h1 h2)).narrow hAB)
  · have h1 := nw w hw
    simp only [fk_nw, List.mem_cons, List.not_mem_nil, or_false] at hw
    rcases hw with rfl | rfl | rfl | rfl | rfl | rfl <;> exact va_Nw.warmM hW h1
theorem fk_E_same (h : fk_E cI bF A s) (hV : s.vm = U.vm) (hU : U.heap = s.heap) : fk_E cI bF A U := by
  have hvm : s.vm.Alike U.vm := by rw [hV]; exact Vm.Alike.refl _
  obtain ⟨⟨cell, e1, e2⟩, z, o, nw, fn, ca⟩ := h
  refine ⟨⟨cell, by rw [hU]; exact e1, e2⟩, ?_, va_AO.moved hvm o, fun w hw => ?_, va_Nw.same rfl hV fn, va_Nw.same rfl hV ca⟩
  · rw [hU]; exact va_Z.moved hvm z
  · have h1 := nw w hw
    simp only [fk_nw, List.mem_cons, List.not_mem_nil, or_false] at hw
    rcases hw with rfl | rfl | rfl | rfl | rfl | rfl <;> exact va_Nw.same rfl hV h1
end FKE
/-- a constructor's world at its start -/
def fk_B (D : va_G) (cI cC cO : ClassId) (bF h0 sz ci : Nat) (raw : List Value) (U : State) : Prop := U.heap.size = sz ∧ va_P D fp_cl [(h0, .inr (ci, raw))] U.heap ∧ va_K D fp_cl (fp_tys cI cC cO) U ∧ fk_E cI bF (va_A [(h0, .inr (ci, raw))] sz) U
def fk_Met (l : Launch) (D : va_G) (cI cC cO : ClassId) (bF : Nat) (y : MethodName) (cc : ByteArray) (nL ci : Nat) (raw : List Value) {S : Type} (w : S → va_W) (post : Nat → S → Prop) (rm : Room) : Prop := ∀ (h0 sz : Nat), Met l y (fp_ws y cc nL none) rm (va_Pc [.ref h0] (fk_B D cI cC cO bF h0 sz ci raw)) (va_Qv (post h0) (fun u t => va_P D fp_cl (w u) t.heap ∧ va_D (va_A [(h0, .inr (ci, raw))] sz) (w u)) (va_A [(h0, .inr (ci, raw))] sz)) rm.cells rm.slots (va_A [(h0, .inr (ci, raw))] sz)
/-- what stays through a constructor -/
def fk_S (D : va_G) (cI cC cO : ClassId) (bF : Nat) (A : Nat → Prop) (p : Program) (s : State) (m : MethodId) (args : Array Value) (meth : Method) (c : Code) (cc : ByteArray) (nL : Nat) (own : String) : Prop :=
  CallFix p m c cc nL s args fp_tb own ∧ va_K D fp_cl (fp_tys cI cC cO) s ∧ fk_E cI bF A s ∧ (∀ q : Nat, s.heap.size ≤ q → A q) ∧ meth.name = "<init>"
section FKR
variable {l : Launch} {D : va_G} {cI cC cO : ClassId} {bF : Nat} {A : Nat → Prop} {p : Program} {e : Env} {R : Room} {s : State} {m : MethodId} {args : Array Value} {below : List Frame} {meth : Method} {c : Code} {cc : ByteArray} {nL : Nat} {own : String} {H : Heap} {locs : List Loc} {cells slots : Nat} {Q : State → Prop} {pc : Nat} {ls : Array Slot} {rest : List Value} {ws : va_W}
theorem fk_ofW {y : MethodName} {ci : Nat} {raw : List Value} {S : Type} {w : S → va_W} {post : Nat → S → Prop} {rm : Room} (hy : plainName y.cls = true) (hy1 : y.name = "<init>") (h1 : 1 ≤ nL)
    (body : ∀ (A : Nat → Prop) (p : Program) (e : Env) (s : State) (m : MethodId) (args : Array Value) (below : List Frame) (meth : Method) (c : Code) (Q : State → Prop) (h0 : Nat) (ls : Array Slot), fk_S D cI cC cO bF A p s m args meth c cc nL y.cls → va_P D fp_cl [(h0, .inr (ci, raw))] s.heap → va_D A [(h0, .inr (ci, raw))] → va_S A s.heap s.heap [] → lv_has ls nL [(0, .ref h0)] →
      (∀ (pc : Nat) (u : S) (H : Heap) (locs : List Loc) (ls : Array Slot), post h0 u → va_P D fp_cl (w u) H → va_D A (w u) → va_S A s.heap H locs → decode cc pc = .ok (.return_, 1) → W p l e rm s m args below meth c H locs rm.cells rm.slots Q (F0 m pc ls [])) →
      W p l e rm s m args below meth c s.heap [] 0 0 Q (F0 m 0 ls [])) : fk_Met l D cI cC cO bF y cc nL ci raw w post rm := by
  intro h0 sz
  refine Met.ofW (cc := cc) (maxL := nL) (ret := none) hy rfl ?_
  intro p e s m args below meth c s₁ B hml hv
  obtain ⟨rfl, hsz, hP, hK, hE⟩ := hv
  have hts0 := atoms_spec (ws := fp_ws y cc nL none) B.pre
  have hown : s.vm.findClass y.cls = some m.cls := findClass_of_methodNamed B.named
  have hin : meth.name = "<init>" := by rw [← hy1]; exact (name_of_methodNamed B.named B.method).1
  have hlocks := B.notSynchronized
  have hx := B.exec
  have hb := B.bytes
  have hr := B.returns
  subst hsz
  have hl := lv_entry ([.ref h0]) (n := nL) h1
  rw [lg_entry_eq]
  have hD : va_D (va_A [(h0, .inr (ci, raw))] s.heap.size) [(h0, .inr (ci, raw))] := by
    refine ⟨fun i j x z hi hj _ => ?_, fun k x hk => va_A.in hk⟩
    have h1 := (List.getElem?_eq_some_iff.mp hi).1
    have h2 := (List.getElem?_eq_some_iff.mp hj).1
    simp only [List.length_cons, List.length_nil] at h1 h2
    omega
  refine body (va_A [(h0, .inr (ci, raw))] s.heap.size) p e s m _ below meth c _ h0 _ ⟨⟨hx, hb, hml, hown, fun w hw => hts0 w (List.mem_cons_of_mem _ hw)⟩, hK, hE, fun q h => Or.inr h, hin⟩ hP hD va_S.rf hl ?_
  intro pc u H locs ls hp hP1 hD1 hS1 hdg
  exact W.vret hx hb hr (fun t ht hW => ⟨⟨u, rfl, hp, by rw [ht]; exact hP1, hD1⟩, hS1.F ht⟩) hS1.2.2 hdg
theorem fk_obj (hF : fk_S D cI cC cO bF A p s m args meth c cc nL own) {idx : Nat} (hlk : Cond.methodLink own idx Lib.objectInit ∈ fp_tb) (hls : ls.size = nL) {a : Nat} (hd : decode cc pc = .ok (.invokespecial idx, 3)) (hR : 1 ≤ R.frames ∧ 12 ≤ R.locals)
    (kk : W p l e R s m args below meth c H locs cells slots Q (F0 m (pc + 3) ls [])) : W p l e R s m args below meth c H locs cells slots Q (F0 m pc ls [.ref a]) := by
  obtain ⟨⟨hx, hb, hml, hown, hts⟩, hK, hE, hA, hin⟩ := hF
  refine W.objInit hx hb hown (hts _ hlk) (hts _ fkI_obj) (hts _ fkC_obj) rfl (by rw [hml]; exact hls) rfl hd hR.1 ?_ ?_
  · show 2 * 0 + 0 + 12 ≤ R.locals
    omega
  · exact kk
theorem fk_na {atype : ArrayType} {ty : FieldType} {cX : ClassId} (t0 : Nat) (hF : fk_S D cI cC cO bF A p s m args meth c cc nL own) (hat : Cond.arrayClass (newarray.typeOf atype) ∈ fp_tb) (hty : newarray.typeOf atype = ty) (hpr : ty = .int ∨ ty = .char) (ht : (fp_tys cI cC cO)[t0]? = some (cX, ty))
    (hP : va_P D fp_cl ws H) (hD : va_D A ws) (hS : va_S A s.heap H locs) {n : Int32} {N : Nat} (hn : ¬ n < 0) (hN : n.toNatClampNeg = N) (hN2 : N ≤ 5000) (hcells : cells + 1 ≤ R.cells) (hslots : slots + N ≤ R.slots) (hdg : decode cc pc = .ok (.newarray atype, 2))
    (kk : ∀ (q : Nat) (H1 : Heap), va_P D fp_cl (ws ++ [(q, .inl (cX, N, .inl (fun _ => fp_oi 0)))]) H1 → va_D A (ws ++ [(q, .inl (cX, N, .inl (fun _ => fp_oi 0)))]) → va_S A s.heap H1 locs → W p l e R s m args below meth c H1 locs (cells + 1) (slots + N) Q (F0 m (pc + 2) ls (.ref q :: rest))) : W p l e R s m args below meth c H locs cells slots Q (F0 m pc ls (.int n :: rest)) := by
  obtain ⟨⟨hx, hb, hml, hown, hts⟩, hK, hE, hA, hin⟩ := hF
  have h0 : defaultValue ty = .int (fp_oi 0) := by
    rw [fp_oi_0]
    rcases hpr with rfl | rfl <;> rfl
  have hcb : componentBytes ty ≤ 4 := by
    rcases hpr with rfl | rfl <;> decide
  refine va_newa (ty := ty) (a0 := (N, .inl (fun _ => fp_oi 0))) hx hb (hts _ hat) hty hK hP hD hS hA (fun cA => by rw [h0]; rfl) hn hN ?_ hcells hslots hdg (fun q cA H1 hK1 hP1 hD1 hS1 => ?_)
  · have := Nat.mul_le_mul hN2 hcb
    omega
  · have k1 := (hK1.2 (fp_tys cI cC cO).length (cA, ty) (by rw [List.getElem?_append_right (Nat.le_refl _)]; simp)).2
    have k2 := (hK.2 t0 _ ht).2
    have e1 : cX = cA := by
      rcases hpr with rfl | rfl
      · exact Option.some.inj ((show s.vm.findClass _ = some cX from k2).symm.trans (show s.vm.findClass _ = some cA from k1))
      · exact Option.some.inj ((show s.vm.findClass _ = some cX from k2).symm.trans (show s.vm.findClass _ = some cA from k1))
    subst e1
    exact kk q H1 hP1 hD1 hS1
/-- a final field of the object at hand -/
theorem fk_pf {ci : Nat} {C : String} {T : u_T} {N : Nat} (hF : fk_S D cI cC cO bF A p s m args meth c cc nL C) (hc : fp_cl[ci]? = some (C, T, N)) {tl : va_W} {h0 : Nat} {fs : List Value} {v : Value} {idx : Nat} (k : Nat) (hk : k < N) (hlk : Cond.fieldLink C idx C (T k).2.1 (T k).2.2.1 ∈ fp_tb) (hTC : (T k).1 = C) (hfin : (T k).2.2.2 = true) {ty : FieldType} (hd : parseFieldDescriptor (T k).2.2.1 = some ty) (hn : narrow ty v = v) (hfit : fits ty v = true) (hl : k < fs.length)
    (hP : va_P D fp_cl ((h0, .inr (ci, fs)) :: tl) H) (hD : va_D A ((h0, .inr (ci, fs)) :: tl)) (hS : va_S A s.heap H locs) (hdg : decode cc pc = .ok (.putfield idx, 3))
    (kk : ∀ (H1 : Heap) (locs1 : List Loc), va_P D fp_cl ((h0, .inr (ci, fs.set k v)) :: tl) H1 → va_D A ((h0, .inr (ci, fs.set k v)) :: tl) → va_S A s.heap H1 locs1 → W p l e R s m args below meth c H1 locs1 cells slots Q (F0 m (pc + 3) ls rest)) : W p l e R s m args below meth c H locs cells slots Q (F0 m pc ls (v :: .ref h0 :: rest)) := by
  obtain ⟨⟨hx, hb, hml, hown, hts⟩, hK, hE, hA, hin⟩ := hF
  obtain ⟨c1, ⟨ty0, c2⟩, c3⟩ := fp_cok hc
  exact va_putF (D := D) (ci := ci) (C := C) (T := T) (N := N) hx hb hts c1 ty0 c2 c3 hown hK hP hD hS 0 rfl hc k hk (hts _ hlk) (fun x h9 => by rw [hTC] at h9; exact h9) hfin hin hTC hd hn hfit hl hdg (fun H1 locs1 hP1 hD1 hS1 => kk H1 locs1 hP1 hD1 hS1)
theorem fk_pu {ci : Nat} {C : String} {T : u_T} {N : Nat} (hF : fk_S D cI cC cO bF A p s m args meth c cc nL C) (hc : fp_cl[ci]? = some (C, T, N)) {tl : va_W} {h0 : Nat} {fs : List Value} {v : Value} {idx : Nat} (k : Nat) (hk : k < N) (hlk : Cond.fieldLink C idx C (T k).2.1 (T k).2.2.1 ∈ fp_tb) (hTC : (T k).1 = C) (hfin : (T k).2.2.2 = false) {ty : FieldType} (hd : parseFieldDescriptor (T k).2.2.1 = some ty) (hn : narrow ty v = v) (hfit : fits ty v = true) (hl : k < fs.length)
    (hP : va_P D fp_cl ((h0, .inr (ci, fs)) :: tl) H) (hD : va_D A ((h0, .inr (ci, fs)) :: tl)) (hS : va_S A s.heap H locs) (hdg : decode cc pc = .ok (.putfield idx, 3))
    (kk : ∀ (H1 : Heap) (locs1 : List Loc), va_P D fp_cl ((h0, .inr (ci, fs.set k v)) :: tl) H1 → va_D A ((h0, .inr (ci, fs.set k v)) :: tl) → va_S A s.heap H1 locs1 → W p l e R s m args below meth c H1 locs1 cells slots Q (F0 m (pc + 3) ls rest)) : W p l e R s m args below meth c H locs cells slots Q (F0 m pc ls (v :: .ref h0 :: rest)) := by
  obtain ⟨⟨hx, hb, hml, hown, hts⟩, hK, hE, hA, hin⟩ := hF
  obtain ⟨c1, ⟨ty0, c2⟩, c3⟩ := fp_cok hc
  exact va_put (D := D) (ci := ci) (C := C) (T := T) (N := N) hx hb hts c1 ty0 c2 c3 hown hK hP hD hS 0 rfl hc k hk (hts _ hlk) (fun x h9 => by rw [hTC] at h9; exact h9) hfin hd hn hfit hl hdg (fun H1 locs1 hP1 hD1 hS1 => kk H1 locs1 hP1 hD1 hS1)
/-- the maker's cells and the made ones -/
theorem fk_join {w1 : va_W} {H1 : Heap} {q : Nat} {e0 : va_E} (hP : va_P D fp_cl (ws ++ [(q, e0)]) H) (hD : va_D A (ws ++ [(q, e0)])) (hk : ∀ x : Nat, x < H.size → ¬ va_A [(q, e0)] H.size x → H1[x]? = H[x]?) (hF : ∀ x, va_A [(q, e0)] H.size x → A x) (hP1 : va_P D fp_cl w1 H1) (hD1 : va_D (va_A [(q, e0)] H.size) w1) : va_P D fp_cl (ws ++ w1) H1 ∧ va_D A (ws ++ w1) := by
  have hq : ∀ x, va_A [(q, e0)] H.size x → x = q ∨ H.size ≤ x := by
    rintro x (⟨k, e1, h⟩ | h)
    · have h1 := (List.getElem?_eq_some_iff.mp h).1
      simp only [List.length_cons, List.length_nil] at h1
      obtain rfl : k = 0 := by omega
      cases h
      exact Or.inl rfl
    · exact Or.inr h
  have hw : ∀ (k : Nat) (x : Nat × va_E), ws[k]? = some x → (ws ++ [(q, e0)])[k]? = some x := fun k x h => by
    rw [List.getElem?_append_left (List.getElem?_eq_some_iff.mp h).1]; exact h
  have hlt : ∀ (k : Nat) (x : Nat × va_E), ws[k]? = some x → x.1 < H.size ∧ x.1 ≠ q := fun k x h => by
    refine ⟨(hP k x (hw k x h)).lt, fun e1 => ?_⟩
    have h2 := hD.1 k ws.length x (q, e0) (hw k x h) (by rw [List.getElem?_append_right (Nat.le_refl _)]; simp) e1
    have h3 := (List.getElem?_eq_some_iff.mp h).1
    omega
  have hn : ∀ (k : Nat) (x : Nat × va_E), ws[k]? = some x → ¬ va_A [(q, e0)] H.size x.1 := fun k x h h2 => by
    have h3 := hlt k x h
    rcases hq _ h2 with h4 | h4
    · exact h3.2 h4
    · omega
  refine ⟨va_P.app (va_P.kept (H := H) (fun k x h => hP k x (hw k x h)) (fun k x h => hk x.1 (hlt k x h).1 (hn k x h))) hP1, fun i j x z hi hj hxz => ?_, fun k x h => ?_⟩
  · by_cases h1 : i < ws.length
    · rw [List.getElem?_append_left h1] at hi
      by_cases h2 : j < ws.length
      · rw [List.getElem?_append_left h2] at hj
        exact hD.1 i j x z (hw i x hi) (hw j z hj) hxz
      · rw [List.getElem?_append_right (by omega)] at hj
        exact absurd (hxz ▸ hD1.2 _ z hj) (hn i x hi)
    · rw [List.getElem?_append_right (by omega)] at hi
      by_cases h2 : j < ws.length
      · rw [List.getElem?_append_left h2] at hj
        exact absurd (hxz ▸ hD1.2 _ x hi) (hn j z hj)
      · rw [List.getElem?_append_right (by omega)] at hj
        have := hD1.1 _ _ x z hi hj hxz
        omega
  · by_cases h1 : k < ws.length
    · rw [List.getElem?_append_left h1] at h
      exact hD.2 k x (hw k x h)
    · rw [List.getElem?_append_right (by omega)] at h
      exact hF _ (hD1.2 _ x h)
theorem fk_blind {h0 sz ci : Nat} {raw : List Value} {as : List Value} : FrameBlind (va_Pc as (fk_B D cI cC cO bF h0 sz ci raw)) := by
  intro a U g mk q
  obtain ⟨q0, q1, qP, qK, qE⟩ := q
  exact ⟨q0, q1, qP, va_K.moved (u := U) (U := U.calling g mk a) (Vm.Alike.refl U.vm) qK, fk_E_same qE rfl rfl⟩
end FKR
