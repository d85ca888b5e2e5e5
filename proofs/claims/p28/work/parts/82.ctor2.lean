/-! the constructors: a new object -/
section FKM
variable {l : Launch} {D : va_G} {cI cC cO : ClassId} {bF : Nat} {A : Nat → Prop} {p : Program} {e : Env} {R : Room} {s : State} {m : MethodId} {args : Array Value} {below : List Frame} {meth : Method} {c : Code} {cc : ByteArray} {nL : Nat} {own : String} {H : Heap} {locs : List Loc} {cells slots : Nat} {Q : State → Prop} {pc : Nat} {ls : Array Slot} {rest : List Value} {ws : va_W}
theorem fk_mk {ci : Nat} {C : String} {T : u_T} {N : Nat} {ty : Nat → FieldType} {raw : List Value} {y : MethodName} {bytes : ByteArray} {maxL : Nat} {S : Type} {w : S → va_W} {post : Nat → S → Prop} {rm : Room} {ix iy : Nat}
    (hX : CallFix p m c cc nL s args fp_tb own) (hK : va_K D fp_cl (fp_tys cI cC cO) s) (hE : fk_E cI bF A s) (hA : ∀ q : Nat, s.heap.size ≤ q → A q) (hls : ls.size = nL)
    (hc : fp_cl[ci]? = some (C, T, N)) (hty : ∀ k, k < N → parseFieldDescriptor (T k).2.2.1 = some (ty k)) (hfs : ∀ j, j < N → defaultValue (ty j) = vp_V raw j)
    (hcl : Cond.classLink own ix C ∈ fp_tb) (hni : Cond.instantiable C N ∈ fp_tb) (hji : Cond.initialized C ∈ fp_tb)
    (hM : fk_Met l D cI cC cO bF y bytes maxL ci raw w post rm) (hy : y = ⟨C, "<init>", "()V"⟩) (hmh : C ≠ "java/lang/invoke/MethodHandle" ∧ C ≠ "java/lang/invoke/VarHandle") (hcode : Cond.code y bytes maxL none ∈ fp_tb) (hinst : Cond.instanceMethod y ∈ fp_tb) (hlk : Cond.methodLink own iy y ∈ fp_tb ∨ va_Nw (.methodLinkNest own iy y RX6) s)
    (hR : rm.frames + 1 ≤ R.frames ∧ 8 + (maxL + 11) + rm.locals ≤ R.locals) (hcells : cells + 1 + rm.cells ≤ R.cells) (hslots : slots + N + rm.slots ≤ R.slots)
    (hd1 : decode cc pc = .ok (.new ix, 3)) (hd2 : decode cc (pc + 3) = .ok (.dup, 1)) (hd3 : decode cc (pc + 3 + 1) = .ok (.invokespecial iy, 3)) (hcat : (rest.map fun v => v.category).sum ≤ 7)
    (hP : va_P D fp_cl ws H) (hD : va_D A ws) (hS : va_S A s.heap H locs)
    (kk : ∀ (q : Nat) (u : S) (H1 : Heap) (locs1 : List Loc), post q u → va_P D fp_cl (ws ++ w u) H1 → va_D A (ws ++ w u) → va_S A s.heap H1 locs1 → W p l e R s m args below meth c H1 locs1 (cells + 1 + rm.cells) (slots + N + rm.slots) Q (F0 m (pc + 3 + 1 + 3) ls (.ref q :: rest))) : W p l e R s m args below meth c H locs cells slots Q (F0 m pc ls rest) := by
  subst hy
  have hX0 := hX
  obtain ⟨hx, hb, hml, hown, hts⟩ := hX0
  obtain ⟨c1, -, -⟩ := fp_cok hc
  refine va_new (ci := ci) (fs := raw) (C := C) (T := T) (N := N) hx hb hts c1 ty hty hown (hts _ hcl) (hts _ hni) (hts _ hji) hK hP hD hS hA hc hfs (by omega) (by omega) hd1 (fun q H1 hP1 hD1 hS1 => ?_)
  refine lv_dup hx hb hd2 rfl ?_
  have hF : ∀ x, va_A [(q, .inr (ci, raw))] H1.size x → A x := va_free hD1 hS1 hA [ws.length] (by rw [List.map_cons, List.map_nil, List.getElem?_append_right (Nat.le_refl _)]; simp)
  have hPq : va_P D fp_cl [(q, .inr (ci, raw))] H1 := fun k x hk => by
    have h1 := (List.getElem?_eq_some_iff.mp hk).1
    simp only [List.length_cons, List.length_nil] at h1
    obtain rfl : k = 0 := by omega
    cases hk
    exact hP1 ws.length _ (by rw [List.getElem?_append_right (Nat.le_refl _)]; simp)
  have hPre : PreS s H1 (va_Pc [.ref q] (fk_B D cI cC cO bF q H1.size ci raw)) [.ref q] := ⟨fk_blind, fun U hU hW => ⟨rfl, by rw [hU], by rw [hU]; exact hPq, va_K.moved hW.alike hK, fk_E_of hE hW hU hS1 hF⟩⟩
  have hcat2 : ((Value.ref q :: rest).map fun v => v.category).sum ≤ 8 := by
    rw [List.map_cons, List.sum_cons]
    show 1 + _ ≤ 8
    omega
  have hdd : (⟨C, "<init>", "()V"⟩ : MethodName).cls ≠ "java/lang/invoke/MethodHandle" ∧ (⟨C, "<init>", "()V"⟩ : MethodName).cls ≠ "java/lang/invoke/VarHandle" ∧ (parseMethodDescriptor (⟨C, "<init>", "()V"⟩ : MethodName).desc).map (fun d => d.parameters.length) = some 0 := ⟨hmh.1, hmh.2, by show (parseMethodDescriptor "()V").map (fun d => d.parameters.length) = some 0; decide +kernel⟩
  have hrun : va_Run p l e R s m args below meth c H1 locs (cells + 1) (slots + N) rm.cells rm.slots (F0 m (pc + 3 + 1) ls (.ref q :: .ref q :: rest)) (.ref q :: rest) (va_Qv (post q) (fun u t => va_P D fp_cl (w u) t.heap ∧ va_D (va_A [(q, .inr (ci, raw))] H1.size) (w u)) (va_A [(q, .inr (ci, raw))] H1.size) (Value.ref q :: []).toArray) (va_A [(q, .inr (ci, raw))] H1.size) := by
    rcases hlk with hlk | hlk
    · exact va_runI (As := []) (rest := .ref q :: rest) hX (hM q H1.size) (cwI 0 hts (fp_good_ws hcode) rfl rfl rfl (hts _ hji) (hts _ hlk) (hts _ hinst) rfl hdd hR) hPre rfl rfl hls rfl (lv_room hcat2) hd3 ⟨hcells, hslots⟩
    · exact va_runIN (As := []) (rest := .ref q :: rest) hX (hM q H1.size) ⟨va_cnB 0 hts (fp_good_ws hcode) rfl rfl rfl hlk (hts _ hji) hdd hR, rfl, hts _ hinst⟩ hPre rfl rfl hls rfl (lv_room hcat2) hd3 ⟨hcells, hslots⟩
  refine va_callv hrun hS1 (fun x _ h => hF x h) hF (fun u t H2 locs2 ht hvm hp hB hz1 hk1 hS2 => ?_)
  rw [ht] at hB
  obtain ⟨hP3, hD3⟩ := fk_join hP1 hD1 hk1 hF hB.1 hB.2
  exact kk q u H2 locs2 hp hP3 hD3 hS2
end FKM
