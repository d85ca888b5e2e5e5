/-! each kind of instruction on the fixed cells, over the machine -/
theorem fp_cok {a : Nat} {C : String} {T : u_T} {N : Nat} (h : fp_cl[a]? = some (C, T, N)) : (∀ w ∈ u_ws C T N, w ∈ fp_tb) ∧ (∃ ty0 : Nat → FieldType, ∀ k, k < N → parseFieldDescriptor (T k).2.2.1 = some (ty0 k)) ∧ (∀ a, a < N → ∀ b, b < N → a ≠ b → (T a).2.1 ≠ (T b).2.1) := by
  have hl : a < 7 := (List.getElem?_eq_some_iff.mp h).1
  match a, hl with
  | 0, _ => cases h; exact ⟨fun w hw => of_decide_eq_true (List.all_eq_true.mp fp_u0 w hw), ⟨tyX0, tyX0_ok⟩, nmX0⟩
  | 1, _ => cases h; exact ⟨fun w hw => of_decide_eq_true (List.all_eq_true.mp fp_u1 w hw), ⟨tyX1, tyX1_ok⟩, nmX1⟩
  | 2, _ => cases h; exact ⟨fun w hw => of_decide_eq_true (List.all_eq_true.mp fp_u2 w hw), ⟨tyX2, tyX2_ok⟩, nmX2⟩
  | 3, _ => cases h; exact ⟨fun w hw => of_decide_eq_true (List.all_eq_true.mp fp_u3 w hw), ⟨tyX3, tyX3_ok⟩, nmX3⟩
  | 4, _ => cases h; exact ⟨fun w hw => of_decide_eq_true (List.all_eq_true.mp fp_u4 w hw), ⟨tyX4, tyX4_ok⟩, nmX4⟩
  | 5, _ => cases h; exact ⟨fun w hw => of_decide_eq_true (List.all_eq_true.mp fp_u5 w hw), ⟨tyX5, tyX5_ok⟩, nmX5⟩
  | 6, _ => cases h; exact ⟨fun w hw => of_decide_eq_true (List.all_eq_true.mp fp_u6 w hw), ⟨tyX6, tyX6_ok⟩, nmX6⟩
theorem fp_chkF_out {own : String} {idx a b w : Nat} (h : fp_chkF own idx a b w = true) : ∃ (C : String) (T : u_T) (N : Nat), fp_cl[a]? = some (C, T, N) ∧ b < N ∧ (T b).1 = C ∧ Cond.fieldLink own idx C (T b).2.1 (T b).2.2.1 ∈ fp_tb := by
  unfold fp_chkF at h
  split at h
  · rename_i C T N hq
    simp only [Bool.and_eq_true, decide_eq_true_eq] at h
    exact ⟨C, T, N, hq, h.1.1.1, h.1.1.2, fp_in h.1.2 h.2⟩
  · cases h
/-- the objects' fields lie among the cells -/
theorem fp_os_chk : (List.range 26).all (fun c => match fp_os c with
  | some (_, fs) => fs.all (fun f => match f with
    | some (g', c') => bif Nat.beq g' 99 then decide (c' < 14 ∧ c < 14) else decide ((g', c') ∈ fp_cells)
    | none => true)
  | none => true) = true := by decide +kernel
theorem fp_nth_mem {x : Option (Nat × Nat)} : ∀ (fs : List (Option (Nat × Nat))) (b : Nat), fp_nth fs b = some x → x ∈ fs
  | [], _, h => by simp [fp_nth] at h
  | y :: l, 0, h => by simp only [fp_nth, Option.some.injEq] at h; rw [h]; exact List.mem_cons_self
  | _ :: l, b + 1, h => List.mem_cons_of_mem _ (fp_nth_mem l b h)
theorem fp_obj {g c ci : Nat} {fs : List (Option (Nat × Nat))} (hv : fp_okV (.inr (g, c))) (ho : fp_os c = some (ci, fs)) : (g, c) ∈ fp_cells := by
  rcases hv with h | ⟨-, rfl | rfl | rfl⟩
  · exact h
  · cases ho
  · cases ho
  · cases ho
theorem fp_obj_ref {g c ci b g' c' : Nat} {fs : List (Option (Nat × Nat))} (hm : (g, c) ∈ fp_cells) (ho : fp_os c = some (ci, fs)) (hn : fp_nth fs b = some (some (g', c'))) : (Nat.beq g' 99 = true ∧ (g, c') ∈ fp_cells) ∨ (Nat.beq g' 99 = false ∧ (g', c') ∈ fp_cells) := by
  have hc := fp_mem.mp hm
  have h1 := List.all_eq_true.mp fp_os_chk c (List.mem_range.mpr (by omega))
  rw [ho] at h1
  have h2 := List.all_eq_true.mp h1 _ (fp_nth_mem fs b hn)
  cases hb : Nat.beq g' 99 with
  | true =>
    dsimp only at h2
    rw [hb] at h2
    have h3 := of_decide_eq_true h2
    exact Or.inl ⟨rfl, fp_mem.mpr (by omega)⟩
  | false =>
    dsimp only at h2
    rw [hb] at h2
    exact Or.inr ⟨rfl, of_decide_eq_true h2⟩
theorem fp_as_lo (L : Nat) : ∀ c, c < 26 → fp_as L c = fp_as 0 c := by
  intro c hc
  match c, hc with
  | 0, _ => rfl
  | 1, _ => rfl
  | 2, _ => rfl
  | 3, _ => rfl
  | 4, _ => rfl
  | 5, _ => rfl
  | 6, _ => rfl
  | 7, _ => rfl
  | 8, _ => rfl
  | 9, _ => rfl
  | 10, _ => rfl
  | 11, _ => rfl
  | 12, _ => rfl
  | 13, _ => rfl
  | 14, _ => rfl
  | 15, _ => rfl
  | 16, _ => rfl
  | 17, _ => rfl
  | 18, _ => rfl
  | 19, _ => rfl
  | 20, _ => rfl
  | 21, _ => rfl
  | 22, _ => rfl
  | 23, _ => rfl
  | 24, _ => rfl
  | 25, _ => rfl
  | k + 26, h => exact absurd h (by omega)
theorem fp_as_chk : (List.range 26).all (fun c => match fp_as 0 c with
  | some _ => (fp_os c).isNone && !(Nat.beq c 16)
  | none => true) = true := by decide +kernel
theorem fp_arr_cell {L c : Nat} {ch : Bool} {n : Nat} (ha : fp_as L c = some (ch, n)) (hc : c < 26) (ad : Nat → Nat → Nat) (cI cC cO : ClassId) (H : FpH) (g : Nat) : fp_ce ad cI cC cO H g c = .inl (bif ch then cC else cI, n, .inl (fun j => fp_oi (H g c j))) := by
  rw [fp_as_lo L c hc] at ha
  have h1 := List.all_eq_true.mp fp_as_chk c (List.mem_range.mpr hc)
  rw [ha] at h1
  simp only [Bool.and_eq_true, Option.isNone_iff_eq_none, Bool.not_eq_true'] at h1
  unfold fp_ce
  rw [h1.1, h1.2, ha]
  rfl
theorem fp_as_len {L c : Nat} {ch : Bool} {n : Nat} (ha : fp_as L c = some (ch, n)) (hc : c < 26) : n < 2 ^ 31 := by
  rw [fp_as_lo L c hc] at ha
  have h1 : (List.range 26).all (fun c => match fp_as 0 c with
    | some (_, n) => decide (n < 2 ^ 31)
    | none => true) = true := by decide +kernel
  have h2 := List.all_eq_true.mp h1 c (List.mem_range.mpr hc)
  rw [ha] at h2
  exact of_decide_eq_true h2
theorem fp_up_ne {H : FpH} {g c i : Nat} {z : Int} {x : Nat × Nat} (h : x ≠ (g, c)) : fp_up H g c i z x.1 x.2 = H x.1 x.2 := by
  funext j
  unfold fp_up
  rw [if_neg]
  rintro ⟨h1, h2, -⟩
  exact h (Prod.ext h1 h2)
theorem fp_up_self {H : FpH} {g c i : Nat} {z : Int} : (fun j => fp_oi (fp_up H g c i z g c j)) = upd (fun j => fp_oi (H g c j)) i (fp_oi z) := by
  funext j
  unfold fp_up upd
  by_cases h : j = i
  · simp [h]
  · simp [h]
theorem fp_cp_ne {H : FpH} {g c g' c' sp dp n : Nat} {x : Nat × Nat} (h : x ≠ (g', c')) : fp_cp H g c g' c' sp dp n x.1 x.2 = H x.1 x.2 := by
  funext j
  unfold fp_cp
  rw [if_neg]
  rintro ⟨h1, h2, -⟩
  exact h (Prod.ext h1 h2)
theorem fp_cp_self {H : FpH} {g c g' c' sp dp n : Nat} : (fun j => fp_oi (fp_cp H g c g' c' sp dp n g' c' j)) = va_cpy (fun j => fp_oi (H g c j)) (fun j => fp_oi (H g' c' j)) sp dp n := by
  funext j
  unfold fp_cp va_cpy
  by_cases h : dp ≤ j ∧ j < dp + n
  · rw [if_pos ⟨rfl, rfl, h⟩, if_pos h]
  · rw [if_neg (fun q => h q.2.2), if_neg h]
section FPO
variable {ad : Nat → Nat → Nat} {cI cC cO : ClassId} {D : va_G} {L : Nat} {H : FpH}
variable {p : Program} {l : Launch} {e : Env} {R : Room} {s : State} {m : MethodId} {args : Array Value} {below : List Frame} {meth : Method} {c : Code} {Hp : Heap} {locs : List Loc} {cells slots : Nat} {Z : State → Prop}
variable {cc : ByteArray} {pc : Nat} {mls : Array Slot} {rest : List Value}
theorem fp_w_ld (hx : p.tables.exec = Jvm.exec) (hb : c.code = cc) (hK : va_K D fp_cl (fp_tys cI cC cO) s) (hP : va_P D fp_cl (fp_W ad cI cC cO H) Hp) (hS : va_S (fp_A ad) s.heap Hp locs) (hX : fp_X ad L H s)
    {i : Int} {g c0 n : Nat} (hi : fp_rg i) (hv : fp_okV (.inr (g, c0))) (has : fp_as L c0 = some (false, n)) (h0 : 0 ≤ i) (h1 : i < (n : Int)) (hd : decode cc pc = .ok (.iaload, 1))
    (kk : W p l e R s m args below meth c Hp locs cells slots Z (F0 m (pc + 1) mls (.int (fp_oi (H g c0 i.toNat)) :: rest))) : W p l e R s m args below meth c Hp locs cells slots Z (F0 m pc mls (.int (fp_oi i) :: .ref (ad g c0) :: rest)) := by
  obtain ⟨hin, ht⟩ := fp_oi_in hi h0 h1
  rcases hv with h | ⟨rfl, h⟩
  · have hc := fp_mem.mp h
    obtain ⟨k, -, hk⟩ := fp_at (ad := ad) (cI := cI) (cC := cC) (cO := cO) H h
    rw [fp_arr_cell has (by omega)] at hk
    refine va_iald hx hb hK hP k 0 hk rfl hin hd ?_
    rw [ht]; exact kk
  · obtain ⟨n', a1, a2, a3, a4⟩ := hX.1 c0 h
    cases has.symm.trans a1
    refine va_sld hx hb a2 a3 a4 hS hin hd ?_
    rw [ht]; exact kk
theorem fp_w_cld (hx : p.tables.exec = Jvm.exec) (hb : c.code = cc) (hK : va_K D fp_cl (fp_tys cI cC cO) s) (hP : va_P D fp_cl (fp_W ad cI cC cO H) Hp) (hX : fp_X ad L H s)
    {i : Int} {g c0 n : Nat} (hi : fp_rg i) (hv : fp_okV (.inr (g, c0))) (has : fp_as L c0 = some (true, n)) (h0 : 0 ≤ i) (h1 : i < (n : Int)) (hd : decode cc pc = .ok (.caload, 1))
    (kk : W p l e R s m args below meth c Hp locs cells slots Z (F0 m (pc + 1) mls (.int (fp_oi (H g c0 i.toNat)) :: rest))) : W p l e R s m args below meth c Hp locs cells slots Z (F0 m pc mls (.int (fp_oi i) :: .ref (ad g c0) :: rest)) := by
  obtain ⟨hin, ht⟩ := fp_oi_in hi h0 h1
  rcases hv with h | ⟨rfl, h⟩
  · have hc := fp_mem.mp h
    obtain ⟨k, -, hk⟩ := fp_at (ad := ad) (cI := cI) (cC := cC) (cO := cO) H h
    rw [fp_arr_cell has (by omega)] at hk
    refine va_cald hx hb hK hP k 1 hk rfl hin hd ?_
    rw [ht]; exact kk
  · obtain ⟨n', a1, -⟩ := hX.1 c0 h
    cases has.symm.trans a1
theorem fp_w_st (hj : fp_inj ad) (hx : p.tables.exec = Jvm.exec) (hb : c.code = cc) (hK : va_K D fp_cl (fp_tys cI cC cO) s) (hP : va_P D fp_cl (fp_W ad cI cC cO H) Hp) (hS : va_S (fp_A ad) s.heap Hp locs)
    {i z : Int} {g c0 n : Nat} (hi : fp_rg i) (hv : fp_okV (.inr (g, c0))) (hw : c0 ≤ 25) (has : fp_as L c0 = some (false, n)) (h0 : 0 ≤ i) (h1 : i < (n : Int)) (hd : decode cc pc = .ok (.iastore, 1))
    (kk : ∀ (Hp1 : Heap) (locs1 : List Loc), va_P D fp_cl (fp_W ad cI cC cO (fp_up H g c0 i.toNat z)) Hp1 → va_S (fp_A ad) s.heap Hp1 locs1 → W p l e R s m args below meth c Hp1 locs1 cells slots Z (F0 m (pc + 1) mls rest)) : W p l e R s m args below meth c Hp locs cells slots Z (F0 m pc mls (.int (fp_oi z) :: .int (fp_oi i) :: .ref (ad g c0) :: rest)) := by
  obtain ⟨hin, ht⟩ := fp_oi_in hi h0 h1
  have h : (g, c0) ∈ fp_cells := hv.resolve_right (by omega)
  obtain ⟨k, hk0, hk⟩ := fp_at (ad := ad) (cI := cI) (cC := cC) (cO := cO) H h
  rw [fp_arr_cell has (by omega)] at hk
  refine va_iast hx hb hK hP (fp_D hj H) hS k 0 hk rfl hin hd (fun Hp1 locs1 hP1 _ hS1 => kk Hp1 locs1 ?_ hS1)
  have e := fp_W_set (ad := ad) (cI := cI) (cC := cC) (cO := cO) (H := H) (H' := fp_up H g c0 i.toNat z) hk0 (fun x _ hx => fp_ce_congr (fp_up_ne hx))
  rw [fp_arr_cell has (by omega), fp_up_self] at e
  rw [ht] at hP1
  rw [← e]; exact hP1
theorem fp_w_cst (hj : fp_inj ad) (hx : p.tables.exec = Jvm.exec) (hb : c.code = cc) (hK : va_K D fp_cl (fp_tys cI cC cO) s) (hP : va_P D fp_cl (fp_W ad cI cC cO H) Hp) (hS : va_S (fp_A ad) s.heap Hp locs)
    {i z : Int} {g c0 n : Nat} (hi : fp_rg i) (hz : 0 ≤ z ∧ z < 65536) (hv : fp_okV (.inr (g, c0))) (hw : c0 ≤ 25) (has : fp_as L c0 = some (true, n)) (h0 : 0 ≤ i) (h1 : i < (n : Int)) (hd : decode cc pc = .ok (.castore, 1))
    (kk : ∀ (Hp1 : Heap) (locs1 : List Loc), va_P D fp_cl (fp_W ad cI cC cO (fp_up H g c0 i.toNat z)) Hp1 → va_S (fp_A ad) s.heap Hp1 locs1 → W p l e R s m args below meth c Hp1 locs1 cells slots Z (F0 m (pc + 1) mls rest)) : W p l e R s m args below meth c Hp locs cells slots Z (F0 m pc mls (.int (fp_oi z) :: .int (fp_oi i) :: .ref (ad g c0) :: rest)) := by
  obtain ⟨hin, ht⟩ := fp_oi_in hi h0 h1
  have h : (g, c0) ∈ fp_cells := hv.resolve_right (by omega)
  obtain ⟨k, hk0, hk⟩ := fp_at (ad := ad) (cI := cI) (cC := cC) (cO := cO) H h
  rw [fp_arr_cell has (by omega)] at hk
  have hn : vp_nar .char (fp_oi z) = fp_oi z := by
    rw [vp_nar_char]
    have h1 := fp_oi_i2c (x := z) ⟨by omega, by omega⟩
    have h2 : (fp_oi z).toUInt32.toUInt16.toUInt32.toInt32 = ((fp_oi z).toUInt32 % 65536).toInt32 := by
      congr 1
    rw [h2, h1, show z % 65536 = z by omega]
  refine va_cast hx hb hK hP (fp_D hj H) hS k 1 hk rfl hin hd (fun Hp1 locs1 hP1 _ hS1 => kk Hp1 locs1 ?_ hS1)
  have e := fp_W_set (ad := ad) (cI := cI) (cC := cC) (cO := cO) (H := H) (H' := fp_up H g c0 i.toNat z) hk0 (fun x _ hx => fp_ce_congr (fp_up_ne hx))
  rw [fp_arr_cell has (by omega), fp_up_self] at e
  rw [ht, hn] at hP1
  rw [← e]; exact hP1
theorem fp_w_ald (hx : p.tables.exec = Jvm.exec) (hb : c.code = cc) (hK : va_K D fp_cl (fp_tys cI cC cO) s) (hP : va_P D fp_cl (fp_W ad cI cC cO H) Hp)
    {i : Int} {g : Nat} (hi : fp_rg i) (hv : fp_okV (.inr (g, 16))) (h0 : 0 ≤ i) (h1 : i < 4) (hd : decode cc pc = .ok (.aaload, 1))
    (kk : W p l e R s m args below meth c Hp locs cells slots Z (F0 m (pc + 1) mls (.ref (ad (3 + i.toNat) 0) :: rest))) : W p l e R s m args below meth c Hp locs cells slots Z (F0 m pc mls (.int (fp_oi i) :: .ref (ad g 16) :: rest)) := by
  obtain ⟨hin, ht⟩ := fp_oi_in (n := 4) hi h0 h1
  have h : (g, 16) ∈ fp_cells := hv.resolve_right (by omega)
  obtain ⟨k, hk0, hk⟩ := fp_at (ad := ad) (cI := cI) (cC := cC) (cO := cO) H h
  have hk : (fp_W ad cI cC cO H)[k]? = some (ad g 16, .inl (cO, 4, .inr (.inr (.inr (.inr (fun i => if i < 4 then some (ad (3 + i) 0) else none)))))) := hk
  refine va_aldq hx hb hK hP k 2 hk rfl hin hd ?_
  rw [ht, if_pos (by omega)]
  exact kk
theorem fp_w_len (hx : p.tables.exec = Jvm.exec) (hb : c.code = cc) (hK : va_K D fp_cl (fp_tys cI cC cO) s) (hP : va_P D fp_cl (fp_W ad cI cC cO H) Hp) (hS : va_S (fp_A ad) s.heap Hp locs) (hX : fp_X ad L H s)
    {g c0 n : Nat} {ch : Bool} (hv : fp_okV (.inr (g, c0))) (has : fp_as L c0 = some (ch, n)) (hd : decode cc pc = .ok (.arraylength, 1))
    (kk : W p l e R s m args below meth c Hp locs cells slots Z (F0 m (pc + 1) mls (.int (fp_oi (n : Int)) :: rest))) : W p l e R s m args below meth c Hp locs cells slots Z (F0 m pc mls (.ref (ad g c0) :: rest)) := by
  rw [fp_oi_n] at kk
  rcases hv with h | ⟨rfl, h⟩
  · have hc := fp_mem.mp h
    obtain ⟨k, -, hk⟩ := fp_at (ad := ad) (cI := cI) (cC := cC) (cO := cO) H h
    rw [fp_arr_cell has (by omega)] at hk
    cases ch
    · exact va_alen hx hb hK hP k 0 hk rfl rfl hd kk
    · exact va_alen hx hb hK hP k 1 hk rfl rfl hd kk
  · obtain ⟨n', a1, a2, a3, a4⟩ := hX.1 c0 h
    cases has.symm.trans a1
    exact va_slen hx hb a2 a3 a4 hS hd kk
end FPO
