section FPR
variable {ad : Nat → Nat → Nat} {cI cC cO : ClassId} {l : Launch} {D : va_G} {L : Nat}
def fp_ws (y : MethodName) (c : ByteArray) (n : Nat) (r : Option FieldType) : List Cond := .code y c n r :: fp_tb
def fp_B (ad : Nat → Nat → Nat) (cI cC cO : ClassId) (D : va_G) (L : Nat) (H : FpH) (U : State) : Prop :=
  va_P D fp_cl (fp_W ad cI cC cO H) U.heap ∧ va_K D fp_cl (fp_tys cI cC cO) U ∧ fp_X ad L H U ∧ ∀ w ∈ fp_nw, va_Nw w U
def fp_E (ad : Nat → Nat → Nat) (cI cC cO : ClassId) (D : va_G) (L : Nat) (H : FpH) (t : State) : Prop := va_P D fp_cl (fp_W ad cI cC cO H) t.heap ∧ fp_X ad L H t
def fp_Qm (ad : Nat → Nat → Nat) (cI cC cO : ClassId) (D : va_G) (L : Nat) (r : Option FieldType) (K : FpQ) : Array Value → State → Outcome → State → Prop := match r with
  | none => va_Qv (fun H' : FpH => fp_okH H' ∧ K none H') (fp_E ad cI cC cO D L) (fp_A ad)
  | some _ => va_Qi (fun (x : Int32) (H' : FpH) => fp_okH H' ∧ K (some (.inl x.toInt)) H') (fp_E ad cI cC cO D L) (fp_A ad)
theorem fp_nw_moved {s U : State} (h : ∀ w ∈ fp_nw, va_Nw w s) (hW : s.WarmedH U.vm) : ∀ w ∈ fp_nw, va_Nw w U := by
  intro w hw
  have h1 := h w hw
  simp only [fp_nw, List.mem_cons, List.not_mem_nil, or_false] at hw
  rcases hw with rfl | rfl | rfl <;> exact va_Nw.warmM hW h1
theorem fp_nw_same {s U : State} (h : ∀ w ∈ fp_nw, va_Nw w s) (hW : s.vm = U.vm) : ∀ w ∈ fp_nw, va_Nw w U := by
  intro w hw
  have h1 := h w hw
  simp only [fp_nw, List.mem_cons, List.not_mem_nil, or_false] at hw
  rcases hw with rfl | rfl | rfl <;> exact va_Nw.same rfl hW h1
theorem fp_X_of {H : FpH} {s U : State} {Hp : Heap} {locs : List Loc} (h : fp_X ad L H s) (hvm : s.vm.Alike U.vm) (hU : U.heap = Hp) (hS : va_S (fp_A ad) s.heap Hp locs) {H' : FpH} (hH : H' 9 26 = H 9 26 ∧ H' 9 27 = H 9 27 ∧ H' 9 28 = H 9 28) : fp_X ad L H' U :=
  fp_X_to h hvm (by rw [hU]; exact hS.1) (fun q h1 h2 => by rw [hU]; exact hS.2.1 q h1 h2) hH
theorem fp_lv_en : ∀ (vs : List FpV) (k j : Nat), fp_lv ad j (vs.map some ++ List.replicate k none) = lv_args j (vs.map (fp_tr ad))
  | [], 0, j => rfl
  | [], k + 1, j => by
    have := fp_lv_en [] k (j + 1)
    simp only [List.map_nil, List.nil_append, List.replicate_succ, fp_lv] at this ⊢
    rw [this]; rfl
  | v :: vs, k, j => by
    simp only [List.map_cons, List.cons_append, fp_lv, lv_args]
    rw [if_neg (by rw [fp_tr_cat]; decide), fp_lv_en vs k (j + 1)]
theorem fp_sl_len (vs : List FpV) : (lg_sl (vs.map (fp_tr ad))).length = vs.length := by
  induction vs with
  | nil => rfl
  | cons v vs ih =>
    have h : lg_sl ((v :: vs).map (fp_tr ad)) = .val (fp_tr ad v) :: lg_sl (vs.map (fp_tr ad)) := by
      simp only [lg_sl, List.map_cons, List.flatMap_cons, fp_tr_cat]
      rfl
    rw [h, List.length_cons, ih, List.length_cons]
theorem fp_m_lt {u : Nat} {q : FpM} (h : fp_M[u]? = some q) : u < 86 := by
  have := (List.getElem?_eq_some_iff.mp h).1
  rw [fp_lenM] at this
  exact this
/-- what the tables say of a method -/
theorem fp_mf {u ci n : Nat} {y : MethodName} {cc : ByteArray} {r : Option FieldType} {b : Bool} (hM : fp_M[u]? = some (ci, y, cc, n, r, b)) (hu : 1 ≤ u) :
    (y.cls = fp_rx ci ∧ plainName y.cls = true ∧ (y.cls ≠ "java/lang/invoke/MethodHandle" ∧ y.cls ≠ "java/lang/invoke/VarHandle") ∧ n ≤ 14 ∧ ci < 8 ∧ fp_nlL[u]? = some n) ∧ Cond.initialized y.cls ∈ fp_tb ∧ Cond.code y cc n r ∈ fp_tb ∧
    (r = none ∨ r = some .int ∨ r = some .boolean) ∧ (if b then Cond.static y ∈ fp_tb else Cond.instanceMethod y ∈ fp_tb ∧ Cond.selects y.cls y y ∈ fp_tb) := by
  have hl := fp_m_lt hM
  have h1 := List.all_eq_true.mp fp_ckM u (List.mem_range.mpr hl)
  unfold fp_chkM at h1
  rw [hM] at h1
  obtain ⟨q, hq⟩ : ∃ q, fp_pl[u]? = some q := ⟨_, List.getElem?_eq_getElem (by rw [fp_lenP]; exact hl)⟩
  rw [hq] at h1
  obtain ⟨p1, p2, p3, p4⟩ := q
  have hz : Nat.beq u 0 = false := by
    cases u with
    | zero => omega
    | succ u => rfl
  simp only [hz, cond_false, Bool.and_eq_true, Bool.or_eq_true, decide_eq_true_eq] at h1
  obtain ⟨⟨⟨⟨⟨⟨⟨⟨⟨e1, e2⟩, e3⟩, e4⟩, e5⟩, ec⟩, e6⟩, e7⟩, e8⟩, ⟨⟨e9, e10⟩, e11⟩⟩ := h1
  have hcode : lw_tbl[p1]? = some (Cond.code y cc n r) := by
    have h2 := congrArg (fun z => z[u - 1]?) fp_ckW
    simp only [List.getElem?_map, List.getElem?_drop] at h2
    rw [show 1 + (u - 1) = u by omega, hM, hq] at h2
    exact (Option.some.inj h2).symm
  refine ⟨⟨e1, e2, ⟨e3, e4⟩, e9, Nat.lt_succ_of_le ec, e6⟩, fp_in e7 e8, fp_in hcode (by rfl), ?_, ?_⟩
  · rcases e11 with (h | h) | h
    · exact Or.inl h
    · exact Or.inr (Or.inl h)
    · exact Or.inr (Or.inr h)
  · cases b with
    | true =>
      simp only [cond_true, Bool.and_eq_true, decide_eq_true_eq] at e10
      exact fp_in e10.1 e10.2
    | false =>
      simp only [cond_false, Bool.and_eq_true, decide_eq_true_eq] at e10
      exact ⟨fp_in e10.1.1.1 e10.1.1.2, fp_in e10.1.2 e10.2⟩
theorem fp_blind {H : FpH} {as : List Value} : FrameBlind (va_Pc as (fp_B ad cI cC cO D L H)) := by
  rintro a U g mk ⟨rfl, h1, h2, h3, h4⟩
  exact ⟨rfl, h1, va_K.moved (u := U) (U := U.calling g mk as.toArray) (Vm.Alike.refl U.vm) h2, fp_X_to h3 (Vm.Alike.refl U.vm) (Nat.le_refl _) (fun _ _ _ => rfl) ⟨rfl, rfl, rfl⟩, fp_nw_same h4 rfl⟩
set_option maxHeartbeats 4000000 in
set_option maxRecDepth 100000 in
theorem fp_met (hj : fp_inj ad) {u ci n : Nat} {y : MethodName} {cc : ByteArray} {r : Option FieldType} {b : Bool} (hM : fp_M[u]? = some (ci, y, cc, n, r, b)) (hu : 1 ≤ u) {d : Nat} {as : List FpV} {H : FpH} {K : FpQ}
    (h : fp_Xm ad cI cC cO l D L d u 0 (fp_en u as) [] H K) (hH : fp_okH H) (ha : ∀ v ∈ as, fp_okV v) (hn : as.length ≤ n) :
    Met l y (fp_ws y cc n r) ({ frames := d + 1, cells := 0, slots := 0, locals := 33 * (d + 1) }) (va_Pc (as.map (fp_tr ad)) (fp_B ad cI cC cO D L H)) (fp_Qm ad cI cC cO D L r K) 0 0 (fp_A ad) := by
  obtain ⟨⟨f1, f2, f3, f4, f5, f6⟩, -, -, fr, -⟩ := fp_mf hM hu
  refine Met.ofW (cc := cc) (maxL := n) (ret := r) f2 rfl ?_
  intro p e s m args below meth c s₁ B hml hv
  obtain ⟨rfl, hP, hK, hX, hN⟩ := hv
  have hts0 := atoms_spec (ws := fp_ws y cc n r) B.pre
  have hown : s.vm.findClass (fp_rx ci) = some m.cls := f1 ▸ findClass_of_methodNamed B.named
  have hen : fp_en u as = as.map some ++ List.replicate (n - as.length) none := by
    unfold fp_en
    rw [List.getD_eq_getElem?_getD, f6]; rfl
  have hl := lv_entry (as.map (fp_tr ad)) (n := n) (by rw [fp_sl_len]; exact hn)
  rw [lg_entry_eq]
  refine h p e _ s m _ below meth c s.heap [] 0 0 _ _ ci n y cc r b hM ⟨B.exec, B.bytes, hml, hown, fun w hw => hts0 w (List.mem_cons_of_mem _ hw)⟩ hN ⟨Nat.le_refl _, Nat.le_refl _, Nat.zero_le _, Nat.zero_le _⟩ hX hK hP va_S.rf hH (fun v hv => (List.not_mem_nil hv).elim) ?_ ?_ ?_
  · intro v hv
    rw [hen] at hv
    rcases List.mem_append.mp hv with q | q
    · obtain ⟨w, hw, e⟩ := List.mem_map.mp q
      cases e
      exact ha v hw
    · exact absurd (List.eq_of_mem_replicate q) (by intro e; cases e)
  · rw [hen, fp_lv_en]; exact hl
  · intro pc' mls' H' Hp' locs' v a1 a2 a3 a4 a5 a6 a7
    have hend : ∀ t : State, t.heap = Hp' → s.WarmedH t.vm → fp_E ad cI cC cO D L H' t := fun t ht hW => ⟨by rw [ht]; exact a2, fp_X_of a4 hW.alike ht a3 ⟨rfl, rfl, rfl⟩⟩
    rcases v with _ | (z | z)
    · obtain ⟨rfl, hdec⟩ := a6
      exact W.vret B.exec B.bytes B.returns (fun t ht hW => ⟨⟨H', rfl, ⟨a1, a5⟩, hend t ht hW⟩, a3.F ht⟩) a3.2.2 hdec B.notSynchronized
    · obtain ⟨hdec, hz, hr⟩ := a6
      have hq : (r = some .int ∨ r = some .boolean) → ∀ t : State, t.heap = Hp' → s.WarmedH t.vm → fp_Qm ad cI cC cO D L r K (as.map (fp_tr ad)).toArray s (.returned (some (.int (fp_oi z)))) t := fun hr t ht hW => by
        have : va_Qi (fun (x : Int32) (H' : FpH) => fp_okH H' ∧ K (some (.inl x.toInt)) H') (fp_E ad cI cC cO D L) (fp_A ad) (as.map (fp_tr ad)).toArray s (.returned (some (.int (fp_oi z)))) t := ⟨⟨fp_oi z, H', rfl, ⟨a1, by rw [fp_oi_T hz]; exact a5⟩, hend t ht hW⟩, a3.F ht⟩
        rcases hr with rfl | rfl <;> exact this
      rcases hr with rfl | ⟨rfl, hz01⟩
      · exact W.iret B.exec B.bytes B.returns (hq (Or.inl rfl)) a3.2.2 hdec B.notSynchronized
      · refine W.zret B.exec B.bytes B.returns ?_ (hq (Or.inr rfl)) a3.2.2 hdec B.notSynchronized
        rcases hz01 with rfl | rfl
        · rw [fp_oi_0]; rfl
        · rw [show fp_oi 1 = 1 by decide +kernel]; rfl
    · exact a6.elim
end FPR
