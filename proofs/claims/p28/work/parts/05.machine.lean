/-! the soundness of one instruction, and of the whole -/
section FPY
variable (ad : Nat → Nat → Nat) (cI cC cO : ClassId)
def fp_lv : Nat → FpL → List (Nat × Value)
  | _, [] => []
  | j, some v :: l => (j, fp_tr ad v) :: fp_lv (j + 1) l
  | j, none :: l => fp_lv (j + 1) l
/-- the instruction by which a method that returns r comes to its end with v -/
def fp_rok (cc : ByteArray) (pc : Nat) (r : Option FieldType) : Option FpV → Prop
  | none => r = none ∧ decode cc pc = .ok (.return_, 1)
  | some (.inl z) => decode cc pc = .ok (.ireturn, 1) ∧ fp_rg z ∧ (r = some .int ∨ (r = some .boolean ∧ (z = 0 ∨ z = 1)))
  | _ => False
def fp_Xm (l : Launch) (D : va_G) (L : Nat) : FpX := fun d u pc ls st H Q =>
  ∀ (p : Program) (e : Env) (R : Room) (s : State) (m : MethodId) (args : Array Value) (below : List Frame) (meth : Method) (c : Code) (Hp : Heap) (locs : List Loc) (cells slots : Nat) (Z : State → Prop) (mls : Array Slot) (ci n : Nat) (y : MethodName) (cc : ByteArray) (r : Option FieldType) (b : Bool),
    fp_M[u]? = some (ci, y, cc, n, r, b) → CallFix p m c cc n s args fp_tb (fp_rx ci) → (∀ w ∈ fp_nw, va_Nw w s) → (d + 1 ≤ R.frames ∧ 33 * (d + 1) ≤ R.locals ∧ cells ≤ R.cells ∧ slots ≤ R.slots) →
    fp_X ad L H s → va_K D fp_cl (fp_tys cI cC cO) s → va_P D fp_cl (fp_W ad cI cC cO H) Hp → va_S (fp_A ad) s.heap Hp locs → fp_okH H → (∀ v ∈ st, fp_okV v) → (∀ v, some v ∈ ls → fp_okV v) → lv_has mls n (fp_lv ad 0 ls) →
    (∀ (pc' : Nat) (mls' : Array Slot) (H' : FpH) (Hp' : Heap) (locs' : List Loc) (v : Option FpV), fp_okH H' → va_P D fp_cl (fp_W ad cI cC cO H') Hp' → va_S (fp_A ad) s.heap Hp' locs' → fp_X ad L H' s → Q v H' → fp_rok cc pc' r v → mls'.size = n → W p l e R s m args below meth c Hp' locs' cells slots Z (F0 m pc' mls' (v.toList.map (fp_tr ad)))) →
    W p l e R s m args below meth c Hp locs cells slots Z (F0 m pc mls (st.map (fp_tr ad)))
end FPY
section FPZ
variable {ad : Nat → Nat → Nat} {cI cC cO : ClassId}
theorem fp_tr_cat (v : FpV) : (fp_tr ad v).category = 1 := by
  rcases v with z | ⟨g, c⟩ <;> rfl
theorem fp_lv_cat : ∀ (l : FpL) (j : Nat), ∀ q ∈ fp_lv ad j l, q.2.category = 1 ∧ j ≤ q.1
  | [], _, q, h => by simp [fp_lv] at h
  | some v :: l, j, q, h => by
    simp only [fp_lv, List.mem_cons] at h
    rcases h with rfl | h
    · exact ⟨fp_tr_cat v, Nat.le_refl _⟩
    · have := fp_lv_cat l (j + 1) q h; exact ⟨this.1, by omega⟩
  | none :: l, j, q, h => by
    simp only [fp_lv] at h
    have := fp_lv_cat l (j + 1) q h; exact ⟨this.1, by omega⟩
theorem fp_lg_out : ∀ {ls : FpL} {k : Nat} {P : FpV → Prop} (j : Nat), fp_lg ls k P → ∃ v, P v ∧ some v ∈ ls ∧ (j + k, fp_tr ad v) ∈ fp_lv ad j ls
  | [], k, P, j, h => by cases k <;> simp [fp_lg] at h
  | none :: l, 0, P, j, h => by simp [fp_lg] at h
  | some v :: l, 0, P, j, h => ⟨v, h, List.mem_cons_self, by simp [fp_lv]⟩
  | none :: l, k + 1, P, j, h => by
    have h : fp_lg l k P := h
    obtain ⟨v, a, b, c⟩ := fp_lg_out (j + 1) h
    refine ⟨v, a, List.mem_cons_of_mem _ b, ?_⟩
    simp only [fp_lv]
    rw [show j + (k + 1) = j + 1 + k by omega]; exact c
  | some w :: l, k + 1, P, j, h => by
    have h : fp_lg l k P := h
    obtain ⟨v, a, b, c⟩ := fp_lg_out (j + 1) h
    refine ⟨v, a, List.mem_cons_of_mem _ b, ?_⟩
    simp only [fp_lv]
    rw [show j + (k + 1) = j + 1 + k by omega]; exact List.mem_cons_of_mem _ c
theorem fp_ls_out : ∀ {ls : FpL} {k : Nat} {v : FpV} {P : FpL → Prop} (j : Nat), fp_ls ls k v P → ∃ ls', P ls' ∧ (∀ w, some w ∈ ls' → w = v ∨ some w ∈ ls) ∧ ∀ q ∈ fp_lv ad j ls', q = (j + k, fp_tr ad v) ∨ (q ∈ fp_lv ad j ls ∧ q.1 ≠ j + k)
  | [], k, v, P, j, h => by cases k <;> simp [fp_ls] at h
  | x :: l, 0, v, P, j, h => by
    refine ⟨some v :: l, h, fun w hw => ?_, fun q hq => ?_⟩
    · rcases List.mem_cons.mp hw with e | e
      · exact Or.inl (Option.some.inj e)
      · exact Or.inr (List.mem_cons_of_mem _ e)
    · simp only [fp_lv, List.mem_cons] at hq
      rcases hq with rfl | hq
      · exact Or.inl rfl
      · have h1 := fp_lv_cat l (j + 1) q hq
        refine Or.inr ⟨?_, by omega⟩
        cases x with
        | none => exact hq
        | some x => exact List.mem_cons_of_mem _ hq
  | x :: l, k + 1, v, P, j, h => by
    have h : fp_ls l k v (fun l' => P (x :: l')) := h
    obtain ⟨ls', a, b, c⟩ := fp_ls_out (j + 1) h
    refine ⟨x :: ls', a, fun w hw => ?_, fun q hq => ?_⟩
    · rcases List.mem_cons.mp hw with e | e
      · exact Or.inr (by rw [e]; exact List.mem_cons_self)
      · rcases b w e with e | e
        · exact Or.inl e
        · exact Or.inr (List.mem_cons_of_mem _ e)
    · cases x with
      | none =>
        simp only [fp_lv] at hq ⊢
        rcases c q hq with e | e
        · exact Or.inl (by rw [e, show j + (k + 1) = j + 1 + k by omega])
        · exact Or.inr ⟨e.1, by have := e.2; omega⟩
      | some x =>
        simp only [fp_lv, List.mem_cons] at hq ⊢
        rcases hq with rfl | hq
        · exact Or.inr ⟨Or.inl rfl, by show j ≠ _; omega⟩
        · rcases c q hq with e | e
          · exact Or.inl (by rw [e, show j + (k + 1) = j + 1 + k by omega])
          · exact Or.inr ⟨Or.inr e.1, by have := e.2; omega⟩
theorem fp_lv_st {mls : Array Slot} {n k : Nat} {ls ls' : FpL} {v : FpV} (hq : ∀ q ∈ fp_lv ad 0 ls', q = (0 + k, fp_tr ad v) ∨ (q ∈ fp_lv ad 0 ls ∧ q.1 ≠ 0 + k))
    (h : lv_has mls n ((k, fp_tr ad v) :: (fp_lv ad 0 ls).filter (fun q => !(q.1 == k) && !(q.1 + 1 == k && q.2.category == 2)))) : lv_has mls n (fp_lv ad 0 ls') := by
  refine ⟨h.1, h.2.1, fun q hm => h.2.2 q ?_⟩
  rcases hq q hm with e | ⟨e1, e2⟩
  · rw [e, Nat.zero_add]; exact List.mem_cons_self
  · refine List.mem_cons_of_mem _ (List.mem_filter.mpr ⟨e1, ?_⟩)
    have h1 := (fp_lv_cat ls 0 q e1).1
    have h2 : q.1 ≠ k := by omega
    simp [h1, h2]
theorem fp_ta_out : ∀ {n : Nat} {st acc : List FpV} {P : List FpV → List FpV → Prop}, fp_ta n st acc P → ∃ as st', st = as ++ st' ∧ as.length = n ∧ P (as.reverse ++ acc) st'
  | 0, st, acc, P, h => ⟨[], st, rfl, rfl, h⟩
  | n + 1, [], acc, P, h => h.elim
  | n + 1, v :: st, acc, P, h => by
    have h : fp_ta n st (v :: acc) P := h
    obtain ⟨as, st', rfl, h2, h3⟩ := fp_ta_out h
    exact ⟨v :: as, st', rfl, by simp [h2], by simpa using h3⟩
theorem fp_s1_out {st : List FpV} {P : Int → List FpV → Prop} (h : fp_s1 st P) : ∃ x s', st = .inl x :: s' ∧ P x s' := by
  unfold fp_s1 at h; split at h
  · exact ⟨_, _, rfl, h⟩
  · exact h.elim
theorem fp_s2_out {st : List FpV} {P : Int → Int → List FpV → Prop} (h : fp_s2 st P) : ∃ x y s', st = .inl y :: .inl x :: s' ∧ P x y s' := by
  unfold fp_s2 at h; split at h
  · exact ⟨_, _, _, rfl, h⟩
  · exact h.elim
theorem fp_sr_out {st : List FpV} {P : Nat → Nat → List FpV → Prop} (h : fp_sr st P) : ∃ g c s', st = .inr (g, c) :: s' ∧ P g c s' := by
  unfold fp_sr at h; split at h
  · exact ⟨_, _, _, rfl, h⟩
  · exact h.elim
theorem fp_si_out {st : List FpV} {P : Int → Nat → Nat → List FpV → Prop} (h : fp_si st P) : ∃ i g c s', st = .inl i :: .inr (g, c) :: s' ∧ P i g c s' := by
  unfold fp_si at h; split at h
  · exact ⟨_, _, _, _, rfl, h⟩
  · exact h.elim
theorem fp_sii_out {st : List FpV} {P : Int → Int → Nat → Nat → List FpV → Prop} (h : fp_sii st P) : ∃ z i g c s', st = .inl z :: .inl i :: .inr (g, c) :: s' ∧ P z i g c s' := by
  unfold fp_sii at h; split at h
  · exact ⟨_, _, _, _, _, rfl, h⟩
  · exact h.elim
theorem fp_sc_out {st : List FpV} {P : Int → Int → Nat → Nat → Int → Nat → Nat → List FpV → Prop} (h : fp_sc st P) : ∃ n dp g' c' sp g c s', st = .inl n :: .inl dp :: .inr (g', c') :: .inl sp :: .inr (g, c) :: s' ∧ P n dp g' c' sp g c s' := by
  unfold fp_sc at h; split at h
  · exact ⟨_, _, _, _, _, _, _, _, rfl, h⟩
  · exact h.elim
theorem fp_cond_out {b : Bool} {P : Prop} (h : bif b then P else False) : b = true ∧ P := by
  cases b
  · exact h.elim
  · exact ⟨rfl, h⟩
theorem fp_cats (st : List FpV) (h : st.length ≤ 8) : ((st.map (fp_tr ad)).map fun v => v.category).sum ≤ 8 := by
  have : ((st.map (fp_tr ad)).map fun v => v.category).sum = st.length := by
    clear h
    induction st with
    | nil => rfl
    | cons v st ih =>
      simp only [List.map_cons, List.sum_cons, fp_tr_cat, List.length_cons, ih]
      omega
  omega
end FPZ
