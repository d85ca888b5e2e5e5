/-! the law, from its entry -/
set_option maxHeartbeats 4000000 in
set_option maxRecDepth 100000 in
theorem whole_start {p : Program} {e : Env} {s : State} {m : MethodId} {below : List Frame} {meth : Method} {c : Code} (l : Launch) (hflags : l.flags = flags0) {b L : Nat} {xs : Nat → Int32} (hL : L ≤ 260) (C0 : lw_At p s m meth c b L xs) : W p l e room_1 s m #[Value.ref b] below meth c s.heap [] 0 0 (lw_Z below #[Value.ref b] s) (entryFrame m ([Value.ref b] : List Value).toArray 24) := by
  obtain ⟨hx, hb, hr, hml, hown, hts0, hX, hbl, hlocks, hgv⟩ := C0
  have hfl := flat_of_before _ hgv
  have hts : ∀ w ∈ fp_tb, w.before #[Value.ref b] s = true := fun w hw => hts0 w (List.mem_filter.mp hw).1
  have hao : va_AO RX4 s := va_AO.of (hts0 _ (List.mem_of_getElem? fkP_over))
  obtain ⟨D, cI, cC, cO, hK⟩ := fk_K hts hao
  have hcI : s.vm.findClass "[I" = some cI := (hK.2 0 (cI, .int) rfl).2
  have hAn : ∀ a : Nat, a < s.heap.size → ¬ (fun q : Nat => s.heap.size ≤ q) a := fun a h1 h2 => Nat.not_le.mpr h1 h2
  have hA : ∀ q : Nat, s.heap.size ≤ q → (fun q : Nat => s.heap.size ≤ q) q := fun _ h => h
  obtain ⟨bF, cellF, f1, f2, f3, f4, f5, f6⟩ := fk_stat (tm := .static "FoldedProfiles" "FIRST_SETTING" "[I") (x := 1) (y := 0) (z := 8) (hfl _ (by decide +kernel)) (hfl _ (by decide +kernel)) (hfl _ (by decide +kernel)) (hfl _ (by decide +kernel)) (hfl _ (by decide +kernel))
  obtain ⟨b27, cell7, m1, m2, m3, m4, m5, m6⟩ := fk_stat (tm := .static "FoldedProfiles" "LEAST_SETTING" "[I") (x := 0) (y := 0) (z := 1) (hfl _ (by decide +kernel)) (hfl _ (by decide +kernel)) (hfl _ (by decide +kernel)) (hfl _ (by decide +kernel)) (hfl _ (by decide +kernel))
  obtain ⟨b28, cell8, n1, n2, n3, n4, n5, n6⟩ := fk_stat (tm := .static "FoldedProfiles" "MOST_SETTING" "[I") (x := 9) (y := 3) (z := 24) (hfl _ (by decide +kernel)) (hfl _ (by decide +kernel)) (hfl _ (by decide +kernel)) (hfl _ (by decide +kernel)) (hfl _ (by decide +kernel))
  have hcF : cellF.cls = cI := by
    obtain ⟨a, c1, cell, k, q1, q2, q3, q4, q5, q6, -⟩ := Cond.exactly_spec (hfl (Cond.exactly (.static "FoldedProfiles" "FIRST_SETTING" "[I") "[I") (by decide +kernel))
    cases f1.symm.trans q1
    cases f2.symm.trans q3
    exact q6.trans (Option.some.inj (q2.symm.trans hcI))
  have hlF : ∀ {a : Nat} {cell : Cell}, s.heap[a]? = some cell → a < s.heap.size := fun h => (Array.getElem?_eq_some_iff.mp h).1
  have hE : fk_E cI bF (fun q : Nat => s.heap.size ≤ q) s := by
    refine ⟨⟨cellF, f2, hAn _ (hlF f2), f3.1, f4, hcF, fk_first hcF f5 f6⟩, va_Zref (hts0 _ (List.mem_of_getElem? fkY_FIRST)) (hts _ fkJX6) f1 hAn, hao, fun w hw => ?_, va_Nw.of rfl (hts0 _ (List.mem_of_getElem? fkP_first)), va_Nw.of rfl (hts0 _ (List.mem_of_getElem? fkP_cast))⟩
    simp only [fk_nw, List.mem_cons, List.not_mem_nil, or_false] at hw
    rcases hw with rfl | rfl | rfl | rfl | rfl | rfl
    · exact va_Nw.of rfl (hts0 _ (List.mem_of_getElem? fkPX6_9))
    · exact va_Nw.of rfl (hts0 _ (List.mem_of_getElem? fkPX4_11))
    · exact va_Nw.of rfl (hts0 _ (List.mem_of_getElem? fkPX4_20))
    · exact va_Nw.of rfl (hts0 _ (List.mem_of_getElem? fkPX4_27))
    · exact va_Nw.of rfl (hts0 _ (List.mem_of_getElem? fkPX0_24))
    · exact va_Nw.of rfl (hts0 _ (List.mem_of_getElem? fkPX6_35))
  have hN : ∀ w ∈ fp_nw, va_Nw w s := by
    intro w hw
    have hw1 := hw
    simp only [fp_nw, List.mem_cons, List.not_mem_nil, or_false] at hw
    rcases hw with rfl | rfl | rfl <;> exact va_Nw.of rfl (hts0 _ (by decide +kernel))
  have hCF : CallFix p m c code 24 s #[Value.ref b] fp_tb RL := ⟨hx, hb, hml, hown, hts⟩
  have hS : va_S (fun q : Nat => s.heap.size ≤ q) s.heap s.heap [] := va_S.rf
  have hP : va_P D fp_cl [] s.heap := fun k q h => by simp at h
  have hD : va_D (fun q : Nat => s.heap.size ≤ q) [] := ⟨fun i j p q h => by simp at h, fun k q h => by simp at h⟩
  have hl := lv_entry ([.ref b]) (n := 24) (Nat.le_of_ble_eq_true rfl)
  rw [lg_entry_eq]
  generalize (lg_sl ([.ref b]) ++ List.replicate (24 - (lg_sl ([.ref b])).length) Slot.unset).toArray = ls at hl ⊢
  have hl : lv_has ls 24 [(0, .ref b)] := hl
  refine fk_mk (ci := 6) (C := RX6) (T := TX6) (N := 6) (ty := tyX6) (raw := [.null, .null, .null, .int 0, .null, .null]) hCF hK hE hA hl.1 rfl tyX6_ok (fun j hj => by rcases (show j = 0 ∨ j = 1 ∨ j = 2 ∨ j = 3 ∨ j = 4 ∨ j = 5 by omega) with rfl | rfl | rfl | rfl | rfl | rfl <;> rfl) fkLL_10 fkNX6 fkJX6 fk_m6 rfl ⟨by decide, by decide⟩ fkC_X6_init fkI_X6_init (Or.inl fkML_78) ⟨Nat.le_of_ble_eq_true rfl, Nat.le_of_ble_eq_true rfl⟩ (Nat.le_of_ble_eq_true rfl) (Nat.le_of_ble_eq_true rfl) dL_law_0 dL_law_3 dL_law_4 (Nat.le_of_ble_eq_true rfl) hP hD hS (fun q u H locs hu hP hD hS => ?_)
  subst hu
  have hP : va_P D fp_cl (fk_w6 cI cC cO u) H := hP
  have hD : va_D (fun q : Nat => s.heap.size ≤ q) (fk_w6 cI cC cO u) := hD
  refine lv_astore_n (lv' := [(1, .ref u.1), (0, .ref b)]) hx hb dL_law_7 rfl hl (by decide) rfl (fun ls hl => ?_)
  refine va_forget (fun q hq => hS.2.2 q hq) ?_
  have hsub : ∀ q, fp_A (fk_ad b b27 b28 u) q → s.heap.size ≤ q := fk_sub hD
  have hS1 : va_S (fp_A (fk_ad b b27 b28 u)) s.heap H [] := ⟨hS.1, fun q h1 h2 => hS.2.1 q h1 (hAn q h1), fun l h => by cases h⟩
  have hAs : ∀ a : Nat, a < s.heap.size → ¬ fp_A (fk_ad b b27 b28 u) a := fun a h1 h2 => hAn a h1 (hsub a h2)
  have hXX : fp_X (fk_ad b b27 b28 u) L (fk_H xs) s := by
    refine ⟨fun c1 hc1 => ?_, va_Zref (hts0 _ (List.mem_of_getElem? fkY_LEAST)) (hts _ fkJX6) m1 hAs, va_Zref (hts0 _ (List.mem_of_getElem? fkY_MOST)) (hts _ fkJX6) n1 hAs⟩
    rcases hc1 with rfl | rfl | rfl
    · refine ⟨L, rfl, ?_, hbl, hAs _ hbl⟩
      have e1 : (fun j => fp_oi (fk_H xs 9 26 j)) = xs := funext fun j => fp_oi_t _
      rw [e1]
      exact hX
    · exact ⟨3, rfl, fk_vX m2 m3 m4 m5 m6 (fun j hj => by
        rcases (show j = 0 ∨ j = 1 ∨ j = 2 by omega) with rfl | rfl | rfl
        · exact (show fk_3 0 0 1 0 = fp_oi 0 by decide +kernel)
        · exact (show fk_3 0 0 1 1 = fp_oi 0 by decide +kernel)
        · exact (show fk_3 0 0 1 2 = fp_oi 1 by decide +kernel)), hlF m2, hAs _ (hlF m2)⟩
    · exact ⟨3, rfl, fk_vX n2 n3 n4 n5 n6 (fun j hj => by
        rcases (show j = 0 ∨ j = 1 ∨ j = 2 by omega) with rfl | rfl | rfl
        · exact (show fk_3 9 3 24 0 = fp_oi 9 by decide +kernel)
        · exact (show fk_3 9 3 24 1 = fp_oi 3 by decide +kernel)
        · exact (show fk_3 9 3 24 2 = fp_oi 24 by decide +kernel)), hlF n2, hAs _ (hlF n2)⟩
  have hwp : fp_Wp L 7 0 8 [some (.inr (9, 26)), some (.inr (7, 14)), none, none, none, none, none, none, none, none, none, none, none, none, none, none, none, none, none, none, none, none, none, none] [] (fk_H xs) (fun v _ => v = some (.inl 1)) := ll_law (d := 0) (by omega) (fk_I xs) ⟨⟨Int.le_refl _, show (0 : Int) < 4 by decide⟩, ⟨Int.le_refl _, show (0 : Int) ≤ 4 by decide⟩⟩ ⟨rfl, rfl, rfl, rfl, rfl, rfl⟩ (fk_N xs) rfl rfl rfl rfl rfl rfl (fun _ => rfl)
  have hgo : fp_Xm (fk_ad b b27 b28 u) cI cC cO l D L 7 0 8 [some (.inr (9, 26)), some (.inr (7, 14)), none, none, none, none, none, none, none, none, none, none, none, none, none, none, none, none, none, none, none, none, none, none] [] (fk_H xs) (fun v _ => v = some (.inl 1)) := hwp _ (fp_good (fk_inj hD) (by omega))
  refine hgo p e room_1 s m #[Value.ref b] below meth c H [] _ _ _ ls 7 24 yL_law cL_law (some .boolean) true rfl hCF hN ⟨Nat.le_of_ble_eq_true rfl, Nat.le_of_ble_eq_true rfl, Nat.le_of_ble_eq_true rfl, Nat.le_of_ble_eq_true rfl⟩ hXX hK (fk_P hP) hS1 (fk_ok xs) (fun v hv => by cases hv) ?_ (lv_sub hl [1, 0] rfl) ?_
  · intro v hv
    simp only [List.mem_cons, List.not_mem_nil, or_false, Option.some.injEq, reduceCtorEq] at hv
    rcases hv with rfl | rfl
    · exact Or.inr ⟨rfl, Or.inl rfl⟩
    · exact Or.inl (by decide +kernel)
  · intro pc' mls' H' Hp' locs' v h1 h2 h3 h4 h5 h6 h7
    subst h5
    obtain ⟨hdg, -, -⟩ := h6
    refine va_forget (fun q hq => hsub _ (h3.2.2 q hq)) ?_
    refine W.widen (k := 600000) (n := 7302250) (Nat.le_of_ble_eq_true rfl) (Nat.le_of_ble_eq_true rfl) ?_
    have e1 : fp_oi 1 = 1 := by decide +kernel
    show W p l e room_1 s m #[Value.ref b] below meth c Hp' [] 600000 7302250 (lw_Z below #[Value.ref b] s) (F0 m pc' mls' [.int (fp_oi 1)])
    rw [e1]
    exact lw_ret hx hb hr hlocks hdg
