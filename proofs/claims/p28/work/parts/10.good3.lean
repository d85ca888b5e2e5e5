section FPW
variable {ad : Nat → Nat → Nat} {cI cC cO : ClassId} {l : Launch} {D : va_G} {L : Nat}
theorem fp_if01 {P Q : Prop} {b : Bool} (h : bif b then P ∧ Q else Q) : Q := by
  cases b
  · exact h
  · exact h.2
theorem fp_chkC_out {own : String} {idx a b w tg : Nat} {stat : Bool} (h : fp_chkC own idx a b w tg stat = true) : ∃ ci y cc n r, fp_M[a]? = some (ci, y, cc, n, r, stat) ∧ 1 ≤ a ∧ b ≤ n ∧ (if tg = 0 then Cond.methodLink own idx y ∈ fp_tb ∧ (stat = true → y.cls = own) else stat = true ∧ Cond.methodLinkNest own idx y RX6 ∈ fp_nw) ∧
    (parseMethodDescriptor y.desc).map (fun d => d.parameters.length) = some (bif stat then b else b - 1) ∧ (stat = false → 1 ≤ b) := by
  unfold fp_chkC at h
  split at h
  · rename_i ci y cc n r s hM
    simp only [Bool.and_eq_true, Bool.or_eq_true, decide_eq_true_eq] at h
    obtain ⟨⟨⟨⟨⟨h1, h2⟩, h3⟩, h4⟩, h5⟩, h6⟩ := h
    have h1 : s = stat := eq_of_beq h1
    subst h1
    refine ⟨ci, y, cc, n, r, hM, h2, h3, ?_, h5, ?_⟩
    · cases tg with
      | zero =>
        rw [if_pos rfl]
        have h4 : (decide (lw_tbl[w]? = some (Cond.methodLink own idx y)) && goodWord (.methodLink own idx y) && (!s || decide (y.cls = own))) = true := h4
        simp only [Bool.and_eq_true, Bool.or_eq_true, Bool.not_eq_true', decide_eq_true_eq] at h4
        refine ⟨fp_in h4.1.1 h4.1.2, fun q => ?_⟩
        rcases h4.2 with e | e
        · rw [q] at e; cases e
        · exact e
      | succ tg =>
        rw [if_neg (by omega)]
        have h4 : (s && decide (Cond.methodLinkNest own idx y RX6 ∈ fp_nw)) = true := h4
        simp only [Bool.and_eq_true, decide_eq_true_eq] at h4
        exact h4
    · intro q
      rcases h6 with e | e
      · rw [q] at e; cases e
      · exact e
  · cases h
theorem fp_os_lt {g c ci : Nat} {fs : List (Option (Nat × Nat))} (hm : (g, c) ∈ fp_cells) (h : fp_os c = some (ci, fs)) : ci < 7 := by
  have hc := fp_mem.mp hm
  have h1 : (List.range 22).all (fun c => match fp_os c with
    | some (ci, _) => decide (ci < 7)
    | none => true) = true := by decide +kernel
  have h2 := List.all_eq_true.mp h1 c (List.mem_range.mpr (by omega))
  rw [h] at h2
  exact of_decide_eq_true h2
section FPWS
variable {p : Program} {e : Env} {R : Room} {s : State} {m : MethodId} {args : Array Value} {below : List Frame} {meth : Method} {c : Code} {Hp : Heap} {locs : List Loc} {cells slots : Nat} {Z : State → Prop}
variable {cc : ByteArray} {pc n idx : Nat} {mls : Array Slot} {own : String} {H : FpH} {K : FpQ} {st' : List FpV}
theorem fp_pre {as : List FpV} (hN : ∀ w ∈ fp_nw, va_Nw w s) (hX : fp_X ad L H s) (hK : va_K D fp_cl (fp_tys cI cC cO) s) (hP : va_P D fp_cl (fp_W ad cI cC cO H) Hp) (hS : va_S (fp_A ad) s.heap Hp locs) : ∀ U : State, U.heap = Hp → s.WarmedH U.vm → va_Pc (as.map (fp_tr ad)) (fp_B ad cI cC cO D L H) (as.map (fp_tr ad)).toArray U := fun U hU hW =>
  ⟨rfl, by rw [hU]; exact hP, va_K.moved hW.alike hK, fp_X_of hX hW.alike hU hS ⟨rfl, rfl, rfl⟩, fp_nw_moved hN hW⟩
theorem fp_rm {d n : Nat} {R : Room} (hR : d + 1 + 1 ≤ R.frames ∧ 33 * (d + 1 + 1) ≤ R.locals) (hn : n ≤ 14) : ({ frames := d + 1, cells := 0, slots := 0, locals := 33 * (d + 1) } : Room).frames + 1 ≤ R.frames ∧ 8 + (n + 11) + ({ frames := d + 1, cells := 0, slots := 0, locals := 33 * (d + 1) } : Room).locals ≤ R.locals := by
  constructor
  · exact hR.1
  · show 8 + (n + 11) + 33 * (d + 1) ≤ R.locals
    omega
set_option maxHeartbeats 4000000 in
theorem fp_w_callV (hj : fp_inj ad) (hC : CallFix p m c cc n s args fp_tb own) (hml : mls.size = n) (hN : ∀ w ∈ fp_nw, va_Nw w s) {d d' : Nat} (hdd : d = d' + 1) (hR : d + 1 ≤ R.frames ∧ 33 * (d + 1) ≤ R.locals ∧ cells ≤ R.cells ∧ slots ≤ R.slots)
    (hX : fp_X ad L H s) (hK : va_K D fp_cl (fp_tys cI cC cO) s) (hP : va_P D fp_cl (fp_W ad cI cC cO H) Hp) (hS : va_S (fp_A ad) s.heap Hp locs) (hH : fp_okH H)
    {a b w tg : Nat} {st : List FpV} {as : List FpV} (hst : ∀ v ∈ st, fp_okV v) (hc : fp_chkC own idx a b w 0 false = true) (htg : (fp_M[a]?).map (fun q => q.1) = some tg) (hsp : st = as.reverse ++ st') (has : as.length = b) (hrc : fp_rc tg as = true) (hl8 : st'.length ≤ 8) (hd : decode cc pc = .ok (.invokevirtual idx, 3))
    (hXm : fp_Xm ad cI cC cO l D L d' a 0 (fp_en a as) [] H K)
    (kk : ∀ (v : Option FpV) (H' : FpH) (Hp' : Heap) (locs' : List Loc), K v H' → (∀ w, v = some w → fp_okV w) → fp_okH H' → fp_X ad L H' s → va_P D fp_cl (fp_W ad cI cC cO H') Hp' → va_S (fp_A ad) s.heap Hp' locs' → W p l e R s m args below meth c Hp' locs' cells slots Z (F0 m (pc + 3) mls ((fp_pu v st').map (fp_tr ad)))) :
    W p l e R s m args below meth c Hp locs cells slots Z (F0 m pc mls (st.map (fp_tr ad))) := by
  subst hdd
  obtain ⟨ci, y, cc', n', r, hM, ha, hbn, hlk, hpar, hb1⟩ := fp_chkC_out hc
  rw [if_pos rfl] at hlk
  obtain ⟨⟨f1, f2, f3, f4, f5, f6⟩, g1, g2, fr, g3⟩ := fp_mf hM ha
  rw [if_neg (by decide)] at g3
  rw [hM] at htg
  have htg : ci = tg := Option.some.inj htg
  subst htg
  have hoks : ∀ v ∈ as, fp_okV v := fun v hv => hst v (by rw [hsp]; exact List.mem_append_left _ (List.mem_reverse.mpr hv))
  match as, hrc, hoks, has, hsp, hXm with
  | .inr (g, c0) :: ar, hrc, hoks, has, hsp, hXm =>
    have hcls : fp_cls c0 = ci := Nat.eq_of_beq_eq_true hrc
    have hobj : ∃ fs, fp_os c0 = some (ci, fs) := by
      unfold fp_cls at hcls
      split at hcls
      · rename_i q fs ho
        exact ⟨fs, by rw [ho, hcls]⟩
      · omega
    obtain ⟨fs, ho⟩ := hobj
    have hm := fp_obj (hoks _ List.mem_cons_self) ho
    obtain ⟨k, -, hk⟩ := fp_at (ad := ad) (cI := cI) (cC := cC) (cO := cO) H hm
    have hk : (fp_W ad cI cC cO H)[k]? = some (ad g c0, .inr (ci, fp_fv ad H g c0 0 fs)) := by
      rw [hk]; unfold fp_ce; rw [ho]
    have f7 := fp_os_lt hm ho
    obtain ⟨⟨C, T, N⟩, hcl⟩ : ∃ q, fp_cl[ci]? = some q := ⟨_, List.getElem?_eq_getElem (show ci < fp_cl.length from f7)⟩
    have hCn : C = y.cls := by
      rw [f1]
      match ci, f7, hcl with
      | 0, _, h => cases h; rfl
      | 1, _, h => cases h; rfl
      | 2, _, h => cases h; rfl
      | 3, _, h => cases h; rfl
      | 4, _, h => cases h; rfl
      | 5, _, h => cases h; rfl
      | 6, _, h => cases h; rfl
    have hMet := fp_met (l := l) (D := D) (L := L) hj hM ha hXm hH hoks (by rw [has]; exact hbn)
    have hlen : ar.length = b - 1 := by rw [List.length_cons] at has; omega
    have hstk : st.map (fp_tr ad) = (ar.map (fp_tr ad)).reverse ++ .ref (ad g c0) :: st'.map (fp_tr ad) := by
      rw [hsp, List.reverse_cons, List.append_assoc, List.map_append, List.map_reverse]
      rfl
    refine fp_back (K := K) fr hX hS (va_runV (As := ar.map (fp_tr ad)) (rest := st'.map (fp_tr ad)) (b := ad g c0) hC hMet
      (cwV (b - 1) hC.2.2.2.2 (fp_good_wsV hlk.1 g3.1 g3.2 g1 g2) rfl rfl rfl ⟨rfl, f3.1, f3.2, hpar⟩ (fp_rm ⟨hR.1, hR.2.1⟩ f4))
      ⟨fp_blind, by rw [← hCn]; exact va_recv hK hP hcl hk, fp_pre hN hX hK hP hS⟩ rfl (by rw [List.length_map]; exact hlen) hml hstk (lv_room (fp_cats st' hl8)) hd ⟨hR.2.2.1, hR.2.2.2⟩) kk
set_option maxHeartbeats 4000000 in
theorem fp_w_callS (hj : fp_inj ad) (hC : CallFix p m c cc n s args fp_tb own) (hml : mls.size = n) (hN : ∀ w ∈ fp_nw, va_Nw w s) {d d' : Nat} (hdd : d = d' + 1) (hR : d + 1 ≤ R.frames ∧ 33 * (d + 1) ≤ R.locals ∧ cells ≤ R.cells ∧ slots ≤ R.slots)
    (hX : fp_X ad L H s) (hK : va_K D fp_cl (fp_tys cI cC cO) s) (hP : va_P D fp_cl (fp_W ad cI cC cO H) Hp) (hS : va_S (fp_A ad) s.heap Hp locs) (hH : fp_okH H)
    {a b w tg : Nat} {st : List FpV} {as : List FpV} (hst : ∀ v ∈ st, fp_okV v) (hc : fp_chkC own idx a b w tg true = true) (hsp : st = as.reverse ++ st') (has : as.length = b) (hl8 : st'.length ≤ 8) (hd : decode cc pc = .ok (.invokestatic idx, 3))
    (hXm : fp_Xm ad cI cC cO l D L d' a 0 (fp_en a as) [] H K)
    (kk : ∀ (v : Option FpV) (H' : FpH) (Hp' : Heap) (locs' : List Loc), K v H' → (∀ w, v = some w → fp_okV w) → fp_okH H' → fp_X ad L H' s → va_P D fp_cl (fp_W ad cI cC cO H') Hp' → va_S (fp_A ad) s.heap Hp' locs' → W p l e R s m args below meth c Hp' locs' cells slots Z (F0 m (pc + 3) mls ((fp_pu v st').map (fp_tr ad)))) :
    W p l e R s m args below meth c Hp locs cells slots Z (F0 m pc mls (st.map (fp_tr ad))) := by
  subst hdd
  obtain ⟨ci, y, cc', n', r, hM, ha, hbn, hlk, hpar, -⟩ := fp_chkC_out hc
  obtain ⟨⟨f1, f2, f3, f4, f5, f6⟩, g1, g2, fr, g3⟩ := fp_mf hM ha
  rw [if_pos rfl] at g3
  have hoks : ∀ v ∈ as, fp_okV v := fun v hv => hst v (by rw [hsp]; exact List.mem_append_left _ (List.mem_reverse.mpr hv))
  have hMet := fp_met (l := l) (D := D) (L := L) hj hM ha hXm hH hoks (by rw [has]; exact hbn)
  have hstk : st.map (fp_tr ad) = (as.map (fp_tr ad)).reverse ++ st'.map (fp_tr ad) := by
    rw [hsp, List.map_append, List.map_reverse]
  by_cases ht : tg = 0
  · rw [if_pos ht] at hlk
    have hyo := hlk.2 rfl
    refine fp_back (K := K) fr hX hS (va_runS (As := as.map (fp_tr ad)) (rest := st'.map (fp_tr ad)) hC hMet
      (cwS b hC.2.2.2.2 (fp_good_wsS hlk.1 g3 (hyo ▸ g1) g2) rfl rfl rfl ⟨hyo, f3.1, f3.2, hpar⟩ (fp_rm ⟨hR.1, hR.2.1⟩ f4))
      ⟨fp_blind, fp_pre hN hX hK hP hS⟩ rfl (by rw [List.length_map]; exact has) hml hstk (lv_room (fp_cats st' hl8)) hd ⟨hR.2.2.1, hR.2.2.2⟩) kk
  · rw [if_neg ht] at hlk
    refine fp_back (K := K) fr hX hS (va_runSN (As := as.map (fp_tr ad)) (rest := st'.map (fp_tr ad)) hC hMet
      ⟨va_cnB b hC.2.2.2.2 (fp_good_ws g2) rfl rfl rfl (hN _ hlk.2) (hC.2.2.2.2 _ g1) ⟨f3.1, f3.2, hpar⟩ (fp_rm ⟨hR.1, hR.2.1⟩ f4), hC.2.2.2.2 _ g3, trivial⟩
      ⟨fp_blind, fp_pre hN hX hK hP hS⟩ rfl (by rw [List.length_map]; exact has) hml hstk (lv_room (fp_cats st' hl8)) hd ⟨hR.2.2.1, hR.2.2.2⟩) kk
end FPWS
end FPW
