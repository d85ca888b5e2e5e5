section FPU
variable {ad : Nat → Nat → Nat} {cI cC cO : ClassId} {l : Launch} {D : va_G} {L : Nat}
theorem fp_dec {cc : ByteArray} {pc k : Nat} {i : Instr} (h : decode cc pc = .ok (i, pc + k - pc)) : decode cc pc = .ok (i, k) := by
  rw [h, Nat.add_sub_cancel_left]
theorem fp_okc {v : FpV} {st : List FpV} (h : fp_okV v) (hs : ∀ v ∈ st, fp_okV v) : ∀ w ∈ v :: st, fp_okV w := List.forall_mem_cons.mpr ⟨h, hs⟩
theorem fp_okt {v : FpV} {st : List FpV} (hs : ∀ w ∈ v :: st, fp_okV w) : fp_okV v ∧ ∀ v ∈ st, fp_okV v := List.forall_mem_cons.mp hs
theorem fp_ld_out {ch : Bool} {H : FpH} {i : Int} {g c : Nat} {P : Int → Prop} (h : fp_ld L ch H i g c P) : ∃ n, fp_as L c = some (ch, n) ∧ 0 ≤ i ∧ i < (n : Int) ∧ P (H g c i.toNat) := by
  unfold fp_ld at h; split at h
  · rename_i b n ha
    obtain ⟨h1, h2⟩ := fp_cond_out h
    have : b = ch := eq_of_beq h1
    subst this
    exact ⟨n, ha, h2.1.1, h2.1.2, h2.2⟩
  · exact h.elim
theorem fp_st_out {ch : Bool} {i : Int} {c : Nat} {P : Prop} (h : fp_st L ch i c P) : ∃ n, fp_as L c = some (ch, n) ∧ c ≤ 25 ∧ 0 ≤ i ∧ i < (n : Int) ∧ P := by
  unfold fp_st at h; split at h
  · rename_i b n ha
    obtain ⟨h1, h2⟩ := fp_cond_out h
    rw [Bool.and_eq_true] at h1
    have : b = ch := eq_of_beq h1.1
    subst this
    exact ⟨n, ha, Nat.le_of_ble_eq_true h1.2, h2.1.1, h2.1.2, h2.2⟩
  · exact h.elim
theorem fp_len_out {c : Nat} {P : Int → Prop} (h : fp_len L c P) : ∃ ch n, fp_as L c = some (ch, n) ∧ P (n : Int) := by
  unfold fp_len at h; split at h
  · rename_i ch n ha; exact ⟨ch, n, ha, h⟩
  · exact h.elim
theorem fp_cpy_out {n dp sp : Int} {c c' : Nat} {P : Prop} (h : fp_cpy L n dp c' sp c P) : ∃ m m', fp_as L c = some (false, m) ∧ fp_as L c' = some (false, m') ∧ c' ≤ 25 ∧ c ≤ 25 ∧ (0 ≤ n ∧ 0 ≤ sp ∧ 0 ≤ dp ∧ sp + n ≤ (m : Int) ∧ dp + n ≤ (m' : Int)) ∧ P := by
  unfold fp_cpy at h; split at h
  · rename_i m m' h1 h2
    obtain ⟨h3, h4⟩ := fp_cond_out h
    rw [Bool.and_eq_true] at h3
    exact ⟨m, m', h1, h2, Nat.le_of_ble_eq_true h3.1, Nat.le_of_ble_eq_true h3.2, h4.1, h4.2⟩
  · exact h.elim
theorem fp_as_lt {c n : Nat} {ch : Bool} {g : Nat} (hL : L ≤ 2560) (hv : fp_okV (.inr (g, c))) (ha : fp_as L c = some (ch, n)) : fp_rg (n : Int) := by
  rcases hv with h | ⟨-, h⟩
  · have hc := fp_mem.mp h
    have := fp_as_len ha (by omega)
    unfold fp_rg; omega
  · unfold fp_rg
    rcases h with rfl | rfl | rfl <;> cases ha <;> omega
theorem fp_if_out {b : Bool} {A P : Prop} (h : bif b then A ∧ P else P) : (b = true → A) ∧ P := by
  cases b
  · exact ⟨fun q => Bool.noConfusion q, h⟩
  · exact ⟨fun _ => h.1, h.2⟩
theorem fp_sws_out {x : Int} {k : Nat → Prop} : ∀ {ts : List Nat} {lo : Int}, fp_sws x lo k ts → ∀ j : Nat, j < ts.length → x = lo + j → k (ts.getD j 0)
  | [], _, _, j, hj, _ => by simp at hj
  | t :: ts, lo, h, 0, _, hx => h.1 (by omega)
  | t :: ts, lo, h, j + 1, hj, hx => by
    have := fp_sws_out h.2 j (by simp at hj; omega) (by omega)
    simpa using this
/-- the callee's words -/
theorem fp_good_wsV {own C : String} {idx : Nat} {y : MethodName} {cc : ByteArray} {n : Nat} {r : Option FieldType} (h1 : Cond.methodLink own idx y ∈ fp_tb) (h2 : Cond.instanceMethod y ∈ fp_tb) (h3 : Cond.selects C y y ∈ fp_tb) (h4 : Cond.initialized C ∈ fp_tb) (h5 : Cond.code y cc n r ∈ fp_tb) : GoodIn fp_tb (wsV own idx C y (fp_ws y cc n r)) := by
  intro w hw
  have hm : w ∈ fp_tb := by
    unfold wsV fp_ws at hw
    simp only [List.cons_append, List.nil_append, List.mem_cons] at hw
    rcases hw with rfl | rfl | rfl | rfl | rfl | hw <;> assumption
  exact ⟨hm, good_of_word (List.mem_filter.mp hm).2⟩
theorem fp_good_wsS {own : String} {idx : Nat} {y : MethodName} {cc : ByteArray} {n : Nat} {r : Option FieldType} (h1 : Cond.methodLink own idx y ∈ fp_tb) (h2 : Cond.static y ∈ fp_tb) (h4 : Cond.initialized own ∈ fp_tb) (h5 : Cond.code y cc n r ∈ fp_tb) : GoodIn fp_tb (wsS own idx y (fp_ws y cc n r)) := by
  intro w hw
  have hm : w ∈ fp_tb := by
    unfold wsS fp_ws at hw
    simp only [List.cons_append, List.nil_append, List.mem_cons] at hw
    rcases hw with rfl | rfl | rfl | rfl | hw <;> assumption
  exact ⟨hm, good_of_word (List.mem_filter.mp hm).2⟩
theorem fp_good_ws {y : MethodName} {cc : ByteArray} {n : Nat} {r : Option FieldType} (h5 : Cond.code y cc n r ∈ fp_tb) : GoodIn fp_tb (fp_ws y cc n r) := by
  intro w hw
  have hm : w ∈ fp_tb := by
    unfold fp_ws at hw
    simp only [List.mem_cons] at hw
    rcases hw with rfl | hw <;> assumption
  exact ⟨hm, good_of_word (List.mem_filter.mp hm).2⟩
section FPV
variable {p : Program} {e : Env} {R : Room} {s : State} {m : MethodId} {args : Array Value} {below : List Frame} {meth : Method} {c : Code} {Hp : Heap} {locs : List Loc} {cells slots : Nat} {Z : State → Prop}
variable {cc : ByteArray} {pc n idx : Nat} {mls : Array Slot} {own : String} {H : FpH} {K : FpQ} {st' : List FpV} {st0 : List Value} {av : Array Value} {r : Option FieldType}
/-- behind a call -/
theorem fp_back (hr0 : r = none ∨ r = some .int ∨ r = some .boolean) (hX : fp_X ad L H s) (hS : va_S (fp_A ad) s.heap Hp locs)
    (hr : va_Run p l e R s m args below meth c Hp locs cells slots 0 0 (F0 m pc mls st0) (st'.map (fp_tr ad)) (fp_Qm ad cI cC cO D L r K av) (fp_A ad))
    (kk : ∀ (v : Option FpV) (H' : FpH) (Hp' : Heap) (locs' : List Loc), K v H' → (∀ w, v = some w → fp_okV w) → fp_okH H' → fp_X ad L H' s → va_P D fp_cl (fp_W ad cI cC cO H') Hp' → va_S (fp_A ad) s.heap Hp' locs' → W p l e R s m args below meth c Hp' locs' cells slots Z (F0 m (pc + 3) mls ((fp_pu v st').map (fp_tr ad)))) :
    W p l e R s m args below meth c Hp locs cells slots Z (F0 m pc mls st0) := by
  have hb : ∀ {t : State} {H' : FpH} {H1 : Heap} {locs1 : List Loc}, t.heap = H1 → s.vm.Alike t.vm → fp_E ad cI cC cO D L H' t → va_S (fp_A ad) s.heap H1 locs1 → fp_X ad L H' s := fun ht hvm hE hS1 =>
    fp_X_back hX hE.2 hvm (fun q h1 h2 => by rw [ht]; exact hS1.2.1 q h1 h2)
  have hI : ∀ ty, va_Run p l e R s m args below meth c Hp locs cells slots 0 0 (F0 m pc mls st0) (st'.map (fp_tr ad)) (fp_Qm ad cI cC cO D L (some ty) K av) (fp_A ad) → W p l e R s m args below meth c Hp locs cells slots Z (F0 m pc mls st0) := fun ty hr =>
    va_calli (a := av) (post := fun (x : Int32) (H' : FpH) => fp_okH H' ∧ K (some (.inl x.toInt)) H') (B := fp_E ad cI cC cO D L) (A1 := fp_A ad) hr hS (fun _ _ h => h) (fun _ h => h) (fun x H' t H1 locs1 ht hvm hp hE _ _ hS1 => by
      have h := kk (some (.inl x.toInt)) H' H1 locs1 hp.2 (fun w hw => by cases hw; exact fp_rg_t x) hp.1 (hb ht hvm hE hS1) (by rw [← ht]; exact hE.1) hS1
      have e1 : (fp_pu (some (.inl x.toInt)) st').map (fp_tr ad) = .int x :: st'.map (fp_tr ad) := by
        show Value.int (fp_oi x.toInt) :: _ = _
        rw [fp_oi_t]
      rw [e1] at h
      exact h)
  rcases hr0 with rfl | rfl | rfl
  · exact va_callv (a := av) (post := fun H' : FpH => fp_okH H' ∧ K none H') (B := fp_E ad cI cC cO D L) (A1 := fp_A ad) hr hS (fun _ _ h => h) (fun _ h => h) (fun H' t H1 locs1 ht hvm hp hE _ _ hS1 =>
      kk none H' H1 locs1 hp.2 (fun w hw => by cases hw) hp.1 (hb ht hvm hE hS1) (by rw [← ht]; exact hE.1) hS1)
  · exact hI _ hr
  · exact hI _ hr
end FPV
end FPU
