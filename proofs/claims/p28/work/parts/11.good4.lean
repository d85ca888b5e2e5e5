section FPJ
variable {ad : Nat → Nat → Nat} {cI cC cO : ClassId} {l : Launch} {D : va_G} {L : Nat}
theorem fp_cmp_eq {x y : Int} (hx : fp_rg x) (hy : fp_rg y) {A B : Prop} (h : fp_br (x = y) A B) : (fp_oi x = fp_oi y → A) ∧ (¬ fp_oi x = fp_oi y → B) := ⟨fun q => h.1 ((fp_oi_eq hx hy).mp q), fun q => h.2 (fun z => q ((fp_oi_eq hx hy).mpr z))⟩
theorem fp_cmp_lt {x y : Int} (hx : fp_rg x) (hy : fp_rg y) {A B : Prop} (h : fp_br (x < y) A B) : (fp_oi x < fp_oi y → A) ∧ (¬ fp_oi x < fp_oi y → B) := ⟨fun q => h.1 ((fp_oi_lt hx hy).mp q), fun q => h.2 (fun z => q ((fp_oi_lt hx hy).mpr z))⟩
theorem fp_cmp_e0 {x : Int} (hx : fp_rg x) {A B : Prop} (h : fp_br (x = 0) A B) : (fp_oi x = 0 → A) ∧ (¬ fp_oi x = 0 → B) := by
  have := fp_cmp_eq hx fp_rg_0 h
  rwa [fp_oi_0] at this
theorem fp_cmp_l0 {x : Int} (hx : fp_rg x) {A B : Prop} (h : fp_br (x < 0) A B) : (fp_oi x < 0 → A) ∧ (¬ fp_oi x < 0 → B) := by
  have := fp_cmp_lt hx fp_rg_0 h
  rwa [fp_oi_0] at this
theorem fp_cmp_g0 {x : Int} (hx : fp_rg x) {A B : Prop} (h : fp_br (0 < x) A B) : (0 < fp_oi x → A) ∧ (¬ 0 < fp_oi x → B) := by
  have := fp_cmp_lt fp_rg_0 hx h
  rwa [fp_oi_0] at this
theorem fp_i32_ge {x y : Int32} : x ≥ y ↔ ¬ x < y := Int32.not_lt.symm
theorem fp_i32_le {x y : Int32} : x ≤ y ↔ ¬ y < x := Int32.not_lt.symm
theorem fp_rg_01 {x y : Int} (hx : fp_rg x) (hy : fp_rg y) : fp_rg (if x < y then y else x) := by
  split
  · exact hy
  · exact hx
set_option maxHeartbeats 4000000 in
set_option maxRecDepth 100000 in
theorem fp_good (hj : fp_inj ad) (hL : L ≤ 2560) : fp_Good L (fp_Xm ad cI cC cO l D L) := by
  refine ⟨fun d u pc ls st H Q Q' hQ h p e R s m args below meth c Hp locs cells slots Z mls ci n y cc r b hM hC hN hR hX hK hP hS hH hst hls hlv ret => h p e R s m args below meth c Hp locs cells slots Z mls ci n y cc r b hM hC hN hR hX hK hP hS hH hst hls hlv (fun pc' mls' H' Hp' locs' v a1 a2 a3 a4 a5 a6 a7 => ret pc' mls' H' Hp' locs' v a1 a2 a3 a4 (hQ _ _ a5) a6 a7), ?_⟩
  intro d u pc ls st H Q en hen hs p e R s m args below meth c Hp locs cells slots Z mls ci n y cc r b hM hC hN hR hX hK hP hS hH hst hls hlv ret
  have hchk := fp_ok hen
  unfold fp_chk at hchk
  rw [hM] at hchk
  obtain ⟨i, nx, tg, a, bb, w⟩ := en
  simp only [Bool.and_eq_true, decide_eq_true_eq] at hchk
  obtain ⟨⟨hd, hlt⟩, hI⟩ := hchk
  obtain ⟨hx, hb, hml, hown, hts⟩ := id hC
  have hsz : mls.size = n := hlv.1
  have go : ∀ {pc' : Nat} {ls' : FpL} {st' : List FpV} {H' : FpH} {Hp' : Heap} {locs' : List Loc} {mls' : Array Slot}, fp_Xm ad cI cC cO l D L d u pc' ls' st' H' Q → fp_X ad L H' s → va_P D fp_cl (fp_W ad cI cC cO H') Hp' → va_S (fp_A ad) s.heap Hp' locs' → fp_okH H' → (∀ v ∈ st', fp_okV v) → (∀ v, some v ∈ ls' → fp_okV v) → lv_has mls' n (fp_lv ad 0 ls') → W p l e R s m args below meth c Hp' locs' cells slots Z (F0 m pc' mls' (st'.map (fp_tr ad))) :=
    fun h a1 a2 a3 a4 a5 a6 a7 => h p e R s m args below meth c _ _ cells slots Z _ ci n y cc r b hM hC hN hR a1 hK a2 a3 a4 a5 a6 a7 ret
  have upX : ∀ {g c0 i : Nat} {z : Int}, c0 ≤ 25 → fp_X ad L (fp_up H g c0 i z) s := fun {g c0 i z} hc => by
    refine fp_X_to hX (Vm.Alike.refl _) (Nat.le_refl _) (fun _ _ _ => rfl) ⟨?_, ?_, ?_⟩ <;> (funext j; unfold fp_up; rw [if_neg (by omega)])
  have cpX : ∀ {g c0 g' c1 a b k : Nat}, c1 ≤ 25 → fp_X ad L (fp_cp H g c0 g' c1 a b k) s := fun {g c0 g' c1 a b k} hc => by
    refine fp_X_to hX (Vm.Alike.refl _) (Nat.le_refl _) (fun _ _ _ => rfl) ⟨?_, ?_, ?_⟩ <;> (funext j; unfold fp_cp; rw [if_neg (by omega)])
  have storeL : ∀ {k : Nat} {v : FpV} {ls' : FpL}, fp_okV v → (∀ w, some w ∈ ls' → w = v ∨ some w ∈ ls) → ∀ w, some w ∈ ls' → fp_okV w := fun hv h w hw => by
    rcases h w hw with e | e
    · rw [e]; exact hv
    · exact hls w e
  unfold fp_step at hs
  cases i with
  | aload_n k =>
    obtain rfl : nx = pc + 1 := of_decide_eq_true hI
    obtain ⟨v, hv, hvm, hvl⟩ := fp_lg_out (ad := ad) 0 hs
    rcases v with z | ⟨g, c0⟩
    · exact hv.elim
    · rw [Nat.zero_add] at hvl
      exact lv_aload_n hx hb (fp_dec hd) rfl (hlv.2.2 _ hvl) (go hv hX hP hS hH (fp_okc (hls _ hvm) hst) hls hlv)
  | aload k =>
    obtain rfl : nx = pc + 2 := of_decide_eq_true hI
    obtain ⟨v, hv, hvm, hvl⟩ := fp_lg_out (ad := ad) 0 hs
    rcases v with z | ⟨g, c0⟩
    · exact hv.elim
    · rw [Nat.zero_add] at hvl
      exact lv_aload hx hb (fp_dec hd) (hlv.2.2 _ hvl) (go hv hX hP hS hH (fp_okc (hls _ hvm) hst) hls hlv)
  | iload_n k =>
    obtain rfl : nx = pc + 1 := of_decide_eq_true hI
    obtain ⟨v, hv, hvm, hvl⟩ := fp_lg_out (ad := ad) 0 hs
    rcases v with z | ⟨g, c0⟩
    · rw [Nat.zero_add] at hvl
      exact lv_iload_n hx hb (fp_dec hd) rfl (hlv.2.2 _ hvl) (go hv hX hP hS hH (fp_okc (hls _ hvm) hst) hls hlv)
    · exact hv.elim
  | iload k =>
    obtain rfl : nx = pc + 2 := of_decide_eq_true hI
    obtain ⟨v, hv, hvm, hvl⟩ := fp_lg_out (ad := ad) 0 hs
    rcases v with z | ⟨g, c0⟩
    · rw [Nat.zero_add] at hvl
      exact lv_iload hx hb (fp_dec hd) (hlv.2.2 _ hvl) (go hv hX hP hS hH (fp_okc (hls _ hvm) hst) hls hlv)
    · exact hv.elim
  | iconst z =>
    have hI : (decide (nx = pc + 1) && decide (-1 ≤ z) && decide (z ≤ 5)) = true := hI
    simp only [Bool.and_eq_true, decide_eq_true_eq] at hI
    obtain ⟨⟨rfl, h1⟩, h2⟩ := hI
    exact lv_iconst hx hb (fp_dec hd) (v := fp_oi z) rfl (go hs hX hP hS hH (fp_okc (v := .inl z) (show fp_rg z by unfold fp_rg; omega) hst) hls hlv)
  | bipush z =>
    have hI : (decide (nx = pc + 2) && decide (-128 ≤ z) && decide (z ≤ 127)) = true := hI
    simp only [Bool.and_eq_true, decide_eq_true_eq] at hI
    obtain ⟨⟨rfl, h1⟩, h2⟩ := hI
    exact lv_bipush hx hb (fp_dec hd) (v := fp_oi z) (fp_oi_b h1 h2) (go hs hX hP hS hH (fp_okc (v := .inl z) (show fp_rg z by unfold fp_rg; omega) hst) hls hlv)
  | sipush z =>
    have hI : (decide (nx = pc + 3) && decide (-32768 ≤ z) && decide (z ≤ 32767)) = true := hI
    simp only [Bool.and_eq_true, decide_eq_true_eq] at hI
    obtain ⟨⟨rfl, h1⟩, h2⟩ := hI
    exact lv_sipush hx hb (fp_dec hd) (v := fp_oi z) (fp_oi_s h1 h2) (go hs hX hP hS hH (fp_okc (v := .inl z) (show fp_rg z by unfold fp_rg; omega) hst) hls hlv)
  | istore_n k =>
    have hI : (decide (nx = pc + 1) && decide (k.val < n)) = true := hI
    simp only [Bool.and_eq_true, decide_eq_true_eq] at hI
    obtain ⟨rfl, hk⟩ := hI
    have hs0 := fp_s1_out hs
    clear hs
    obtain ⟨x, st', rfl, hs⟩ := hs0
    obtain ⟨hv, hst⟩ := fp_okt hst
    obtain ⟨ls', hs, h1, h2⟩ := fp_ls_out (ad := ad) 0 hs
    exact lv_istore_n hx hb (fp_dec hd) rfl hlv hk rfl (fun mls' hm => go hs hX hP hS hH hst (storeL (k := 0) hv h1) (fp_lv_st h2 hm))
  | istore k =>
    have hI : (decide (nx = pc + 2) && decide (k < n)) = true := hI
    simp only [Bool.and_eq_true, decide_eq_true_eq] at hI
    obtain ⟨rfl, hk⟩ := hI
    have hs0 := fp_s1_out hs
    clear hs
    obtain ⟨x, st', rfl, hs⟩ := hs0
    obtain ⟨hv, hst⟩ := fp_okt hst
    obtain ⟨ls', hs, h1, h2⟩ := fp_ls_out (ad := ad) 0 hs
    exact lv_istore hx hb (fp_dec hd) hlv hk rfl (fun mls' hm => go hs hX hP hS hH hst (storeL (k := 0) hv h1) (fp_lv_st h2 hm))
  | astore_n k =>
    have hI : (decide (nx = pc + 1) && decide (k.val < n)) = true := hI
    simp only [Bool.and_eq_true, decide_eq_true_eq] at hI
    obtain ⟨rfl, hk⟩ := hI
    have hs0 := fp_sr_out hs
    clear hs
    obtain ⟨g, c0, st', rfl, hs⟩ := hs0
    obtain ⟨hv, hst⟩ := fp_okt hst
    obtain ⟨ls', hs, h1, h2⟩ := fp_ls_out (ad := ad) 0 hs
    exact lv_astore_n hx hb (fp_dec hd) rfl hlv hk rfl (fun mls' hm => go hs hX hP hS hH hst (storeL (k := 0) hv h1) (fp_lv_st h2 hm))
  | astore k =>
    have hI : (decide (nx = pc + 2) && decide (k < n)) = true := hI
    simp only [Bool.and_eq_true, decide_eq_true_eq] at hI
    obtain ⟨rfl, hk⟩ := hI
    have hs0 := fp_sr_out hs
    clear hs
    obtain ⟨g, c0, st', rfl, hs⟩ := hs0
    obtain ⟨hv, hst⟩ := fp_okt hst
    obtain ⟨ls', hs, h1, h2⟩ := fp_ls_out (ad := ad) 0 hs
    exact lv_astore hx hb (fp_dec hd) hlv hk rfl (fun mls' hm => go hs hX hP hS hH hst (storeL (k := 0) hv h1) (fp_lv_st h2 hm))
  | iinc k z =>
    have hI : (decide (nx = pc + 3) && decide (k < n)) = true := hI
    simp only [Bool.and_eq_true, decide_eq_true_eq] at hI
    obtain ⟨rfl, hk⟩ := hI
    obtain ⟨v, hv, hvm, hvl⟩ := fp_lg_out (ad := ad) 0 hs
    rcases v with x | ⟨g, c0⟩
    · rw [Nat.zero_add] at hvl
      obtain ⟨hrg, hs⟩ := hv
      obtain ⟨ls', hs, h1, h2⟩ := fp_ls_out (ad := ad) 0 hs
      obtain ⟨q, hq⟩ := List.getElem?_of_mem hvl
      exact lv_iinc hx hb (fp_dec hd) hlv hq (v := fp_oi (x + z)) (fp_oi_add x z) hk rfl (fun mls' hm => go hs hX hP hS hH hst (storeL (k := 0) (v := .inl (x + z)) hrg h1) (fp_lv_st h2 hm))
    · exact hv.elim
  | iadd =>
    obtain rfl : nx = pc + 1 := of_decide_eq_true hI
    have hs0 := fp_s2_out hs
    clear hs
    obtain ⟨x, y0, st', rfl, hrg, hs⟩ := hs0
    obtain ⟨-, hst⟩ := fp_okt hst
    obtain ⟨-, hst⟩ := fp_okt hst
    refine lv_iadd hx hb (fp_dec hd) ?_
    rw [fp_oi_add]
    exact go hs hX hP hS hH (fp_okc (v := .inl (x + y0)) hrg hst) hls hlv
  | isub =>
    obtain rfl : nx = pc + 1 := of_decide_eq_true hI
    have hs0 := fp_s2_out hs
    clear hs
    obtain ⟨x, y0, st', rfl, hrg, hs⟩ := hs0
    obtain ⟨-, hst⟩ := fp_okt hst
    obtain ⟨-, hst⟩ := fp_okt hst
    refine lv_isub hx hb (fp_dec hd) ?_
    rw [fp_oi_sub]
    exact go hs hX hP hS hH (fp_okc (v := .inl (x - y0)) hrg hst) hls hlv
  | imul =>
    obtain rfl : nx = pc + 1 := of_decide_eq_true hI
    have hs0 := fp_s2_out hs
    clear hs
    obtain ⟨x, y0, st', rfl, hrg, hs⟩ := hs0
    obtain ⟨-, hst⟩ := fp_okt hst
    obtain ⟨-, hst⟩ := fp_okt hst
    refine lv_imul hx hb (fp_dec hd) ?_
    rw [fp_oi_mul]
    exact go hs hX hP hS hH (fp_okc (v := .inl (x * y0)) hrg hst) hls hlv
  | idiv =>
    obtain rfl : nx = pc + 1 := of_decide_eq_true hI
    have hs0 := fp_s2_out hs
    clear hs
    obtain ⟨x, y0, st', rfl, ⟨h0, h1⟩, hs⟩ := hs0
    obtain ⟨hy0, hst⟩ := fp_okt hst
    obtain ⟨hx0, hst⟩ := fp_okt hst
    refine lv_idiv hx hb (fp_dec hd) (fun q => ?_) ?_
    · rw [← fp_oi_0, fp_oi_eq hy0 fp_rg_0] at q; omega
    · rw [fp_oi_div hx0 hy0 h0 h1]
      have h2 := Int.ediv_le_self y0 h0
      have h3 := Int.ediv_nonneg h0 (Int.le_of_lt h1)
      have h4 : fp_rg x := hx0
      exact go hs hX hP hS hH (fp_okc (v := .inl (x / y0)) (show fp_rg _ by unfold fp_rg at h4 ⊢; omega) hst) hls hlv
  | irem =>
    obtain rfl : nx = pc + 1 := of_decide_eq_true hI
    have hs0 := fp_s2_out hs
    clear hs
    obtain ⟨x, y0, st', rfl, ⟨h0, h1⟩, hs⟩ := hs0
    obtain ⟨hy0, hst⟩ := fp_okt hst
    obtain ⟨hx0, hst⟩ := fp_okt hst
    refine lv_irem hx hb (fp_dec hd) (fun q => ?_) ?_
    · rw [← fp_oi_0, fp_oi_eq hy0 fp_rg_0] at q; omega
    · rw [fp_oi_rem hx0 hy0 h0 h1]
      have h2 := Int.emod_lt_of_pos x h1
      have h3 := Int.emod_nonneg x (by omega : y0 ≠ 0)
      have h4 : fp_rg y0 := hy0
      exact go hs hX hP hS hH (fp_okc (v := .inl (x % y0)) (show fp_rg _ by unfold fp_rg at h4 ⊢; omega) hst) hls hlv
  | ishl =>
    obtain rfl : nx = pc + 1 := of_decide_eq_true hI
    have hs0 := fp_s2_out hs
    clear hs
    obtain ⟨x, y0, st', rfl, ⟨hx0, hx1, h0, h1⟩, hs⟩ := hs0
    obtain ⟨-, hst⟩ := fp_okt hst
    obtain ⟨-, hst⟩ := fp_okt hst
    refine lv_ishl hx hb (fp_dec hd) ?_
    rw [fp_oi_shl hx0 hx1 h0 h1]
    exact go hs hX hP hS hH (fp_okc (v := .inl (x * (2 : Int) ^ y0.toNat)) (fp_rg_shl hx0 hx1 h0 h1) hst) hls hlv
  | ishr =>
    obtain rfl : nx = pc + 1 := of_decide_eq_true hI
    have hs0 := fp_s2_out hs
    clear hs
    obtain ⟨x, y0, st', rfl, ⟨hx0, h0, h1⟩, hs⟩ := hs0
    obtain ⟨-, hst⟩ := fp_okt hst
    obtain ⟨hxr, hst⟩ := fp_okt hst
    refine lv_ishr hx hb (fp_dec hd) ?_
    rw [fp_oi_shr hxr hx0 h0 h1]
    exact go hs hX hP hS hH (fp_okc (v := .inl (x / (2 : Int) ^ y0.toNat)) (fp_rg_shr hxr hx0 h0) hst) hls hlv
  | iand =>
    obtain rfl : nx = pc + 1 := of_decide_eq_true hI
    have hs0 := fp_s2_out hs
    clear hs
    obtain ⟨x, y0, st', rfl, hy, hs⟩ := hs0
    obtain ⟨-, hst⟩ := fp_okt hst
    obtain ⟨hx0, hst⟩ := fp_okt hst
    refine lv_iand hx hb (fp_dec hd) ?_
    rw [fp_oi_and hx0 hy]
    exact go hs hX hP hS hH (fp_okc (v := .inl (x % (y0 + 1))) (fp_rg_and hy) hst) hls hlv
  | ldc idx =>
    have hI : (decide (nx = pc + 2) && ((decide (a = 1) && decide (lw_tbl[w]? = some (.constant (fp_rx ci) idx 49193)) && goodWord (.constant (fp_rx ci) idx 49193)) || (decide (a = 2) && decide (lw_tbl[w]? = some (.constant (fp_rx ci) idx 2147483647)) && goodWord (.constant (fp_rx ci) idx 2147483647)))) = true := hI
    simp only [Bool.and_eq_true, Bool.or_eq_true, decide_eq_true_eq] at hI
    obtain ⟨rfl, ⟨⟨rfl, h1⟩, h2⟩ | ⟨⟨rfl, h1⟩, h2⟩⟩ := hI
    · exact lv_ldc (v := fp_oi 49193) hx hb hown (hts _ (fp_in h1 h2)) (fp_dec hd) (go hs hX hP hS hH (fp_okc (v := .inl 49193) (show fp_rg 49193 by unfold fp_rg; omega) hst) hls hlv)
    · exact lv_ldc (v := fp_oi 2147483647) hx hb hown (hts _ (fp_in h1 h2)) (fp_dec hd) (go hs hX hP hS hH (fp_okc (v := .inl 2147483647) (show fp_rg 2147483647 by unfold fp_rg; omega) hst) hls hlv)
  | i2c =>
    obtain rfl : nx = pc + 1 := of_decide_eq_true hI
    have hs0 := fp_s1_out hs
    clear hs
    obtain ⟨x, st', rfl, hs⟩ := hs0
    obtain ⟨hx0, hst⟩ := fp_okt hst
    exact lv_i2c hx hb (fp_dec hd) (v := fp_oi (x % 65536)) (fp_oi_i2c hx0) (go hs hX hP hS hH (fp_okc (v := .inl (x % 65536)) (show fp_rg _ by unfold fp_rg; omega) hst) hls hlv)
  | dup =>
    obtain rfl : nx = pc + 1 := of_decide_eq_true hI
    dsimp only at hs
    split at hs
    · obtain ⟨hv, hst'⟩ := fp_okt hst
      exact lv_dup hx hb (fp_dec hd) (fp_tr_cat _) (go hs hX hP hS hH (fp_okc hv hst) hls hlv)
    · exact hs.elim
  | dup2 =>
    obtain rfl : nx = pc + 1 := of_decide_eq_true hI
    dsimp only at hs
    split at hs
    · obtain ⟨hv, hst'⟩ := fp_okt hst
      obtain ⟨hv2, hst'⟩ := fp_okt hst'
      exact lv_dup2_11 hx hb (fp_dec hd) (fp_tr_cat _) (fp_tr_cat _) (go hs hX hP hS hH (fp_okc hv (fp_okc hv2 hst)) hls hlv)
    · exact hs.elim
  | pop =>
    obtain rfl : nx = pc + 1 := of_decide_eq_true hI
    dsimp only at hs
    split at hs
    · obtain ⟨hv, hst'⟩ := fp_okt hst
      exact lv_pop hx hb (fp_dec hd) (fp_tr_cat _) (go hs hX hP hS hH hst' hls hlv)
    · exact hs.elim
  | goto off =>
    have hI : (decide (nx = pc + 3) && decide ((pc : Int) + off = (tg : Int))) = true := hI
    simp only [Bool.and_eq_true, decide_eq_true_eq] at hI
    obtain ⟨rfl, ht⟩ := hI
    exact lv_goto hx hb (fp_dec hd) ht (go hs hX hP hS hH hst hls hlv)
  | ifCond cnd off =>
    have hI : (decide (nx = pc + 3) && decide ((pc : Int) + off = (tg : Int))) = true := hI
    simp only [Bool.and_eq_true, decide_eq_true_eq] at hI
    obtain ⟨rfl, ht⟩ := hI
    have hs0 := fp_s1_out hs
    clear hs
    obtain ⟨x, st', rfl, hs⟩ := hs0
    obtain ⟨hx0, hst⟩ := fp_okt hst
    have fin : ∀ {q}, fp_Xm ad cI cC cO l D L d u q ls st' H Q → W p l e R s m args below meth c Hp locs cells slots Z (F0 m q mls (st'.map (fp_tr ad))) := fun h => go h hX hP hS hH hst hls hlv
    cases cnd with
    | eq => obtain ⟨h1, h2⟩ := fp_cmp_e0 hx0 hs; exact lv_if_eq hx hb (fp_dec hd) ht (fun q => fin (h1 q)) (fun q => fin (h2 q))
    | ne => obtain ⟨h1, h2⟩ := fp_cmp_e0 hx0 hs; exact lv_if_ne hx hb (fp_dec hd) ht (fun q => fin (h2 q)) (fun q => fin (h1 q))
    | lt => obtain ⟨h1, h2⟩ := fp_cmp_l0 hx0 hs; exact lv_if_lt hx hb (fp_dec hd) ht (fun q => fin (h1 q)) (fun q => fin (h2 q))
    | ge => obtain ⟨h1, h2⟩ := fp_cmp_l0 hx0 hs; exact lv_if_ge hx hb (fp_dec hd) ht (fun q => fin (h2 (Int32.not_lt.mpr q))) (fun q => fin (h1 (Int32.not_le.mp q)))
    | gt => obtain ⟨h1, h2⟩ := fp_cmp_g0 hx0 hs; exact lv_if_gt hx hb (fp_dec hd) ht (fun q => fin (h1 q)) (fun q => fin (h2 q))
    | le => obtain ⟨h1, h2⟩ := fp_cmp_g0 hx0 hs; exact lv_if_le hx hb (fp_dec hd) ht (fun q => fin (h2 (Int32.not_lt.mpr q))) (fun q => fin (h1 (Int32.not_le.mp q)))
  | if_icmp cnd off =>
    have hI : (decide (nx = pc + 3) && decide ((pc : Int) + off = (tg : Int))) = true := hI
    simp only [Bool.and_eq_true, decide_eq_true_eq] at hI
    obtain ⟨rfl, ht⟩ := hI
    have hs0 := fp_s2_out hs
    clear hs
    obtain ⟨x, y0, st', rfl, hs⟩ := hs0
    obtain ⟨hy0, hst⟩ := fp_okt hst
    obtain ⟨hx0, hst⟩ := fp_okt hst
    have fin : ∀ {q}, fp_Xm ad cI cC cO l D L d u q ls st' H Q → W p l e R s m args below meth c Hp locs cells slots Z (F0 m q mls (st'.map (fp_tr ad))) := fun h => go h hX hP hS hH hst hls hlv
    cases cnd with
    | eq => obtain ⟨h1, h2⟩ := fp_cmp_eq hx0 hy0 hs; exact lv_icmp_eq hx hb (fp_dec hd) ht (fun q => fin (h1 q)) (fun q => fin (h2 q))
    | ne => obtain ⟨h1, h2⟩ := fp_cmp_eq hx0 hy0 hs; exact lv_icmp_ne hx hb (fp_dec hd) ht (fun q => fin (h2 q)) (fun q => fin (h1 q))
    | lt => obtain ⟨h1, h2⟩ := fp_cmp_lt hx0 hy0 hs; exact lv_icmp_lt hx hb (fp_dec hd) ht (fun q => fin (h1 q)) (fun q => fin (h2 q))
    | ge => obtain ⟨h1, h2⟩ := fp_cmp_lt hx0 hy0 hs; exact lv_icmp_ge hx hb (fp_dec hd) ht (fun q => fin (h2 (Int32.not_lt.mpr q))) (fun q => fin (h1 (Int32.not_le.mp q)))
    | gt => obtain ⟨h1, h2⟩ := fp_cmp_lt hy0 hx0 hs; exact lv_icmp_gt hx hb (fp_dec hd) ht (fun q => fin (h1 q)) (fun q => fin (h2 q))
    | le => obtain ⟨h1, h2⟩ := fp_cmp_lt hy0 hx0 hs; exact lv_icmp_le hx hb (fp_dec hd) ht (fun q => fin (h2 (Int32.not_lt.mpr q))) (fun q => fin (h1 (Int32.not_le.mp q)))
  | getfield idx =>
    have hI : (decide (nx = pc + 3) && fp_chkF (fp_rx ci) idx a bb w) = true := hI
    simp only [Bool.and_eq_true, decide_eq_true_eq] at hI
    obtain ⟨rfl, hF⟩ := hI
    have hs0 := fp_sr_out hs
    clear hs
    obtain ⟨g, c0, st', rfl, hs⟩ := hs0
    obtain ⟨hv, hst⟩ := fp_okt hst
    exact fp_w_get (st := st') hC hK hP hv hH hF hs (fp_dec hd) (fun v h1 h2 => go h1 hX hP hS hH (fp_okc h2 hst) hls hlv)
  | putfield idx =>
    have hI : (decide (nx = pc + 3) && fp_chkF (fp_rx ci) idx a bb w && fp_chkP a bb) = true := hI
    simp only [Bool.and_eq_true, decide_eq_true_eq] at hI
    obtain ⟨⟨rfl, hF⟩, hG⟩ := hI
    dsimp only at hs
    split at hs
    · rename_i z g c0 st'
      obtain ⟨hz, hst⟩ := fp_okt hst
      obtain ⟨hv, hst⟩ := fp_okt hst
      have hs0 := fp_cond_out hs
      clear hs
      obtain ⟨hw, hs⟩ := hs0
      have hs0 := fp_if_out hs
      clear hs
      obtain ⟨h01, hs⟩ := hs0
      have hc25 : c0 ≤ 25 := by
        rcases hv with h | ⟨-, h⟩
        · have := fp_mem.mp h; omega
        · rcases h with rfl | rfl | rfl <;> cases hw
      exact fp_w_put hj hC hK hP hS hv hF hG hw h01 (fp_dec hd) (fun Hp1 locs1 hP1 hS1 => go hs (upX hc25) hP1 hS1 (fp_okH_up hH hz) hst hls hlv)
    · exact hs.elim
  | iaload =>
    obtain rfl : nx = pc + 1 := of_decide_eq_true hI
    have hs0 := fp_si_out hs
    clear hs
    obtain ⟨i0, g, c0, st', rfl, hs⟩ := hs0
    obtain ⟨hi0, hst⟩ := fp_okt hst
    obtain ⟨hv, hst⟩ := fp_okt hst
    have hs0 := fp_ld_out hs
    clear hs
    obtain ⟨k, ha, h0, h1, hs⟩ := hs0
    exact fp_w_ld hx hb hK hP hS hX hi0 hv ha h0 h1 (fp_dec hd) (go hs hX hP hS hH (fp_okc (v := .inl (H g c0 i0.toNat)) (hH _ _ _) hst) hls hlv)
  | caload =>
    obtain rfl : nx = pc + 1 := of_decide_eq_true hI
    have hs0 := fp_si_out hs
    clear hs
    obtain ⟨i0, g, c0, st', rfl, hs⟩ := hs0
    obtain ⟨hi0, hst⟩ := fp_okt hst
    obtain ⟨hv, hst⟩ := fp_okt hst
    have hs0 := fp_ld_out hs
    clear hs
    obtain ⟨k, ha, h0, h1, hs⟩ := hs0
    exact fp_w_cld hx hb hK hP hX hi0 hv ha h0 h1 (fp_dec hd) (go hs hX hP hS hH (fp_okc (v := .inl (H g c0 i0.toNat)) (hH _ _ _) hst) hls hlv)
  | iastore =>
    obtain rfl : nx = pc + 1 := of_decide_eq_true hI
    have hs0 := fp_sii_out hs
    clear hs
    obtain ⟨z, i0, g, c0, st', rfl, hs⟩ := hs0
    obtain ⟨hz, hst⟩ := fp_okt hst
    obtain ⟨hi0, hst⟩ := fp_okt hst
    obtain ⟨hv, hst⟩ := fp_okt hst
    have hs0 := fp_st_out hs
    clear hs
    obtain ⟨k, ha, hc25, h0, h1, hs⟩ := hs0
    exact fp_w_st hj hx hb hK hP hS hi0 hv hc25 ha h0 h1 (fp_dec hd) (fun Hp1 locs1 hP1 hS1 => go hs (upX hc25) hP1 hS1 (fp_okH_up hH hz) hst hls hlv)
  | castore =>
    obtain rfl : nx = pc + 1 := of_decide_eq_true hI
    have hs0 := fp_sii_out hs
    clear hs
    obtain ⟨z, i0, g, c0, st', rfl, hz2, hs⟩ := hs0
    obtain ⟨hz, hst⟩ := fp_okt hst
    obtain ⟨hi0, hst⟩ := fp_okt hst
    obtain ⟨hv, hst⟩ := fp_okt hst
    have hs0 := fp_st_out hs
    clear hs
    obtain ⟨k, ha, hc25, h0, h1, hs⟩ := hs0
    exact fp_w_cst hj hx hb hK hP hS hi0 hz2 hv hc25 ha h0 h1 (fp_dec hd) (fun Hp1 locs1 hP1 hS1 => go hs (upX hc25) hP1 hS1 (fp_okH_up hH hz) hst hls hlv)
  | aaload =>
    obtain rfl : nx = pc + 1 := of_decide_eq_true hI
    have hs0 := fp_si_out hs
    clear hs
    obtain ⟨i0, g, c0, st', rfl, hs⟩ := hs0
    obtain ⟨hi0, hst1⟩ := fp_okt hst
    obtain ⟨hv, hst2⟩ := fp_okt hst1
    clear hst hst1
    have hs0 := fp_cond_out hs
    clear hs
    obtain ⟨hc, ⟨h0, h1⟩, hs⟩ := hs0
    obtain rfl : c0 = 16 := Nat.eq_of_beq_eq_true hc
    exact fp_w_ald hx hb hK hP hi0 hv h0 h1 (fp_dec hd) (go hs hX hP hS hH (fp_okc (v := .inr (3 + i0.toNat, 0)) (Or.inl (fp_mem.mpr (by omega))) hst2) hls hlv)
  | arraylength =>
    obtain rfl : nx = pc + 1 := of_decide_eq_true hI
    have hs0 := fp_sr_out hs
    clear hs
    obtain ⟨g, c0, st', rfl, hs⟩ := hs0
    obtain ⟨hv, hst⟩ := fp_okt hst
    have hs0 := fp_len_out hs
    clear hs
    obtain ⟨ch, k, ha, hs⟩ := hs0
    exact fp_w_len hx hb hK hP hS hX hv ha (fp_dec hd) (go hs hX hP hS hH (fp_okc (v := .inl (k : Int)) (fp_as_lt hL hv ha) hst) hls hlv)
  | getstatic idx =>
    have hI : (decide (nx = pc + 3) && ((decide (a = 27) && decide (lw_tbl[w]? = some (.fieldLink (fp_rx ci) idx RX6 "LEAST_SETTING" "[I")) && goodWord (.fieldLink (fp_rx ci) idx RX6 "LEAST_SETTING" "[I")) || (decide (a = 28) && decide (lw_tbl[w]? = some (.fieldLink (fp_rx ci) idx RX6 "MOST_SETTING" "[I")) && goodWord (.fieldLink (fp_rx ci) idx RX6 "MOST_SETTING" "[I")))) = true := hI
    simp only [Bool.and_eq_true, Bool.or_eq_true, decide_eq_true_eq] at hI
    obtain ⟨rfl, ⟨⟨rfl, h1⟩, h2⟩ | ⟨⟨rfl, h1⟩, h2⟩⟩ := hI
    · exact va_gets hx hb hX.2.1 hS hown (hts _ (fp_in h1 h2)) (fun _ h => h) (fp_dec hd) (go hs hX hP hS hH (fp_okc (v := .inr (9, 27)) (Or.inr ⟨rfl, Or.inr (Or.inl rfl)⟩) hst) hls hlv)
    · exact va_gets hx hb hX.2.2 hS hown (hts _ (fp_in h1 h2)) (fun _ h => h) (fp_dec hd) (go hs hX hP hS hH (fp_okc (v := .inr (9, 28)) (Or.inr ⟨rfl, Or.inr (Or.inr rfl)⟩) hst) hls hlv)
  | invokevirtual idx =>
    have hI : (decide (nx = pc + 3) && fp_chkC (fp_rx ci) idx a bb w 0 false && decide ((fp_M[a]?).map (fun q => q.1) = some tg)) = true := hI
    simp only [Bool.and_eq_true, decide_eq_true_eq] at hI
    obtain ⟨⟨rfl, hcc⟩, htg⟩ := hI
    have hs0 := fp_ta_out hs
    clear hs
    obtain ⟨as, st', rfl, has, hs⟩ := hs0
    rw [List.append_nil] at hs
    have hs0 := fp_cond_out hs
    clear hs
    obtain ⟨hq, d', hdd, hs⟩ := hs0
    rw [Bool.and_eq_true] at hq
    have hst' : ∀ v ∈ st', fp_okV v := fun v hv => hst v (List.mem_append_right _ hv)
    exact fp_w_callV hj hC hsz hN hdd hR hX hK hP hS hH hst hcc htg (by rw [List.reverse_reverse]) (by rw [List.length_reverse]; exact has) hq.1 (Nat.le_of_ble_eq_true hq.2) (fp_dec hd) hs
      (fun v H' Hp' locs' h1 h2 h3 h4 h5 h6 => go h1 h4 h5 h6 h3 (by cases v with
        | none => exact hst'
        | some w => exact fp_okc (h2 w rfl) hst') hls hlv)
  | invokestatic idx =>
    have hI2 : (decide (nx = pc + 3) && (bif Nat.beq a 900 then decide (lw_tbl[w]? = some (.methodLink (fp_rx ci) idx arraycopyName)) && goodWord (.methodLink (fp_rx ci) idx arraycopyName)
        else bif Nat.beq a 901 then decide (lw_tbl[w]? = some (.methodLink (fp_rx ci) idx Lib.Math.max.name)) && goodWord (.methodLink (fp_rx ci) idx Lib.Math.max.name) else fp_chkC (fp_rx ci) idx a bb w tg true)) = true := hI
    rw [Bool.and_eq_true, decide_eq_true_eq] at hI2
    clear hI
    obtain ⟨rfl, hI⟩ := hI2
    dsimp only at hs
    have hR1 : 1 ≤ R.frames ∧ 32 ≤ R.locals := ⟨by omega, by omega⟩
    cases h900 : Nat.beq a 900 with
    | true =>
      rw [h900] at hI hs
      simp only [cond_true, Bool.and_eq_true, decide_eq_true_eq] at hI
      simp only [cond_true] at hs
      have hs0 := fp_sc_out hs
      clear hs
      obtain ⟨k, dp, g', c1, sp, g, c0, st', rfl, hs⟩ := hs0
      obtain ⟨hk, hst⟩ := fp_okt hst
      obtain ⟨hdp, hst⟩ := fp_okt hst
      obtain ⟨hv', hst⟩ := fp_okt hst
      obtain ⟨hsp, hst⟩ := fp_okt hst
      obtain ⟨hv, hst⟩ := fp_okt hst
      have hs0 := fp_cpy_out hs
      clear hs
      obtain ⟨n0, n1, ha, ha', hc1, hc0, ⟨h1, h2, h3, h4, h5⟩, hs⟩ := hs0
      have hs0 := fp_cond_out hs
      clear hs
      obtain ⟨h8, hs⟩ := hs0
      exact fp_w_copy hj hC hsz hK hP hS hR1 hk hdp hsp hv hv' hc0 hc1 ha ha' h1 h2 h3 h4 h5 (fp_in hI.1 hI.2) (fp_cats st' (Nat.le_of_ble_eq_true h8)) (fp_dec hd) (fun Hp1 locs1 hP1 hS1 => go hs (cpX hc1) hP1 hS1 (fp_okH_cp hH) hst hls hlv)
    | false =>
      rw [h900] at hI hs
      simp only [cond_false] at hI hs
      cases h901 : Nat.beq a 901 with
      | true =>
        rw [h901] at hI hs
        simp only [cond_true, Bool.and_eq_true, decide_eq_true_eq] at hI
        simp only [cond_true] at hs
        have hs0 := fp_s2_out hs
        clear hs
        obtain ⟨x, y0, st', rfl, hs⟩ := hs0
        obtain ⟨hy0, hst⟩ := fp_okt hst
        obtain ⟨hx0, hst⟩ := fp_okt hst
        have hs0 := fp_cond_out hs
        clear hs
        obtain ⟨h8, hs⟩ := hs0
        exact fp_w_max hC hsz hR1 ⟨hR.2.2.1, hR.2.2.2⟩ hx0 hy0 (fp_in hI.1 hI.2) (fp_cats st' (Nat.le_of_ble_eq_true h8)) (fp_dec hd) (go hs hX hP hS hH (fp_okc (v := .inl (if x < y0 then y0 else x)) (fp_rg_01 hx0 hy0) hst) hls hlv)
      | false =>
        rw [h901] at hI hs
        simp only [cond_false] at hI hs
        have hs0 := fp_ta_out hs
        clear hs
        obtain ⟨as, st', rfl, has, hs⟩ := hs0
        rw [List.append_nil] at hs
        have hs0 := fp_cond_out hs
        clear hs
        obtain ⟨hq, d', hdd, hs⟩ := hs0
        have hst' : ∀ v ∈ st', fp_okV v := fun v hv => hst v (List.mem_append_right _ hv)
        exact fp_w_callS hj hC hsz hN hdd hR hX hK hP hS hH hst hI (by rw [List.reverse_reverse]) (by rw [List.length_reverse]; exact has) (Nat.le_of_ble_eq_true hq) (fp_dec hd) hs
          (fun v H' Hp' locs' h1 h2 h3 h4 h5 h6 => go h1 h4 h5 h6 h3 (by cases v with
            | none => exact hst'
            | some w => exact fp_okc (h2 w rfl) hst') hls hlv)
  | ireturn =>
    have hI : (decide (nx = pc + 1) && ((decide (bb = 0) && decide (r = some .int)) || (decide (bb = 1) && decide (r = some .boolean)))) = true := hI
    simp only [Bool.and_eq_true, Bool.or_eq_true, decide_eq_true_eq] at hI
    obtain ⟨rfl, hr⟩ := hI
    dsimp only at hs
    split at hs
    · rename_i z
      obtain ⟨hz, -⟩ := fp_okt hst
      have hs0 := fp_if_out hs
      clear hs
      obtain ⟨h01, hs⟩ := hs0
      refine ret pc mls H Hp locs (some (.inl z)) hH hP hS hX hs ⟨fp_dec hd, hz, ?_⟩ hsz
      rcases hr with ⟨rfl, h2⟩ | ⟨rfl, h2⟩
      · exact Or.inl h2
      · exact Or.inr ⟨h2, h01 rfl⟩
    · exact hs.elim
  | return_ =>
    have hI : (decide (nx = pc + 1) && decide (r = none)) = true := hI
    simp only [Bool.and_eq_true, decide_eq_true_eq] at hI
    obtain ⟨rfl, hr⟩ := hI
    dsimp only at hs
    split at hs
    · exact ret pc mls H Hp locs none hH hP hS hX hs ⟨hr, fp_dec hd⟩ hsz
    · exact hs.elim
  | tableswitch df lo hi offs =>
    have hI : (decide ((pc : Int) + df = (tg : Int)) && decide (hi = lo + ((fp_sw.getD a []).length : Int) - 1) && (List.range (fp_sw.getD a []).length).all (fun k => decide ((offs[k]?).map (fun o => (pc : Int) + o) = some (((fp_sw.getD a []).getD k 0 : Nat) : Int)))) = true := hI
    simp only [Bool.and_eq_true, decide_eq_true_eq] at hI
    obtain ⟨⟨hdf, hhi⟩, hall⟩ := hI
    have hs0 := fp_s1_out hs
    clear hs
    obtain ⟨x, st', rfl, hs⟩ := hs0
    obtain ⟨hx0, hst⟩ := fp_okt hst
    have hxi : (fp_oi x).toInt = x := fp_oi_T hx0
    by_cases hout : x < lo ∨ hi < x
    · exact lv_tableOut hx hb hd (by rw [hxi]; exact hout) hdf (go (hs.1 (by omega)) hX hP hS hH hst hls hlv)
    · have hk : (x - lo).toNat < (fp_sw.getD a []).length := by omega
      have h1 := of_decide_eq_true (List.all_eq_true.mp hall _ (List.mem_range.mpr hk))
      obtain ⟨o, ho1, ho2⟩ := Option.map_eq_some_iff.mp h1
      have h2 := fp_sws_out hs.2 _ hk (by omega)
      exact lv_tableIn hx hb hd (by rw [hxi]; omega) (by rw [hxi]; omega) (by rw [hxi]; exact ho1) ho2 (go h2 hX hP hS hH hst hls hlv)
  | _ => exact hs.elim
end FPJ
