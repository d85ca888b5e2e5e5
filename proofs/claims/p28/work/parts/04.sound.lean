/-! THE MACHINE DOES WHAT THE MACHINE OF NUMBERS DOES -/
def fp_oi (z : Int) : Int32 := Int32.ofInt z
theorem fp_oi_T {z : Int} (h : fp_rg z) : (fp_oi z).toInt = z := Int32.toInt_ofInt_of_le (by have := h.1; omega) (by have := h.2; omega)
theorem fp_oi_t (x : Int32) : fp_oi x.toInt = x := Int32.ofInt_toInt x
theorem fp_rg_t (x : Int32) : fp_rg x.toInt := ⟨by have := Int32.le_toInt x; omega, by have := Int32.toInt_lt x; omega⟩
theorem fp_oi_eq {x y : Int} (hx : fp_rg x) (hy : fp_rg y) : fp_oi x = fp_oi y ↔ x = y := by
  rw [← Int32.toInt_inj, fp_oi_T hx, fp_oi_T hy]
theorem fp_oi_lt {x y : Int} (hx : fp_rg x) (hy : fp_rg y) : fp_oi x < fp_oi y ↔ x < y := by
  rw [Int32.lt_iff_toInt_lt, fp_oi_T hx, fp_oi_T hy]
theorem fp_oi_0 : fp_oi 0 = 0 := by decide +kernel
theorem fp_rg_0 : fp_rg 0 := by unfold fp_rg; omega
theorem fp_oi_n (n : Nat) : fp_oi (n : Int) = nI n := by
  first | exact Int32.ofInt_eq_ofNat | (simp [fp_oi, nI]; done) | rfl
theorem fp_oi_add (x y : Int) : fp_oi x + fp_oi y = fp_oi (x + y) := (Int32.ofInt_add ..).symm
theorem fp_oi_sub (x y : Int) : fp_oi x - fp_oi y = fp_oi (x - y) := by
  first | exact (Int32.ofInt_sub ..).symm | (simp [fp_oi]; done)
theorem fp_oi_mul (x y : Int) : fp_oi x * fp_oi y = fp_oi (x * y) := (Int32.ofInt_mul ..).symm
theorem fp_nat {x : Int} (h0 : 0 ≤ x) (h : fp_rg x) : ∃ n : Nat, n < 2 ^ 31 ∧ x = (n : Int) := ⟨x.toNat, by have := h.2; omega, by omega⟩
theorem fp_oi_div {x y : Int} (hx : fp_rg x) (hy : fp_rg y) (h0 : 0 ≤ x) (h1 : 0 < y) : fp_oi x / fp_oi y = fp_oi (x / y) := by
  obtain ⟨a, ha, rfl⟩ := fp_nat h0 hx
  obtain ⟨b, hb, rfl⟩ := fp_nat (by omega) hy
  rw [fp_oi_n, fp_oi_n, pk_div ha (by omega) hb, ← fp_oi_n]
  rfl
theorem fp_oi_rem {x y : Int} (hx : fp_rg x) (hy : fp_rg y) (h0 : 0 ≤ x) (h1 : 0 < y) : fp_oi x - fp_oi x / fp_oi y * fp_oi y = fp_oi (x % y) := by
  obtain ⟨a, ha, rfl⟩ := fp_nat h0 hx
  obtain ⟨b, hb, rfl⟩ := fp_nat (by omega) hy
  rw [fp_oi_n, fp_oi_n, pk_rem ha (by omega) hb, ← fp_oi_n]
  rfl
theorem fp_shl1 : ∀ x, x < 4 → ∀ k, k < 29 → nI x <<< (nI k &&& 31) = nI (x * 2 ^ k) := by decide +kernel
theorem fp_shrk : ∀ k, k < 31 → ((nI k &&& 31).toBitVec.smod 32).toNat = k := by decide +kernel
theorem fp_pwn (k : Nat) : ((2 : Int) ^ ((k : Int)).toNat) = ((2 ^ k : Nat) : Int) := by rw [Int.toNat_natCast]; simp
theorem fp_oi_shl {x y : Int} (hx0 : 0 ≤ x) (hx : x ≤ 3) (h0 : 0 ≤ y) (h1 : y < 29) : fp_oi x <<< (fp_oi y &&& 31) = fp_oi (x * (2 : Int) ^ y.toNat) := by
  obtain ⟨k, rfl⟩ := Int.eq_ofNat_of_zero_le h0
  obtain ⟨a, rfl⟩ := Int.eq_ofNat_of_zero_le hx0
  have e : ((a : Int) * (2 : Int) ^ ((k : Int)).toNat) = ((a * 2 ^ k : Nat) : Int) := by rw [fp_pwn, Int.natCast_mul]
  rw [e, fp_oi_n, fp_oi_n, fp_oi_n, ← fp_shl1 a (by omega) k (by omega)]
theorem fp_rg_shl {x y : Int} (hx0 : 0 ≤ x) (hx : x ≤ 3) (h0 : 0 ≤ y) (h1 : y < 29) : fp_rg (x * (2 : Int) ^ y.toNat) := by
  obtain ⟨k, rfl⟩ := Int.eq_ofNat_of_zero_le h0
  have h2 : k ≤ 28 := by omega
  have h3 : 2 ^ k ≤ 2 ^ 28 := Nat.pow_le_pow_right (by decide) h2
  rw [fp_pwn]
  generalize 2 ^ k = z at h3 ⊢
  have h4 : x = 0 ∨ x = 1 ∨ x = 2 ∨ x = 3 := by omega
  unfold fp_rg
  rcases h4 with rfl | rfl | rfl | rfl <;> omega
theorem fp_oi_shr {x y : Int} (hx : fp_rg x) (hx0 : 0 ≤ x) (h0 : 0 ≤ y) (h1 : y < 31) : fp_oi x >>> (fp_oi y &&& 31) = fp_oi (x / (2 : Int) ^ y.toNat) := by
  obtain ⟨k, rfl⟩ := Int.eq_ofNat_of_zero_le h0
  obtain ⟨a, ha, rfl⟩ := fp_nat hx0 hx
  rw [fp_pwn, fp_oi_n, fp_oi_n, pk_shrN ha _ k (fp_shrk k (by omega)), ← fp_oi_n]
  rfl
theorem fp_rg_shr {x y : Int} (hx : fp_rg x) (hx0 : 0 ≤ x) (h0 : 0 ≤ y) : fp_rg (x / (2 : Int) ^ y.toNat) := by
  obtain ⟨k, rfl⟩ := Int.eq_ofNat_of_zero_le h0
  rw [fp_pwn]
  have h2 := Int.ediv_le_self (((2 ^ k : Nat) : Int)) hx0
  have h3 := Int.ediv_nonneg hx0 (Int.natCast_nonneg (2 ^ k))
  unfold fp_rg at hx ⊢
  omega
theorem fp_bv {x : Int} (h : fp_rg x) : ((fp_oi x).toBitVec.toNat : Int) = x % 4294967296 := by
  have e : (fp_oi x).toBitVec = BitVec.ofInt 32 x := rfl
  rw [e, BitVec.toNat_ofInt]
  omega
theorem fp_oi_and {x y : Int} (h : fp_rg x) (hy : y = 7 ∨ y = 2147483647) : fp_oi x &&& fp_oi y = fp_oi (x % (y + 1)) := by
  have := fp_bv h
  rcases hy with rfl | rfl
  · rw [pk_and (fp_oi x) (m := fp_oi 7) 3 (by decide +kernel), ← fp_oi_n]
    congr 1
    omega
  · rw [pk_and (fp_oi x) (m := fp_oi 2147483647) 31 (by decide +kernel), ← fp_oi_n]
    congr 1
    omega
theorem fp_rg_and {x y : Int} (hy : y = 7 ∨ y = 2147483647) : fp_rg (x % (y + 1)) := by
  unfold fp_rg
  rcases hy with rfl | rfl <;> omega
theorem fp_oi_i2c {x : Int} (h : fp_rg x) : ((fp_oi x).toUInt32 % 65536).toInt32 = fp_oi (x % 65536) := by
  rw [pk_char, ← fp_oi_n]
  congr 1
  have := fp_bv h
  omega
theorem fp_oi_b {z : Int} (h0 : -128 ≤ z) (h1 : z ≤ 127) : (Int8.ofInt z).toInt32 = fp_oi z := by
  rw [← Int32.toInt_inj, Int8.toInt_toInt32, fp_oi_T ⟨by omega, by omega⟩]
  exact Int8.toInt_ofInt_of_le (by omega) (by omega)
theorem fp_oi_s {z : Int} (h0 : -32768 ≤ z) (h1 : z ≤ 32767) : (Int16.ofInt z).toInt32 = fp_oi z := by
  rw [← Int32.toInt_inj, Int16.toInt_toInt32, fp_oi_T ⟨by omega, by omega⟩]
  exact Int16.toInt_ofInt_of_le (by omega) (by omega)
theorem fp_oi_in {i : Int} {n : Nat} (h : fp_rg i) (h0 : 0 ≤ i) (h1 : i < (n : Int)) : vp_in (fp_oi i) n ∧ (fp_oi i).toNatClampNeg = i.toNat := by
  have e : (fp_oi i).toNatClampNeg = i.toNat := by
    show (fp_oi i).toInt.toNat = _
    rw [fp_oi_T h]
  refine ⟨?_, e⟩
  unfold vp_in
  rw [e]
  rintro (q | q)
  · rw [← fp_oi_0, fp_oi_lt h fp_rg_0] at q; omega
  · omega
theorem fp_oi_nn {i : Int} (h : fp_rg i) (h0 : 0 ≤ i) : ¬ fp_oi i < 0 ∧ (fp_oi i).toNatClampNeg = i.toNat := by
  refine ⟨fun q => ?_, ?_⟩
  · rw [← fp_oi_0, fp_oi_lt h fp_rg_0] at q; omega
  · show (fp_oi i).toInt.toNat = _
    rw [fp_oi_T h]
/-! the cells -/
def fp_cells : List (Nat × Nat) := ((List.range 7).flatMap fun g => (List.range 14).map fun c => (g, c)) ++ [(7, 14), (7, 15), (7, 16), (7, 17), (7, 18), (7, 19), (7, 20), (7, 21)]
def fp_okV : FpV → Prop
  | .inl z => fp_rg z
  | .inr (g, c) => (g, c) ∈ fp_cells ∨ (g = 9 ∧ (c = 26 ∨ c = 27 ∨ c = 28))
def fp_okH (H : FpH) : Prop := ∀ g c i, fp_rg (H g c i)
theorem fp_okH_up {H : FpH} {g c i : Nat} {z : Int} (h : fp_okH H) (hz : fp_rg z) : fp_okH (fp_up H g c i z) := by
  intro a b j
  unfold fp_up
  split
  · exact hz
  · exact h _ _ _
theorem fp_okH_cp {H : FpH} {g c g' c' sp dp n : Nat} (h : fp_okH H) : fp_okH (fp_cp H g c g' c' sp dp n) := by
  intro a b j
  unfold fp_cp
  split
  · exact h _ _ _
  · exact h _ _ _
theorem fp_mem_1 : ∀ x ∈ fp_cells, (x.1 < 7 ∧ x.2 < 14) ∨ (x.1 = 7 ∧ 14 ≤ x.2 ∧ x.2 < 22) := by decide +kernel
theorem fp_mem_2 : (List.range 9).all (fun g => (List.range 26).all (fun c => !decide ((g < 7 ∧ c < 14) ∨ (g = 7 ∧ 14 ≤ c ∧ c < 22)) || decide ((g, c) ∈ fp_cells))) = true := by decide +kernel
theorem fp_mem {g c : Nat} : (g, c) ∈ fp_cells ↔ (g < 7 ∧ c < 14) ∨ (g = 7 ∧ 14 ≤ c ∧ c < 22) := by
  refine ⟨fp_mem_1 (g, c), fun h => ?_⟩
  have h1 := List.all_eq_true.mp (List.all_eq_true.mp fp_mem_2 g (List.mem_range.mpr (by omega))) c (List.mem_range.mpr (by omega))
  rw [Bool.or_eq_true, Bool.not_eq_true', decide_eq_false_iff_not, decide_eq_true_eq] at h1
  exact h1.resolve_left (fun q => q h)
section FPS
variable (ad : Nat → Nat → Nat) (cI cC cO : ClassId)
def fp_tr : FpV → Value
  | .inl z => .int (fp_oi z)
  | .inr (g, c) => .ref (ad g c)
def fp_fv (H : FpH) (g c : Nat) : Nat → List (Option (Nat × Nat)) → List Value
  | _, [] => []
  | j, some (g', c') :: l => .ref (bif Nat.beq g' 99 then ad g c' else ad g' c') :: fp_fv H g c (j + 1) l
  | j, none :: l => .int (fp_oi (H g c j)) :: fp_fv H g c (j + 1) l
def fp_ce (H : FpH) (g c : Nat) : va_E := match fp_os c with
  | some (ci, fs) => .inr (ci, fp_fv ad H g c 0 fs)
  | none => bif Nat.beq c 16 then .inl (cO, 4, .inr (.inr (.inr (.inr (fun i => if i < 4 then some (ad (3 + i) 0) else none)))))
    else match fp_as 0 c with
      | some (ch, n) => .inl (bif ch then cC else cI, n, .inl (fun j => fp_oi (H g c j)))
      | none => .inl (cI, 0, .inl (fun _ => 0))
def fp_W (H : FpH) : va_W := fp_cells.map (fun q => (ad q.1 q.2, fp_ce ad cI cC cO H q.1 q.2))
def fp_A : Nat → Prop := fun q => ∃ x ∈ fp_cells, ad x.1 x.2 = q
def fp_inj : Prop := ∀ x ∈ fp_cells, ∀ y ∈ fp_cells, ad x.1 x.2 = ad y.1 y.2 → x = y
def fp_tys : List (ClassId × FieldType) := [(cI, .int), (cC, .char), (cO, .object RX4)]
def fp_X (L : Nat) (H : FpH) (U : State) : Prop :=
  (∀ c, c = 26 ∨ c = 27 ∨ c = 28 → ∃ n, fp_as L c = some (false, n) ∧ va_X (ad 9 c) n (fun j => fp_oi (H 9 c j)) U U.heap ∧ ad 9 c < U.heap.size ∧ ¬ fp_A ad (ad 9 c)) ∧
  va_Z RX6 "LEAST_SETTING" "[I" (.ref (ad 9 27)) (fp_A ad) U U.heap ∧ va_Z RX6 "MOST_SETTING" "[I" (.ref (ad 9 28)) (fp_A ad) U U.heap
end FPS
section FPT
variable {ad : Nat → Nat → Nat} {cI cC cO : ClassId}
theorem fp_nd : fp_cells.Nodup := by decide +kernel
theorem fp_D (hj : fp_inj ad) (H : FpH) : va_D (fp_A ad) (fp_W ad cI cC cO H) := by
  have hnd : ∀ (i j : Nat) (x : Nat × Nat), fp_cells[i]? = some x → fp_cells[j]? = some x → i = j := by
    intro i j x h1 h2
    exact (List.getElem?_inj (List.getElem?_eq_some_iff.mp h1).1 fp_nd).mp (h1.trans h2.symm)
  refine ⟨fun i j p q hi hj' hpq => ?_, fun k q hk => ?_⟩
  · unfold fp_W at hi hj'
    rw [List.getElem?_map] at hi hj'
    cases h1 : fp_cells[i]? with
    | none => rw [h1] at hi; cases hi
    | some x =>
      cases h2 : fp_cells[j]? with
      | none => rw [h2] at hj'; cases hj'
      | some y =>
        rw [h1] at hi; rw [h2] at hj'
        cases hi; cases hj'
        have e := hj x (List.mem_of_getElem? h1) y (List.mem_of_getElem? h2) hpq
        subst e
        exact hnd i j x h1 h2
  · unfold fp_W at hk
    obtain ⟨x, hx, rfl⟩ := List.mem_map.mp (List.mem_of_getElem? hk)
    exact ⟨x, hx, rfl⟩
theorem fp_at (H : FpH) {g c : Nat} (h : (g, c) ∈ fp_cells) : ∃ k : Nat, fp_cells[k]? = some (g, c) ∧ (fp_W ad cI cC cO H)[k]? = some (ad g c, fp_ce ad cI cC cO H g c) := by
  obtain ⟨k, hk⟩ := List.getElem?_of_mem h
  exact ⟨k, hk, by unfold fp_W; rw [List.getElem?_map, hk]; rfl⟩
theorem fp_W_set {H H' : FpH} {g c k : Nat} (hk : fp_cells[k]? = some (g, c)) (ho : ∀ x ∈ fp_cells, x ≠ (g, c) → fp_ce ad cI cC cO H' x.1 x.2 = fp_ce ad cI cC cO H x.1 x.2) : (fp_W ad cI cC cO H).set k (ad g c, fp_ce ad cI cC cO H' g c) = fp_W ad cI cC cO H' := by
  apply List.ext_getElem?
  intro i
  have hl : k < (fp_W ad cI cC cO H).length := by
    unfold fp_W; rw [List.length_map]; exact (List.getElem?_eq_some_iff.mp hk).1
  by_cases hik : i = k
  · subst hik
    rw [List.getElem?_set_self hl]
    unfold fp_W
    rw [List.getElem?_map, hk]
    rfl
  · rw [List.getElem?_set_ne (Ne.symm hik)]
    unfold fp_W
    rw [List.getElem?_map, List.getElem?_map]
    cases h1 : fp_cells[i]? with
    | none => rfl
    | some x =>
      have hx : x ≠ (g, c) := by
        intro e
        subst e
        exact hik ((List.getElem?_inj (List.getElem?_eq_some_iff.mp h1).1 fp_nd).mp (h1.trans hk.symm))
      show some (_, _) = some (_, _)
      rw [ho x (List.mem_of_getElem? h1) hx]
theorem fp_fv_congr {H H' : FpH} {g c : Nat} (h : H' g c = H g c) : ∀ (fs : List (Option (Nat × Nat))) (j : Nat), fp_fv ad H' g c j fs = fp_fv ad H g c j fs
  | [], _ => rfl
  | some (_, _) :: l, j => by simp only [fp_fv]; rw [fp_fv_congr h l (j + 1)]
  | none :: l, j => by simp only [fp_fv]; rw [fp_fv_congr h l (j + 1), h]
theorem fp_ce_congr {H H' : FpH} {g c : Nat} (h : H' g c = H g c) : fp_ce ad cI cC cO H' g c = fp_ce ad cI cC cO H g c := by
  unfold fp_ce
  rw [h]
  split
  · rw [fp_fv_congr h]
  · rfl
theorem fp_fv_ref {H : FpH} {g c : Nat} {g' c' : Nat} : ∀ (fs : List (Option (Nat × Nat))) (j b : Nat), fp_nth fs b = some (some (g', c')) → (fp_fv ad H g c j fs)[b]? = some (.ref (bif Nat.beq g' 99 then ad g c' else ad g' c'))
  | [], _, _, h => by simp [fp_nth] at h
  | some (_, _) :: l, j, 0, h => by simp only [fp_nth, Option.some.injEq, Prod.mk.injEq] at h; obtain ⟨rfl, rfl⟩ := h; rfl
  | none :: l, j, 0, h => by simp [fp_nth] at h
  | some (_, _) :: l, j, b + 1, h => by simp only [fp_fv, List.getElem?_cons_succ]; exact fp_fv_ref l (j + 1) b h
  | none :: l, j, b + 1, h => by simp only [fp_fv, List.getElem?_cons_succ]; exact fp_fv_ref l (j + 1) b h
theorem fp_fv_int {H : FpH} {g c : Nat} : ∀ (fs : List (Option (Nat × Nat))) (j b : Nat), fp_nth fs b = some none → (fp_fv ad H g c j fs)[b]? = some (.int (fp_oi (H g c (j + b))))
  | [], _, _, h => by simp [fp_nth] at h
  | some (_, _) :: l, j, 0, h => by simp [fp_nth] at h
  | none :: l, j, 0, h => rfl
  | some (_, _) :: l, j, b + 1, h => by simp only [fp_fv, List.getElem?_cons_succ]; rw [fp_fv_int l (j + 1) b h, Nat.add_assoc, Nat.add_comm 1 b]
  | none :: l, j, b + 1, h => by simp only [fp_fv, List.getElem?_cons_succ]; rw [fp_fv_int l (j + 1) b h, Nat.add_assoc, Nat.add_comm 1 b]
theorem fp_fv_up {H : FpH} {g c i : Nat} {z : Int} : ∀ (fs : List (Option (Nat × Nat))) (j : Nat), i < j → fp_fv ad (fp_up H g c i z) g c j fs = fp_fv ad H g c j fs
  | [], _, _ => rfl
  | some (_, _) :: l, j, h => by simp only [fp_fv]; rw [fp_fv_up l (j + 1) (by omega)]
  | none :: l, j, h => by
    simp only [fp_fv]; rw [fp_fv_up l (j + 1) (by omega)]
    have : fp_up H g c i z g c j = H g c j := by unfold fp_up; rw [if_neg (by omega)]
    rw [this]
theorem fp_fv_set {H : FpH} {g c : Nat} {z : Int} : ∀ (fs : List (Option (Nat × Nat))) (j b : Nat), fp_nth fs b = some none → (fp_fv ad H g c j fs).set b (.int (fp_oi z)) = fp_fv ad (fp_up H g c (j + b) z) g c j fs
  | [], _, _, h => by simp [fp_nth] at h
  | some (_, _) :: l, j, 0, h => by simp [fp_nth] at h
  | none :: l, j, 0, h => by
    simp only [fp_fv, List.set_cons_zero]
    rw [fp_fv_up l (j + 1) (by omega)]
    have : fp_up H g c (j + 0) z g c j = z := by unfold fp_up; rw [if_pos ⟨rfl, rfl, by omega⟩]
    rw [this]
  | some (_, _) :: l, j, b + 1, h => by
    simp only [fp_fv, List.set_cons_succ]
    rw [fp_fv_set l (j + 1) b h, Nat.add_assoc, Nat.add_comm 1 b]
  | none :: l, j, b + 1, h => by
    simp only [fp_fv, List.set_cons_succ]
    rw [fp_fv_set l (j + 1) b h, Nat.add_assoc, Nat.add_comm 1 b]
    have : fp_up H g c (j + (b + 1)) z g c j = H g c j := by unfold fp_up; rw [if_neg (by omega)]
    rw [this]
theorem fp_fv_len {H : FpH} {g c : Nat} : ∀ (fs : List (Option (Nat × Nat))) (j : Nat), (fp_fv ad H g c j fs).length = fs.length
  | [], _ => rfl
  | some (_, _) :: l, j => by simp only [fp_fv, List.length_cons, fp_fv_len l]
  | none :: l, j => by simp only [fp_fv, List.length_cons, fp_fv_len l]
theorem fp_nth_lt {x : Option (Nat × Nat)} : ∀ (fs : List (Option (Nat × Nat))) (b : Nat), fp_nth fs b = some x → b < fs.length
  | [], _, h => by simp [fp_nth] at h
  | _ :: l, 0, _ => by simp
  | _ :: l, b + 1, h => by have := fp_nth_lt l b h; simp; omega
theorem fp_X_to {L : Nat} {H H' : FpH} {U U' : State} (h : fp_X ad L H U) (hvm : U.vm.Alike U'.vm) (hz : U.heap.size ≤ U'.heap.size) (hh : ∀ q : Nat, q < U.heap.size → ¬ fp_A ad q → U'.heap[q]? = U.heap[q]?) (hH : H' 9 26 = H 9 26 ∧ H' 9 27 = H 9 27 ∧ H' 9 28 = H 9 28) : fp_X ad L H' U' := by
  obtain ⟨h1, h2, h3⟩ := h
  refine ⟨fun c hc => ?_, (h2.moved hvm).kept hh, (h3.moved hvm).kept hh⟩
  obtain ⟨n, a1, a2, a3, a4⟩ := h1 c hc
  have e : H' 9 c = H 9 c := by rcases hc with rfl | rfl | rfl <;> simp [hH]
  refine ⟨n, a1, ?_, Nat.lt_of_lt_of_le a3 hz, a4⟩
  rw [e]
  exact (a2.moved hvm).kept (hh _ a3 a4)
theorem fp_X_back {L : Nat} {H H' : FpH} {U U' : State} (h : fp_X ad L H U) (h' : fp_X ad L H' U') (hvm : U.vm.Alike U'.vm) (hh : ∀ q : Nat, q < U.heap.size → ¬ fp_A ad q → U'.heap[q]? = U.heap[q]?) : fp_X ad L H' U := by
  obtain ⟨h1, h2, h3⟩ := h
  refine ⟨fun c hc => ?_, h2, h3⟩
  obtain ⟨n, a1, a2, a3, a4⟩ := h1 c hc
  obtain ⟨n', b1, b2, b3, b4⟩ := h'.1 c hc
  exact ⟨n', b1, (b2.moved hvm.symm).kept (hh _ a3 a4).symm, a3, a4⟩
end FPT
