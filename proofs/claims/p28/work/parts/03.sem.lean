/-! THE SYSTEM AS A MACHINE OF NUMBERS: values are integers or places of a fixed list of cells; a heap says what number stands in a group's cell at a place. -/
abbrev FpV : Type := Int ⊕ (Nat × Nat)
abbrev FpH : Type := Nat → Nat → Nat → Int
abbrev FpL : Type := List (Option FpV)
abbrev FpQ : Type := Option FpV → FpH → Prop
def fp_rg (z : Int) : Prop := -2147483648 ≤ z ∧ z ≤ 2147483647
def fp_up (H : FpH) (g c i : Nat) (v : Int) : FpH := fun g' c' i' => if g' = g ∧ c' = c ∧ i' = i then v else H g' c' i'
def fp_cp (H : FpH) (g c g' c' sp dp n : Nat) : FpH := fun G C I => if G = g' ∧ C = c' ∧ dp ≤ I ∧ I < dp + n then H g c (sp + (I - dp)) else H G C I
/-- the objects: class, and each field: a number, or a cell (group 99: the same group) -/
def fp_os (c : Nat) : Option (Nat × List (Option (Nat × Nat))) :=
  bif Nat.ble c 9 then (bif Nat.beq c 0 then some (4, [some (99, 1), some (99, 6), some (99, 9), some (99, 13), none, none, none, none, none])
    else bif Nat.beq c 1 then some (2, [some (99, 2), some (99, 3), some (99, 4), some (99, 5), none])
    else bif Nat.beq c 6 then some (5, [some (99, 7), some (99, 8), none])
    else bif Nat.beq c 9 then some (1, [some (99, 10), some (99, 11), some (99, 12), none]) else none)
  else bif Nat.beq c 14 then some (6, [some (0, 0), some (1, 0), some (2, 0), none, some (7, 15), some (7, 17)])
  else bif Nat.beq c 15 then some (0, [some (7, 16), none, none])
  else bif Nat.beq c 17 then some (3, [some (7, 18), none, some (7, 19), some (7, 20), some (7, 21), none, none]) else none
/-- the arrays of numbers: of characters?, and how long -/
def fp_as (L c : Nat) : Option (Bool × Nat) :=
  bif Nat.ble c 13 then (bif Nat.ble c 5 then (bif Nat.beq c 2 then some (false, 80) else bif Nat.beq c 3 then some (false, 10) else bif Nat.beq c 4 then some (false, 10) else bif Nat.beq c 5 then some (false, 10) else none)
    else bif Nat.beq c 7 then some (false, 6) else bif Nat.beq c 8 then some (false, 6) else bif Nat.beq c 10 then some (false, 12) else bif Nat.beq c 11 then some (false, 12) else bif Nat.beq c 12 then some (false, 12) else bif Nat.beq c 13 then some (false, 3) else none)
  else bif Nat.beq c 18 then some (true, 80) else bif Nat.beq c 19 then some (false, 64) else bif Nat.beq c 20 then some (false, 8) else bif Nat.beq c 21 then some (false, 8)
  else bif Nat.beq c 26 then some (false, L) else bif Nat.beq c 27 then some (false, 3) else bif Nat.beq c 28 then some (false, 3) else none
def fp_lg : FpL → Nat → (FpV → Prop) → Prop
  | some v :: _, 0, k => k v
  | _ :: l, n + 1, k => fp_lg l n k
  | _, _, _ => False
def fp_ls : FpL → Nat → FpV → (FpL → Prop) → Prop
  | _ :: l, 0, v, k => k (some v :: l)
  | x :: l, n + 1, v, k => fp_ls l n v (fun l' => k (x :: l'))
  | [], _, _, _ => False
def fp_s1 (st : List FpV) (k : Int → List FpV → Prop) : Prop := match st with
  | .inl x :: st => k x st
  | _ => False
def fp_s2 (st : List FpV) (k : Int → Int → List FpV → Prop) : Prop := match st with
  | .inl y :: .inl x :: st => k x y st
  | _ => False
def fp_sr (st : List FpV) (k : Nat → Nat → List FpV → Prop) : Prop := match st with
  | .inr (g, c) :: st => k g c st
  | _ => False
def fp_si (st : List FpV) (k : Int → Nat → Nat → List FpV → Prop) : Prop := match st with
  | .inl i :: .inr (g, c) :: st => k i g c st
  | _ => False
def fp_sii (st : List FpV) (k : Int → Int → Nat → Nat → List FpV → Prop) : Prop := match st with
  | .inl z :: .inl i :: .inr (g, c) :: st => k z i g c st
  | _ => False
def fp_sc (st : List FpV) (k : Int → Int → Nat → Nat → Int → Nat → Nat → List FpV → Prop) : Prop := match st with
  | .inl n :: .inl dp :: .inr (g', c') :: .inl sp :: .inr (g, c) :: st => k n dp g' c' sp g c st
  | _ => False
def fp_nth : List (Option (Nat × Nat)) → Nat → Option (Option (Nat × Nat))
  | x :: _, 0 => some x
  | _ :: l, n + 1 => fp_nth l n
  | [], _ => none
/-- a field of an object of class a -/
def fp_fd (H : FpH) (g c a b : Nat) (k : FpV → Prop) : Prop := match fp_os c with
  | some (ci, fs) => bif Nat.beq ci a then (match fp_nth fs b with
    | some (some (g', c')) => bif Nat.beq g' 99 then k (.inr (g, c')) else k (.inr (g', c'))
    | some none => k (.inl (H g c b))
    | none => False) else False
  | none => False
/-- whether a field of a number stands there -/
def fp_fw (c a b : Nat) : Bool := match fp_os c with
  | some (ci, fs) => bif Nat.beq ci a then (match fp_nth fs b with
    | some none => true
    | _ => false) else false
  | none => false
def fp_ld (L : Nat) (ch : Bool) (H : FpH) (i : Int) (g c : Nat) (k : Int → Prop) : Prop := match fp_as L c with
  | some (b, n) => bif b == ch then (0 ≤ i ∧ i < (n : Int)) ∧ k (H g c i.toNat) else False
  | none => False
def fp_st (L : Nat) (ch : Bool) (i : Int) (c : Nat) (k : Prop) : Prop := match fp_as L c with
  | some (b, n) => bif (b == ch) && Nat.ble c 25 then (0 ≤ i ∧ i < (n : Int)) ∧ k else False
  | none => False
def fp_len (L : Nat) (c : Nat) (k : Int → Prop) : Prop := match fp_as L c with
  | some (_, n) => k (n : Int)
  | none => False
def fp_cpy (L : Nat) (n dp : Int) (c' : Nat) (sp : Int) (c : Nat) (k : Prop) : Prop := match fp_as L c, fp_as L c' with
  | some (false, m), some (false, m') => bif Nat.ble c' 25 && Nat.ble c 25 then (0 ≤ n ∧ 0 ≤ sp ∧ 0 ≤ dp ∧ sp + n ≤ (m : Int) ∧ dp + n ≤ (m' : Int)) ∧ k else False
  | _, _ => False
def fp_ta : Nat → List FpV → List FpV → (List FpV → List FpV → Prop) → Prop
  | 0, st, acc, k => k acc st
  | n + 1, v :: st, acc, k => fp_ta n st (v :: acc) k
  | _ + 1, [], _, _ => False
def fp_pu (r : Option FpV) (st : List FpV) : List FpV := match r with
  | some v => v :: st
  | none => st
def fp_sws (x lo : Int) (k : Nat → Prop) : List Nat → Prop
  | [] => True
  | t :: ts => (x = lo → k t) ∧ fp_sws x (lo + 1) k ts
def fp_br (c : Prop) (a b : Prop) : Prop := (c → a) ∧ (¬ c → b)
abbrev FpN : Type := Nat → FpL → List FpV → FpH → Prop
abbrev FpC : Type := Nat → List FpV → FpH → FpQ → Prop
def fp_cls (c : Nat) : Nat := match fp_os c with
  | some (ci, _) => ci
  | none => 99
def fp_calS (a b nx : Nat) (ls : FpL) (st : List FpV) (H : FpH) (N : FpN) (C : FpC) : Prop :=
  fp_ta b st [] (fun args st' => bif Nat.ble st'.length 8 then C a args H (fun r H' => N nx ls (fp_pu r st') H') else False)
def fp_rc (tg : Nat) (args : List FpV) : Bool := match args with
  | .inr (_, c) :: _ => Nat.beq (fp_cls c) tg
  | _ => false
def fp_calV (tg a b nx : Nat) (ls : FpL) (st : List FpV) (H : FpH) (N : FpN) (C : FpC) : Prop :=
  fp_ta b st [] (fun args st' => bif fp_rc tg args && Nat.ble st'.length 8 then C a args H (fun r H' => N nx ls (fp_pu r st') H') else False)
/-- one instruction -/
def fp_step (L : Nat) (e : FpE) (ls : FpL) (st : List FpV) (H : FpH) (N : FpN) (C : FpC) (R : FpQ) : Prop :=
  match e with
  | (i, nx, tg, a, b, _) => match i with
    | .aload_n k => fp_lg ls k.val (fun v => match v with
      | .inr r => N nx ls (.inr r :: st) H
      | _ => False)
    | .aload k => fp_lg ls k (fun v => match v with
      | .inr r => N nx ls (.inr r :: st) H
      | _ => False)
    | .iload_n k => fp_lg ls k.val (fun v => match v with
      | .inl r => N nx ls (.inl r :: st) H
      | _ => False)
    | .iload k => fp_lg ls k (fun v => match v with
      | .inl r => N nx ls (.inl r :: st) H
      | _ => False)
    | .iconst z => N nx ls (.inl z :: st) H
    | .bipush z => N nx ls (.inl z :: st) H
    | .sipush z => N nx ls (.inl z :: st) H
    | .istore_n k => fp_s1 st (fun x st => fp_ls ls k.val (.inl x) (fun ls => N nx ls st H))
    | .istore k => fp_s1 st (fun x st => fp_ls ls k (.inl x) (fun ls => N nx ls st H))
    | .astore_n k => fp_sr st (fun g c st => fp_ls ls k.val (.inr (g, c)) (fun ls => N nx ls st H))
    | .astore k => fp_sr st (fun g c st => fp_ls ls k (.inr (g, c)) (fun ls => N nx ls st H))
    | .iinc k z => fp_lg ls k (fun v => match v with
      | .inl x => fp_rg (x + z) ∧ fp_ls ls k (.inl (x + z)) (fun ls => N nx ls st H)
      | _ => False)
    | .iadd => fp_s2 st (fun x y st => fp_rg (x + y) ∧ N nx ls (.inl (x + y) :: st) H)
    | .isub => fp_s2 st (fun x y st => fp_rg (x - y) ∧ N nx ls (.inl (x - y) :: st) H)
    | .imul => fp_s2 st (fun x y st => fp_rg (x * y) ∧ N nx ls (.inl (x * y) :: st) H)
    | .idiv => fp_s2 st (fun x y st => (0 ≤ x ∧ 0 < y) ∧ N nx ls (.inl (x / y) :: st) H)
    | .irem => fp_s2 st (fun x y st => (0 ≤ x ∧ 0 < y) ∧ N nx ls (.inl (x % y) :: st) H)
    | .ishl => fp_s2 st (fun x y st => (0 ≤ x ∧ x ≤ 3 ∧ 0 ≤ y ∧ y < 29) ∧ N nx ls (.inl (x * (2 : Int) ^ y.toNat) :: st) H)
    | .ishr => fp_s2 st (fun x y st => (0 ≤ x ∧ 0 ≤ y ∧ y < 31) ∧ N nx ls (.inl (x / (2 : Int) ^ y.toNat) :: st) H)
    | .iand => fp_s2 st (fun x y st => (y = 7 ∨ y = 2147483647) ∧ N nx ls (.inl (x % (y + 1)) :: st) H)
    | .ldc _ => bif Nat.beq a 1 then N nx ls (.inl 49193 :: st) H else N nx ls (.inl 2147483647 :: st) H
    | .i2c => fp_s1 st (fun x st => N nx ls (.inl (x % 65536) :: st) H)
    | .dup => match st with
      | v :: st => N nx ls (v :: v :: st) H
      | _ => False
    | .dup2 => match st with
      | v :: w :: st => N nx ls (v :: w :: v :: w :: st) H
      | _ => False
    | .pop => match st with
      | _ :: st => N nx ls st H
      | _ => False
    | .goto _ => N tg ls st H
    | .ifCond c _ => fp_s1 st (fun x st => match c with
      | .eq => fp_br (x = 0) (N tg ls st H) (N nx ls st H)
      | .ne => fp_br (x = 0) (N nx ls st H) (N tg ls st H)
      | .lt => fp_br (x < 0) (N tg ls st H) (N nx ls st H)
      | .ge => fp_br (x < 0) (N nx ls st H) (N tg ls st H)
      | .gt => fp_br (0 < x) (N tg ls st H) (N nx ls st H)
      | .le => fp_br (0 < x) (N nx ls st H) (N tg ls st H))
    | .if_icmp c _ => fp_s2 st (fun x y st => match c with
      | .eq => fp_br (x = y) (N tg ls st H) (N nx ls st H)
      | .ne => fp_br (x = y) (N nx ls st H) (N tg ls st H)
      | .lt => fp_br (x < y) (N tg ls st H) (N nx ls st H)
      | .ge => fp_br (x < y) (N nx ls st H) (N tg ls st H)
      | .gt => fp_br (y < x) (N tg ls st H) (N nx ls st H)
      | .le => fp_br (y < x) (N nx ls st H) (N tg ls st H))
    | .getfield _ => fp_sr st (fun g c st => fp_fd H g c a b (fun v => N nx ls (v :: st) H))
    | .putfield _ => match st with
      | .inl z :: .inr (g, c) :: st => bif fp_fw c a b then (bif (Nat.beq a 6 && Nat.beq b 3) || (Nat.beq a 7 && Nat.beq b 2) then (z = 0 ∨ z = 1) ∧ N nx ls st (fp_up H g c b z) else N nx ls st (fp_up H g c b z)) else False
      | _ => False
    | .iaload => fp_si st (fun i g c st => fp_ld L false H i g c (fun z => N nx ls (.inl z :: st) H))
    | .caload => fp_si st (fun i g c st => fp_ld L true H i g c (fun z => N nx ls (.inl z :: st) H))
    | .iastore => fp_sii st (fun z i g c st => fp_st L false i c (N nx ls st (fp_up H g c i.toNat z)))
    | .castore => fp_sii st (fun z i g c st => (0 ≤ z ∧ z < 65536) ∧ fp_st L true i c (N nx ls st (fp_up H g c i.toNat z)))
    | .aaload => fp_si st (fun i _ c st => bif Nat.beq c 16 then (0 ≤ i ∧ i < 4) ∧ N nx ls (.inr (3 + i.toNat, 0) :: st) H else False)
    | .arraylength => fp_sr st (fun _ c st => fp_len L c (fun z => N nx ls (.inl z :: st) H))
    | .getstatic _ => N nx ls (.inr (9, a) :: st) H
    | .invokevirtual _ => fp_calV tg a b nx ls st H N C
    | .invokestatic _ => bif Nat.beq a 900 then fp_sc st (fun n dp g' c' sp g c st => fp_cpy L n dp c' sp c (bif Nat.ble st.length 8 then N nx ls st (fp_cp H g c g' c' sp.toNat dp.toNat n.toNat) else False))
      else bif Nat.beq a 901 then fp_s2 st (fun x y st => bif Nat.ble st.length 8 then N nx ls (.inl (if x < y then y else x) :: st) H else False)
      else fp_calS a b nx ls st H N C
    | .ireturn => match st with
      | [.inl z] => bif Nat.beq b 1 then (z = 0 ∨ z = 1) ∧ R (some (.inl z)) H else R (some (.inl z)) H
      | _ => False
    | .return_ => match st with
      | [] => R none H
      | _ => False
    | .tableswitch _ lo _ _ => fp_s1 st (fun x st => (x < lo ∨ lo + ((fp_sw.getD a []).length : Int) ≤ x → N tg ls st H) ∧ fp_sws x lo (fun t => N t ls st H) (fp_sw.getD a []))
    | _ => False
def fp_en (u : Nat) (args : List FpV) : FpL := args.map some ++ List.replicate (fp_nlL.getD u 0 - args.length) none
abbrev FpX : Type := Nat → Nat → Nat → FpL → List FpV → FpH → FpQ → Prop
def fp_Good (L : Nat) (X : FpX) : Prop :=
  (∀ d u pc ls st H (Q Q' : FpQ), (∀ v H', Q v H' → Q' v H') → X d u pc ls st H Q → X d u pc ls st H Q') ∧
  (∀ d u pc ls st H (Q : FpQ) e, fp_code u pc = some e → fp_step L e ls st H (fun pc ls st H => X d u pc ls st H Q) (fun u' args H K => ∃ d', d = d' + 1 ∧ X d' u' 0 (fp_en u' args) [] H K) Q → X d u pc ls st H Q)
/-- from here the method comes to its end, with Q, in at most d more frames -/
def fp_Wp (L d u pc : Nat) (ls : FpL) (st : List FpV) (H : FpH) (Q : FpQ) : Prop := ∀ X : FpX, fp_Good L X → X d u pc ls st H Q
theorem fp_lg_mono {ls : FpL} {k : Nat} {P P' : FpV → Prop} (h : ∀ v, P v → P' v) : fp_lg ls k P → fp_lg ls k P' := by
  induction ls generalizing k with
  | nil => intro q; cases k <;> simp [fp_lg] at q
  | cons x l ih =>
    cases k with
    | zero => cases x with
      | none => intro q; simp [fp_lg] at q
      | some v => exact fun q => h v q
    | succ k => cases x <;> exact fun q => ih q
theorem fp_ls_mono {ls : FpL} {k : Nat} {v : FpV} {P P' : FpL → Prop} (h : ∀ l, P l → P' l) : fp_ls ls k v P → fp_ls ls k v P' := by
  induction ls generalizing k P P' with
  | nil => intro q; cases k <;> simp [fp_ls] at q
  | cons x l ih =>
    cases k with
    | zero => exact fun q => h _ q
    | succ k => exact fun q => ih (fun l' => h _) q
theorem fp_ta_mono {n : Nat} {st acc : List FpV} {P P' : List FpV → List FpV → Prop} (h : ∀ a s, P a s → P' a s) : fp_ta n st acc P → fp_ta n st acc P' := by
  induction n generalizing st acc with
  | zero => exact fun q => h _ _ q
  | succ n ih => cases st with
    | nil => exact fun q => q
    | cons v st => exact fun q => ih q
theorem fp_s1_mono {st : List FpV} {P P' : Int → List FpV → Prop} (h : ∀ x s, P x s → P' x s) : fp_s1 st P → fp_s1 st P' := by
  unfold fp_s1; split
  · exact h _ _
  · exact id
theorem fp_s2_mono {st : List FpV} {P P' : Int → Int → List FpV → Prop} (h : ∀ x y s, P x y s → P' x y s) : fp_s2 st P → fp_s2 st P' := by
  unfold fp_s2; split
  · exact h _ _ _
  · exact id
theorem fp_sr_mono {st : List FpV} {P P' : Nat → Nat → List FpV → Prop} (h : ∀ x y s, P x y s → P' x y s) : fp_sr st P → fp_sr st P' := by
  unfold fp_sr; split
  · exact h _ _ _
  · exact id
theorem fp_si_mono {st : List FpV} {P P' : Int → Nat → Nat → List FpV → Prop} (h : ∀ z x y s, P z x y s → P' z x y s) : fp_si st P → fp_si st P' := by
  unfold fp_si; split
  · exact h _ _ _ _
  · exact id
theorem fp_sii_mono {st : List FpV} {P P' : Int → Int → Nat → Nat → List FpV → Prop} (h : ∀ w z x y s, P w z x y s → P' w z x y s) : fp_sii st P → fp_sii st P' := by
  unfold fp_sii; split
  · exact h _ _ _ _ _
  · exact id
theorem fp_sc_mono {st : List FpV} {P P' : Int → Int → Nat → Nat → Int → Nat → Nat → List FpV → Prop} (h : ∀ a b c d e f g s, P a b c d e f g s → P' a b c d e f g s) : fp_sc st P → fp_sc st P' := by
  unfold fp_sc; split
  · exact h _ _ _ _ _ _ _ _
  · exact id
theorem fp_fd_mono {H : FpH} {g c a b : Nat} {P P' : FpV → Prop} (h : ∀ v, P v → P' v) : fp_fd H g c a b P → fp_fd H g c a b P' := by
  unfold fp_fd; split
  · rename_i ci fs _
    cases Nat.beq ci a
    · exact id
    · simp only [cond_true]; split
      · rename_i g' c' _
        cases Nat.beq g' 99 <;> exact h _
      · exact h _
      · exact id
  · exact id
theorem fp_ld_mono {L : Nat} {ch : Bool} {H : FpH} {i : Int} {g c : Nat} {P P' : Int → Prop} (h : ∀ v, P v → P' v) : fp_ld L ch H i g c P → fp_ld L ch H i g c P' := by
  unfold fp_ld; split
  · rename_i b n _
    cases b == ch
    · exact id
    · exact fun q => ⟨q.1, h _ q.2⟩
  · exact id
theorem fp_st_mono {L : Nat} {ch : Bool} {i : Int} {c : Nat} {P P' : Prop} (h : P → P') : fp_st L ch i c P → fp_st L ch i c P' := by
  unfold fp_st; split
  · rename_i b n _
    cases (b == ch && Nat.ble c 25)
    · exact id
    · exact fun q => ⟨q.1, h q.2⟩
  · exact id
theorem fp_len_mono {L : Nat} {c : Nat} {P P' : Int → Prop} (h : ∀ v, P v → P' v) : fp_len L c P → fp_len L c P' := by
  unfold fp_len; split
  · exact h _
  · exact id
theorem fp_cpy_mono {L : Nat} {n dp sp : Int} {c c' : Nat} {P P' : Prop} (h : P → P') : fp_cpy L n dp c' sp c P → fp_cpy L n dp c' sp c P' := by
  unfold fp_cpy; split
  · cases (Nat.ble c' 25 && Nat.ble c 25)
    · exact id
    · exact fun q => ⟨q.1, h q.2⟩
  · exact id
theorem fp_br_mono {c a b a' b' : Prop} (h1 : a → a') (h2 : b → b') : fp_br c a b → fp_br c a' b' := fun q => ⟨fun x => h1 (q.1 x), fun x => h2 (q.2 x)⟩
theorem fp_sws_mono {x lo : Int} {k k' : Nat → Prop} (h : ∀ t, k t → k' t) {l : List Nat} : fp_sws x lo k l → fp_sws x lo k' l := by
  induction l generalizing lo with
  | nil => exact id
  | cons t ts ih => exact fun q => ⟨fun e => h _ (q.1 e), ih q.2⟩
theorem fp_if_mono {b : Bool} {P P' A : Prop} (h : P → P') : (bif b then A ∧ P else P) → (bif b then A ∧ P' else P') := by
  cases b
  · exact h
  · exact fun q => ⟨q.1, h q.2⟩
theorem fp_cond_mono {b : Bool} {P P' : Prop} (h : P → P') : (bif b then P else False) → (bif b then P' else False) := by
  cases b
  · exact id
  · exact h
section FPM
variable {L : Nat} {ls : FpL} {st : List FpV} {H : FpH} {N N' : FpN} {C C' : FpC}
theorem fp_calV_mono {tg a b nx : Nat} (hN : ∀ pc ls st H, N pc ls st H → N' pc ls st H) (hC : ∀ u args H (K K' : FpQ), (∀ v H', K v H' → K' v H') → C u args H K → C' u args H K') : fp_calV tg a b nx ls st H N C → fp_calV tg a b nx ls st H N' C' :=
  fp_ta_mono (fun _ _ => fp_cond_mono (hC _ _ _ _ _ (fun _ _ => hN _ _ _ _)))
theorem fp_calS_mono {a b nx : Nat} (hN : ∀ pc ls st H, N pc ls st H → N' pc ls st H) (hC : ∀ u args H (K K' : FpQ), (∀ v H', K v H' → K' v H') → C u args H K → C' u args H K') : fp_calS a b nx ls st H N C → fp_calS a b nx ls st H N' C' :=
  fp_ta_mono (fun _ _ => fp_cond_mono (hC _ _ _ _ _ (fun _ _ => hN _ _ _ _)))
set_option maxHeartbeats 4000000 in
theorem fp_step_mono {R : FpQ} {R' : FpQ} (e : FpE) (hN : ∀ pc ls st H, N pc ls st H → N' pc ls st H) (hC : ∀ u args H (K K' : FpQ), (∀ v H', K v H' → K' v H') → C u args H K → C' u args H K') (hR : ∀ v H, R v H → R' v H) : fp_step L e ls st H N C R → fp_step L e ls st H N' C' R' := by
  obtain ⟨i, nx, tg, a, b, w⟩ := e
  unfold fp_step
  cases i <;> dsimp only <;> first
    | exact id
    | exact hN _ _ _ _
    | (refine fp_lg_mono (fun v => ?_); cases v <;> first | exact hN _ _ _ _ | exact (fun q => ⟨q.1, fp_ls_mono (fun _ => hN _ _ _ _) q.2⟩) | exact id)
    | exact fp_s1_mono (fun _ _ => fp_ls_mono (fun _ => hN _ _ _ _))
    | exact fp_sr_mono (fun _ _ _ => fp_ls_mono (fun _ => hN _ _ _ _))
    | exact fp_s2_mono (fun _ _ _ q => ⟨q.1, hN _ _ _ _ q.2⟩)
    | exact fp_s1_mono (fun _ _ => hN _ _ _ _)
    | (cases Nat.beq a 1 <;> exact hN _ _ _ _)
    | (split <;> first | exact hN _ _ _ _ | exact id)
    | (rename_i cnd _; cases cnd <;> exact fp_s1_mono (fun _ _ => fp_br_mono (hN _ _ _ _) (hN _ _ _ _)))
    | (rename_i cnd _; cases cnd <;> exact fp_s2_mono (fun _ _ _ => fp_br_mono (hN _ _ _ _) (hN _ _ _ _)))
    | exact fp_sr_mono (fun _ _ _ => fp_fd_mono (fun _ => hN _ _ _ _))
    | (split <;> first | exact fp_cond_mono (fp_if_mono (hN _ _ _ _)) | exact id)
    | exact fp_si_mono (fun _ _ _ _ => fp_ld_mono (fun _ => hN _ _ _ _))
    | exact fp_sii_mono (fun _ _ _ _ _ => fp_st_mono (hN _ _ _ _))
    | exact fp_sii_mono (fun _ _ _ _ _ q => ⟨q.1, fp_st_mono (hN _ _ _ _) q.2⟩)
    | exact fp_si_mono (fun _ _ _ _ => fp_cond_mono (fun q => ⟨q.1, hN _ _ _ _ q.2⟩))
    | exact fp_sr_mono (fun _ _ _ => fp_len_mono (fun _ => hN _ _ _ _))
    | exact fp_calV_mono hN hC
    | (cases Nat.beq a 900 <;> dsimp only [cond] <;> first
        | (cases Nat.beq a 901 <;> dsimp only [cond] <;> first
            | exact fp_calS_mono hN hC
            | exact fp_s2_mono (fun _ _ _ => fp_cond_mono (hN _ _ _ _)))
        | exact fp_sc_mono (fun _ _ _ _ _ _ _ _ => fp_cpy_mono (fp_cond_mono (hN _ _ _ _))))
    | (split <;> first | exact fp_if_mono (hR _ _) | exact hR _ _ | exact id)
    | exact fp_s1_mono (fun _ _ q => ⟨fun h => hN _ _ _ _ (q.1 h), fp_sws_mono (fun _ => hN _ _ _ _) q.2⟩)
end FPM
theorem fp_Wp_mono {L d u pc : Nat} {ls : FpL} {st : List FpV} {H : FpH} {Q Q' : FpQ} (h : ∀ v H', Q v H' → Q' v H') (q : fp_Wp L d u pc ls st H Q) : fp_Wp L d u pc ls st H Q' :=
  fun X hX => hX.1 _ _ _ _ _ _ _ _ h (q X hX)
theorem fp_Wp_step {L d u pc : Nat} {ls : FpL} {st : List FpV} {H : FpH} {Q : FpQ} {e : FpE} (he : fp_code u pc = some e)
    (h : fp_step L e ls st H (fun pc ls st H => fp_Wp L d u pc ls st H Q) (fun u' args H K => ∃ d', d = d' + 1 ∧ fp_Wp L d' u' 0 (fp_en u' args) [] H K) Q) : fp_Wp L d u pc ls st H Q := fun X hX =>
  hX.2 _ _ _ _ _ _ _ _ he (fp_step_mono e (fun _ _ _ _ q => q X hX) (fun _ _ _ _ _ hK ⟨d', e1, q⟩ => ⟨d', e1, hX.1 _ _ _ _ _ _ _ _ hK (q X hX)⟩) (fun _ _ q => q) h)
/-- k instructions at most, up to the stops -/
def fp_blk (L u : Nat) (stops : List Nat) (KN : FpN) (KC : FpC) (R : FpQ) : Nat → Nat → FpL → List FpV → FpH → Prop
  | 0, pc, ls, st, H => KN pc ls st H
  | k + 1, pc, ls, st, H => match fp_code u pc with
    | none => False
    | some e => fp_step L e ls st H (fun pc ls st H => bif stops.elem pc then KN pc ls st H else fp_blk L u stops KN KC R k pc ls st H) KC R
theorem fp_blk_ok {L d u : Nat} {stops : List Nat} {Q : FpQ} : ∀ (k pc : Nat) (ls : FpL) (st : List FpV) (H : FpH), fp_blk L u stops (fun pc ls st H => fp_Wp L d u pc ls st H Q) (fun u' args H K => ∃ d', d = d' + 1 ∧ fp_Wp L d' u' 0 (fp_en u' args) [] H K) Q k pc ls st H → fp_Wp L d u pc ls st H Q := by
  intro k
  induction k with
  | zero => exact fun _ _ _ _ q => q
  | succ k ih =>
    intro pc ls st H q
    unfold fp_blk at q
    split at q
    · exact q.elim
    · rename_i e he
      refine fp_Wp_step he (fp_step_mono e (fun pc ls st H q => ?_) (fun _ _ _ _ _ hK ⟨d', e1, q⟩ => ⟨d', e1, fp_Wp_mono hK q⟩) (fun _ _ q => q) q)
      cases hz : stops.elem pc
      · rw [hz] at q; exact ih _ _ _ _ q
      · rw [hz] at q; exact q
theorem fp_go {L d u pc : Nat} {ls : FpL} {st : List FpV} {H : FpH} {Q : FpQ} (k : Nat) (stops : List Nat)
    (h : ∀ (KN : FpN) (KC : FpC), (∀ pc ls st H, fp_Wp L d u pc ls st H Q → KN pc ls st H) → (∀ u' args H K, (∃ d', d = d' + 1 ∧ fp_Wp L d' u' 0 (fp_en u' args) [] H K) → KC u' args H K) → fp_blk L u stops KN KC Q k pc ls st H) : fp_Wp L d u pc ls st H Q :=
  fp_blk_ok k pc ls st H (h _ _ (fun _ _ _ _ q => q) (fun _ _ _ _ q => q))
