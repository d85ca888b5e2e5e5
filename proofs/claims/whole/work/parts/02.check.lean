/-- the links of a nest mate's private methods -/
def fp_nw : List Cond := [.methodLinkNest RX4 76 yX6_layersOf RX6, .methodLinkNest RX4 104 yX6_leftLayersOf RX6, .methodLinkNest RX4 110 yX6_rightLayersOf RX6]
def fp_rx (k : Nat) : String := [RX0, RX1, RX2, RX3, RX4, RX5, RX6, RX7, RL].getD k ""
def fp_chkF (own : String) (idx a b w : Nat) : Bool := match fp_cl[a]? with
  | some (C, T, N) => decide (b < N) && decide ((T b).1 = C) && decide (lw_tbl[w]? = some (.fieldLink own idx C (T b).2.1 (T b).2.2.1)) && goodWord (.fieldLink own idx C (T b).2.1 (T b).2.2.1)
  | none => false
def fp_chkP (a b : Nat) : Bool := match fp_cl[a]? with
  | some (_, T, _) => decide ((T b).2.2.2 = false) && (bif (Nat.beq a 6 && Nat.beq b 3) || (Nat.beq a 7 && Nat.beq b 2) then decide ((T b).2.2.1 = "Z") else decide ((T b).2.2.1 = "I"))
  | none => false
def fp_chkC (own : String) (idx a b w tg : Nat) (stat : Bool) : Bool := match fp_M[a]? with
  | some (_, y, _, n, _, s) => (s == stat) && decide (1 ≤ a) && decide (b ≤ n) && (bif Nat.beq tg 0 then decide (lw_tbl[w]? = some (.methodLink own idx y)) && goodWord (.methodLink own idx y) && (!stat || decide (y.cls = own)) else stat && decide (Cond.methodLinkNest own idx y RX6 ∈ fp_nw)) && decide ((parseMethodDescriptor y.desc).map (fun d => d.parameters.length) = some (bif stat then b else b - 1)) && (stat || decide (1 ≤ b))
  | none => false
def fp_chkI (ci n : Nat) (r : Option FieldType) (pc : Nat) (e : FpE) : Bool :=
  let own := fp_rx ci
  match e with
  | (i, nx, tg, a, b, w) => match i with
    | .aload _ | .iload _ => decide (nx = pc + 2)
    | .bipush z => decide (nx = pc + 2) && decide (-128 ≤ z) && decide (z ≤ 127)
    | .sipush z => decide (nx = pc + 3) && decide (-32768 ≤ z) && decide (z ≤ 32767)
    | .iconst z => decide (nx = pc + 1) && decide (-1 ≤ z) && decide (z ≤ 5)
    | .istore_n k | .astore_n k => decide (nx = pc + 1) && decide (k.val < n)
    | .istore k | .astore k => decide (nx = pc + 2) && decide (k < n)
    | .iinc k _ => decide (nx = pc + 3) && decide (k < n)
    | .goto off | .ifCond _ off | .if_icmp _ off => decide (nx = pc + 3) && decide ((pc : Int) + off = (tg : Int))
    | .getfield idx => decide (nx = pc + 3) && fp_chkF own idx a b w
    | .putfield idx => decide (nx = pc + 3) && fp_chkF own idx a b w && fp_chkP a b
    | .invokevirtual idx => decide (nx = pc + 3) && fp_chkC own idx a b w 0 false && decide ((fp_M[a]?).map (fun q => q.1) = some tg)
    | .invokestatic idx => decide (nx = pc + 3) && (bif Nat.beq a 900 then decide (lw_tbl[w]? = some (.methodLink own idx arraycopyName)) && goodWord (.methodLink own idx arraycopyName)
        else bif Nat.beq a 901 then decide (lw_tbl[w]? = some (.methodLink own idx Lib.Math.max.name)) && goodWord (.methodLink own idx Lib.Math.max.name) else fp_chkC own idx a b w tg true)
    | .getstatic idx => decide (nx = pc + 3) && ((decide (a = 27) && decide (lw_tbl[w]? = some (.fieldLink own idx RX6 "LEAST_SETTING" "[I")) && goodWord (.fieldLink own idx RX6 "LEAST_SETTING" "[I")) || (decide (a = 28) && decide (lw_tbl[w]? = some (.fieldLink own idx RX6 "MOST_SETTING" "[I")) && goodWord (.fieldLink own idx RX6 "MOST_SETTING" "[I")))
    | .ireturn => decide (nx = pc + 1) && ((decide (b = 0) && decide (r = some .int)) || (decide (b = 1) && decide (r = some .boolean)))
    | .return_ => decide (nx = pc + 1) && decide (r = none)
    | .tableswitch df lo hi offs => decide ((pc : Int) + df = (tg : Int)) && decide (hi = lo + ((fp_sw.getD a []).length : Int) - 1) && (List.range (fp_sw.getD a []).length).all (fun k => decide ((offs[k]?).map (fun o => (pc : Int) + o) = some (((fp_sw.getD a []).getD k 0 : Nat) : Int)))
    | _ => decide (nx = pc + 1)
def fp_chk (u pc : Nat) (e : FpE) : Bool := match fp_M[u]? with
  | some (ci, _, c, n, r, _) => decide (decode c pc = .ok (e.1, e.2.1 - pc)) && decide (pc < e.2.1) && fp_chkI ci n r pc e
  | none => false
def fp_ckP (u pc : Nat) : Bool := match fp_codeT u pc with
  | some e => fp_chk u pc e
  | none => true
def fp_ckU (u : Nat) : Bool := (List.range 1001).all (fp_ckP u)
set_option maxRecDepth 100000 in
theorem fp_cl_0 : (List.range' 0 13).all (fp_ckP 0) = true := by decide +kernel
set_option maxRecDepth 100000 in
theorem fp_cl_13 : (List.range' 13 13).all (fp_ckP 0) = true := by decide +kernel
set_option maxRecDepth 100000 in
theorem fp_cl_26 : (List.range' 26 13).all (fp_ckP 0) = true := by decide +kernel
set_option maxRecDepth 100000 in
theorem fp_cl_39 : (List.range' 39 13).all (fp_ckP 0) = true := by decide +kernel
set_option maxRecDepth 100000 in
theorem fp_cl_52 : (List.range' 52 13).all (fp_ckP 0) = true := by decide +kernel
set_option maxRecDepth 100000 in
theorem fp_cl_65 : (List.range' 65 13).all (fp_ckP 0) = true := by decide +kernel
set_option maxRecDepth 100000 in
theorem fp_cl_78 : (List.range' 78 13).all (fp_ckP 0) = true := by decide +kernel
set_option maxRecDepth 100000 in
theorem fp_cl_91 : (List.range' 91 13).all (fp_ckP 0) = true := by decide +kernel
set_option maxRecDepth 100000 in
theorem fp_cl_104 : (List.range' 104 13).all (fp_ckP 0) = true := by decide +kernel
set_option maxRecDepth 100000 in
theorem fp_cl_117 : (List.range' 117 13).all (fp_ckP 0) = true := by decide +kernel
set_option maxRecDepth 100000 in
theorem fp_cl_130 : (List.range' 130 13).all (fp_ckP 0) = true := by decide +kernel
set_option maxRecDepth 100000 in
theorem fp_cl_143 : (List.range' 143 13).all (fp_ckP 0) = true := by decide +kernel
set_option maxRecDepth 100000 in
theorem fp_cl_156 : (List.range' 156 13).all (fp_ckP 0) = true := by decide +kernel
set_option maxRecDepth 100000 in
theorem fp_cl_169 : (List.range' 169 13).all (fp_ckP 0) = true := by decide +kernel
set_option maxRecDepth 100000 in
theorem fp_cl_182 : (List.range' 182 13).all (fp_ckP 0) = true := by decide +kernel
set_option maxRecDepth 100000 in
theorem fp_cl_195 : (List.range' 195 13).all (fp_ckP 0) = true := by decide +kernel
set_option maxRecDepth 100000 in
theorem fp_cl_208 : (List.range' 208 13).all (fp_ckP 0) = true := by decide +kernel
set_option maxRecDepth 100000 in
theorem fp_cl_221 : (List.range' 221 13).all (fp_ckP 0) = true := by decide +kernel
set_option maxRecDepth 100000 in
theorem fp_cl_234 : (List.range' 234 13).all (fp_ckP 0) = true := by decide +kernel
set_option maxRecDepth 100000 in
theorem fp_cl_247 : (List.range' 247 13).all (fp_ckP 0) = true := by decide +kernel
set_option maxRecDepth 100000 in
theorem fp_cl_260 : (List.range' 260 13).all (fp_ckP 0) = true := by decide +kernel
set_option maxRecDepth 100000 in
theorem fp_cl_273 : (List.range' 273 13).all (fp_ckP 0) = true := by decide +kernel
set_option maxRecDepth 100000 in
theorem fp_cl_286 : (List.range' 286 13).all (fp_ckP 0) = true := by decide +kernel
set_option maxRecDepth 100000 in
theorem fp_cl_299 : (List.range' 299 13).all (fp_ckP 0) = true := by decide +kernel
set_option maxRecDepth 100000 in
theorem fp_cl_312 : (List.range' 312 13).all (fp_ckP 0) = true := by decide +kernel
set_option maxRecDepth 100000 in
theorem fp_cl_325 : (List.range' 325 13).all (fp_ckP 0) = true := by decide +kernel
set_option maxRecDepth 100000 in
theorem fp_cl_338 : (List.range' 338 13).all (fp_ckP 0) = true := by decide +kernel
set_option maxRecDepth 100000 in
theorem fp_cl_351 : (List.range' 351 13).all (fp_ckP 0) = true := by decide +kernel
set_option maxRecDepth 100000 in
theorem fp_cl_364 : (List.range' 364 13).all (fp_ckP 0) = true := by decide +kernel
set_option maxRecDepth 100000 in
theorem fp_cl_377 : (List.range' 377 13).all (fp_ckP 0) = true := by decide +kernel
set_option maxRecDepth 100000 in
theorem fp_cl_390 : (List.range' 390 13).all (fp_ckP 0) = true := by decide +kernel
set_option maxRecDepth 100000 in
theorem fp_cl_403 : (List.range' 403 13).all (fp_ckP 0) = true := by decide +kernel
set_option maxRecDepth 100000 in
theorem fp_cl_416 : (List.range' 416 13).all (fp_ckP 0) = true := by decide +kernel
set_option maxRecDepth 100000 in
theorem fp_cl_429 : (List.range' 429 13).all (fp_ckP 0) = true := by decide +kernel
set_option maxRecDepth 100000 in
theorem fp_cl_442 : (List.range' 442 13).all (fp_ckP 0) = true := by decide +kernel
set_option maxRecDepth 100000 in
theorem fp_cl_455 : (List.range' 455 13).all (fp_ckP 0) = true := by decide +kernel
set_option maxRecDepth 100000 in
theorem fp_cl_468 : (List.range' 468 13).all (fp_ckP 0) = true := by decide +kernel
set_option maxRecDepth 100000 in
theorem fp_cl_481 : (List.range' 481 13).all (fp_ckP 0) = true := by decide +kernel
set_option maxRecDepth 100000 in
theorem fp_cl_494 : (List.range' 494 13).all (fp_ckP 0) = true := by decide +kernel
set_option maxRecDepth 100000 in
theorem fp_cl_507 : (List.range' 507 13).all (fp_ckP 0) = true := by decide +kernel
set_option maxRecDepth 100000 in
theorem fp_cl_520 : (List.range' 520 13).all (fp_ckP 0) = true := by decide +kernel
set_option maxRecDepth 100000 in
theorem fp_cl_533 : (List.range' 533 13).all (fp_ckP 0) = true := by decide +kernel
set_option maxRecDepth 100000 in
theorem fp_cl_546 : (List.range' 546 13).all (fp_ckP 0) = true := by decide +kernel
set_option maxRecDepth 100000 in
theorem fp_cl_559 : (List.range' 559 13).all (fp_ckP 0) = true := by decide +kernel
set_option maxRecDepth 100000 in
theorem fp_cl_572 : (List.range' 572 13).all (fp_ckP 0) = true := by decide +kernel
set_option maxRecDepth 100000 in
theorem fp_cl_585 : (List.range' 585 13).all (fp_ckP 0) = true := by decide +kernel
set_option maxRecDepth 100000 in
theorem fp_cl_598 : (List.range' 598 13).all (fp_ckP 0) = true := by decide +kernel
set_option maxRecDepth 100000 in
theorem fp_cl_611 : (List.range' 611 13).all (fp_ckP 0) = true := by decide +kernel
set_option maxRecDepth 100000 in
theorem fp_cl_624 : (List.range' 624 13).all (fp_ckP 0) = true := by decide +kernel
set_option maxRecDepth 100000 in
theorem fp_cl_637 : (List.range' 637 13).all (fp_ckP 0) = true := by decide +kernel
set_option maxRecDepth 100000 in
theorem fp_cl_650 : (List.range' 650 13).all (fp_ckP 0) = true := by decide +kernel
set_option maxRecDepth 100000 in
theorem fp_cl_663 : (List.range' 663 13).all (fp_ckP 0) = true := by decide +kernel
set_option maxRecDepth 100000 in
theorem fp_cl_676 : (List.range' 676 13).all (fp_ckP 0) = true := by decide +kernel
set_option maxRecDepth 100000 in
theorem fp_cl_689 : (List.range' 689 13).all (fp_ckP 0) = true := by decide +kernel
set_option maxRecDepth 100000 in
theorem fp_cl_702 : (List.range' 702 13).all (fp_ckP 0) = true := by decide +kernel
set_option maxRecDepth 100000 in
theorem fp_cl_715 : (List.range' 715 13).all (fp_ckP 0) = true := by decide +kernel
set_option maxRecDepth 100000 in
theorem fp_cl_728 : (List.range' 728 13).all (fp_ckP 0) = true := by decide +kernel
set_option maxRecDepth 100000 in
theorem fp_cl_741 : (List.range' 741 13).all (fp_ckP 0) = true := by decide +kernel
set_option maxRecDepth 100000 in
theorem fp_cl_754 : (List.range' 754 13).all (fp_ckP 0) = true := by decide +kernel
set_option maxRecDepth 100000 in
theorem fp_cl_767 : (List.range' 767 13).all (fp_ckP 0) = true := by decide +kernel
set_option maxRecDepth 100000 in
theorem fp_cl_780 : (List.range' 780 13).all (fp_ckP 0) = true := by decide +kernel
set_option maxRecDepth 100000 in
theorem fp_cl_793 : (List.range' 793 13).all (fp_ckP 0) = true := by decide +kernel
set_option maxRecDepth 100000 in
theorem fp_cl_806 : (List.range' 806 13).all (fp_ckP 0) = true := by decide +kernel
set_option maxRecDepth 100000 in
theorem fp_cl_819 : (List.range' 819 13).all (fp_ckP 0) = true := by decide +kernel
set_option maxRecDepth 100000 in
theorem fp_cl_832 : (List.range' 832 13).all (fp_ckP 0) = true := by decide +kernel
set_option maxRecDepth 100000 in
theorem fp_cl_845 : (List.range' 845 13).all (fp_ckP 0) = true := by decide +kernel
set_option maxRecDepth 100000 in
theorem fp_cl_858 : (List.range' 858 13).all (fp_ckP 0) = true := by decide +kernel
set_option maxRecDepth 100000 in
theorem fp_cl_871 : (List.range' 871 13).all (fp_ckP 0) = true := by decide +kernel
set_option maxRecDepth 100000 in
theorem fp_cl_884 : (List.range' 884 13).all (fp_ckP 0) = true := by decide +kernel
set_option maxRecDepth 100000 in
theorem fp_cl_897 : (List.range' 897 13).all (fp_ckP 0) = true := by decide +kernel
set_option maxRecDepth 100000 in
theorem fp_cl_910 : (List.range' 910 13).all (fp_ckP 0) = true := by decide +kernel
set_option maxRecDepth 100000 in
theorem fp_cl_923 : (List.range' 923 13).all (fp_ckP 0) = true := by decide +kernel
set_option maxRecDepth 100000 in
theorem fp_cl_936 : (List.range' 936 13).all (fp_ckP 0) = true := by decide +kernel
set_option maxRecDepth 100000 in
theorem fp_cl_949 : (List.range' 949 13).all (fp_ckP 0) = true := by decide +kernel
set_option maxRecDepth 100000 in
theorem fp_cl_962 : (List.range' 962 13).all (fp_ckP 0) = true := by decide +kernel
set_option maxRecDepth 100000 in
theorem fp_cl_975 : (List.range' 975 13).all (fp_ckP 0) = true := by decide +kernel
set_option maxRecDepth 100000 in
theorem fp_cl_988 : (List.range' 988 13).all (fp_ckP 0) = true := by decide +kernel
set_option maxRecDepth 100000 in
theorem fp_ck_1 : (List.range' 1 10).all fp_ckU = true := by decide +kernel
set_option maxRecDepth 100000 in
theorem fp_ck_11 : (List.range' 11 10).all fp_ckU = true := by decide +kernel
set_option maxRecDepth 100000 in
theorem fp_ck_21 : (List.range' 21 10).all fp_ckU = true := by decide +kernel
set_option maxRecDepth 100000 in
theorem fp_ck_31 : (List.range' 31 10).all fp_ckU = true := by decide +kernel
set_option maxRecDepth 100000 in
theorem fp_ck_41 : (List.range' 41 10).all fp_ckU = true := by decide +kernel
set_option maxRecDepth 100000 in
theorem fp_ck_51 : (List.range' 51 10).all fp_ckU = true := by decide +kernel
set_option maxRecDepth 100000 in
theorem fp_ck_61 : (List.range' 61 10).all fp_ckU = true := by decide +kernel
set_option maxRecDepth 100000 in
theorem fp_ck_71 : (List.range' 71 10).all fp_ckU = true := by decide +kernel
set_option maxRecDepth 100000 in
theorem fp_ck_81 : (List.range' 81 10).all fp_ckU = true := by decide +kernel
set_option maxRecDepth 100000 in
theorem fp_ck_91 : (List.range' 91 10).all fp_ckU = true := by decide +kernel
set_option maxRecDepth 100000 in
theorem fp_ck_101 : (List.range' 101 10).all fp_ckU = true := by decide +kernel
set_option maxRecDepth 100000 in
theorem fp_ck_111 : (List.range' 111 10).all fp_ckU = true := by decide +kernel
set_option maxRecDepth 100000 in
theorem fp_ck_121 : (List.range' 121 10).all fp_ckU = true := by decide +kernel
set_option maxRecDepth 100000 in
theorem fp_ck_131 : (List.range' 131 9).all fp_ckU = true := by decide +kernel
theorem fp_ck_0 : fp_ckU 0 = true := by
  refine List.all_eq_true.mpr (fun pc h => ?_)
  have h := List.mem_range.mp h
  by_cases h0 : pc < 13
  · exact List.all_eq_true.mp fp_cl_0 pc (List.mem_range'_1.mpr (by omega))
  by_cases h13 : pc < 26
  · exact List.all_eq_true.mp fp_cl_13 pc (List.mem_range'_1.mpr (by omega))
  by_cases h26 : pc < 39
  · exact List.all_eq_true.mp fp_cl_26 pc (List.mem_range'_1.mpr (by omega))
  by_cases h39 : pc < 52
  · exact List.all_eq_true.mp fp_cl_39 pc (List.mem_range'_1.mpr (by omega))
  by_cases h52 : pc < 65
  · exact List.all_eq_true.mp fp_cl_52 pc (List.mem_range'_1.mpr (by omega))
  by_cases h65 : pc < 78
  · exact List.all_eq_true.mp fp_cl_65 pc (List.mem_range'_1.mpr (by omega))
  by_cases h78 : pc < 91
  · exact List.all_eq_true.mp fp_cl_78 pc (List.mem_range'_1.mpr (by omega))
  by_cases h91 : pc < 104
  · exact List.all_eq_true.mp fp_cl_91 pc (List.mem_range'_1.mpr (by omega))
  by_cases h104 : pc < 117
  · exact List.all_eq_true.mp fp_cl_104 pc (List.mem_range'_1.mpr (by omega))
  by_cases h117 : pc < 130
  · exact List.all_eq_true.mp fp_cl_117 pc (List.mem_range'_1.mpr (by omega))
  by_cases h130 : pc < 143
  · exact List.all_eq_true.mp fp_cl_130 pc (List.mem_range'_1.mpr (by omega))
  by_cases h143 : pc < 156
  · exact List.all_eq_true.mp fp_cl_143 pc (List.mem_range'_1.mpr (by omega))
  by_cases h156 : pc < 169
  · exact List.all_eq_true.mp fp_cl_156 pc (List.mem_range'_1.mpr (by omega))
  by_cases h169 : pc < 182
  · exact List.all_eq_true.mp fp_cl_169 pc (List.mem_range'_1.mpr (by omega))
  by_cases h182 : pc < 195
  · exact List.all_eq_true.mp fp_cl_182 pc (List.mem_range'_1.mpr (by omega))
  by_cases h195 : pc < 208
  · exact List.all_eq_true.mp fp_cl_195 pc (List.mem_range'_1.mpr (by omega))
  by_cases h208 : pc < 221
  · exact List.all_eq_true.mp fp_cl_208 pc (List.mem_range'_1.mpr (by omega))
  by_cases h221 : pc < 234
  · exact List.all_eq_true.mp fp_cl_221 pc (List.mem_range'_1.mpr (by omega))
  by_cases h234 : pc < 247
  · exact List.all_eq_true.mp fp_cl_234 pc (List.mem_range'_1.mpr (by omega))
  by_cases h247 : pc < 260
  · exact List.all_eq_true.mp fp_cl_247 pc (List.mem_range'_1.mpr (by omega))
  by_cases h260 : pc < 273
  · exact List.all_eq_true.mp fp_cl_260 pc (List.mem_range'_1.mpr (by omega))
  by_cases h273 : pc < 286
  · exact List.all_eq_true.mp fp_cl_273 pc (List.mem_range'_1.mpr (by omega))
  by_cases h286 : pc < 299
  · exact List.all_eq_true.mp fp_cl_286 pc (List.mem_range'_1.mpr (by omega))
  by_cases h299 : pc < 312
  · exact List.all_eq_true.mp fp_cl_299 pc (List.mem_range'_1.mpr (by omega))
  by_cases h312 : pc < 325
  · exact List.all_eq_true.mp fp_cl_312 pc (List.mem_range'_1.mpr (by omega))
  by_cases h325 : pc < 338
  · exact List.all_eq_true.mp fp_cl_325 pc (List.mem_range'_1.mpr (by omega))
  by_cases h338 : pc < 351
  · exact List.all_eq_true.mp fp_cl_338 pc (List.mem_range'_1.mpr (by omega))
  by_cases h351 : pc < 364
  · exact List.all_eq_true.mp fp_cl_351 pc (List.mem_range'_1.mpr (by omega))
  by_cases h364 : pc < 377
  · exact List.all_eq_true.mp fp_cl_364 pc (List.mem_range'_1.mpr (by omega))
  by_cases h377 : pc < 390
  · exact List.all_eq_true.mp fp_cl_377 pc (List.mem_range'_1.mpr (by omega))
  by_cases h390 : pc < 403
  · exact List.all_eq_true.mp fp_cl_390 pc (List.mem_range'_1.mpr (by omega))
  by_cases h403 : pc < 416
  · exact List.all_eq_true.mp fp_cl_403 pc (List.mem_range'_1.mpr (by omega))
  by_cases h416 : pc < 429
  · exact List.all_eq_true.mp fp_cl_416 pc (List.mem_range'_1.mpr (by omega))
  by_cases h429 : pc < 442
  · exact List.all_eq_true.mp fp_cl_429 pc (List.mem_range'_1.mpr (by omega))
  by_cases h442 : pc < 455
  · exact List.all_eq_true.mp fp_cl_442 pc (List.mem_range'_1.mpr (by omega))
  by_cases h455 : pc < 468
  · exact List.all_eq_true.mp fp_cl_455 pc (List.mem_range'_1.mpr (by omega))
  by_cases h468 : pc < 481
  · exact List.all_eq_true.mp fp_cl_468 pc (List.mem_range'_1.mpr (by omega))
  by_cases h481 : pc < 494
  · exact List.all_eq_true.mp fp_cl_481 pc (List.mem_range'_1.mpr (by omega))
  by_cases h494 : pc < 507
  · exact List.all_eq_true.mp fp_cl_494 pc (List.mem_range'_1.mpr (by omega))
  by_cases h507 : pc < 520
  · exact List.all_eq_true.mp fp_cl_507 pc (List.mem_range'_1.mpr (by omega))
  by_cases h520 : pc < 533
  · exact List.all_eq_true.mp fp_cl_520 pc (List.mem_range'_1.mpr (by omega))
  by_cases h533 : pc < 546
  · exact List.all_eq_true.mp fp_cl_533 pc (List.mem_range'_1.mpr (by omega))
  by_cases h546 : pc < 559
  · exact List.all_eq_true.mp fp_cl_546 pc (List.mem_range'_1.mpr (by omega))
  by_cases h559 : pc < 572
  · exact List.all_eq_true.mp fp_cl_559 pc (List.mem_range'_1.mpr (by omega))
  by_cases h572 : pc < 585
  · exact List.all_eq_true.mp fp_cl_572 pc (List.mem_range'_1.mpr (by omega))
  by_cases h585 : pc < 598
  · exact List.all_eq_true.mp fp_cl_585 pc (List.mem_range'_1.mpr (by omega))
  by_cases h598 : pc < 611
  · exact List.all_eq_true.mp fp_cl_598 pc (List.mem_range'_1.mpr (by omega))
  by_cases h611 : pc < 624
  · exact List.all_eq_true.mp fp_cl_611 pc (List.mem_range'_1.mpr (by omega))
  by_cases h624 : pc < 637
  · exact List.all_eq_true.mp fp_cl_624 pc (List.mem_range'_1.mpr (by omega))
  by_cases h637 : pc < 650
  · exact List.all_eq_true.mp fp_cl_637 pc (List.mem_range'_1.mpr (by omega))
  by_cases h650 : pc < 663
  · exact List.all_eq_true.mp fp_cl_650 pc (List.mem_range'_1.mpr (by omega))
  by_cases h663 : pc < 676
  · exact List.all_eq_true.mp fp_cl_663 pc (List.mem_range'_1.mpr (by omega))
  by_cases h676 : pc < 689
  · exact List.all_eq_true.mp fp_cl_676 pc (List.mem_range'_1.mpr (by omega))
  by_cases h689 : pc < 702
  · exact List.all_eq_true.mp fp_cl_689 pc (List.mem_range'_1.mpr (by omega))
  by_cases h702 : pc < 715
  · exact List.all_eq_true.mp fp_cl_702 pc (List.mem_range'_1.mpr (by omega))
  by_cases h715 : pc < 728
  · exact List.all_eq_true.mp fp_cl_715 pc (List.mem_range'_1.mpr (by omega))
  by_cases h728 : pc < 741
  · exact List.all_eq_true.mp fp_cl_728 pc (List.mem_range'_1.mpr (by omega))
  by_cases h741 : pc < 754
  · exact List.all_eq_true.mp fp_cl_741 pc (List.mem_range'_1.mpr (by omega))
  by_cases h754 : pc < 767
  · exact List.all_eq_true.mp fp_cl_754 pc (List.mem_range'_1.mpr (by omega))
  by_cases h767 : pc < 780
  · exact List.all_eq_true.mp fp_cl_767 pc (List.mem_range'_1.mpr (by omega))
  by_cases h780 : pc < 793
  · exact List.all_eq_true.mp fp_cl_780 pc (List.mem_range'_1.mpr (by omega))
  by_cases h793 : pc < 806
  · exact List.all_eq_true.mp fp_cl_793 pc (List.mem_range'_1.mpr (by omega))
  by_cases h806 : pc < 819
  · exact List.all_eq_true.mp fp_cl_806 pc (List.mem_range'_1.mpr (by omega))
  by_cases h819 : pc < 832
  · exact List.all_eq_true.mp fp_cl_819 pc (List.mem_range'_1.mpr (by omega))
  by_cases h832 : pc < 845
  · exact List.all_eq_true.mp fp_cl_832 pc (List.mem_range'_1.mpr (by omega))
  by_cases h845 : pc < 858
  · exact List.all_eq_true.mp fp_cl_845 pc (List.mem_range'_1.mpr (by omega))
  by_cases h858 : pc < 871
  · exact List.all_eq_true.mp fp_cl_858 pc (List.mem_range'_1.mpr (by omega))
  by_cases h871 : pc < 884
  · exact List.all_eq_true.mp fp_cl_871 pc (List.mem_range'_1.mpr (by omega))
  by_cases h884 : pc < 897
  · exact List.all_eq_true.mp fp_cl_884 pc (List.mem_range'_1.mpr (by omega))
  by_cases h897 : pc < 910
  · exact List.all_eq_true.mp fp_cl_897 pc (List.mem_range'_1.mpr (by omega))
  by_cases h910 : pc < 923
  · exact List.all_eq_true.mp fp_cl_910 pc (List.mem_range'_1.mpr (by omega))
  by_cases h923 : pc < 936
  · exact List.all_eq_true.mp fp_cl_923 pc (List.mem_range'_1.mpr (by omega))
  by_cases h936 : pc < 949
  · exact List.all_eq_true.mp fp_cl_936 pc (List.mem_range'_1.mpr (by omega))
  by_cases h949 : pc < 962
  · exact List.all_eq_true.mp fp_cl_949 pc (List.mem_range'_1.mpr (by omega))
  by_cases h962 : pc < 975
  · exact List.all_eq_true.mp fp_cl_962 pc (List.mem_range'_1.mpr (by omega))
  by_cases h975 : pc < 988
  · exact List.all_eq_true.mp fp_cl_975 pc (List.mem_range'_1.mpr (by omega))
  by_cases h988 : pc < 1001
  · exact List.all_eq_true.mp fp_cl_988 pc (List.mem_range'_1.mpr (by omega))
  omega
theorem fp_ok {u pc : Nat} {e : FpE} (h : fp_code u pc = some e) : fp_chk u pc e = true := by
  unfold fp_code at h
  cases hg : (Nat.ble u 139 && Nat.ble pc 1000) with
  | false => rw [hg] at h; cases h
  | true =>
    rw [hg] at h
    simp only [Bool.and_eq_true, Nat.ble_eq] at hg
    have hu : fp_ckU u = true := by
      by_cases h0 : u = 0
      · rw [h0]; exact fp_ck_0
      by_cases h1 : u < 11
      · exact List.all_eq_true.mp fp_ck_1 u (List.mem_range'_1.mpr (by omega))
      by_cases h11 : u < 21
      · exact List.all_eq_true.mp fp_ck_11 u (List.mem_range'_1.mpr (by omega))
      by_cases h21 : u < 31
      · exact List.all_eq_true.mp fp_ck_21 u (List.mem_range'_1.mpr (by omega))
      by_cases h31 : u < 41
      · exact List.all_eq_true.mp fp_ck_31 u (List.mem_range'_1.mpr (by omega))
      by_cases h41 : u < 51
      · exact List.all_eq_true.mp fp_ck_41 u (List.mem_range'_1.mpr (by omega))
      by_cases h51 : u < 61
      · exact List.all_eq_true.mp fp_ck_51 u (List.mem_range'_1.mpr (by omega))
      by_cases h61 : u < 71
      · exact List.all_eq_true.mp fp_ck_61 u (List.mem_range'_1.mpr (by omega))
      by_cases h71 : u < 81
      · exact List.all_eq_true.mp fp_ck_71 u (List.mem_range'_1.mpr (by omega))
      by_cases h81 : u < 91
      · exact List.all_eq_true.mp fp_ck_81 u (List.mem_range'_1.mpr (by omega))
      by_cases h91 : u < 101
      · exact List.all_eq_true.mp fp_ck_91 u (List.mem_range'_1.mpr (by omega))
      by_cases h101 : u < 111
      · exact List.all_eq_true.mp fp_ck_101 u (List.mem_range'_1.mpr (by omega))
      by_cases h111 : u < 121
      · exact List.all_eq_true.mp fp_ck_111 u (List.mem_range'_1.mpr (by omega))
      by_cases h121 : u < 131
      · exact List.all_eq_true.mp fp_ck_121 u (List.mem_range'_1.mpr (by omega))
      by_cases h131 : u < 140
      · exact List.all_eq_true.mp fp_ck_131 u (List.mem_range'_1.mpr (by omega))
      omega
    have h2 := List.all_eq_true.mp hu pc (List.mem_range.mpr (by omega))
    have h3 : fp_codeT u pc = some e := h
    unfold fp_ckP at h2
    rw [h3] at h2
    exact h2
/-- the places of a method's words: its code, static or instanceMethod, selects, initialized -/
def fp_pl : List (Nat × Nat × Nat × Nat) := [(0, 0, 0, 29), (267, 265, 266, 35), (518, 516, 517, 35), (287, 285, 286, 34), (398, 396, 397, 34), (336, 334, 335, 34), (340, 338, 339, 34), (422, 420, 421, 34), (488, 486, 487, 34), (544, 542, 543, 34), (582, 580, 581, 34), (275, 273, 274, 32), (313, 311, 312, 32), (320, 318, 319, 32), (385, 383, 384, 32), (458, 456, 457, 32), (540, 538, 539, 32), (381, 379, 380, 32), (406, 404, 405, 32), (548, 546, 547, 32), (377, 375, 376, 32), (328, 326, 327, 32), (324, 322, 323, 32), (410, 408, 409, 32), (418, 416, 417, 32), (596, 594, 595, 32), (600, 598, 599, 32), (348, 346, 347, 36), (356, 354, 355, 36), (368, 366, 367, 36), (372, 370, 371, 36), (360, 358, 359, 36), (364, 362, 363, 36), (352, 350, 351, 36), (271, 269, 270, 31), (447, 445, 446, 31), (561, 559, 560, 31), (454, 452, 453, 31), (443, 441, 442, 31), (465, 463, 464, 31), (484, 482, 483, 31), (402, 400, 401, 31), (414, 412, 413, 31), (430, 428, 429, 31), (282, 280, 281, 33), (301, 299, 300, 33), (263, 261, 262, 33), (293, 291, 292, 33), (469, 467, 468, 33), (473, 471, 472, 33), (592, 590, 591, 33), (256, 254, 255, 30), (297, 295, 296, 30), (305, 303, 304, 30), (309, 307, 308, 30), (332, 330, 331, 30), (344, 342, 343, 30), (394, 392, 393, 30), (426, 424, 425, 30), (436, 434, 435, 30), (493, 491, 492, 30), (498, 496, 497, 30), (506, 504, 505, 30), (510, 508, 509, 30), (514, 512, 513, 30), (522, 520, 521, 30), (526, 524, 525, 30), (530, 528, 529, 30), (535, 533, 534, 30), (553, 551, 552, 30), (557, 555, 556, 30), (565, 563, 564, 30), (569, 567, 568, 30), (574, 572, 573, 30), (578, 576, 577, 30), (588, 586, 587, 30), (390, 389, 0, 30), (259, 258, 0, 30), (316, 315, 0, 30), (439, 438, 0, 30), (450, 449, 0, 30), (476, 475, 0, 30), (480, 479, 0, 30), (635, 634, 0, 37), (670, 669, 5, 37), (658, 657, 4, 37), (716, 715, 12, 37), (643, 642, 2, 37), (639, 638, 1, 37), (708, 707, 11, 37), (673, 672, 0, 37), (650, 649, 0, 37), (684, 683, 0, 37), (728, 727, 15, 37), (812, 811, 25, 37), (756, 755, 20, 37), (724, 723, 14, 37), (732, 731, 16, 37), (720, 719, 13, 37), (740, 739, 17, 37), (764, 763, 22, 37), (647, 646, 3, 37), (632, 630, 631, 37), (654, 652, 653, 37), (662, 660, 661, 37), (666, 664, 665, 37), (681, 680, 6, 37), (677, 675, 676, 37), (700, 699, 9, 37), (696, 695, 8, 37), (704, 703, 10, 37), (692, 691, 7, 37), (688, 686, 687, 37), (712, 710, 711, 37), (736, 734, 735, 37), (752, 751, 19, 37), (748, 747, 18, 37), (760, 759, 21, 37), (744, 742, 743, 37), (768, 766, 767, 37), (772, 770, 771, 37), (776, 774, 775, 37), (780, 778, 779, 37), (784, 782, 783, 37), (788, 786, 787, 37), (792, 790, 791, 37), (796, 794, 795, 37), (804, 803, 23, 37), (808, 807, 24, 37), (800, 798, 799, 37), (816, 814, 815, 37), (824, 823, 26, 37), (820, 818, 819, 37), (828, 826, 827, 37), (836, 835, 27, 37), (832, 830, 831, 37), (840, 838, 839, 37), (844, 842, 843, 37), (852, 851, 28, 37), (848, 846, 847, 37)]
def fp_chkM (u : Nat) : Bool := match fp_M[u]?, fp_pl[u]? with
  | some (ci, y, _, n, r, s), some (_, p2, p3, p4) => decide (y.cls = fp_rx ci) && plainName y.cls && decide (y.cls ≠ "java/lang/invoke/MethodHandle") && decide (y.cls ≠ "java/lang/invoke/VarHandle") && decide (n ≤ 13) && decide (ci ≤ 8) && decide (fp_nlL[u]? = some n) && decide (lw_tbl[p4]? = some (.initialized y.cls)) && goodWord (.initialized y.cls) &&
    (bif Nat.beq u 0 then true else decide (ci < 8) && (bif s then decide (lw_tbl[p2]? = some (.static y)) && goodWord (.static y) else decide (lw_tbl[p2]? = some (.instanceMethod y)) && goodWord (.instanceMethod y) && decide (lw_tbl[p3]? = some (.selects y.cls y y)) && goodWord (.selects y.cls y y)) && (decide (r = none) || decide (r = some .int) || decide (r = some .boolean)))
  | _, _ => false
set_option maxRecDepth 100000 in
theorem fp_ckM : (List.range 140).all fp_chkM = true := by decide +kernel
set_option maxRecDepth 100000 in
theorem fp_ckW : (fp_M.drop 1).map (fun q => some (Cond.code q.2.1 q.2.2.1 q.2.2.2.1 q.2.2.2.2.1)) = (fp_pl.drop 1).map (fun q => lw_tbl[q.1]?) := by rfl
theorem fp_lenM : fp_M.length = 140 := by decide +kernel
theorem fp_lenP : fp_pl.length = 140 := by decide +kernel
theorem fp_wac : Cond.static arraycopyName ∈ fp_tb ∧ Cond.native arraycopyName ∈ fp_tb ∧ Cond.initialized "java/lang/System" ∈ fp_tb := ⟨fp_in (i := 277) (by decide +kernel) (by decide +kernel), fp_in (i := 278) (by decide +kernel) (by decide +kernel), fp_in (i := 38) (by decide +kernel) (by decide +kernel)⟩
theorem fp_wmm : Cond.static Lib.Math.max.name ∈ fp_tb ∧ Cond.code Lib.Math.max.name Lib.Math.max.code 2 (some .int) ∈ fp_tb ∧ Cond.initialized "java/lang/Math" ∈ fp_tb := ⟨fp_in (i := 460) (by decide +kernel) (by decide +kernel), fp_in (i := 461) (by rfl) (by decide +kernel), fp_in (i := 39) (by decide +kernel) (by decide +kernel)⟩
set_option maxRecDepth 100000 in
theorem fp_u0 : wsX00.all (fun w => decide (w ∈ fp_tb)) = true := by decide +kernel
set_option maxRecDepth 100000 in
theorem fp_u1 : wsX10.all (fun w => decide (w ∈ fp_tb)) = true := by decide +kernel
set_option maxRecDepth 100000 in
theorem fp_u2 : wsX20.all (fun w => decide (w ∈ fp_tb)) = true := by decide +kernel
set_option maxRecDepth 100000 in
theorem fp_u3 : wsX30.all (fun w => decide (w ∈ fp_tb)) = true := by decide +kernel
set_option maxRecDepth 100000 in
theorem fp_u4 : wsX40.all (fun w => decide (w ∈ fp_tb)) = true := by decide +kernel
set_option maxRecDepth 100000 in
theorem fp_u5 : wsX50.all (fun w => decide (w ∈ fp_tb)) = true := by decide +kernel
set_option maxRecDepth 100000 in
theorem fp_u6 : wsX60.all (fun w => decide (w ∈ fp_tb)) = true := by decide +kernel
set_option maxRecDepth 100000 in
theorem fp_u7 : wsX70.all (fun w => decide (w ∈ fp_tb)) = true := by decide +kernel
