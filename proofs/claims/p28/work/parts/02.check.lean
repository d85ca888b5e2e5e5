/-- the links of a nest mate's private methods -/
def fp_nw : List Cond := [.methodLinkNest RX4 76 yX6_layersOf RX6, .methodLinkNest RX4 104 yX6_leftLayersOf RX6, .methodLinkNest RX4 110 yX6_rightLayersOf RX6]
def fp_rx (k : Nat) : String := [RX0, RX1, RX2, RX3, RX4, RX5, RX6, RL].getD k ""
def fp_chkF (own : String) (idx a b w : Nat) : Bool := match fp_cl[a]? with
  | some (C, T, N) => decide (b < N) && decide ((T b).1 = C) && decide (lw_tbl[w]? = some (.fieldLink own idx C (T b).2.1 (T b).2.2.1)) && goodWord (.fieldLink own idx C (T b).2.1 (T b).2.2.1)
  | none => false
def fp_chkP (a b : Nat) : Bool := match fp_cl[a]? with
  | some (_, T, _) => decide ((T b).2.2.2 = false) && (bif (Nat.beq a 6 && Nat.beq b 3) || (Nat.beq a 7 && Nat.beq b 2) then decide ((T b).2.2.1 = "Z") else decide ((T b).2.2.1 = "I"))
  | none => false
def fp_chkC (own : String) (idx a b w tg : Nat) (stat : Bool) : Bool := match fp_M[a]? with
  | some (_, y, _, n, _, s) => (s == stat) && decide (1 ≤ a) && decide (b ≤ n) && (bif Nat.beq tg 0 then decide (lw_tbl[w]? = some (.methodLink own idx y)) && goodWord (.methodLink own idx y) && (!stat || decide (y.cls = own)) else stat && decide (Cond.methodLinkNest own idx y RX6 ∈ fp_nw)) && decide ((parseMethodDescriptor y.desc).map (fun d => d.parameters.length) = some (bif stat then b else b - 1)) && (stat || decide (1 ≤ b))
  | none => false
def fp_chkI (ci n : Nat) (r : Option FieldType) (pc : Nat) (e : FpE) : Bool :=
  let own := fp_rx ci
  match e with
  | (i, nx, tg, a, b, w) => match i with
    | .aload _ | .iload _ => decide (nx = pc + 2)
    | .bipush z => decide (nx = pc + 2) && decide (-128 ≤ z) && decide (z ≤ 127)
    | .sipush z => decide (nx = pc + 3) && decide (-32768 ≤ z) && decide (z ≤ 32767)
    | .ldc idx => decide (nx = pc + 2) && ((decide (a = 1) && decide (lw_tbl[w]? = some (.constant own idx 49193)) && goodWord (.constant own idx 49193)) || (decide (a = 2) && decide (lw_tbl[w]? = some (.constant own idx 2147483647)) && goodWord (.constant own idx 2147483647)))
    | .iconst z => decide (nx = pc + 1) && decide (-1 ≤ z) && decide (z ≤ 5)
    | .istore_n k | .astore_n k => decide (nx = pc + 1) && decide (k.val < n)
    | .istore k | .astore k => decide (nx = pc + 2) && decide (k < n)
    | .iinc k _ => decide (nx = pc + 3) && decide (k < n)
    | .goto off | .ifCond _ off | .if_icmp _ off => decide (nx = pc + 3) && decide ((pc : Int) + off = (tg : Int))
    | .getfield idx => decide (nx = pc + 3) && fp_chkF own idx a b w
    | .putfield idx => decide (nx = pc + 3) && fp_chkF own idx a b w && fp_chkP a b
    | .invokevirtual idx => decide (nx = pc + 3) && fp_chkC own idx a b w 0 false && decide ((fp_M[a]?).map (fun q => q.1) = some tg)
    | .invokestatic idx => decide (nx = pc + 3) && (bif Nat.beq a 900 then decide (lw_tbl[w]? = some (.methodLink own idx arraycopyName)) && goodWord (.methodLink own idx arraycopyName)
        else bif Nat.beq a 901 then decide (lw_tbl[w]? = some (.methodLink own idx Lib.Math.max.name)) && goodWord (.methodLink own idx Lib.Math.max.name) else fp_chkC own idx a b w tg true)
    | .getstatic idx => decide (nx = pc + 3) && ((decide (a = 27) && decide (lw_tbl[w]? = some (.fieldLink own idx RX6 "LEAST_SETTING" "[I")) && goodWord (.fieldLink own idx RX6 "LEAST_SETTING" "[I")) || (decide (a = 28) && decide (lw_tbl[w]? = some (.fieldLink own idx RX6 "MOST_SETTING" "[I")) && goodWord (.fieldLink own idx RX6 "MOST_SETTING" "[I")))
    | .ireturn => decide (nx = pc + 1) && ((decide (b = 0) && decide (r = some .int)) || (decide (b = 1) && decide (r = some .boolean)))
    | .return_ => decide (nx = pc + 1) && decide (r = none)
    | .tableswitch df lo hi offs => decide ((pc : Int) + df = (tg : Int)) && decide (hi = lo + ((fp_sw.getD a []).length : Int) - 1) && (List.range (fp_sw.getD a []).length).all (fun k => decide ((offs[k]?).map (fun o => (pc : Int) + o) = some (((fp_sw.getD a []).getD k 0 : Nat) : Int)))
    | _ => decide (nx = pc + 1)
def fp_chk (u pc : Nat) (e : FpE) : Bool := match fp_M[u]? with
  | some (ci, _, c, n, r, _) => decide (decode c pc = .ok (e.1, e.2.1 - pc)) && decide (pc < e.2.1) && fp_chkI ci n r pc e
  | none => false
def fp_ckP (u pc : Nat) : Bool := match fp_codeT u pc with
  | some e => fp_chk u pc e
  | none => true
def fp_ckU (u : Nat) : Bool := (List.range 1301).all (fp_ckP u)
set_option maxRecDepth 100000 in
theorem fp_cl0_0 : (List.range' 0 13).all (fp_ckP 0) = true := by decide +kernel
set_option maxRecDepth 100000 in
theorem fp_cl0_13 : (List.range' 13 13).all (fp_ckP 0) = true := by decide +kernel
set_option maxRecDepth 100000 in
theorem fp_cl0_26 : (List.range' 26 13).all (fp_ckP 0) = true := by decide +kernel
set_option maxRecDepth 100000 in
theorem fp_cl0_39 : (List.range' 39 13).all (fp_ckP 0) = true := by decide +kernel
set_option maxRecDepth 100000 in
theorem fp_cl0_52 : (List.range' 52 13).all (fp_ckP 0) = true := by decide +kernel
set_option maxRecDepth 100000 in
theorem fp_cl0_65 : (List.range' 65 13).all (fp_ckP 0) = true := by decide +kernel
set_option maxRecDepth 100000 in
theorem fp_cl0_78 : (List.range' 78 13).all (fp_ckP 0) = true := by decide +kernel
set_option maxRecDepth 100000 in
theorem fp_cl0_91 : (List.range' 91 13).all (fp_ckP 0) = true := by decide +kernel
set_option maxRecDepth 100000 in
theorem fp_cl0_104 : (List.range' 104 13).all (fp_ckP 0) = true := by decide +kernel
set_option maxRecDepth 100000 in
theorem fp_cl0_117 : (List.range' 117 13).all (fp_ckP 0) = true := by decide +kernel
set_option maxRecDepth 100000 in
theorem fp_cl0_130 : (List.range' 130 13).all (fp_ckP 0) = true := by decide +kernel
set_option maxRecDepth 100000 in
theorem fp_cl0_143 : (List.range' 143 13).all (fp_ckP 0) = true := by decide +kernel
set_option maxRecDepth 100000 in
theorem fp_cl0_156 : (List.range' 156 13).all (fp_ckP 0) = true := by decide +kernel
set_option maxRecDepth 100000 in
theorem fp_cl0_169 : (List.range' 169 13).all (fp_ckP 0) = true := by decide +kernel
set_option maxRecDepth 100000 in
theorem fp_cl0_182 : (List.range' 182 13).all (fp_ckP 0) = true := by decide +kernel
set_option maxRecDepth 100000 in
theorem fp_cl0_195 : (List.range' 195 13).all (fp_ckP 0) = true := by decide +kernel
set_option maxRecDepth 100000 in
theorem fp_cl0_208 : (List.range' 208 13).all (fp_ckP 0) = true := by decide +kernel
set_option maxRecDepth 100000 in
theorem fp_cl0_221 : (List.range' 221 13).all (fp_ckP 0) = true := by decide +kernel
set_option maxRecDepth 100000 in
theorem fp_cl0_234 : (List.range' 234 13).all (fp_ckP 0) = true := by decide +kernel
set_option maxRecDepth 100000 in
theorem fp_cl0_247 : (List.range' 247 13).all (fp_ckP 0) = true := by decide +kernel
set_option maxRecDepth 100000 in
theorem fp_cl0_260 : (List.range' 260 13).all (fp_ckP 0) = true := by decide +kernel
set_option maxRecDepth 100000 in
theorem fp_cl0_273 : (List.range' 273 13).all (fp_ckP 0) = true := by decide +kernel
set_option maxRecDepth 100000 in
theorem fp_cl0_286 : (List.range' 286 13).all (fp_ckP 0) = true := by decide +kernel
set_option maxRecDepth 100000 in
theorem fp_cl0_299 : (List.range' 299 13).all (fp_ckP 0) = true := by decide +kernel
set_option maxRecDepth 100000 in
theorem fp_cl0_312 : (List.range' 312 13).all (fp_ckP 0) = true := by decide +kernel
set_option maxRecDepth 100000 in
theorem fp_cl0_325 : (List.range' 325 13).all (fp_ckP 0) = true := by decide +kernel
set_option maxRecDepth 100000 in
theorem fp_cl0_338 : (List.range' 338 13).all (fp_ckP 0) = true := by decide +kernel
set_option maxRecDepth 100000 in
theorem fp_cl0_351 : (List.range' 351 13).all (fp_ckP 0) = true := by decide +kernel
set_option maxRecDepth 100000 in
theorem fp_cl0_364 : (List.range' 364 13).all (fp_ckP 0) = true := by decide +kernel
set_option maxRecDepth 100000 in
theorem fp_cl0_377 : (List.range' 377 13).all (fp_ckP 0) = true := by decide +kernel
set_option maxRecDepth 100000 in
theorem fp_cl0_390 : (List.range' 390 13).all (fp_ckP 0) = true := by decide +kernel
set_option maxRecDepth 100000 in
theorem fp_cl0_403 : (List.range' 403 13).all (fp_ckP 0) = true := by decide +kernel
set_option maxRecDepth 100000 in
theorem fp_cl0_416 : (List.range' 416 13).all (fp_ckP 0) = true := by decide +kernel
set_option maxRecDepth 100000 in
theorem fp_cl0_429 : (List.range' 429 13).all (fp_ckP 0) = true := by decide +kernel
set_option maxRecDepth 100000 in
theorem fp_cl0_442 : (List.range' 442 13).all (fp_ckP 0) = true := by decide +kernel
set_option maxRecDepth 100000 in
theorem fp_cl0_455 : (List.range' 455 13).all (fp_ckP 0) = true := by decide +kernel
set_option maxRecDepth 100000 in
theorem fp_cl0_468 : (List.range' 468 13).all (fp_ckP 0) = true := by decide +kernel
set_option maxRecDepth 100000 in
theorem fp_cl0_481 : (List.range' 481 13).all (fp_ckP 0) = true := by decide +kernel
set_option maxRecDepth 100000 in
theorem fp_cl0_494 : (List.range' 494 13).all (fp_ckP 0) = true := by decide +kernel
set_option maxRecDepth 100000 in
theorem fp_cl0_507 : (List.range' 507 13).all (fp_ckP 0) = true := by decide +kernel
set_option maxRecDepth 100000 in
theorem fp_cl0_520 : (List.range' 520 13).all (fp_ckP 0) = true := by decide +kernel
set_option maxRecDepth 100000 in
theorem fp_cl0_533 : (List.range' 533 13).all (fp_ckP 0) = true := by decide +kernel
set_option maxRecDepth 100000 in
theorem fp_cl0_546 : (List.range' 546 13).all (fp_ckP 0) = true := by decide +kernel
set_option maxRecDepth 100000 in
theorem fp_cl0_559 : (List.range' 559 13).all (fp_ckP 0) = true := by decide +kernel
set_option maxRecDepth 100000 in
theorem fp_cl0_572 : (List.range' 572 13).all (fp_ckP 0) = true := by decide +kernel
set_option maxRecDepth 100000 in
theorem fp_cl0_585 : (List.range' 585 13).all (fp_ckP 0) = true := by decide +kernel
set_option maxRecDepth 100000 in
theorem fp_cl0_598 : (List.range' 598 13).all (fp_ckP 0) = true := by decide +kernel
set_option maxRecDepth 100000 in
theorem fp_cl0_611 : (List.range' 611 13).all (fp_ckP 0) = true := by decide +kernel
set_option maxRecDepth 100000 in
theorem fp_cl0_624 : (List.range' 624 13).all (fp_ckP 0) = true := by decide +kernel
set_option maxRecDepth 100000 in
theorem fp_cl0_637 : (List.range' 637 13).all (fp_ckP 0) = true := by decide +kernel
set_option maxRecDepth 100000 in
theorem fp_cl0_650 : (List.range' 650 13).all (fp_ckP 0) = true := by decide +kernel
set_option maxRecDepth 100000 in
theorem fp_cl0_663 : (List.range' 663 13).all (fp_ckP 0) = true := by decide +kernel
set_option maxRecDepth 100000 in
theorem fp_cl0_676 : (List.range' 676 13).all (fp_ckP 0) = true := by decide +kernel
set_option maxRecDepth 100000 in
theorem fp_cl0_689 : (List.range' 689 13).all (fp_ckP 0) = true := by decide +kernel
set_option maxRecDepth 100000 in
theorem fp_cl0_702 : (List.range' 702 13).all (fp_ckP 0) = true := by decide +kernel
set_option maxRecDepth 100000 in
theorem fp_cl0_715 : (List.range' 715 13).all (fp_ckP 0) = true := by decide +kernel
set_option maxRecDepth 100000 in
theorem fp_cl0_728 : (List.range' 728 13).all (fp_ckP 0) = true := by decide +kernel
set_option maxRecDepth 100000 in
theorem fp_cl0_741 : (List.range' 741 13).all (fp_ckP 0) = true := by decide +kernel
set_option maxRecDepth 100000 in
theorem fp_cl0_754 : (List.range' 754 13).all (fp_ckP 0) = true := by decide +kernel
set_option maxRecDepth 100000 in
theorem fp_cl0_767 : (List.range' 767 13).all (fp_ckP 0) = true := by decide +kernel
set_option maxRecDepth 100000 in
theorem fp_cl0_780 : (List.range' 780 13).all (fp_ckP 0) = true := by decide +kernel
set_option maxRecDepth 100000 in
theorem fp_cl0_793 : (List.range' 793 13).all (fp_ckP 0) = true := by decide +kernel
set_option maxRecDepth 100000 in
theorem fp_cl0_806 : (List.range' 806 13).all (fp_ckP 0) = true := by decide +kernel
set_option maxRecDepth 100000 in
theorem fp_cl0_819 : (List.range' 819 13).all (fp_ckP 0) = true := by decide +kernel
set_option maxRecDepth 100000 in
theorem fp_cl0_832 : (List.range' 832 13).all (fp_ckP 0) = true := by decide +kernel
set_option maxRecDepth 100000 in
theorem fp_cl0_845 : (List.range' 845 13).all (fp_ckP 0) = true := by decide +kernel
set_option maxRecDepth 100000 in
theorem fp_cl0_858 : (List.range' 858 13).all (fp_ckP 0) = true := by decide +kernel
set_option maxRecDepth 100000 in
theorem fp_cl0_871 : (List.range' 871 13).all (fp_ckP 0) = true := by decide +kernel
set_option maxRecDepth 100000 in
theorem fp_cl0_884 : (List.range' 884 13).all (fp_ckP 0) = true := by decide +kernel
set_option maxRecDepth 100000 in
theorem fp_cl0_897 : (List.range' 897 13).all (fp_ckP 0) = true := by decide +kernel
set_option maxRecDepth 100000 in
theorem fp_cl0_910 : (List.range' 910 13).all (fp_ckP 0) = true := by decide +kernel
set_option maxRecDepth 100000 in
theorem fp_cl0_923 : (List.range' 923 13).all (fp_ckP 0) = true := by decide +kernel
set_option maxRecDepth 100000 in
theorem fp_cl0_936 : (List.range' 936 13).all (fp_ckP 0) = true := by decide +kernel
set_option maxRecDepth 100000 in
theorem fp_cl0_949 : (List.range' 949 13).all (fp_ckP 0) = true := by decide +kernel
set_option maxRecDepth 100000 in
theorem fp_cl0_962 : (List.range' 962 13).all (fp_ckP 0) = true := by decide +kernel
set_option maxRecDepth 100000 in
theorem fp_cl0_975 : (List.range' 975 13).all (fp_ckP 0) = true := by decide +kernel
set_option maxRecDepth 100000 in
theorem fp_cl0_988 : (List.range' 988 13).all (fp_ckP 0) = true := by decide +kernel
set_option maxRecDepth 100000 in
theorem fp_cl0_1001 : (List.range' 1001 13).all (fp_ckP 0) = true := by decide +kernel
set_option maxRecDepth 100000 in
theorem fp_cl0_1014 : (List.range' 1014 13).all (fp_ckP 0) = true := by decide +kernel
set_option maxRecDepth 100000 in
theorem fp_cl0_1027 : (List.range' 1027 13).all (fp_ckP 0) = true := by decide +kernel
set_option maxRecDepth 100000 in
theorem fp_cl0_1040 : (List.range' 1040 13).all (fp_ckP 0) = true := by decide +kernel
set_option maxRecDepth 100000 in
theorem fp_cl0_1053 : (List.range' 1053 13).all (fp_ckP 0) = true := by decide +kernel
set_option maxRecDepth 100000 in
theorem fp_cl0_1066 : (List.range' 1066 13).all (fp_ckP 0) = true := by decide +kernel
set_option maxRecDepth 100000 in
theorem fp_cl0_1079 : (List.range' 1079 13).all (fp_ckP 0) = true := by decide +kernel
set_option maxRecDepth 100000 in
theorem fp_cl0_1092 : (List.range' 1092 13).all (fp_ckP 0) = true := by decide +kernel
set_option maxRecDepth 100000 in
theorem fp_cl0_1105 : (List.range' 1105 13).all (fp_ckP 0) = true := by decide +kernel
set_option maxRecDepth 100000 in
theorem fp_cl0_1118 : (List.range' 1118 13).all (fp_ckP 0) = true := by decide +kernel
set_option maxRecDepth 100000 in
theorem fp_cl0_1131 : (List.range' 1131 13).all (fp_ckP 0) = true := by decide +kernel
set_option maxRecDepth 100000 in
theorem fp_cl0_1144 : (List.range' 1144 13).all (fp_ckP 0) = true := by decide +kernel
set_option maxRecDepth 100000 in
theorem fp_cl0_1157 : (List.range' 1157 13).all (fp_ckP 0) = true := by decide +kernel
set_option maxRecDepth 100000 in
theorem fp_cl0_1170 : (List.range' 1170 13).all (fp_ckP 0) = true := by decide +kernel
set_option maxRecDepth 100000 in
theorem fp_cl0_1183 : (List.range' 1183 13).all (fp_ckP 0) = true := by decide +kernel
set_option maxRecDepth 100000 in
theorem fp_cl0_1196 : (List.range' 1196 13).all (fp_ckP 0) = true := by decide +kernel
set_option maxRecDepth 100000 in
theorem fp_cl0_1209 : (List.range' 1209 13).all (fp_ckP 0) = true := by decide +kernel
set_option maxRecDepth 100000 in
theorem fp_cl0_1222 : (List.range' 1222 13).all (fp_ckP 0) = true := by decide +kernel
set_option maxRecDepth 100000 in
theorem fp_cl0_r : (List.range' 1235 66).all (fun pc => (fp_codeT 0 pc).isNone) = true := by decide +kernel
set_option maxRecDepth 100000 in
theorem fp_cl84_0 : (List.range' 0 13).all (fp_ckP 84) = true := by decide +kernel
set_option maxRecDepth 100000 in
theorem fp_cl84_13 : (List.range' 13 13).all (fp_ckP 84) = true := by decide +kernel
set_option maxRecDepth 100000 in
theorem fp_cl84_26 : (List.range' 26 13).all (fp_ckP 84) = true := by decide +kernel
set_option maxRecDepth 100000 in
theorem fp_cl84_39 : (List.range' 39 13).all (fp_ckP 84) = true := by decide +kernel
set_option maxRecDepth 100000 in
theorem fp_cl84_52 : (List.range' 52 13).all (fp_ckP 84) = true := by decide +kernel
set_option maxRecDepth 100000 in
theorem fp_cl84_65 : (List.range' 65 13).all (fp_ckP 84) = true := by decide +kernel
set_option maxRecDepth 100000 in
theorem fp_cl84_78 : (List.range' 78 13).all (fp_ckP 84) = true := by decide +kernel
set_option maxRecDepth 100000 in
theorem fp_cl84_91 : (List.range' 91 13).all (fp_ckP 84) = true := by decide +kernel
set_option maxRecDepth 100000 in
theorem fp_cl84_104 : (List.range' 104 13).all (fp_ckP 84) = true := by decide +kernel
set_option maxRecDepth 100000 in
theorem fp_cl84_117 : (List.range' 117 13).all (fp_ckP 84) = true := by decide +kernel
set_option maxRecDepth 100000 in
theorem fp_cl84_130 : (List.range' 130 13).all (fp_ckP 84) = true := by decide +kernel
set_option maxRecDepth 100000 in
theorem fp_cl84_143 : (List.range' 143 13).all (fp_ckP 84) = true := by decide +kernel
set_option maxRecDepth 100000 in
theorem fp_cl84_156 : (List.range' 156 13).all (fp_ckP 84) = true := by decide +kernel
set_option maxRecDepth 100000 in
theorem fp_cl84_169 : (List.range' 169 13).all (fp_ckP 84) = true := by decide +kernel
set_option maxRecDepth 100000 in
theorem fp_cl84_182 : (List.range' 182 13).all (fp_ckP 84) = true := by decide +kernel
set_option maxRecDepth 100000 in
theorem fp_cl84_195 : (List.range' 195 13).all (fp_ckP 84) = true := by decide +kernel
set_option maxRecDepth 100000 in
theorem fp_cl84_208 : (List.range' 208 13).all (fp_ckP 84) = true := by decide +kernel
set_option maxRecDepth 100000 in
theorem fp_cl84_221 : (List.range' 221 13).all (fp_ckP 84) = true := by decide +kernel
set_option maxRecDepth 100000 in
theorem fp_cl84_234 : (List.range' 234 13).all (fp_ckP 84) = true := by decide +kernel
set_option maxRecDepth 100000 in
theorem fp_cl84_247 : (List.range' 247 13).all (fp_ckP 84) = true := by decide +kernel
set_option maxRecDepth 100000 in
theorem fp_cl84_260 : (List.range' 260 13).all (fp_ckP 84) = true := by decide +kernel
set_option maxRecDepth 100000 in
theorem fp_cl84_273 : (List.range' 273 13).all (fp_ckP 84) = true := by decide +kernel
set_option maxRecDepth 100000 in
theorem fp_cl84_286 : (List.range' 286 13).all (fp_ckP 84) = true := by decide +kernel
set_option maxRecDepth 100000 in
theorem fp_cl84_299 : (List.range' 299 13).all (fp_ckP 84) = true := by decide +kernel
set_option maxRecDepth 100000 in
theorem fp_cl84_312 : (List.range' 312 13).all (fp_ckP 84) = true := by decide +kernel
set_option maxRecDepth 100000 in
theorem fp_cl84_325 : (List.range' 325 13).all (fp_ckP 84) = true := by decide +kernel
set_option maxRecDepth 100000 in
theorem fp_cl84_338 : (List.range' 338 13).all (fp_ckP 84) = true := by decide +kernel
set_option maxRecDepth 100000 in
theorem fp_cl84_351 : (List.range' 351 13).all (fp_ckP 84) = true := by decide +kernel
set_option maxRecDepth 100000 in
theorem fp_cl84_364 : (List.range' 364 13).all (fp_ckP 84) = true := by decide +kernel
set_option maxRecDepth 100000 in
theorem fp_cl84_377 : (List.range' 377 13).all (fp_ckP 84) = true := by decide +kernel
set_option maxRecDepth 100000 in
theorem fp_cl84_390 : (List.range' 390 13).all (fp_ckP 84) = true := by decide +kernel
set_option maxRecDepth 100000 in
theorem fp_cl84_403 : (List.range' 403 13).all (fp_ckP 84) = true := by decide +kernel
set_option maxRecDepth 100000 in
theorem fp_cl84_416 : (List.range' 416 13).all (fp_ckP 84) = true := by decide +kernel
set_option maxRecDepth 100000 in
theorem fp_cl84_429 : (List.range' 429 13).all (fp_ckP 84) = true := by decide +kernel
set_option maxRecDepth 100000 in
theorem fp_cl84_442 : (List.range' 442 13).all (fp_ckP 84) = true := by decide +kernel
set_option maxRecDepth 100000 in
theorem fp_cl84_455 : (List.range' 455 13).all (fp_ckP 84) = true := by decide +kernel
set_option maxRecDepth 100000 in
theorem fp_cl84_468 : (List.range' 468 13).all (fp_ckP 84) = true := by decide +kernel
set_option maxRecDepth 100000 in
theorem fp_cl84_481 : (List.range' 481 13).all (fp_ckP 84) = true := by decide +kernel
set_option maxRecDepth 100000 in
theorem fp_cl84_494 : (List.range' 494 13).all (fp_ckP 84) = true := by decide +kernel
set_option maxRecDepth 100000 in
theorem fp_cl84_507 : (List.range' 507 13).all (fp_ckP 84) = true := by decide +kernel
set_option maxRecDepth 100000 in
theorem fp_cl84_520 : (List.range' 520 13).all (fp_ckP 84) = true := by decide +kernel
set_option maxRecDepth 100000 in
theorem fp_cl84_533 : (List.range' 533 13).all (fp_ckP 84) = true := by decide +kernel
set_option maxRecDepth 100000 in
theorem fp_cl84_546 : (List.range' 546 13).all (fp_ckP 84) = true := by decide +kernel
set_option maxRecDepth 100000 in
theorem fp_cl84_559 : (List.range' 559 13).all (fp_ckP 84) = true := by decide +kernel
set_option maxRecDepth 100000 in
theorem fp_cl84_572 : (List.range' 572 13).all (fp_ckP 84) = true := by decide +kernel
set_option maxRecDepth 100000 in
theorem fp_cl84_585 : (List.range' 585 13).all (fp_ckP 84) = true := by decide +kernel
set_option maxRecDepth 100000 in
theorem fp_cl84_598 : (List.range' 598 13).all (fp_ckP 84) = true := by decide +kernel
set_option maxRecDepth 100000 in
theorem fp_cl84_611 : (List.range' 611 13).all (fp_ckP 84) = true := by decide +kernel
set_option maxRecDepth 100000 in
theorem fp_cl84_624 : (List.range' 624 13).all (fp_ckP 84) = true := by decide +kernel
set_option maxRecDepth 100000 in
theorem fp_cl84_637 : (List.range' 637 13).all (fp_ckP 84) = true := by decide +kernel
set_option maxRecDepth 100000 in
theorem fp_cl84_650 : (List.range' 650 13).all (fp_ckP 84) = true := by decide +kernel
set_option maxRecDepth 100000 in
theorem fp_cl84_663 : (List.range' 663 13).all (fp_ckP 84) = true := by decide +kernel
set_option maxRecDepth 100000 in
theorem fp_cl84_676 : (List.range' 676 13).all (fp_ckP 84) = true := by decide +kernel
set_option maxRecDepth 100000 in
theorem fp_cl84_689 : (List.range' 689 13).all (fp_ckP 84) = true := by decide +kernel
set_option maxRecDepth 100000 in
theorem fp_cl84_702 : (List.range' 702 13).all (fp_ckP 84) = true := by decide +kernel
set_option maxRecDepth 100000 in
theorem fp_cl84_715 : (List.range' 715 13).all (fp_ckP 84) = true := by decide +kernel
set_option maxRecDepth 100000 in
theorem fp_cl84_728 : (List.range' 728 1).all (fp_ckP 84) = true := by decide +kernel
set_option maxRecDepth 100000 in
theorem fp_cl84_r : (List.range' 729 572).all (fun pc => (fp_codeT 84 pc).isNone) = true := by decide +kernel
set_option maxRecDepth 100000 in
theorem fp_cl85_0 : (List.range' 0 13).all (fp_ckP 85) = true := by decide +kernel
set_option maxRecDepth 100000 in
theorem fp_cl85_13 : (List.range' 13 13).all (fp_ckP 85) = true := by decide +kernel
set_option maxRecDepth 100000 in
theorem fp_cl85_26 : (List.range' 26 13).all (fp_ckP 85) = true := by decide +kernel
set_option maxRecDepth 100000 in
theorem fp_cl85_39 : (List.range' 39 13).all (fp_ckP 85) = true := by decide +kernel
set_option maxRecDepth 100000 in
theorem fp_cl85_52 : (List.range' 52 13).all (fp_ckP 85) = true := by decide +kernel
set_option maxRecDepth 100000 in
theorem fp_cl85_65 : (List.range' 65 13).all (fp_ckP 85) = true := by decide +kernel
set_option maxRecDepth 100000 in
theorem fp_cl85_78 : (List.range' 78 13).all (fp_ckP 85) = true := by decide +kernel
set_option maxRecDepth 100000 in
theorem fp_cl85_91 : (List.range' 91 13).all (fp_ckP 85) = true := by decide +kernel
set_option maxRecDepth 100000 in
theorem fp_cl85_104 : (List.range' 104 13).all (fp_ckP 85) = true := by decide +kernel
set_option maxRecDepth 100000 in
theorem fp_cl85_117 : (List.range' 117 13).all (fp_ckP 85) = true := by decide +kernel
set_option maxRecDepth 100000 in
theorem fp_cl85_130 : (List.range' 130 13).all (fp_ckP 85) = true := by decide +kernel
set_option maxRecDepth 100000 in
theorem fp_cl85_143 : (List.range' 143 13).all (fp_ckP 85) = true := by decide +kernel
set_option maxRecDepth 100000 in
theorem fp_cl85_156 : (List.range' 156 13).all (fp_ckP 85) = true := by decide +kernel
set_option maxRecDepth 100000 in
theorem fp_cl85_169 : (List.range' 169 13).all (fp_ckP 85) = true := by decide +kernel
set_option maxRecDepth 100000 in
theorem fp_cl85_182 : (List.range' 182 13).all (fp_ckP 85) = true := by decide +kernel
set_option maxRecDepth 100000 in
theorem fp_cl85_195 : (List.range' 195 13).all (fp_ckP 85) = true := by decide +kernel
set_option maxRecDepth 100000 in
theorem fp_cl85_208 : (List.range' 208 13).all (fp_ckP 85) = true := by decide +kernel
set_option maxRecDepth 100000 in
theorem fp_cl85_221 : (List.range' 221 13).all (fp_ckP 85) = true := by decide +kernel
set_option maxRecDepth 100000 in
theorem fp_cl85_234 : (List.range' 234 13).all (fp_ckP 85) = true := by decide +kernel
set_option maxRecDepth 100000 in
theorem fp_cl85_247 : (List.range' 247 13).all (fp_ckP 85) = true := by decide +kernel
set_option maxRecDepth 100000 in
theorem fp_cl85_260 : (List.range' 260 13).all (fp_ckP 85) = true := by decide +kernel
set_option maxRecDepth 100000 in
theorem fp_cl85_273 : (List.range' 273 13).all (fp_ckP 85) = true := by decide +kernel
set_option maxRecDepth 100000 in
theorem fp_cl85_286 : (List.range' 286 13).all (fp_ckP 85) = true := by decide +kernel
set_option maxRecDepth 100000 in
theorem fp_cl85_299 : (List.range' 299 13).all (fp_ckP 85) = true := by decide +kernel
set_option maxRecDepth 100000 in
theorem fp_cl85_312 : (List.range' 312 13).all (fp_ckP 85) = true := by decide +kernel
set_option maxRecDepth 100000 in
theorem fp_cl85_325 : (List.range' 325 13).all (fp_ckP 85) = true := by decide +kernel
set_option maxRecDepth 100000 in
theorem fp_cl85_338 : (List.range' 338 13).all (fp_ckP 85) = true := by decide +kernel
set_option maxRecDepth 100000 in
theorem fp_cl85_351 : (List.range' 351 13).all (fp_ckP 85) = true := by decide +kernel
set_option maxRecDepth 100000 in
theorem fp_cl85_364 : (List.range' 364 13).all (fp_ckP 85) = true := by decide +kernel
set_option maxRecDepth 100000 in
theorem fp_cl85_377 : (List.range' 377 13).all (fp_ckP 85) = true := by decide +kernel
set_option maxRecDepth 100000 in
theorem fp_cl85_390 : (List.range' 390 13).all (fp_ckP 85) = true := by decide +kernel
set_option maxRecDepth 100000 in
theorem fp_cl85_403 : (List.range' 403 13).all (fp_ckP 85) = true := by decide +kernel
set_option maxRecDepth 100000 in
theorem fp_cl85_416 : (List.range' 416 6).all (fp_ckP 85) = true := by decide +kernel
set_option maxRecDepth 100000 in
theorem fp_cl85_r : (List.range' 422 879).all (fun pc => (fp_codeT 85 pc).isNone) = true := by decide +kernel
set_option maxRecDepth 100000 in
theorem fp_ck_1 : (List.range' 1 10).all fp_ckU = true := by decide +kernel
set_option maxRecDepth 100000 in
theorem fp_ck_11 : (List.range' 11 10).all fp_ckU = true := by decide +kernel
set_option maxRecDepth 100000 in
theorem fp_ck_21 : (List.range' 21 10).all fp_ckU = true := by decide +kernel
set_option maxRecDepth 100000 in
theorem fp_ck_31 : (List.range' 31 10).all fp_ckU = true := by decide +kernel
set_option maxRecDepth 100000 in
theorem fp_ck_41 : (List.range' 41 10).all fp_ckU = true := by decide +kernel
set_option maxRecDepth 100000 in
theorem fp_ck_51 : (List.range' 51 10).all fp_ckU = true := by decide +kernel
set_option maxRecDepth 100000 in
theorem fp_ck_61 : (List.range' 61 10).all fp_ckU = true := by decide +kernel
set_option maxRecDepth 100000 in
theorem fp_ck_71 : (List.range' 71 10).all fp_ckU = true := by decide +kernel
set_option maxRecDepth 100000 in
theorem fp_ck_81 : (List.range' 81 3).all fp_ckU = true := by decide +kernel
theorem fp_ckb_0 : fp_ckU 0 = true := by
  refine List.all_eq_true.mpr (fun pc h => ?_)
  have h := List.mem_range.mp h
  by_cases h0 : pc < 13
  · exact List.all_eq_true.mp fp_cl0_0 pc (List.mem_range'_1.mpr (by omega))
  by_cases h13 : pc < 26
  · exact List.all_eq_true.mp fp_cl0_13 pc (List.mem_range'_1.mpr (by omega))
  by_cases h26 : pc < 39
  · exact List.all_eq_true.mp fp_cl0_26 pc (List.mem_range'_1.mpr (by omega))
  by_cases h39 : pc < 52
  · exact List.all_eq_true.mp fp_cl0_39 pc (List.mem_range'_1.mpr (by omega))
  by_cases h52 : pc < 65
  · exact List.all_eq_true.mp fp_cl0_52 pc (List.mem_range'_1.mpr (by omega))
  by_cases h65 : pc < 78
  · exact List.all_eq_true.mp fp_cl0_65 pc (List.mem_range'_1.mpr (by omega))
  by_cases h78 : pc < 91
  · exact List.all_eq_true.mp fp_cl0_78 pc (List.mem_range'_1.mpr (by omega))
  by_cases h91 : pc < 104
  · exact List.all_eq_true.mp fp_cl0_91 pc (List.mem_range'_1.mpr (by omega))
  by_cases h104 : pc < 117
  · exact List.all_eq_true.mp fp_cl0_104 pc (List.mem_range'_1.mpr (by omega))
  by_cases h117 : pc < 130
  · exact List.all_eq_true.mp fp_cl0_117 pc (List.mem_range'_1.mpr (by omega))
  by_cases h130 : pc < 143
  · exact List.all_eq_true.mp fp_cl0_130 pc (List.mem_range'_1.mpr (by omega))
  by_cases h143 : pc < 156
  · exact List.all_eq_true.mp fp_cl0_143 pc (List.mem_range'_1.mpr (by omega))
  by_cases h156 : pc < 169
  · exact List.all_eq_true.mp fp_cl0_156 pc (List.mem_range'_1.mpr (by omega))
  by_cases h169 : pc < 182
  · exact List.all_eq_true.mp fp_cl0_169 pc (List.mem_range'_1.mpr (by omega))
  by_cases h182 : pc < 195
  · exact List.all_eq_true.mp fp_cl0_182 pc (List.mem_range'_1.mpr (by omega))
  by_cases h195 : pc < 208
  · exact List.all_eq_true.mp fp_cl0_195 pc (List.mem_range'_1.mpr (by omega))
  by_cases h208 : pc < 221
  · exact List.all_eq_true.mp fp_cl0_208 pc (List.mem_range'_1.mpr (by omega))
  by_cases h221 : pc < 234
  · exact List.all_eq_true.mp fp_cl0_221 pc (List.mem_range'_1.mpr (by omega))
  by_cases h234 : pc < 247
  · exact List.all_eq_true.mp fp_cl0_234 pc (List.mem_range'_1.mpr (by omega))
  by_cases h247 : pc < 260
  · exact List.all_eq_true.mp fp_cl0_247 pc (List.mem_range'_1.mpr (by omega))
  by_cases h260 : pc < 273
  · exact List.all_eq_true.mp fp_cl0_260 pc (List.mem_range'_1.mpr (by omega))
  by_cases h273 : pc < 286
  · exact List.all_eq_true.mp fp_cl0_273 pc (List.mem_range'_1.mpr (by omega))
  by_cases h286 : pc < 299
  · exact List.all_eq_true.mp fp_cl0_286 pc (List.mem_range'_1.mpr (by omega))
  by_cases h299 : pc < 312
  · exact List.all_eq_true.mp fp_cl0_299 pc (List.mem_range'_1.mpr (by omega))
  by_cases h312 : pc < 325
  · exact List.all_eq_true.mp fp_cl0_312 pc (List.mem_range'_1.mpr (by omega))
  by_cases h325 : pc < 338
  · exact List.all_eq_true.mp fp_cl0_325 pc (List.mem_range'_1.mpr (by omega))
  by_cases h338 : pc < 351
  · exact List.all_eq_true.mp fp_cl0_338 pc (List.mem_range'_1.mpr (by omega))
  by_cases h351 : pc < 364
  · exact List.all_eq_true.mp fp_cl0_351 pc (List.mem_range'_1.mpr (by omega))
  by_cases h364 : pc < 377
  · exact List.all_eq_true.mp fp_cl0_364 pc (List.mem_range'_1.mpr (by omega))
  by_cases h377 : pc < 390
  · exact List.all_eq_true.mp fp_cl0_377 pc (List.mem_range'_1.mpr (by omega))
  by_cases h390 : pc < 403
  · exact List.all_eq_true.mp fp_cl0_390 pc (List.mem_range'_1.mpr (by omega))
  by_cases h403 : pc < 416
  · exact List.all_eq_true.mp fp_cl0_403 pc (List.mem_range'_1.mpr (by omega))
  by_cases h416 : pc < 429
  · exact List.all_eq_true.mp fp_cl0_416 pc (List.mem_range'_1.mpr (by omega))
  by_cases h429 : pc < 442
  · exact List.all_eq_true.mp fp_cl0_429 pc (List.mem_range'_1.mpr (by omega))
  by_cases h442 : pc < 455
  · exact List.all_eq_true.mp fp_cl0_442 pc (List.mem_range'_1.mpr (by omega))
  by_cases h455 : pc < 468
  · exact List.all_eq_true.mp fp_cl0_455 pc (List.mem_range'_1.mpr (by omega))
  by_cases h468 : pc < 481
  · exact List.all_eq_true.mp fp_cl0_468 pc (List.mem_range'_1.mpr (by omega))
  by_cases h481 : pc < 494
  · exact List.all_eq_true.mp fp_cl0_481 pc (List.mem_range'_1.mpr (by omega))
  by_cases h494 : pc < 507
  · exact List.all_eq_true.mp fp_cl0_494 pc (List.mem_range'_1.mpr (by omega))
  by_cases h507 : pc < 520
  · exact List.all_eq_true.mp fp_cl0_507 pc (List.mem_range'_1.mpr (by omega))
  by_cases h520 : pc < 533
  · exact List.all_eq_true.mp fp_cl0_520 pc (List.mem_range'_1.mpr (by omega))
  by_cases h533 : pc < 546
  · exact List.all_eq_true.mp fp_cl0_533 pc (List.mem_range'_1.mpr (by omega))
  by_cases h546 : pc < 559
  · exact List.all_eq_true.mp fp_cl0_546 pc (List.mem_range'_1.mpr (by omega))
  by_cases h559 : pc < 572
  · exact List.all_eq_true.mp fp_cl0_559 pc (List.mem_range'_1.mpr (by omega))
  by_cases h572 : pc < 585
  · exact List.all_eq_true.mp fp_cl0_572 pc (List.mem_range'_1.mpr (by omega))
  by_cases h585 : pc < 598
  · exact List.all_eq_true.mp fp_cl0_585 pc (List.mem_range'_1.mpr (by omega))
  by_cases h598 : pc < 611
  · exact List.all_eq_true.mp fp_cl0_598 pc (List.mem_range'_1.mpr (by omega))
  by_cases h611 : pc < 624
  · exact List.all_eq_true.mp fp_cl0_611 pc (List.mem_range'_1.mpr (by omega))
  by_cases h624 : pc < 637
  · exact List.all_eq_true.mp fp_cl0_624 pc (List.mem_range'_1.mpr (by omega))
  by_cases h637 : pc < 650
  · exact List.all_eq_true.mp fp_cl0_637 pc (List.mem_range'_1.mpr (by omega))
  by_cases h650 : pc < 663
  · exact List.all_eq_true.mp fp_cl0_650 pc (List.mem_range'_1.mpr (by omega))
  by_cases h663 : pc < 676
  · exact List.all_eq_true.mp fp_cl0_663 pc (List.mem_range'_1.mpr (by omega))
  by_cases h676 : pc < 689
  · exact List.all_eq_true.mp fp_cl0_676 pc (List.mem_range'_1.mpr (by omega))
  by_cases h689 : pc < 702
  · exact List.all_eq_true.mp fp_cl0_689 pc (List.mem_range'_1.mpr (by omega))
  by_cases h702 : pc < 715
  · exact List.all_eq_true.mp fp_cl0_702 pc (List.mem_range'_1.mpr (by omega))
  by_cases h715 : pc < 728
  · exact List.all_eq_true.mp fp_cl0_715 pc (List.mem_range'_1.mpr (by omega))
  by_cases h728 : pc < 741
  · exact List.all_eq_true.mp fp_cl0_728 pc (List.mem_range'_1.mpr (by omega))
  by_cases h741 : pc < 754
  · exact List.all_eq_true.mp fp_cl0_741 pc (List.mem_range'_1.mpr (by omega))
  by_cases h754 : pc < 767
  · exact List.all_eq_true.mp fp_cl0_754 pc (List.mem_range'_1.mpr (by omega))
  by_cases h767 : pc < 780
  · exact List.all_eq_true.mp fp_cl0_767 pc (List.mem_range'_1.mpr (by omega))
  by_cases h780 : pc < 793
  · exact List.all_eq_true.mp fp_cl0_780 pc (List.mem_range'_1.mpr (by omega))
  by_cases h793 : pc < 806
  · exact List.all_eq_true.mp fp_cl0_793 pc (List.mem_range'_1.mpr (by omega))
  by_cases h806 : pc < 819
  · exact List.all_eq_true.mp fp_cl0_806 pc (List.mem_range'_1.mpr (by omega))
  by_cases h819 : pc < 832
  · exact List.all_eq_true.mp fp_cl0_819 pc (List.mem_range'_1.mpr (by omega))
  by_cases h832 : pc < 845
  · exact List.all_eq_true.mp fp_cl0_832 pc (List.mem_range'_1.mpr (by omega))
  by_cases h845 : pc < 858
  · exact List.all_eq_true.mp fp_cl0_845 pc (List.mem_range'_1.mpr (by omega))
  by_cases h858 : pc < 871
  · exact List.all_eq_true.mp fp_cl0_858 pc (List.mem_range'_1.mpr (by omega))
  by_cases h871 : pc < 884
  · exact List.all_eq_true.mp fp_cl0_871 pc (List.mem_range'_1.mpr (by omega))
  by_cases h884 : pc < 897
  · exact List.all_eq_true.mp fp_cl0_884 pc (List.mem_range'_1.mpr (by omega))
  by_cases h897 : pc < 910
  · exact List.all_eq_true.mp fp_cl0_897 pc (List.mem_range'_1.mpr (by omega))
  by_cases h910 : pc < 923
  · exact List.all_eq_true.mp fp_cl0_910 pc (List.mem_range'_1.mpr (by omega))
  by_cases h923 : pc < 936
  · exact List.all_eq_true.mp fp_cl0_923 pc (List.mem_range'_1.mpr (by omega))
  by_cases h936 : pc < 949
  · exact List.all_eq_true.mp fp_cl0_936 pc (List.mem_range'_1.mpr (by omega))
  by_cases h949 : pc < 962
  · exact List.all_eq_true.mp fp_cl0_949 pc (List.mem_range'_1.mpr (by omega))
  by_cases h962 : pc < 975
  · exact List.all_eq_true.mp fp_cl0_962 pc (List.mem_range'_1.mpr (by omega))
  by_cases h975 : pc < 988
  · exact List.all_eq_true.mp fp_cl0_975 pc (List.mem_range'_1.mpr (by omega))
  by_cases h988 : pc < 1001
  · exact List.all_eq_true.mp fp_cl0_988 pc (List.mem_range'_1.mpr (by omega))
  by_cases h1001 : pc < 1014
  · exact List.all_eq_true.mp fp_cl0_1001 pc (List.mem_range'_1.mpr (by omega))
  by_cases h1014 : pc < 1027
  · exact List.all_eq_true.mp fp_cl0_1014 pc (List.mem_range'_1.mpr (by omega))
  by_cases h1027 : pc < 1040
  · exact List.all_eq_true.mp fp_cl0_1027 pc (List.mem_range'_1.mpr (by omega))
  by_cases h1040 : pc < 1053
  · exact List.all_eq_true.mp fp_cl0_1040 pc (List.mem_range'_1.mpr (by omega))
  by_cases h1053 : pc < 1066
  · exact List.all_eq_true.mp fp_cl0_1053 pc (List.mem_range'_1.mpr (by omega))
  by_cases h1066 : pc < 1079
  · exact List.all_eq_true.mp fp_cl0_1066 pc (List.mem_range'_1.mpr (by omega))
  by_cases h1079 : pc < 1092
  · exact List.all_eq_true.mp fp_cl0_1079 pc (List.mem_range'_1.mpr (by omega))
  by_cases h1092 : pc < 1105
  · exact List.all_eq_true.mp fp_cl0_1092 pc (List.mem_range'_1.mpr (by omega))
  by_cases h1105 : pc < 1118
  · exact List.all_eq_true.mp fp_cl0_1105 pc (List.mem_range'_1.mpr (by omega))
  by_cases h1118 : pc < 1131
  · exact List.all_eq_true.mp fp_cl0_1118 pc (List.mem_range'_1.mpr (by omega))
  by_cases h1131 : pc < 1144
  · exact List.all_eq_true.mp fp_cl0_1131 pc (List.mem_range'_1.mpr (by omega))
  by_cases h1144 : pc < 1157
  · exact List.all_eq_true.mp fp_cl0_1144 pc (List.mem_range'_1.mpr (by omega))
  by_cases h1157 : pc < 1170
  · exact List.all_eq_true.mp fp_cl0_1157 pc (List.mem_range'_1.mpr (by omega))
  by_cases h1170 : pc < 1183
  · exact List.all_eq_true.mp fp_cl0_1170 pc (List.mem_range'_1.mpr (by omega))
  by_cases h1183 : pc < 1196
  · exact List.all_eq_true.mp fp_cl0_1183 pc (List.mem_range'_1.mpr (by omega))
  by_cases h1196 : pc < 1209
  · exact List.all_eq_true.mp fp_cl0_1196 pc (List.mem_range'_1.mpr (by omega))
  by_cases h1209 : pc < 1222
  · exact List.all_eq_true.mp fp_cl0_1209 pc (List.mem_range'_1.mpr (by omega))
  by_cases h1222 : pc < 1235
  · exact List.all_eq_true.mp fp_cl0_1222 pc (List.mem_range'_1.mpr (by omega))
  have h1 := List.all_eq_true.mp fp_cl0_r pc (List.mem_range'_1.mpr (by omega))
  unfold fp_ckP
  rw [Option.isNone_iff_eq_none.mp h1]
theorem fp_ckb_84 : fp_ckU 84 = true := by
  refine List.all_eq_true.mpr (fun pc h => ?_)
  have h := List.mem_range.mp h
  by_cases h0 : pc < 13
  · exact List.all_eq_true.mp fp_cl84_0 pc (List.mem_range'_1.mpr (by omega))
  by_cases h13 : pc < 26
  · exact List.all_eq_true.mp fp_cl84_13 pc (List.mem_range'_1.mpr (by omega))
  by_cases h26 : pc < 39
  · exact List.all_eq_true.mp fp_cl84_26 pc (List.mem_range'_1.mpr (by omega))
  by_cases h39 : pc < 52
  · exact List.all_eq_true.mp fp_cl84_39 pc (List.mem_range'_1.mpr (by omega))
  by_cases h52 : pc < 65
  · exact List.all_eq_true.mp fp_cl84_52 pc (List.mem_range'_1.mpr (by omega))
  by_cases h65 : pc < 78
  · exact List.all_eq_true.mp fp_cl84_65 pc (List.mem_range'_1.mpr (by omega))
  by_cases h78 : pc < 91
  · exact List.all_eq_true.mp fp_cl84_78 pc (List.mem_range'_1.mpr (by omega))
  by_cases h91 : pc < 104
  · exact List.all_eq_true.mp fp_cl84_91 pc (List.mem_range'_1.mpr (by omega))
  by_cases h104 : pc < 117
  · exact List.all_eq_true.mp fp_cl84_104 pc (List.mem_range'_1.mpr (by omega))
  by_cases h117 : pc < 130
  · exact List.all_eq_true.mp fp_cl84_117 pc (List.mem_range'_1.mpr (by omega))
  by_cases h130 : pc < 143
  · exact List.all_eq_true.mp fp_cl84_130 pc (List.mem_range'_1.mpr (by omega))
  by_cases h143 : pc < 156
  · exact List.all_eq_true.mp fp_cl84_143 pc (List.mem_range'_1.mpr (by omega))
  by_cases h156 : pc < 169
  · exact List.all_eq_true.mp fp_cl84_156 pc (List.mem_range'_1.mpr (by omega))
  by_cases h169 : pc < 182
  · exact List.all_eq_true.mp fp_cl84_169 pc (List.mem_range'_1.mpr (by omega))
  by_cases h182 : pc < 195
  · exact List.all_eq_true.mp fp_cl84_182 pc (List.mem_range'_1.mpr (by omega))
  by_cases h195 : pc < 208
  · exact List.all_eq_true.mp fp_cl84_195 pc (List.mem_range'_1.mpr (by omega))
  by_cases h208 : pc < 221
  · exact List.all_eq_true.mp fp_cl84_208 pc (List.mem_range'_1.mpr (by omega))
  by_cases h221 : pc < 234
  · exact List.all_eq_true.mp fp_cl84_221 pc (List.mem_range'_1.mpr (by omega))
  by_cases h234 : pc < 247
  · exact List.all_eq_true.mp fp_cl84_234 pc (List.mem_range'_1.mpr (by omega))
  by_cases h247 : pc < 260
  · exact List.all_eq_true.mp fp_cl84_247 pc (List.mem_range'_1.mpr (by omega))
  by_cases h260 : pc < 273
  · exact List.all_eq_true.mp fp_cl84_260 pc (List.mem_range'_1.mpr (by omega))
  by_cases h273 : pc < 286
  · exact List.all_eq_true.mp fp_cl84_273 pc (List.mem_range'_1.mpr (by omega))
  by_cases h286 : pc < 299
  · exact List.all_eq_true.mp fp_cl84_286 pc (List.mem_range'_1.mpr (by omega))
  by_cases h299 : pc < 312
  · exact List.all_eq_true.mp fp_cl84_299 pc (List.mem_range'_1.mpr (by omega))
  by_cases h312 : pc < 325
  · exact List.all_eq_true.mp fp_cl84_312 pc (List.mem_range'_1.mpr (by omega))
  by_cases h325 : pc < 338
  · exact List.all_eq_true.mp fp_cl84_325 pc (List.mem_range'_1.mpr (by omega))
  by_cases h338 : pc < 351
  · exact List.all_eq_true.mp fp_cl84_338 pc (List.mem_range'_1.mpr (by omega))
  by_cases h351 : pc < 364
  · exact List.all_eq_true.mp fp_cl84_351 pc (List.mem_range'_1.mpr (by omega))
  by_cases h364 : pc < 377
  · exact List.all_eq_true.mp fp_cl84_364 pc (List.mem_range'_1.mpr (by omega))
  by_cases h377 : pc < 390
  · exact List.all_eq_true.mp fp_cl84_377 pc (List.mem_range'_1.mpr (by omega))
  by_cases h390 : pc < 403
  · exact List.all_eq_true.mp fp_cl84_390 pc (List.mem_range'_1.mpr (by omega))
  by_cases h403 : pc < 416
  · exact List.all_eq_true.mp fp_cl84_403 pc (List.mem_range'_1.mpr (by omega))
  by_cases h416 : pc < 429
  · exact List.all_eq_true.mp fp_cl84_416 pc (List.mem_range'_1.mpr (by omega))
  by_cases h429 : pc < 442
  · exact List.all_eq_true.mp fp_cl84_429 pc (List.mem_range'_1.mpr (by omega))
  by_cases h442 : pc < 455
  · exact List.all_eq_true.mp fp_cl84_442 pc (List.mem_range'_1.mpr (by omega))
  by_cases h455 : pc < 468
  · exact List.all_eq_true.mp fp_cl84_455 pc (List.mem_range'_1.mpr (by omega))
  by_cases h468 : pc < 481
  · exact List.all_eq_true.mp fp_cl84_468 pc (List.mem_range'_1.mpr (by omega))
  by_cases h481 : pc < 494
  · exact List.all_eq_true.mp fp_cl84_481 pc (List.mem_range'_1.mpr (by omega))
  by_cases h494 : pc < 507
  · exact List.all_eq_true.mp fp_cl84_494 pc (List.mem_range'_1.mpr (by omega))
  by_cases h507 : pc < 520
  · exact List.all_eq_true.mp fp_cl84_507 pc (List.mem_range'_1.mpr (by omega))
  by_cases h520 : pc < 533
  · exact List.all_eq_true.mp fp_cl84_520 pc (List.mem_range'_1.mpr (by omega))
  by_cases h533 : pc < 546
  · exact List.all_eq_true.mp fp_cl84_533 pc (List.mem_range'_1.mpr (by omega))
  by_cases h546 : pc < 559
  · exact List.all_eq_true.mp fp_cl84_546 pc (List.mem_range'_1.mpr (by omega))
  by_cases h559 : pc < 572
  · exact List.all_eq_true.mp fp_cl84_559 pc (List.mem_range'_1.mpr (by omega))
  by_cases h572 : pc < 585
  · exact List.all_eq_true.mp fp_cl84_572 pc (List.mem_range'_1.mpr (by omega))
  by_cases h585 : pc < 598
  · exact List.all_eq_true.mp fp_cl84_585 pc (List.mem_range'_1.mpr (by omega))
  by_cases h598 : pc < 611
  · exact List.all_eq_true.mp fp_cl84_598 pc (List.mem_range'_1.mpr (by omega))
  by_cases h611 : pc < 624
  · exact List.all_eq_true.mp fp_cl84_611 pc (List.mem_range'_1.mpr (by omega))
  by_cases h624 : pc < 637
  · exact List.all_eq_true.mp fp_cl84_624 pc (List.mem_range'_1.mpr (by omega))
  by_cases h637 : pc < 650
  · exact List.all_eq_true.mp fp_cl84_637 pc (List.mem_range'_1.mpr (by omega))
  by_cases h650 : pc < 663
  · exact List.all_eq_true.mp fp_cl84_650 pc (List.mem_range'_1.mpr (by omega))
  by_cases h663 : pc < 676
  · exact List.all_eq_true.mp fp_cl84_663 pc (List.mem_range'_1.mpr (by omega))
  by_cases h676 : pc < 689
  · exact List.all_eq_true.mp fp_cl84_676 pc (List.mem_range'_1.mpr (by omega))
  by_cases h689 : pc < 702
  · exact List.all_eq_true.mp fp_cl84_689 pc (List.mem_range'_1.mpr (by omega))
  by_cases h702 : pc < 715
  · exact List.all_eq_true.mp fp_cl84_702 pc (List.mem_range'_1.mpr (by omega))
  by_cases h715 : pc < 728
  · exact List.all_eq_true.mp fp_cl84_715 pc (List.mem_range'_1.mpr (by omega))
  by_cases h728 : pc < 729
  · exact List.all_eq_true.mp fp_cl84_728 pc (List.mem_range'_1.mpr (by omega))
  have h1 := List.all_eq_true.mp fp_cl84_r pc (List.mem_range'_1.mpr (by omega))
  unfold fp_ckP
  rw [Option.isNone_iff_eq_none.mp h1]
theorem fp_ckb_85 : fp_ckU 85 = true := by
  refine List.all_eq_true.mpr (fun pc h => ?_)
  have h := List.mem_range.mp h
  by_cases h0 : pc < 13
  · exact List.all_eq_true.mp fp_cl85_0 pc (List.mem_range'_1.mpr (by omega))
  by_cases h13 : pc < 26
  · exact List.all_eq_true.mp fp_cl85_13 pc (List.mem_range'_1.mpr (by omega))
  by_cases h26 : pc < 39
  · exact List.all_eq_true.mp fp_cl85_26 pc (List.mem_range'_1.mpr (by omega))
  by_cases h39 : pc < 52
  · exact List.all_eq_true.mp fp_cl85_39 pc (List.mem_range'_1.mpr (by omega))
  by_cases h52 : pc < 65
  · exact List.all_eq_true.mp fp_cl85_52 pc (List.mem_range'_1.mpr (by omega))
  by_cases h65 : pc < 78
  · exact List.all_eq_true.mp fp_cl85_65 pc (List.mem_range'_1.mpr (by omega))
  by_cases h78 : pc < 91
  · exact List.all_eq_true.mp fp_cl85_78 pc (List.mem_range'_1.mpr (by omega))
  by_cases h91 : pc < 104
  · exact List.all_eq_true.mp fp_cl85_91 pc (List.mem_range'_1.mpr (by omega))
  by_cases h104 : pc < 117
  · exact List.all_eq_true.mp fp_cl85_104 pc (List.mem_range'_1.mpr (by omega))
  by_cases h117 : pc < 130
  · exact List.all_eq_true.mp fp_cl85_117 pc (List.mem_range'_1.mpr (by omega))
  by_cases h130 : pc < 143
  · exact List.all_eq_true.mp fp_cl85_130 pc (List.mem_range'_1.mpr (by omega))
  by_cases h143 : pc < 156
  · exact List.all_eq_true.mp fp_cl85_143 pc (List.mem_range'_1.mpr (by omega))
  by_cases h156 : pc < 169
  · exact List.all_eq_true.mp fp_cl85_156 pc (List.mem_range'_1.mpr (by omega))
  by_cases h169 : pc < 182
  · exact List.all_eq_true.mp fp_cl85_169 pc (List.mem_range'_1.mpr (by omega))
  by_cases h182 : pc < 195
  · exact List.all_eq_true.mp fp_cl85_182 pc (List.mem_range'_1.mpr (by omega))
  by_cases h195 : pc < 208
  · exact List.all_eq_true.mp fp_cl85_195 pc (List.mem_range'_1.mpr (by omega))
  by_cases h208 : pc < 221
  · exact List.all_eq_true.mp fp_cl85_208 pc (List.mem_range'_1.mpr (by omega))
  by_cases h221 : pc < 234
  · exact List.all_eq_true.mp fp_cl85_221 pc (List.mem_range'_1.mpr (by omega))
  by_cases h234 : pc < 247
  · exact List.all_eq_true.mp fp_cl85_234 pc (List.mem_range'_1.mpr (by omega))
  by_cases h247 : pc < 260
  · exact List.all_eq_true.mp fp_cl85_247 pc (List.mem_range'_1.mpr (by omega))
  by_cases h260 : pc < 273
  · exact List.all_eq_true.mp fp_cl85_260 pc (List.mem_range'_1.mpr (by omega))
  by_cases h273 : pc < 286
  · exact List.all_eq_true.mp fp_cl85_273 pc (List.mem_range'_1.mpr (by omega))
  by_cases h286 : pc < 299
  · exact List.all_eq_true.mp fp_cl85_286 pc (List.mem_range'_1.mpr (by omega))
  by_cases h299 : pc < 312
  · exact List.all_eq_true.mp fp_cl85_299 pc (List.mem_range'_1.mpr (by omega))
  by_cases h312 : pc < 325
  · exact List.all_eq_true.mp fp_cl85_312 pc (List.mem_range'_1.mpr (by omega))
  by_cases h325 : pc < 338
  · exact List.all_eq_true.mp fp_cl85_325 pc (List.mem_range'_1.mpr (by omega))
  by_cases h338 : pc < 351
  · exact List.all_eq_true.mp fp_cl85_338 pc (List.mem_range'_1.mpr (by omega))
  by_cases h351 : pc < 364
  · exact List.all_eq_true.mp fp_cl85_351 pc (List.mem_range'_1.mpr (by omega))
  by_cases h364 : pc < 377
  · exact List.all_eq_true.mp fp_cl85_364 pc (List.mem_range'_1.mpr (by omega))
  by_cases h377 : pc < 390
  · exact List.all_eq_true.mp fp_cl85_377 pc (List.mem_range'_1.mpr (by omega))
  by_cases h390 : pc < 403
  · exact List.all_eq_true.mp fp_cl85_390 pc (List.mem_range'_1.mpr (by omega))
  by_cases h403 : pc < 416
  · exact List.all_eq_true.mp fp_cl85_403 pc (List.mem_range'_1.mpr (by omega))
  by_cases h416 : pc < 422
  · exact List.all_eq_true.mp fp_cl85_416 pc (List.mem_range'_1.mpr (by omega))
  have h1 := List.all_eq_true.mp fp_cl85_r pc (List.mem_range'_1.mpr (by omega))
  unfold fp_ckP
  rw [Option.isNone_iff_eq_none.mp h1]
theorem fp_ok {u pc : Nat} {e : FpE} (h : fp_code u pc = some e) : fp_chk u pc e = true := by
  unfold fp_code at h
  cases hg : (Nat.ble u 85 && Nat.ble pc 1300) with
  | false => rw [hg] at h; cases h
  | true =>
    rw [hg] at h
    simp only [Bool.and_eq_true, Nat.ble_eq] at hg
    have hu : fp_ckU u = true := by
      by_cases h0 : u = 0
      · rw [h0]; exact fp_ckb_0
      by_cases h1 : u < 11
      · exact List.all_eq_true.mp fp_ck_1 u (List.mem_range'_1.mpr (by omega))
      by_cases h11 : u < 21
      · exact List.all_eq_true.mp fp_ck_11 u (List.mem_range'_1.mpr (by omega))
      by_cases h21 : u < 31
      · exact List.all_eq_true.mp fp_ck_21 u (List.mem_range'_1.mpr (by omega))
      by_cases h31 : u < 41
      · exact List.all_eq_true.mp fp_ck_31 u (List.mem_range'_1.mpr (by omega))
      by_cases h41 : u < 51
      · exact List.all_eq_true.mp fp_ck_41 u (List.mem_range'_1.mpr (by omega))
      by_cases h51 : u < 61
      · exact List.all_eq_true.mp fp_ck_51 u (List.mem_range'_1.mpr (by omega))
      by_cases h61 : u < 71
      · exact List.all_eq_true.mp fp_ck_61 u (List.mem_range'_1.mpr (by omega))
      by_cases h71 : u < 81
      · exact List.all_eq_true.mp fp_ck_71 u (List.mem_range'_1.mpr (by omega))
      by_cases h81 : u < 84
      · exact List.all_eq_true.mp fp_ck_81 u (List.mem_range'_1.mpr (by omega))
      by_cases h84 : u = 84
      · rw [h84]; exact fp_ckb_84
      by_cases h85 : u = 85
      · rw [h85]; exact fp_ckb_85
      omega
    have h2 := List.all_eq_true.mp hu pc (List.mem_range.mpr (by omega))
    have h3 : fp_codeT u pc = some e := h
    unfold fp_ckP at h2
    rw [h3] at h2
    exact h2
/-- the places of a method's words: its code, static or instanceMethod, selects, initialized -/
def fp_pl : List (Nat × Nat × Nat × Nat) := [(0, 0, 0, 1), (238, 236, 237, 7), (485, 483, 484, 7), (258, 256, 257, 6), (369, 367, 368, 6), (307, 305, 306, 6), (311, 309, 310, 6), (393, 391, 392, 6), (459, 457, 458, 6), (507, 505, 506, 6), (537, 535, 536, 6), (246, 244, 245, 4), (284, 282, 283, 4), (291, 289, 290, 4), (356, 354, 355, 4), (429, 427, 428, 4), (503, 501, 502, 4), (352, 350, 351, 4), (377, 375, 376, 4), (511, 509, 510, 4), (348, 346, 347, 4), (299, 297, 298, 4), (295, 293, 294, 4), (381, 379, 380, 4), (389, 387, 388, 4), (551, 549, 550, 4), (555, 553, 554, 4), (319, 317, 318, 8), (327, 325, 326, 8), (339, 337, 338, 8), (343, 341, 342, 8), (331, 329, 330, 8), (335, 333, 334, 8), (323, 321, 322, 8), (242, 240, 241, 3), (418, 416, 417, 3), (577, 575, 576, 3), (425, 423, 424, 3), (414, 412, 413, 3), (436, 434, 435, 3), (455, 453, 454, 3), (373, 371, 372, 3), (385, 383, 384, 3), (401, 399, 400, 3), (253, 251, 252, 5), (272, 270, 271, 5), (234, 232, 233, 5), (264, 262, 263, 5), (440, 438, 439, 5), (444, 442, 443, 5), (547, 545, 546, 5), (227, 225, 226, 2), (268, 266, 267, 2), (276, 274, 275, 2), (280, 278, 279, 2), (303, 301, 302, 2), (315, 313, 314, 2), (365, 363, 364, 2), (397, 395, 396, 2), (407, 405, 406, 2), (464, 462, 463, 2), (469, 467, 468, 2), (477, 475, 476, 2), (558, 557, 0, 1), (481, 479, 480, 2), (563, 562, 0, 1), (489, 487, 488, 2), (493, 491, 492, 2), (498, 496, 497, 2), (516, 514, 515, 2), (573, 571, 572, 2), (520, 518, 519, 2), (524, 522, 523, 2), (529, 527, 528, 2), (533, 531, 532, 2), (543, 541, 542, 2), (361, 360, 0, 2), (230, 229, 0, 2), (287, 286, 0, 2), (410, 409, 0, 2), (421, 420, 0, 2), (447, 446, 0, 2), (451, 450, 0, 2), (566, 565, 0, 1), (569, 568, 0, 1), (580, 579, 0, 1)]
def fp_chkM (u : Nat) : Bool := match fp_M[u]?, fp_pl[u]? with
  | some (ci, y, _, n, r, s), some (_, p2, p3, p4) => decide (y.cls = fp_rx ci) && plainName y.cls && decide (y.cls ≠ "java/lang/invoke/MethodHandle") && decide (y.cls ≠ "java/lang/invoke/VarHandle") && decide (n ≤ 24) && decide (ci ≤ 7) && decide (fp_nlL[u]? = some n) && decide (lw_tbl[p4]? = some (.initialized y.cls)) && goodWord (.initialized y.cls) &&
    (bif Nat.beq u 0 then true else decide (n ≤ 14) && (bif s then decide (lw_tbl[p2]? = some (.static y)) && goodWord (.static y) else decide (lw_tbl[p2]? = some (.instanceMethod y)) && goodWord (.instanceMethod y) && decide (lw_tbl[p3]? = some (.selects y.cls y y)) && goodWord (.selects y.cls y y)) && (decide (r = none) || decide (r = some .int) || decide (r = some .boolean)))
  | _, _ => false
set_option maxRecDepth 100000 in
theorem fp_ckM : (List.range 86).all fp_chkM = true := by decide +kernel
set_option maxRecDepth 100000 in
theorem fp_ckW : (fp_M.drop 1).map (fun q => some (Cond.code q.2.1 q.2.2.1 q.2.2.2.1 q.2.2.2.2.1)) = (fp_pl.drop 1).map (fun q => lw_tbl[q.1]?) := by rfl
theorem fp_lenM : fp_M.length = 86 := by decide +kernel
theorem fp_lenP : fp_pl.length = 86 := by decide +kernel
theorem fp_wac : Cond.static arraycopyName ∈ fp_tb ∧ Cond.native arraycopyName ∈ fp_tb ∧ Cond.initialized "java/lang/System" ∈ fp_tb := ⟨fp_in (i := 248) (by decide +kernel) (by decide +kernel), fp_in (i := 249) (by decide +kernel) (by decide +kernel), fp_in (i := 9) (by decide +kernel) (by decide +kernel)⟩
theorem fp_wmm : Cond.static Lib.Math.max.name ∈ fp_tb ∧ Cond.code Lib.Math.max.name Lib.Math.max.code 2 (some .int) ∈ fp_tb ∧ Cond.initialized "java/lang/Math" ∈ fp_tb := ⟨fp_in (i := 431) (by decide +kernel) (by decide +kernel), fp_in (i := 432) (by rfl) (by decide +kernel), fp_in (i := 10) (by decide +kernel) (by decide +kernel)⟩
set_option maxRecDepth 100000 in
theorem fp_u0 : wsX00.all (fun w => decide (w ∈ fp_tb)) = true := by decide +kernel
set_option maxRecDepth 100000 in
theorem fp_u1 : wsX10.all (fun w => decide (w ∈ fp_tb)) = true := by decide +kernel
set_option maxRecDepth 100000 in
theorem fp_u2 : wsX20.all (fun w => decide (w ∈ fp_tb)) = true := by decide +kernel
set_option maxRecDepth 100000 in
theorem fp_u3 : wsX30.all (fun w => decide (w ∈ fp_tb)) = true := by decide +kernel
set_option maxRecDepth 100000 in
theorem fp_u4 : wsX40.all (fun w => decide (w ∈ fp_tb)) = true := by decide +kernel
set_option maxRecDepth 100000 in
theorem fp_u5 : wsX50.all (fun w => decide (w ∈ fp_tb)) = true := by decide +kernel
set_option maxRecDepth 100000 in
theorem fp_u6 : wsX60.all (fun w => decide (w ∈ fp_tb)) = true := by decide +kernel
