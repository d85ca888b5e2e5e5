section FPP
variable {ad : Nat → Nat → Nat} {cI cC cO : ClassId} {D : va_G} {L : Nat} {H : FpH}
variable {p : Program} {l : Launch} {e : Env} {R : Room} {s : State} {m : MethodId} {args : Array Value} {below : List Frame} {meth : Method} {c : Code} {Hp : Heap} {locs : List Loc} {cells slots : Nat} {Z : State → Prop}
variable {cc : ByteArray} {pc n : Nat} {mls : Array Slot} {rest : List Value} {own : String}
theorem fp_w_get (hC : CallFix p m c cc n s args fp_tb own) (hK : va_K D fp_cl (fp_tys cI cC cO) s) (hP : va_P D fp_cl (fp_W ad cI cC cO H) Hp)
    {g c0 a b idx w : Nat} {st : List FpV} {P : FpV → Prop} (hv : fp_okV (.inr (g, c0))) (hH : fp_okH H) (hF : fp_chkF own idx a b w = true) (hf : fp_fd H g c0 a b P) (hd : decode cc pc = .ok (.getfield idx, 3))
    (kk : ∀ v : FpV, P v → fp_okV v → W p l e R s m args below meth c Hp locs cells slots Z (F0 m (pc + 3) mls (fp_tr ad v :: rest))) : W p l e R s m args below meth c Hp locs cells slots Z (F0 m pc mls (.ref (ad g c0) :: rest)) := by
  obtain ⟨hx, hb, hml, hown, hts⟩ := hC
  obtain ⟨C, T, N, hcl, hbN, hTC, hlk⟩ := fp_chkF_out hF
  obtain ⟨hin, -, -⟩ := fp_cok hcl
  unfold fp_fd at hf
  split at hf
  · rename_i ci fs ho
    obtain ⟨hci, hf2⟩ := fp_cond_out hf
    clear hf
    have hf := hf2
    clear hf2
    have hci : ci = a := Nat.eq_of_beq_eq_true hci
    subst hci
    have hm := fp_obj hv ho
    obtain ⟨k, -, hk⟩ := fp_at (ad := ad) (cI := cI) (cC := cC) (cO := cO) H hm
    have hk : (fp_W ad cI cC cO H)[k]? = some (ad g c0, .inr (ci, fp_fv ad H g c0 0 fs)) := by
      rw [hk]; unfold fp_ce; rw [ho]
    have go : ∀ v : FpV, (fp_fv ad H g c0 0 fs)[b]? = some (fp_tr ad v) → P v → fp_okV v → W p l e R s m args below meth c Hp locs cells slots Z (F0 m pc mls (.ref (ad g c0) :: rest)) := fun v hvv hPv hov =>
      va_get hx hb hts hin hown hK hP k hk hcl b hbN (hts _ hlk) (fun x h => by rw [hTC] at h; exact h) hvv hd (kk v hPv hov)
    split at hf
    · rename_i g' c' hn
      have hr := fp_fv_ref (ad := ad) (H := H) (g := g) (c := c0) fs 0 b hn
      rcases fp_obj_ref hm ho hn with ⟨h1, h2⟩ | ⟨h1, h2⟩
      · rw [h1] at hf hr
        exact go (.inr (g, c')) hr hf (Or.inl h2)
      · rw [h1] at hf hr
        exact go (.inr (g', c')) hr hf (Or.inl h2)
    · rename_i hn
      have hr := fp_fv_int (ad := ad) (H := H) (g := g) (c := c0) fs 0 b hn
      rw [Nat.zero_add] at hr
      exact go (.inl (H g c0 b)) hr hf (hH _ _ _)
    · exact hf.elim
  · exact hf.elim
theorem fp_w_put (hj : fp_inj ad) (hC : CallFix p m c cc n s args fp_tb own) (hK : va_K D fp_cl (fp_tys cI cC cO) s) (hP : va_P D fp_cl (fp_W ad cI cC cO H) Hp) (hS : va_S (fp_A ad) s.heap Hp locs)
    {g c0 a b idx w : Nat} {z : Int} (hv : fp_okV (.inr (g, c0))) (hF : fp_chkF own idx a b w = true) (hG : fp_chkP a b = true) (hf : fp_fw c0 a b = true) (hz : ((Nat.beq a 6 && Nat.beq b 3) || (Nat.beq a 7 && Nat.beq b 2)) = true → z = 0 ∨ z = 1) (hd : decode cc pc = .ok (.putfield idx, 3))
    (kk : ∀ (Hp1 : Heap) (locs1 : List Loc), va_P D fp_cl (fp_W ad cI cC cO (fp_up H g c0 b z)) Hp1 → va_S (fp_A ad) s.heap Hp1 locs1 → W p l e R s m args below meth c Hp1 locs1 cells slots Z (F0 m (pc + 3) mls rest)) : W p l e R s m args below meth c Hp locs cells slots Z (F0 m pc mls (.int (fp_oi z) :: .ref (ad g c0) :: rest)) := by
  obtain ⟨hx, hb, hml, hown, hts⟩ := hC
  obtain ⟨C, T, N, hcl, hbN, hTC, hlk⟩ := fp_chkF_out hF
  obtain ⟨hin, ⟨ty0, hty⟩, hnm⟩ := fp_cok hcl
  unfold fp_chkP at hG
  rw [hcl] at hG
  simp only [Bool.and_eq_true, decide_eq_true_eq] at hG
  obtain ⟨hfin, hG⟩ := hG
  unfold fp_fw at hf
  split at hf
  · rename_i ci fs ho
    cases hci : Nat.beq ci a with
    | false => rw [hci] at hf; cases hf
    | true =>
      rw [hci] at hf
      have hci : ci = a := Nat.eq_of_beq_eq_true hci
      subst hci
      have hm := fp_obj hv ho
      have hn : fp_nth fs b = some none := by
        simp only [cond_true] at hf
        split at hf
        · assumption
        · cases hf
      obtain ⟨k, hk0, hk⟩ := fp_at (ad := ad) (cI := cI) (cC := cC) (cO := cO) H hm
      have hk : (fp_W ad cI cC cO H)[k]? = some (ad g c0, .inr (ci, fp_fv ad H g c0 0 fs)) := by
        rw [hk]; unfold fp_ce; rw [ho]
      have eW := fp_W_set (ad := ad) (cI := cI) (cC := cC) (cO := cO) (H := H) (H' := fp_up H g c0 b z) hk0 (fun x _ hx => fp_ce_congr (fp_up_ne hx))
      have e2 : fp_ce ad cI cC cO (fp_up H g c0 b z) g c0 = .inr (ci, (fp_fv ad H g c0 0 fs).set b (.int (fp_oi z))) := by
        rw [fp_fv_set fs 0 b hn, Nat.zero_add]
        unfold fp_ce; rw [ho]
      rw [e2] at eW
      have hlen : b < (fp_fv ad H g c0 0 fs).length := by rw [fp_fv_len]; exact fp_nth_lt fs b hn
      have hkk : ∀ (Hp1 : Heap) (locs1 : List Loc), va_P D fp_cl ((fp_W ad cI cC cO H).set k (ad g c0, .inr (ci, (fp_fv ad H g c0 0 fs).set b (.int (fp_oi z))))) Hp1 → va_D (fp_A ad) ((fp_W ad cI cC cO H).set k (ad g c0, .inr (ci, (fp_fv ad H g c0 0 fs).set b (.int (fp_oi z))))) → va_S (fp_A ad) s.heap Hp1 locs1 → W p l e R s m args below meth c Hp1 locs1 cells slots Z (F0 m (pc + 3) mls rest) :=
        fun Hp1 locs1 hP1 _ hS1 => kk Hp1 locs1 (by rw [← eW]; exact hP1) hS1
      cases hbl : (Nat.beq ci 6 && Nat.beq b 3) || (Nat.beq ci 7 && Nat.beq b 2) with
      | true =>
        rw [hbl] at hG
        have hT : (T b).2.2.1 = "Z" := of_decide_eq_true hG
        have hn01 : narrow .boolean (.int (fp_oi z)) = .int (fp_oi z) ∧ fits .boolean (.int (fp_oi z)) = true := by
          rcases hz hbl with rfl | rfl
          · exact ⟨by rw [fp_oi_0]; rfl, by rw [fp_oi_0]; rfl⟩
          · rw [show fp_oi 1 = 1 by decide +kernel]; exact ⟨rfl, rfl⟩
        exact va_put hx hb hts hin ty0 hty hnm hown hK hP (fp_D hj H) hS k hk hcl b hbN (hts _ hlk) (fun x h => by rw [hTC] at h; exact h) hfin (ty := .boolean) (by rw [hT]; decide +kernel) hn01.1 hn01.2 hlen hd hkk
      | false =>
        rw [hbl] at hG
        have hT : (T b).2.2.1 = "I" := of_decide_eq_true hG
        exact va_put hx hb hts hin ty0 hty hnm hown hK hP (fp_D hj H) hS k hk hcl b hbN (hts _ hlk) (fun x h => by rw [hTC] at h; exact h) hfin (ty := .int) (by rw [hT]; decide +kernel) rfl rfl hlen hd hkk
  · cases hf
theorem fp_w_copy (hj : fp_inj ad) (hC : CallFix p m c cc n s args fp_tb own) (hml : mls.size = n) (hK : va_K D fp_cl (fp_tys cI cC cO) s) (hP : va_P D fp_cl (fp_W ad cI cC cO H) Hp) (hS : va_S (fp_A ad) s.heap Hp locs) (hR : 1 ≤ R.frames ∧ 32 ≤ R.locals)
    {g c0 g' c1 n0 n1 idx : Nat} {k dp sp : Int} (hk : fp_rg k) (hdp : fp_rg dp) (hsp : fp_rg sp) (hv : fp_okV (.inr (g, c0))) (hv' : fp_okV (.inr (g', c1))) (hw : c0 ≤ 25) (hw' : c1 ≤ 25) (ha : fp_as L c0 = some (false, n0)) (ha' : fp_as L c1 = some (false, n1))
    (h1 : 0 ≤ k) (h2 : 0 ≤ sp) (h3 : 0 ≤ dp) (h4 : sp + k ≤ (n0 : Int)) (h5 : dp + k ≤ (n1 : Int)) (hlk : Cond.methodLink own idx arraycopyName ∈ fp_tb) (hcat : (rest.map fun v => v.category).sum ≤ 8) (hd : decode cc pc = .ok (.invokestatic idx, 3))
    (kk : ∀ (Hp1 : Heap) (locs1 : List Loc), va_P D fp_cl (fp_W ad cI cC cO (fp_cp H g c0 g' c1 sp.toNat dp.toNat k.toNat)) Hp1 → va_S (fp_A ad) s.heap Hp1 locs1 → W p l e R s m args below meth c Hp1 locs1 cells slots Z (F0 m (pc + 3) mls rest)) :
    W p l e R s m args below meth c Hp locs cells slots Z (F0 m pc mls (.int (fp_oi k) :: .int (fp_oi dp) :: .ref (ad g' c1) :: .int (fp_oi sp) :: .ref (ad g c0) :: rest)) := by
  obtain ⟨hx, hb, hml', hown, hts⟩ := hC
  have hm : (g, c0) ∈ fp_cells := hv.resolve_right (by omega)
  have hm' : (g', c1) ∈ fp_cells := hv'.resolve_right (by omega)
  obtain ⟨q0, hq0, hk0⟩ := fp_at (ad := ad) (cI := cI) (cC := cC) (cO := cO) H hm
  obtain ⟨q1, hq1, hk1⟩ := fp_at (ad := ad) (cI := cI) (cC := cC) (cO := cO) H hm'
  rw [fp_arr_cell ha (by omega)] at hk0
  rw [fp_arr_cell ha' (by omega)] at hk1
  obtain ⟨a1, b1⟩ := fp_oi_nn hsp h2
  obtain ⟨a2, b2⟩ := fp_oi_nn hdp h3
  obtain ⟨a3, b3⟩ := fp_oi_nn hk h1
  refine va_copyi hx hb (by rw [hml', hml]) hown (hts _ hlk) (hts _ fp_wac.2.1) (hts _ fp_wac.1) (hts _ fp_wac.2.2) hK hP (fp_D hj H) hS q0 q1 0 0 hk0 hk1 rfl rfl rfl a1 a2 a3 (by rw [b1, b3]; omega) (by rw [b2, b3]; omega) (fun _ _ => rfl) hR.1
    (by have : nativeFrameWords "java/lang/System" "arraycopy" 5 = 7 := by decide +kernel
        omega) hd (fun Hp1 locs1 hP1 _ hS1 => kk Hp1 locs1 ?_ hS1)
  have eW := fp_W_set (ad := ad) (cI := cI) (cC := cC) (cO := cO) (H := H) (H' := fp_cp H g c0 g' c1 sp.toNat dp.toNat k.toNat) hq1 (fun x _ hx => fp_ce_congr (fp_cp_ne hx))
  rw [fp_arr_cell ha' (by omega), fp_cp_self] at eW
  rw [b1, b2, b3] at hP1
  rw [← eW]; exact hP1
theorem fp_w_max (hC : CallFix p m c cc n s args fp_tb own) (hml : mls.size = n) (hR : 1 ≤ R.frames ∧ 32 ≤ R.locals) (hcs : cells ≤ R.cells ∧ slots ≤ R.slots) {idx : Nat} {x y : Int} (hx' : fp_rg x) (hy : fp_rg y) (hlk : Cond.methodLink own idx Lib.Math.max.name ∈ fp_tb) (hcat : (rest.map fun v => v.category).sum ≤ 8) (hd : decode cc pc = .ok (.invokestatic idx, 3))
    (kk : W p l e R s m args below meth c Hp locs cells slots Z (F0 m (pc + 3) mls (.int (fp_oi (if x < y then y else x)) :: rest))) : W p l e R s m args below meth c Hp locs cells slots Z (F0 m pc mls (.int (fp_oi y) :: .int (fp_oi x) :: rest)) := by
  obtain ⟨hx, hb, hml', hown, hts⟩ := hC
  refine va_mmax hx hb (by rw [hml', hml]) hown (hts _ hlk) (hts _ fp_wmm.1) (hts _ fp_wmm.2.2) (hts _ fp_wmm.2.1) hR.1 (by omega) hcs.1 hcs.2 hd ?_
  by_cases h : x < y
  · rw [if_pos h] at kk
    rw [if_pos ((fp_oi_lt hx' hy).mpr h)]; exact kk
  · rw [if_neg h] at kk
    rw [if_neg (fun q => h ((fp_oi_lt hx' hy).mp q))]; exact kk
end FPP
