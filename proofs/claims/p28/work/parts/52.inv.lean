/-! what the law keeps to -/
def fq_O (n : Int) (H : FpH) : Prop := fq_I n (H 0) ∧ fq_Y H ∧ fq_J (H 0) ∧ fq_Z H ∧ fq_N H
def fq_up (H : FpH) : Int := if H 7 15 2 = 4 then 4 else H 7 15 2 + 1
theorem fp_e_t {A B C : FpG} (h : fp_e A B) (h' : fp_e B C) : fp_e A C := fun c i hc => (h c i hc).trans (h' c i hc)
theorem fq_O_c {n : Int} {H K : FpH} (h : fq_O n H) (hc : fq_c H K) : fq_O n K := by
  obtain ⟨h1, h2, h3, h4, h5⟩ := h
  refine ⟨fq_c_I hc h1, ?_, ?_, ?_, hc.2⟩
  · unfold fq_Y at h2 ⊢; rw [hc.1 7 (by omega)]; exact h2
  · rw [fq_c_0 hc]; exact h3
  · unfold fq_Z at h4 ⊢; rw [hc.1 9 (by omega)]; exact h4
theorem fq_O_m {n m : Int} {H : FpH} (h : fq_O n H) (hm : n ≤ m) : fq_O m H := ⟨fq_I_m h.1 hm, h.2⟩
theorem fq_push_7 {H : FpH} : fp_push H 7 15 1 = fp_po H ∧ fp_push H 7 15 2 = fp_pn H + 1 := by
  have e7 : fp_push H 7 = fp_gu (fp_gu (H 7) 15 1 (fp_po H)) 15 2 (fp_pn H + 1) := by unfold fp_push; rw [if_neg (by unfold fp_pk; omega), if_pos rfl]
  rw [e7]
  exact ⟨by simp [fp_gu], by simp [fp_gu]⟩
theorem fq_push_9 {H : FpH} : fp_push H 9 = H 9 := by unfold fp_push; rw [if_neg (by unfold fp_pk; omega), if_neg (by omega)]
theorem fq_O_p {n : Int} {H : FpH} {G : FpG} (hY : fq_Y H) (hZ : fq_Z H) (hI : fq_I n G) (hJ : fq_J G) (hN : fq_N (fp_g (fp_push H) 0 G)) : fq_O n (fp_g (fp_push H) 0 G) ∧ fp_g (fp_push H) 0 G 7 15 2 = fq_up H := by
  obtain ⟨y1, y2⟩ := hY
  have e1 : fp_g (fp_push H) 0 G 7 15 1 = fp_po H := by rw [fp_g_n (by omega)]; exact fq_push_7.1
  have e2 : fp_g (fp_push H) 0 G 7 15 2 = fp_pn H + 1 := by rw [fp_g_n (by omega)]; exact fq_push_7.2
  have hpo : fp_po H = if H 7 15 2 = 4 then (H 7 15 1 + 1) % 4 else H 7 15 1 := rfl
  have hpn : fp_pn H = if H 7 15 2 = 4 then 3 else H 7 15 2 := rfl
  refine ⟨⟨by rw [fp_g_s]; exact hI, ?_, by rw [fp_g_s]; exact hJ, ?_, hN⟩, ?_⟩
  · unfold fq_Y
    rw [e1, e2, hpo, hpn]
    split <;> omega
  · unfold fq_Z at hZ ⊢
    rw [fp_g_n (by omega), fq_push_9]
    exact hZ
  · rw [e2, hpn]
    unfold fq_up
    split <;> omega
theorem fq_O_u {n : Int} {M : FpH} {G : FpG} (hY : fq_Y M) (hZ : fq_Z M) (hI : fq_I n (M 0)) (hJ : fq_J (M 0)) (hN : fq_N (fp_pop (fp_g (fp_push M) 0 G))) : fq_O n (fp_pop (fp_g (fp_push M) 0 G)) := by
  obtain ⟨y1, y2⟩ := hY
  have e1 : fp_g (fp_push M) 0 G 7 15 1 = fp_po M := by rw [fp_g_n (by omega)]; exact fq_push_7.1
  have e2 : fp_g (fp_push M) 0 G 7 15 2 = fp_pn M + 1 := by rw [fp_g_n (by omega)]; exact fq_push_7.2
  have hpo : fp_po M = if M 7 15 2 = 4 then (M 7 15 1 + 1) % 4 else M 7 15 1 := rfl
  have hpn : fp_pn M = if M 7 15 2 = 4 then 3 else M 7 15 2 := rfl
  have hpk : fp_pk M < 7 ∧ 3 ≤ fp_pk M := by unfold fp_pk; omega
  have e0 : fp_pop (fp_g (fp_push M) 0 G) 0 = fp_cpG (fp_g (fp_push M) 0 G 0) (fp_cpG (M (fp_pk M)) (M 0)) := by
    have e3 : 3 + ((fp_po M + (fp_pn M + 1 - 1)) % 4).toNat = fp_pk M := by
      unfold fp_pk
      rw [show fp_pn M + 1 - 1 = fp_pn M by omega]
    conv => lhs; unfold fp_pop
    rw [if_pos rfl, e1, e2, e3, fp_g_n (g' := fp_pk M) (by omega)]
    congr 1
    unfold fp_push
    rw [if_pos rfl]
  have e7 : fp_pop (fp_g (fp_push M) 0 G) 7 = fp_gu (fp_g (fp_push M) 0 G 7) 15 2 (fp_g (fp_push M) 0 G 7 15 2 - 1) := by unfold fp_pop; rw [if_neg (by omega), if_pos rfl]
  have e9 : fp_pop (fp_g (fp_push M) 0 G) 9 = M 9 := by
    unfold fp_pop
    rw [if_neg (by omega), if_neg (by omega), fp_g_n (by omega), fq_push_9]
  refine ⟨by rw [e0]; exact fq_I_cp (fq_I_cp hI), ?_, by rw [e0]; exact fq_J_cp (fq_J_cp hJ), ?_, hN⟩
  · unfold fq_Y
    rw [e7, fp_gu_i (by rfl), fp_gu_s, e1, e2, hpo, hpn]
    split <;> omega
  · unfold fq_Z at hZ ⊢
    rw [e9]
    exact hZ
section FQS
variable {L d : Nat} {n : Int} {H : FpH} {Q : FpQ}
/-- the state that was served, in the stall -/
theorem fq_sv_e {S : FpG} (hN0 : fq_N H) (hN : fq_N (fp_g (fp_push (fp_g H 1 S)) 0 (fp_cpG (H 0) S))) : fp_e (fp_cpG (H 0) S) S := by
  intro c i hc
  by_cases hr : fp_rel c i
  · exact fp_cpG_e hr
  · have e : fp_cpG (H 0) S c i = H 0 c i := by unfold fp_cpG; unfold fp_rel at hr; rw [if_neg hr]
    have h1 := hN 1 c i (by omega) hc hr
    rw [fp_g_n (by omega), fp_push_1, fp_g_s] at h1
    rw [e, hN0 0 c i (by omega) hc hr, h1]
theorem fq_O_g {n : Int} {S : FpG} (h : fq_O n H) : fq_Y (fp_g H 1 S) ∧ fq_Z (fp_g H 1 S) ∧ (fp_g H 1 S) 0 = H 0 ∧ fq_up (fp_g H 1 S) = fq_up H := by
  obtain ⟨h1, h2, h3, h4, h5⟩ := h
  refine ⟨?_, ?_, fp_g_n (by omega), ?_⟩
  · unfold fq_Y at h2 ⊢; rw [fp_g_n (by omega)]; exact h2
  · unfold fq_Z at h4 ⊢; rw [fp_g_n (by omega)]; exact h4
  · unfold fq_up; rw [fp_g_n (by omega)]
theorem fq_O_sv {S : FpG} (hn : 1 ≤ n) (h : fq_O n H) (hS : S = fq_sa (fp_cpG (H 1) (H 0))) (hN : fq_N (fp_g (fp_push (fp_g H 1 S)) 0 (fp_cpG (H 0) S))) : fq_O (n + 1) (fp_g (fp_push (fp_g H 1 S)) 0 (fp_cpG (H 0) S)) ∧ fp_g (fp_push (fp_g H 1 S)) 0 (fp_cpG (H 0) S) 7 15 2 = fq_up H ∧ fp_e (fp_g (fp_push (fp_g H 1 S)) 0 (fp_cpG (H 0) S) 0) (fq_sa (H 0)) := by
  obtain ⟨g1, g2, g3, g4⟩ := fq_O_g (S := S) h
  have hIS : fq_I (n + 1) S := by rw [hS]; exact fq_I_sa hn (fq_I_cp h.1)
  have hJS : fq_J S := by rw [hS]; exact fq_J_hoa _ _ (fq_J_cp h.2.2.1)
  obtain ⟨o1, o2⟩ := fq_O_p g1 g2 (fq_I_cp (G := H 0) hIS) (fq_J_cp (G := H 0) hJS) hN
  refine ⟨o1, o2.trans g4, ?_⟩
  rw [fp_g_s]
  refine fp_e_t (fq_sv_e h.2.2.2.2 hN) ?_
  rw [hS]
  exact fp_e_sa (fq_N_cp h.2.2.2.2 (by omega) (by omega))
theorem sp_serveAllN (hn : 1 ≤ n ∧ n ≤ 590) (h : fq_O n H) (h0 : H 0 9 3 - fq_sa (H 0) 9 3 = 0 → ∀ K, fq_c H K → Q (some (.inl (-5))) K) (h1 : ¬ H 0 9 3 - fq_sa (H 0) 9 3 = 0 → ∀ K, fq_O (n + 1) K → K 7 15 2 = fq_up H → fp_e (K 0) (fq_sa (H 0)) → (fq_N (fp_pop K) → fq_O n (fp_pop K)) → Q (some (.inl (H 0 9 3 - fq_sa (H 0) 9 3))) K) : fp_Wp L (d + 5) 58 0 (fp_en 58 [.inr (7, 14)]) [] H Q := by
  have e := fq_N_cp h.2.2.2.2 (g := 1) (g' := 0) (by omega) (by omega)
  have hI := fq_I_cp (G := H 1) h.1
  have e9 := e 9 3 (by omega)
  have es := fp_e_sa e 9 3 (by omega)
  refine fp_Wp_ag (sp_serveAll h.2.1 rfl hI.1.2.2.1.1 (fq_hc hI (by omega)) (fun hz ha => ?_) (fun hz ha => ?_))
  · rw [e9, es] at hz
    exact h0 hz _ ⟨fun g hg => fp_g_n hg, fq_N_ag h.2.2.2.2 ha⟩
  · rw [e9, es] at hz ⊢
    have hN := fq_N_ag h.2.2.2.2 ha
    obtain ⟨o1, o2, o3⟩ := fq_O_sv hn.1 h rfl hN
    obtain ⟨g1, g2, g3, g4⟩ := fq_O_g (S := fq_sa (fp_cpG (H 1) (H 0))) h
    exact h1 hz _ o1 o2 o3 (fun hp => fq_O_u g1 g2 (by rw [g3]; exact h.1) (by rw [g3]; exact h.2.2.1) hp)
theorem sp_actsN {y : Int} (hy : 0 ≤ y ∧ y ≤ 2147483647) (hn : 1 ≤ n ∧ n ≤ 590) (h : fq_O n H)
    (hq0 : y % 16 ≠ 9 → (fq_act (H 0) y).2 = none → (fq_act (H 0) y).1 < 0 → Q (some (.inl (fq_act (H 0) y).1)) H)
    (hq1 : y % 16 ≠ 9 → ∀ K, (fq_act (H 0) y).2 = some (K 0) → 0 ≤ (fq_act (H 0) y).1 → fq_O (n + 1) K → K 7 15 2 = fq_up H → Q (some (.inl (fq_act (H 0) y).1)) K)
    (h0 : y % 16 = 9 → H 0 9 3 - fq_sa (H 0) 9 3 = 0 → ∀ K, fq_c H K → Q (some (.inl (-5))) K)
    (h1 : y % 16 = 9 → ¬ H 0 9 3 - fq_sa (H 0) 9 3 = 0 → ∀ K, fq_O (n + 1) K → K 7 15 2 = fq_up H → fp_e (K 0) (fq_sa (H 0)) → Q (some (.inl (H 0 9 3 - fq_sa (H 0) 9 3))) K) : fp_Wp L (d + 6) 83 0 (fp_en 83 [.inr (7, 14), .inl y]) [] H Q := by
  have e := fq_N_cp h.2.2.2.2 (g := 1) (g' := 0) (by omega) (by omega)
  have hI := fq_I_cp (G := H 1) h.1
  have e9 := e 9 3 (by omega)
  have es := fp_e_sa e 9 3 (by omega)
  refine fp_Wp_ag (sp_acts hy ⟨hn.1, by omega⟩ h.1 h.2.1 h.2.2.2.1 (fun h9 ha => ?_) rfl hI.1.2.2.1.1 (fq_hc hI (by omega)) (fun h9 hz ha => ?_) (fun h9 hz ha => ?_))
  · rcases fq_act_sg (y := y) hn.1 h.1 hy.1 with ⟨e1, e2⟩ | ⟨G', e1, e2⟩
    · have := hq0 h9 e1 e2
      rw [e1]
      exact this
    · rw [e1] at ha ⊢
      have hN := fq_N_ag h.2.2.2.2 ha
      obtain ⟨o1, o2⟩ := fq_O_p h.2.1 h.2.2.2.1 (fq_act_I hn.1 h.1 e1) (fq_act_J h.2.2.1 e1) hN
      exact hq1 h9 (fp_g (fp_push H) 0 G') (by rw [fp_g_s]; exact e1) e2 o1 o2
  · rw [e9, es] at hz
    exact h0 h9 hz _ ⟨fun g hg => fp_g_n hg, fq_N_ag h.2.2.2.2 ha⟩
  · rw [e9, es] at hz ⊢
    obtain ⟨o1, o2, o3⟩ := fq_O_sv hn.1 h rfl (fq_N_ag h.2.2.2.2 ha)
    exact h1 h9 hz _ o1 o2 o3
end FQS
