/-! what acts do to the numbers that are told -/
theorem fp_sm_m {f g : Nat → Int} : ∀ n : Nat, (∀ i, i < n → f i ≤ g i) → fp_sm f n ≤ fp_sm g n
  | 0, _ => Int.le_refl _
  | n + 1, h => by
    simp only [fp_sm]
    have h1 := fp_sm_m n (fun i hi => h i (by omega))
    have h2 := h n (by omega)
    omega
theorem fp_sm_u {f f' : Nat → Int} {k : Nat} : ∀ n : Nat, k < n → (∀ i, i ≠ k → f' i = f i) → fp_sm f' n = fp_sm f n + (f' k - f k)
  | 0, h, _ => by omega
  | n + 1, h, hf => by
    simp only [fp_sm]
    by_cases hk : k = n
    · subst hk
      rw [fp_sm_c (f := f') (f' := f) k (fun i hi => hf i (by omega))]
      omega
    · rw [fp_sm_u n (by omega) hf, hf n (by omega)]
      omega
theorem fp_sm_r {f f' : Nat → Int} {k : Nat} : ∀ n : Nat, k ≤ n → (∀ i, i < n → f' i = if k ≤ i then f (i + 1) else f i) → fp_sm f' n = fp_sm f (n + 1) - f k
  | 0, h, _ => by
    have : k = 0 := by omega
    subst this
    simp only [fp_sm]
    omega
  | n + 1, h, hf => by
    by_cases hk : k ≤ n
    · have h1 := fp_sm_r n hk (fun i hi => hf i (by omega))
      have h2 := hf n (by omega)
      rw [if_pos hk] at h2
      simp only [fp_sm] at h1 ⊢
      omega
    · have : k = n + 1 := by omega
      subst this
      have h1 := fp_sm_c (f := f') (f' := f) (n + 1) (fun i hi => by rw [hf i hi, if_neg (by omega)])
      rw [h1]
      simp only [fp_sm]
      omega
/-- the paper of all strips -/
def fq_pp (G : FpG) : Int := fp_sm (G 7) (G 6 2).toNat
theorem fq_pp_scut {G : FpG} {s : Nat} {v : Int} (hs : (s : Int) < G 6 2) : fq_pp (fp_scut G s v) = fq_pp G - v := by
  unfold fq_pp fp_scut
  obtain ⟨m, hm⟩ : ∃ m : Nat, G 6 2 = ((m + 1 : Nat) : Int) := ⟨(G 6 2 - 1).toNat, by omega⟩
  have hu := fp_sm_u (f := G 7) (f' := fp_gu G 7 s (G 7 s - v) 7) (k := s) (m + 1) (by omega) (fun i hi => by unfold fp_gu; rw [if_neg (by omega)])
  rw [fp_gu_s] at hu
  have h62 : fp_gu G 7 s (G 7 s - v) 6 2 = ((m + 1 : Nat) : Int) := by rw [fp_gu_c (by rfl)]; exact hm
  have e0 : (G 6 2).toNat = m + 1 := by omega
  split
  · rename_i h0
    have hr := fp_sm_r (f := fp_gu G 7 s (G 7 s - v) 7) (f' := fp_srem (fp_gu G 7 s (G 7 s - v)) s 7) (k := s) m (by omega) (fun i hi => by
      unfold fp_srem
      rw [if_neg (by omega), h62]
      by_cases hsi : s ≤ i
      · rw [if_pos ⟨Or.inl rfl, hsi, by omega⟩, if_pos hsi]
      · rw [if_neg (by omega), if_neg hsi])
    have e1 : (fp_srem (fp_gu G 7 s (G 7 s - v)) s 6 2).toNat = m := by
      have : fp_srem (fp_gu G 7 s (G 7 s - v)) s 6 2 = fp_gu G 7 s (G 7 s - v) 6 2 - 1 := by
        conv => lhs; unfold fp_srem
        rw [if_pos ⟨rfl, rfl⟩]
      rw [this, h62]; omega
    rw [e1, hr, hu, e0, fp_gu_s]
    omega
  · rw [fp_gu_c (by rfl), e0, hu]
    omega
theorem fq_pp_sadd {G : FpG} {l t : Int} (h : 0 ≤ G 6 2) : fq_pp (fp_sadd G l t) = fq_pp G + l := by
  obtain ⟨m, hm⟩ := Int.eq_ofNat_of_zero_le h
  unfold fq_pp
  have e1 : fp_sadd G l t 6 2 = G 6 2 + 1 := by
    unfold fp_sadd; rw [if_pos ⟨rfl, rfl⟩]
  have e2 : (fp_sadd G l t 6 2).toNat = m + 1 := by omega
  have e3 : (G 6 2).toNat = m := by omega
  rw [e2, e3]
  simp only [fp_sm]
  have e4 : fp_sadd G l t 7 m = l := by
    unfold fp_sadd
    rw [if_neg (by omega), if_pos (by omega), if_pos rfl]
  rw [e4, fp_sm_c (f := fp_sadd G l t 7) (f' := G 7) m (fun i hi => by
    unfold fp_sadd
    rw [if_neg (by omega), if_neg (by omega)])]
theorem fq_pp_u {G : FpG} {s : Nat} {v : Int} (hs : (s : Int) < G 6 2) : fq_pp (fp_gu G 7 s v) = fq_pp G + (v - G 7 s) := by
  unfold fq_pp
  rw [fp_gu_c (by rfl), fp_sm_u (f := G 7) (f' := fp_gu G 7 s v 7) (k := s) _ (by omega) (fun i hi => by unfold fp_gu; rw [if_neg (by omega)]), fp_gu_s]
section FQMK
variable {G : FpG} {p s : Nat} {f : Int}
theorem fp_mk_67 {c i : Nat} (hc : c = 6 ∨ c = 7) : fp_mk G p s f c i = fp_scut G s (fp_tkn G p f) c i := by
  rcases hc with rfl | rfl <;> simp only [fp_mk, fp_tp, fp_gu_c, fp_lose_o, Nat.reduceBEq]
theorem fp_mk_1 : fp_mk G p s f 1 4 = G 1 4 := by simp only [fp_mk, fp_tp, fp_gu_c, fp_lose_o, fp_scut_o, Nat.reduceBEq]
theorem fp_mk_5 {i : Nat} : fp_mk G p s f 5 i = if i = p then G 5 p + fp_ly f else G 5 i := by
  simp only [fp_mk, fp_tp, fp_gu_c, fp_lose_o, Nat.reduceBEq]
  conv => lhs; unfold fp_gu
  simp only [true_and, fp_gu, fp_scut_o, Nat.reduceBEq, Nat.reduceEqDiff, false_and, if_false]
theorem fp_mk_4 {i : Nat} : fp_mk G p s f 4 i = if i = p then G 4 p + fp_ly f / 2 else G 4 i := by
  simp only [fp_mk, fp_tp, fp_gu_c, fp_lose_o, Nat.reduceBEq]
  conv => lhs; unfold fp_gu
  simp only [true_and, fp_gu, fp_scut_o, Nat.reduceBEq, Nat.reduceEqDiff, false_and, if_false]
theorem fp_mk_3 {i : Nat} : fp_mk G p s f 3 i = if i = p then G 3 p + (fp_ly f + 1) / 2 else G 3 i := by
  simp only [fp_mk, fp_tp, fp_gu_c, fp_lose_o, Nat.reduceBEq]
  conv => lhs; unfold fp_gu
  simp only [true_and, fp_gu, fp_scut_o, Nat.reduceBEq, Nat.reduceEqDiff, false_and, if_false]
theorem fp_mk_05 : fp_mk G p s f 0 5 = G 0 5 + (1 + f) := by
  simp only [fp_mk, fp_tp, fp_gu_c, fp_gu_i, fp_gu_s, fp_lose_o, fp_scut_o, Nat.reduceBEq]
theorem fp_mk_08 : fp_mk G p s f 0 8 = G 0 8 + fp_tkn G p f := by
  simp only [fp_mk, fp_tp, fp_gu_c, fp_gu_i, fp_gu_s, fp_lose_o, fp_scut_o, Nat.reduceBEq]
theorem fp_mk_06 : fp_mk G p s f 0 6 = G 0 6 := by
  simp only [fp_mk, fp_tp, fp_gu_c, fp_gu_i, fp_gu_s, fp_lose_o, fp_scut_o, Nat.reduceBEq]
theorem fp_mk_04 : fp_mk G p s f 0 4 = G 0 4 := by
  simp only [fp_mk, fp_tp, fp_gu_c, fp_gu_i, fp_gu_s, fp_lose_o, fp_scut_o, Nat.reduceBEq]
theorem fp_mk_07 : fp_mk G p s f 0 7 = G 0 7 + (G 9 3 - fp_mk G p s f 9 3) := by
  simp only [fp_mk, fp_tp, fp_gu_c, fp_gu_i, fp_gu_s, fp_lose_o, fp_scut_o, Nat.reduceBEq]
theorem fp_mk_93 : fp_mk G p s f 9 3 ≤ G 9 3 := by
  have h := (fp_lose_z (t := 1 + f) (G 9 3).toNat (fp_gu (fp_gu (fp_gu (fp_gu (fp_gu (fp_scut G s (fp_tkn G p f)) 0 8 (G 0 8 + fp_tkn G p f)) 3 p (G 3 p + (fp_ly f + 1) / 2)) 4 p (G 4 p + fp_ly f / 2)) 5 p (G 5 p + fp_ly f)) 0 5 (G 0 5 + (1 + f)))).2
  simp only [fp_gu_c, fp_scut_o, Nat.reduceBEq] at h
  simp only [fp_mk, fp_tp, fp_gu_c, fp_gu_i, fp_gu_s, fp_lose_o, fp_scut_o, Nat.reduceBEq]
  exact h
theorem fq_pp_mk (hs : (s : Int) < G 6 2) : fq_pp (fp_mk G p s f) = fq_pp G - fp_tkn G p f := by
  rw [← fq_pp_scut hs]
  unfold fq_pp
  rw [fp_mk_67 (Or.inl rfl), fp_sm_c (f := fp_mk G p s f 7) (f' := fp_scut G s (fp_tkn G p f) 7) _ (fun i _ => fp_mk_67 (Or.inr rfl))]
theorem fq_cs_mk (hp : (p : Int) < G 1 4) : fp_sm (fp_mk G p s f 5) (fp_mk G p s f 1 4).toNat = fp_sm (G 5) (G 1 4).toNat + fp_ly f := by
  rw [fp_mk_1, fp_sm_u (f := G 5) (f' := fp_mk G p s f 5) (k := p) _ (by omega) (fun i hi => by rw [fp_mk_5, if_neg hi]), fp_mk_5, if_pos rfl]
  omega
end FQMK
/-- of each profile no more is in stock than was cut; there is a profile -/
def fq_J (G : FpG) : Prop := (∀ p, p < 10 → G 3 p + G 4 p ≤ G 5 p) ∧ 1 ≤ G 1 4
theorem fq_J_cp {G F : FpG} (h : fq_J F) : fq_J (fp_cpG G F) := by
  refine ⟨fun p hp => ?_, ?_⟩
  · rw [fp_cpG_e (by unfold fp_rel; omega), fp_cpG_e (by unfold fp_rel; omega), fp_cpG_e (by unfold fp_rel; omega)]; exact h.1 p hp
  · rw [fp_cpG_e (by unfold fp_rel; omega)]; exact h.2
theorem fq_J_of {G F : FpG} (h : fq_J G) (h3 : ∀ i, F 3 i = G 3 i) (h4 : ∀ i, F 4 i = G 4 i) (h5 : ∀ i, F 5 i = G 5 i) (h1 : G 1 4 ≤ F 1 4) : fq_J F :=
  ⟨fun p hp => by rw [h3, h4, h5]; exact h.1 p hp, by have := h.2; omega⟩
theorem fq_J_ho {G : FpG} {t k : Nat} (h : fq_J G) : fq_J (fp_ho G t k) := by
  refine ⟨fun p hp => ?_, by rw [fp_ho_1]; exact h.2⟩
  have := h.1 p hp
  rw [fp_ho_3, fp_ho_4, fp_ho_o (by rfl) (by rfl) (by rfl) (by rfl) (by rfl) (by rfl) (by rfl)]
  split <;> split <;> omega
theorem fq_J_hoa : ∀ (m t : Nat) {G : FpG}, fq_J G → fq_J (fp_hoa m t G)
  | 0, _, _, h => h
  | m + 1, t, G, h => by
    simp only [fp_hoa]
    split
    · exact fq_J_hoa m (t + 1) h
    · exact fq_J_hoa m t (fq_J_ho h)
theorem fq_J_mk {G : FpG} {p s : Nat} {f : Int} (hf : 0 ≤ f ∧ f < 4) (h : fq_J G) : fq_J (fp_mk G p s f) := by
  refine ⟨fun q hq => ?_, by rw [fp_mk_1]; exact h.2⟩
  have h1 := h.1 q hq
  rw [fp_mk_3, fp_mk_4, fp_mk_5]
  split
  · rename_i e
    subst e
    rcases fp_pw hf with ⟨_, e⟩ | ⟨_, e⟩ | ⟨_, e⟩ | ⟨_, e⟩ <;> rw [e] <;> omega
  · exact h1
theorem fq_J_trn {G : FpG} {p : Nat} {r : Int} (h : fq_J G) : fq_J (fq_trn G p r) := by
  unfold fq_trn
  split
  · refine ⟨fun q hq => ?_, ?_⟩
    · have h1 := h.1 q hq
      simp only [fp_tp, fp_gu_c, fp_lose_o, Nat.reduceBEq]
      simp only [fp_gu, true_and, Nat.reduceEqDiff, false_and, if_false]
      by_cases e : q = p
      · subst e
        simp only [if_true]
        omega
      · simp only [e, if_false]
        omega
    · simp only [fp_tp, fp_gu_c, fp_lose_o, Nat.reduceBEq]; exact h.2
  · refine ⟨fun q hq => ?_, ?_⟩
    · have h1 := h.1 q hq
      simp only [fp_tp, fp_gu_c, fp_lose_o, Nat.reduceBEq]
      simp only [fp_gu, true_and, Nat.reduceEqDiff, false_and, if_false]
      by_cases e : q = p
      · subst e
        simp only [if_true]
        omega
      · simp only [e, if_false]
        omega
    · simp only [fp_tp, fp_gu_c, fp_lose_o, Nat.reduceBEq]; exact h.2
/-! who is served -/
theorem fp_hoa_n : ∀ (m t : Nat) {G : FpG}, (t : Int) + m = G 9 3 → fp_hoa m t G 0 6 = G 0 6 + (G 9 3 - fp_hoa m t G 9 3) ∧ fp_hoa m t G 0 5 = G 0 5 ∧ fp_hoa m t G 9 3 ≤ G 9 3 ∧ (t : Int) ≤ fp_hoa m t G 9 3
  | 0, t, G, h => ⟨by simp only [fp_hoa]; omega, rfl, Int.le_refl _, by simp only [fp_hoa]; omega⟩
  | m + 1, t, G, h => by
    simp only [fp_hoa]
    cases e : fp_ff (fp_okB G t) (G 1 4).toNat with
    | none =>
      have h1 := fp_hoa_n m (t + 1) (G := G) (by omega)
      exact ⟨h1.1, h1.2.1, h1.2.2.1, by dsimp only; omega⟩
    | some k =>
      have h1 := fp_hoa_n m t (G := fp_ho G t k) (by rw [fp_ho_93]; omega)
      rw [fp_ho_93, fp_ho_0, fp_ho_0, if_pos rfl, if_neg (by omega), if_neg (by omega)] at h1
      exact ⟨by dsimp only; omega, h1.2.1, by dsimp only; omega, h1.2.2.2⟩
/-- nobody ahead of t can be served -/
def fp_no (G : FpG) (t : Nat) : Prop := ∀ u, u < t → ∀ k : Nat, (k : Int) < G 1 4 → fp_okB G u k = false
theorem fp_no_ho {G : FpG} {t k : Nat} (h : fp_no G t) (ht : (t : Int) < G 9 3) : fp_no (fp_ho G t k) t := by
  intro u hu q hq
  rw [fp_ho_1] at hq
  have h1 := fp_dc_n (h u hu q hq)
  refine fp_okB_f (fun h2 => h1 ?_)
  have e10 : fp_ho G t k 10 u = G 10 u := by rw [fp_ho_l (Or.inl rfl) (by omega), if_neg (by omega)]
  have e11 : fp_ho G t k 11 u = G 11 u := by rw [fp_ho_l (Or.inr (Or.inl rfl)) (by omega), if_neg (by omega)]
  rw [e10, e11] at h2
  have e2 : ∀ i, fp_ho G t k 2 i = G 2 i := fun i => fp_ho_o (by rfl) (by rfl) (by rfl) (by rfl) (by rfl) (by rfl) (by rfl)
  refine ⟨fun j hj => by have := h2.1 j hj; rw [e2, e2] at this; exact this, ?_⟩
  have h3 := h2.2
  unfold fp_has at h3 ⊢
  rw [fp_ho_3, fp_ho_4] at h3
  refine ⟨h3.1.imp id (fun q => ?_), h3.2.imp id (fun q => ?_)⟩
  · split at q <;> omega
  · split at q <;> omega
theorem fp_no_s {G : FpG} {t : Nat} (h : fp_no G t) (h0 : 0 ≤ G 1 4) (hn : fp_ff (fp_okB G t) (G 1 4).toNat = none) : fp_no G (t + 1) := by
  intro u hu q hq
  by_cases hut : u = t
  · subst hut
    rcases fp_ff_out (f := fp_okB G u) (G 1 4).toNat with ⟨r, e, -⟩ | ⟨-, e⟩
    · rw [hn] at e; cases e
    · exact e q (by omega)
  · exact h u (by omega) q hq
theorem fp_no_hoa : ∀ (m t : Nat) {G : FpG}, 0 ≤ G 1 4 → (t : Int) + m = G 9 3 → fp_no G t → fp_no (fp_hoa m t G) (fp_hoa m t G 9 3).toNat
  | 0, t, G, h0, h, hn => by
    simp only [fp_hoa]
    have : (G 9 3).toNat = t := by omega
    rw [this]; exact hn
  | m + 1, t, G, h0, h, hn => by
    simp only [fp_hoa]
    cases e : fp_ff (fp_okB G t) (G 1 4).toNat with
    | none => exact fp_no_hoa m (t + 1) h0 (by omega) (fp_no_s hn h0 e)
    | some k => exact fp_no_hoa m t (G := fp_ho G t k) (by rw [fp_ho_1]; exact h0) (by rw [fp_ho_93]; omega) (fp_no_ho hn (by omega))
theorem fp_hoa_id : ∀ (m t : Nat) {G : FpG} {T : Nat}, fp_no G T → t + m ≤ T → fp_hoa m t G = G
  | 0, _, _, _, _, _ => rfl
  | m + 1, t, G, T, h, ht => by
    simp only [fp_hoa]
    rw [fp_ff_n (f := fp_okB G t) _ (fun q hq => h t (by omega) q (by omega))]
    exact fp_hoa_id m (t + 1) h (by omega)
theorem fq_sa_sa {G : FpG} (h1 : 0 ≤ G 1 4) (h9 : 0 ≤ G 9 3) : fq_sa (fq_sa G) = fq_sa G := by
  have h := fp_no_hoa (G 9 3).toNat 0 (G := G) h1 (by omega) (fun u hu => by omega)
  exact fp_hoa_id _ 0 h (by unfold fq_sa; omega)
theorem fq_sa_n {G : FpG} (h9 : 0 ≤ G 9 3) : fq_sa G 0 6 = G 0 6 + (G 9 3 - fq_sa G 9 3) ∧ fq_sa G 0 5 = G 0 5 ∧ fq_sa G 9 3 ≤ G 9 3 ∧ 0 ≤ fq_sa G 9 3 := by
  have h := fp_hoa_n (G 9 3).toNat 0 (G := G) (by omega)
  exact ⟨h.1, h.2.1, h.2.2.1, Int.le_trans (by omega) h.2.2.2⟩
/-! what a cut would bring, told of the stall itself -/
theorem fq_ifc_e {G G1 F : FpG} {p s f w : Int} (h : fp_e G1 F) : fq_ifc G G1 p s f w = fq_ifc G F p s f w := by
  unfold fq_ifc
  have h1 := fp_e_mk (p := p.toNat) (s := s.toNat) (f := f) h
  rw [h1 0 7 (by omega), h1 9 3 (by omega), fp_e_sa h1 9 3 (by omega)]
theorem sp_ifCutN {L d : Nat} {n p s f w : Int} {H : FpH} {Q : FpQ} (hn : 1 ≤ n ∧ n ≤ 599) (hI : fq_I n (H 0)) (hN : fq_N H) (hq : ∀ X, fq_N (fp_g H 1 X) → Q (some (.inl (fq_ifc (H 0) (H 0) p s f w))) (fp_g H 1 X)) : fp_Wp L (d + 5) 72 0 (fp_en 72 [.inr (7, 14), .inl p, .inl s, .inl f, .inl w]) [] H Q := by
  refine fp_Wp_ag (sp_ifCut hn hI (fun X ha => ?_))
  have h := hq X (fq_N_ag hN ha)
  rw [fq_ifc_e (fq_N_cp hN (by omega) (by omega))]
  exact h
