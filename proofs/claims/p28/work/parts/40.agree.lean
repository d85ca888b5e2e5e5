/-! what no run changes: the cells that no field and no array has -/
def fp_ag (H H' : FpH) : Prop := ∀ g c i : Nat, c < 14 → ¬ fp_rel c i → H' g c i = H g c i
theorem fp_ag_r {H : FpH} : fp_ag H H := fun _ _ _ _ _ => rfl
theorem fp_ag_t {H H' H'' : FpH} (h : fp_ag H H') (h' : fp_ag H' H'') : fp_ag H H'' := fun g c i hc hr => (h' g c i hc hr).trans (h g c i hc hr)
theorem fp_ag_up {H : FpH} {g c i : Nat} {z : Int} (h : c < 14 → fp_rel c i) : fp_ag H (fp_up H g c i z) := by
  intro g' c' i' hc hr
  unfold fp_up
  rw [if_neg]
  rintro ⟨-, rfl, rfl⟩
  exact hr (h hc)
theorem fp_ag_cp {H : FpH} {g c g' c' sp dp n : Nat} (h : c' < 14 → ∀ i, dp ≤ i → i < dp + n → fp_rel c' i) : fp_ag H (fp_cp H g c g' c' sp dp n) := by
  intro x y i hc hr
  unfold fp_cp
  rw [if_neg]
  rintro ⟨-, rfl, h1, h2⟩
  exact hr (h hc i h1 h2)
theorem fp_fw_chk : (List.range 14).all (fun c => match fp_os c with
  | some (_, fs) => (List.range fs.length).all (fun b => match fp_nth fs b with
    | some none => decide ((c = 0 ∧ 4 ≤ b ∧ b < 9) ∨ (c = 1 ∧ b = 4) ∨ (c = 6 ∧ b = 2) ∨ (c = 9 ∧ b = 3))
    | _ => true)
  | none => true) = true := by decide +kernel
theorem fp_fw_rel {c a b : Nat} (h : fp_fw c a b = true) (hc : c < 14) : fp_rel c b := by
  have h1 := List.all_eq_true.mp fp_fw_chk c (List.mem_range.mpr hc)
  unfold fp_fw at h
  split at h
  · rename_i ci fs ho
    rw [ho] at h1
    cases hci : Nat.beq ci a with
    | false => rw [hci] at h; cases h
    | true =>
      rw [hci] at h
      simp only [cond_true] at h
      split at h
      · rename_i hn
        have h2 := List.all_eq_true.mp h1 b (List.mem_range.mpr (fp_nth_lt fs b hn))
        rw [hn] at h2
        have h3 := of_decide_eq_true h2
        unfold fp_rel
        omega
      · cases h
  · cases h
theorem fp_as_chk2 : (List.range 14).all (fun c => match fp_as 0 c with
  | some (_, n) => decide ((c = 2 ∧ n ≤ 80) ∨ ((c = 3 ∨ c = 4 ∨ c = 5) ∧ n ≤ 10) ∨ ((c = 7 ∨ c = 8) ∧ n ≤ 6) ∨ ((c = 10 ∨ c = 11 ∨ c = 12) ∧ n ≤ 12) ∨ (c = 13 ∧ n ≤ 3))
  | none => true) = true := by decide +kernel
theorem fp_as_rel {L c n i : Nat} {ch : Bool} (h : fp_as L c = some (ch, n)) (hc : c < 14) (hi : i < n) : fp_rel c i := by
  have h1 := List.all_eq_true.mp fp_as_chk2 c (List.mem_range.mpr hc)
  rw [← fp_as_lo L c (by omega), h] at h1
  have h3 := of_decide_eq_true h1
  unfold fp_rel
  omega
theorem fp_st_ag {L c : Nat} {ch : Bool} {i : Int} {P P' : Prop} (h : (c < 14 → fp_rel c i.toNat) → P → P') : fp_st L ch i c P → fp_st L ch i c P' := by
  intro q
  obtain ⟨n, h1, h2, h3, h4, h5⟩ := fp_st_out q
  unfold fp_st
  rw [h1]
  have e : Nat.ble c 25 = true := Nat.ble_eq_true_of_le h2
  simp only [beq_self_eq_true, e, Bool.and_self, cond_true]
  exact ⟨⟨h3, h4⟩, h (fun hc => fp_as_rel h1 hc (by omega)) h5⟩
theorem fp_cpy_ag {L c c' : Nat} {n dp sp : Int} {P P' : Prop} (h : (c' < 14 → ∀ i, dp.toNat ≤ i → i < dp.toNat + n.toNat → fp_rel c' i) → P → P') : fp_cpy L n dp c' sp c P → fp_cpy L n dp c' sp c P' := by
  intro q
  obtain ⟨m, m', h1, h2, h3, h4, h5, h6⟩ := fp_cpy_out q
  unfold fp_cpy
  rw [h1, h2]
  have e : Nat.ble c' 25 = true := Nat.ble_eq_true_of_le h3
  have e' : Nat.ble c 25 = true := Nat.ble_eq_true_of_le h4
  simp only [e, e', Bool.and_self, cond_true]
  exact ⟨h5, h (fun hc i a b => fp_as_rel h2 hc (by omega)) h6⟩
section FPAG
variable {L : Nat} {ls : FpL} {st : List FpV} {H : FpH} {N N' : FpN} {C C' : FpC}
theorem fp_calV_ag {tg a b nx : Nat} (hN : ∀ pc ls st H1, fp_ag H H1 → N pc ls st H1 → N' pc ls st H1) (hC : ∀ u args (K K' : FpQ), (∀ v H1, fp_ag H H1 → K v H1 → K' v H1) → C u args H K → C' u args H K') : fp_calV tg a b nx ls st H N C → fp_calV tg a b nx ls st H N' C' :=
  fp_ta_mono (fun _ _ => fp_cond_mono (hC _ _ _ _ (fun _ _ => hN _ _ _ _)))
theorem fp_calS_ag {a b nx : Nat} (hN : ∀ pc ls st H1, fp_ag H H1 → N pc ls st H1 → N' pc ls st H1) (hC : ∀ u args (K K' : FpQ), (∀ v H1, fp_ag H H1 → K v H1 → K' v H1) → C u args H K → C' u args H K') : fp_calS a b nx ls st H N C → fp_calS a b nx ls st H N' C' :=
  fp_ta_mono (fun _ _ => fp_cond_mono (hC _ _ _ _ (fun _ _ => hN _ _ _ _)))
set_option maxHeartbeats 4000000 in
theorem fp_step_ag {R : FpQ} {R' : FpQ} (e : FpE) (hN : ∀ pc ls st H1, fp_ag H H1 → N pc ls st H1 → N' pc ls st H1) (hC : ∀ u args (K K' : FpQ), (∀ v H1, fp_ag H H1 → K v H1 → K' v H1) → C u args H K → C' u args H K') (hR : ∀ v, R v H → R' v H) : fp_step L e ls st H N C R → fp_step L e ls st H N' C' R' := by
  obtain ⟨i, nx, tg, a, b, w⟩ := e
  have hN0 : ∀ pc ls st, N pc ls st H → N' pc ls st H := fun pc ls st => hN pc ls st H fp_ag_r
  unfold fp_step
  cases i <;> dsimp only <;> first
    | exact id
    | exact hN0 _ _ _
    | (refine fp_lg_mono (fun v => ?_); cases v <;> first | exact hN0 _ _ _ | exact (fun q => ⟨q.1, fp_ls_mono (fun _ => hN0 _ _ _) q.2⟩) | exact id)
    | exact fp_s1_mono (fun _ _ => fp_ls_mono (fun _ => hN0 _ _ _))
    | exact fp_sr_mono (fun _ _ _ => fp_ls_mono (fun _ => hN0 _ _ _))
    | exact fp_s2_mono (fun _ _ _ q => ⟨q.1, hN0 _ _ _ q.2⟩)
    | exact fp_s1_mono (fun _ _ => hN0 _ _ _)
    | (cases Nat.beq a 1 <;> exact hN0 _ _ _)
    | (split <;> first | exact hN0 _ _ _ | exact id)
    | (rename_i cnd _; cases cnd <;> exact fp_s1_mono (fun _ _ => fp_br_mono (hN0 _ _ _) (hN0 _ _ _)))
    | (rename_i cnd _; cases cnd <;> exact fp_s2_mono (fun _ _ _ => fp_br_mono (hN0 _ _ _) (hN0 _ _ _)))
    | exact fp_sr_mono (fun _ _ _ => fp_fd_mono (fun _ => hN0 _ _ _))
    | (split
       · intro q
         obtain ⟨q1, q2⟩ := fp_cond_out q
         rw [q1]
         simp only [cond_true]
         exact fp_if_mono (hN _ _ _ _ (fp_ag_up (fun hc => fp_fw_rel q1 hc))) q2
       · exact id)
    | exact fp_si_mono (fun _ _ _ _ => fp_ld_mono (fun _ => hN0 _ _ _))
    | exact fp_sii_mono (fun _ _ _ _ _ => fp_st_ag (fun hr => hN _ _ _ _ (fp_ag_up hr)))
    | exact fp_sii_mono (fun _ _ _ _ _ q => ⟨q.1, fp_st_ag (fun hr => hN _ _ _ _ (fp_ag_up hr)) q.2⟩)
    | exact fp_si_mono (fun _ _ _ _ => fp_cond_mono (fun q => ⟨q.1, hN0 _ _ _ q.2⟩))
    | exact fp_sr_mono (fun _ _ _ => fp_len_mono (fun _ => hN0 _ _ _))
    | exact fp_calV_ag hN hC
    | (cases Nat.beq a 900 <;> dsimp only [cond] <;> first
        | (cases Nat.beq a 901 <;> dsimp only [cond] <;> first
            | exact fp_calS_ag hN hC
            | exact fp_s2_mono (fun _ _ _ => fp_cond_mono (hN0 _ _ _)))
        | exact fp_sc_mono (fun _ _ _ _ _ _ _ _ => fp_cpy_ag (fun hr => fp_cond_mono (hN _ _ _ _ (fp_ag_cp hr)))))
    | (split <;> first | exact fp_if_mono (hR _) | exact hR _ | exact id)
    | exact fp_s1_mono (fun _ _ q => ⟨fun h => hN0 _ _ _ (q.1 h), fp_sws_mono (fun _ => hN0 _ _ _) q.2⟩)
end FPAG
theorem fp_Wp_ag {L d u pc : Nat} {ls : FpL} {st : List FpV} {H : FpH} {Q : FpQ} (h : fp_Wp L d u pc ls st H (fun v H' => fp_ag H H' → Q v H')) : fp_Wp L d u pc ls st H Q := by
  intro X hX
  have hg : fp_Good L (fun d u pc ls st H Q => ∀ Q'' : FpQ, (∀ v H', fp_ag H H' → Q v H' → Q'' v H') → X d u pc ls st H Q'') := by
    refine ⟨fun d u pc ls st H Q Q' hQ hx Q'' hq => hx Q'' (fun v H' a b => hq v H' a (hQ v H' b)), fun d u pc ls st H Q e he hs Q'' hq => ?_⟩
    refine hX.2 _ _ _ _ _ _ _ e he (fp_step_ag e (fun pc ls st H1 a q => q Q'' (fun v H' b c => hq v H' (fp_ag_t a b) c)) (fun u args K K' hK q => ?_) (fun v q => hq v H fp_ag_r q) hs)
    obtain ⟨d', e1, q⟩ := q
    exact ⟨d', e1, q K' hK⟩
  exact h _ hg Q (fun v H' a b => b a)
