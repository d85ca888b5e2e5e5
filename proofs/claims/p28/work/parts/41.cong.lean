/-! states that are the same where it counts -/
def fp_e (G F : FpG) : Prop := ∀ c i : Nat, c < 14 → G c i = F c i
section FPE
variable {G F : FpG}
theorem fp_e_gu {c i : Nat} {v w : Int} (h : fp_e G F) (hv : v = w) : fp_e (fp_gu G c i v) (fp_gu F c i w) := by
  intro c' i' hc
  subst hv
  unfold fp_gu
  split
  · rfl
  · exact h _ _ hc
theorem fp_e_lrem {k : Nat} (h : fp_e G F) : fp_e (fp_lrem G k) (fp_lrem F k) := by
  intro c i hc
  unfold fp_lrem
  rw [h 9 3 (by omega), h c i hc, h c (i + 1) hc]
theorem fp_e_srem {k : Nat} (h : fp_e G F) : fp_e (fp_srem G k) (fp_srem F k) := by
  intro c i hc
  unfold fp_srem
  rw [h 6 2 (by omega), h c i hc, h c (i + 1) hc]
theorem fp_e_scut {k : Nat} {v w : Int} (h : fp_e G F) (hv : v = w) : fp_e (fp_scut G k v) (fp_scut F k w) := by
  subst hv
  unfold fp_scut
  rw [h 7 k (by omega)]
  split
  · exact fp_e_srem (fp_e_gu h rfl)
  · exact fp_e_gu h rfl
theorem fp_e_lose {t : Int} : ∀ (n : Nat) {G F : FpG}, fp_e G F → fp_e (fp_lose t n G) (fp_lose t n F)
  | 0, _, _, h => h
  | n + 1, G, F, h => by
    simp only [fp_lose]
    rw [h 12 n (by omega)]
    split
    · exact fp_e_lose n (fp_e_lrem (fp_e_gu h rfl))
    · exact fp_e_lose n (fp_e_gu h rfl)
theorem fp_e_tkn {p : Nat} {f : Int} (h : fp_e G F) : fp_tkn G p f = fp_tkn F p f := by
  unfold fp_tkn
  rw [h 13 0 (by omega), h 13 1 (by omega), fp_mx_c (f := fun j => G 2 (8 * p + j)) (f' := fun j => F 2 (8 * p + j)) 8 (fun j _ => h 2 _ (by omega))]
theorem fp_e_tp {t : Int} (h : fp_e G F) : fp_e (fp_tp G t) (fp_tp F t) := by
  have h1 : fp_e (fp_lose t (F 9 3).toNat (fp_gu G 0 5 (G 0 5 + t))) (fp_lose t (F 9 3).toNat (fp_gu F 0 5 (F 0 5 + t))) := fp_e_lose _ (fp_e_gu h (by rw [h 0 5 (by omega)]))
  unfold fp_tp
  rw [h 9 3 (by omega)]
  exact fp_e_gu h1 (by rw [h 0 7 (by omega), h1 9 3 (by omega)])
theorem fp_e_mk {p s : Nat} {f : Int} (h : fp_e G F) : fp_e (fp_mk G p s f) (fp_mk F p s f) := by
  unfold fp_mk
  rw [fp_e_tkn h, h 0 8 (by omega), h 3 p (by omega), h 4 p (by omega), h 5 p (by omega)]
  exact fp_e_tp (fp_e_gu (fp_e_gu (fp_e_gu (fp_e_gu (fp_e_scut h rfl) rfl) rfl) rfl) rfl)
theorem fp_e_alk {a b : Nat} (h : fp_e G F) : fp_alk G a b = fp_alk F a b := by
  unfold fp_alk
  refine propext ⟨fun q j hj => ?_, fun q j hj => ?_⟩
  · rw [← h _ _ (by omega), ← h _ _ (by omega)]; exact q j hj
  · rw [h _ _ (by omega), h _ _ (by omega)]; exact q j hj
theorem fp_e_okB {t : Nat} (h : fp_e G F) : fp_okB G t = fp_okB F t := by
  funext k
  unfold fp_okB fp_has
  rw [h 10 t (by omega), h 11 t (by omega), h 3 k (by omega), h 4 k (by omega), fp_e_alk h]
theorem fp_e_tk {p : Nat} {w : Int} (h : fp_e G F) : fp_e (fp_tk G p w) (fp_tk F p w) := by
  have h1 : fp_e (fp_tkl G p w) (fp_tkl F p w) := by
    unfold fp_tkl
    rw [h 3 p (by omega)]
    split
    · exact h
    · exact fp_e_gu h rfl
  unfold fp_tk
  rw [h 4 p (by omega)]
  split
  · exact h1
  · exact fp_e_gu h1 rfl
theorem fp_e_ho {t k : Nat} (h : fp_e G F) : fp_e (fp_ho G t k) (fp_ho F t k) := by
  unfold fp_ho
  rw [h 11 t (by omega), h 0 4 (by omega), h 0 6 (by omega)]
  exact fp_e_lrem (fp_e_gu (fp_e_gu (fp_e_tk h) rfl) rfl)
theorem fp_e_hoa : ∀ (m t : Nat) {G F : FpG}, fp_e G F → fp_e (fp_hoa m t G) (fp_hoa m t F)
  | 0, _, _, _, h => h
  | m + 1, t, G, F, h => by
    simp only [fp_hoa]
    rw [fp_e_okB h, h 1 4 (by omega)]
    split
    · exact fp_e_hoa m (t + 1) h
    · exact fp_e_hoa m t (fp_e_ho h)
theorem fp_e_sa (h : fp_e G F) : fp_e (fq_sa G) (fq_sa F) := by
  unfold fq_sa
  rw [h 9 3 (by omega)]
  exact fp_e_hoa _ _ h
end FPE
/-- the cells of the states that no field and no array has are 0 -/
def fq_N (H : FpH) : Prop := ∀ g c i : Nat, g < 7 → c < 14 → ¬ fp_rel c i → H g c i = 0
theorem fq_N_ag {H H' : FpH} (h : fq_N H) (a : fp_ag H H') : fq_N H' := fun g c i hg hc hr => (a g c i hc hr).trans (h g c i hg hc hr)
theorem fq_N_cp {H : FpH} (h : fq_N H) {g g' : Nat} (hg : g < 7) (hg' : g' < 7) : fp_e (fp_cpG (H g) (H g')) (H g') := by
  intro c i hc
  by_cases hr : fp_rel c i
  · exact fp_cpG_e hr
  · have e : fp_cpG (H g) (H g') c i = H g c i := by unfold fp_cpG; unfold fp_rel at hr; rw [if_neg hr]
    rw [e, h g c i hg hc hr, h g' c i hg' hc hr]
