/-! time, cuts, serving -/
theorem fp_gu_c {G : FpG} {c i c' i' : Nat} {v : Int} (h : (c' == c) = false) : fp_gu G c i v c' i' = G c' i' := by
  have : c' ≠ c := fun e => by subst e; simp at h
  simp [fp_gu, this]
theorem fp_gu_s {G : FpG} {c i : Nat} {v : Int} : fp_gu G c i v c i = v := by simp [fp_gu]
theorem fp_gu_i {G : FpG} {c i c' i' : Nat} {v : Int} (h : (i' == i) = false) : fp_gu G c i v c' i' = G c' i' := by
  have : i' ≠ i := fun e => by subst e; simp at h
  simp [fp_gu, this]
theorem fp_lrem_o {G : FpG} {k c i : Nat} (h9 : (c == 9) = false) (h10 : (c == 10) = false) (h11 : (c == 11) = false) (h12 : (c == 12) = false) : fp_lrem G k c i = G c i := by
  simp only [beq_eq_false_iff_ne] at h9 h10 h11 h12
  simp [fp_lrem, h9, h10, h11, h12]
theorem fp_lose_o {t : Int} {c i : Nat} (h9 : (c == 9) = false) (h10 : (c == 10) = false) (h11 : (c == 11) = false) (h12 : (c == 12) = false) : ∀ (n : Nat) (G : FpG), fp_lose t n G c i = G c i
  | 0, G => rfl
  | n + 1, G => by
    simp only [fp_lose]
    split
    · rw [fp_lose_o h9 h10 h11 h12 n, fp_lrem_o h9 h10 h11 h12, fp_gu_c h12]
    · rw [fp_lose_o h9 h10 h11 h12 n, fp_gu_c h12]
theorem fp_lose_z {t : Int} : ∀ (n : Nat) (G : FpG), G 9 3 - n ≤ fp_lose t n G 9 3 ∧ fp_lose t n G 9 3 ≤ G 9 3
  | 0, G => by simp [fp_lose]
  | n + 1, G => by
    simp only [fp_lose]
    split
    · have h := fp_lose_z (t := t) n (fp_lrem (fp_gu G 12 n (G 12 n - t)) n)
      have e : fp_lrem (fp_gu G 12 n (G 12 n - t)) n 9 3 = G 9 3 - 1 := by simp [fp_lrem, fp_gu]
      rw [e] at h
      omega
    · have h := fp_lose_z (t := t) n (fp_gu G 12 n (G 12 n - t))
      have e : (fp_gu G 12 n (G 12 n - t)) 9 3 = G 9 3 := by simp [fp_gu]
      rw [e] at h
      omega
theorem fp_srem_o {G : FpG} {k c i : Nat} (h9 : (c == 6) = false) (h10 : (c == 7) = false) (h11 : (c == 8) = false) : fp_srem G k c i = G c i := by
  simp only [beq_eq_false_iff_ne] at h9 h10 h11
  simp [fp_srem, h9, h10, h11]
theorem fp_scut_o {G : FpG} {k c i : Nat} {v : Int} (h9 : (c == 6) = false) (h10 : (c == 7) = false) (h11 : (c == 8) = false) : fp_scut G k v c i = G c i := by
  unfold fp_scut
  split
  · rw [fp_srem_o h9 h10 h11, fp_gu_c h10]
  · rw [fp_gu_c h10]
theorem fp_tk_o {G : FpG} {p c i : Nat} {w : Int} (h9 : (c == 3) = false) (h10 : (c == 4) = false) : fp_tk G p w c i = G c i := by
  unfold fp_tk fp_tkl
  split <;> split <;> (try rw [fp_gu_c h10]) <;> (try rw [fp_gu_c h9]) <;> (try rfl)
def fp_tp (G : FpG) (t : Int) : FpG :=
  fp_gu (fp_lose t (G 9 3).toNat (fp_gu G 0 5 (G 0 5 + t))) 0 7 (G 0 7 + (G 9 3 - fp_lose t (G 9 3).toNat (fp_gu G 0 5 (G 0 5 + t)) 9 3))
set_option maxHeartbeats 600000 in
set_option maxRecDepth 100000 in
theorem sp_timePass {L d g : Nat} {t : Int} {H : FpH} {Q : FpQ} (ht : 1 ≤ t ∧ t ≤ 4) (h : 0 ≤ H g 9 3 ∧ H g 9 3 ≤ 12) (hp : ∀ t : Nat, (t : Int) < H g 9 3 → 1 ≤ H g 12 t ∧ H g 12 t ≤ 99) (hc : 0 ≤ H g 0 5 ∧ H g 0 5 ≤ 2000000 ∧ 0 ≤ H g 0 7 ∧ H g 0 7 ≤ 2000000) (hq : Q none (fp_g H g (fp_tp (H g) t))) : fp_Wp L (d + 2) 40 0 (fp_en 40 [.inr (g, 0), .inl t]) [] H Q := by
  refine fp_go 1000 [] (fun KN KC hN hC => ?_)
  conv => whnf
  (try simp only [Int.reduceToNat, Int.toNat_natCast, fp_up_c, fp_up_s, fp_up_i, fp_cp_c, fp_g_s, Nat.reduceBEq, Int.reduceAdd, Int.reduceSub, Int.reduceNeg, Int.reduceMul, fp_gu_c, fp_gu_s, fp_lose_o, fp_scut_o, fp_tk_o, fp_lrem_o])
  (repeat' first
      | (refine And.intro (by first | omega | (unfold fp_rg; omega)) ?_; (try intro _); (conv => whnf); (try simp only [Int.reduceToNat, Int.toNat_natCast, fp_up_c, fp_up_s, fp_up_i, fp_cp_c, fp_g_s, Nat.reduceBEq, Int.reduceAdd, Int.reduceSub, Int.reduceNeg, Int.reduceMul, fp_gu_c, fp_gu_s, fp_lose_o, fp_scut_o, fp_tk_o, fp_lrem_o]))
      | (refine And.intro (fun _ => ?_) (fun _ => ?_) <;> first | (exfalso; omega) | (rename_i hz_; exact absurd trivial hz_) | ((conv => whnf); (try simp only [Int.reduceToNat, Int.toNat_natCast, fp_up_c, fp_up_s, fp_up_i, fp_cp_c, fp_g_s, Nat.reduceBEq, Int.reduceAdd, Int.reduceSub, Int.reduceNeg, Int.reduceMul, fp_gu_c, fp_gu_s, fp_lose_o, fp_scut_o, fp_tk_o, fp_lrem_o])))
      | (refine And.intro (by simp [fp_rg, fp_up, fp_cp] <;> omega) ?_; (conv => whnf); (try simp only [Int.reduceToNat, Int.toNat_natCast, fp_up_c, fp_up_s, fp_up_i, fp_cp_c, fp_g_s, Nat.reduceBEq, Int.reduceAdd, Int.reduceSub, Int.reduceNeg, Int.reduceMul, fp_gu_c, fp_gu_s, fp_lose_o, fp_scut_o, fp_tk_o, fp_lrem_o]))
      | fail)
  have hz := fp_lose_z (t := t) (H g 9 3).toNat (fp_gu (H g) 0 5 (H g 0 5 + t))
  rw [fp_gu_c (by rfl)] at hz
  refine hC _ _ _ _ ⟨_, rfl, ?_⟩
  refine sp_loseOver ht (by simp [fp_up]; exact h) (fun t ht => by simp [fp_up] at ht ⊢; exact hp t ht) ?_
  simp only [fp_up_g, fp_g_s, fp_g_g, fp_gu_c, Nat.reduceBEq]
  conv => whnf
  (try simp only [Int.reduceToNat, Int.toNat_natCast, fp_up_c, fp_up_s, fp_up_i, fp_cp_c, fp_g_s, Nat.reduceBEq, Int.reduceAdd, Int.reduceSub, Int.reduceNeg, Int.reduceMul, fp_gu_c, fp_gu_s, fp_lose_o, fp_scut_o, fp_tk_o, fp_lrem_o])
  (repeat' first
      | (refine And.intro (by first | omega | (unfold fp_rg; omega)) ?_; (try intro _); (conv => whnf); (try simp only [Int.reduceToNat, Int.toNat_natCast, fp_up_c, fp_up_s, fp_up_i, fp_cp_c, fp_g_s, Nat.reduceBEq, Int.reduceAdd, Int.reduceSub, Int.reduceNeg, Int.reduceMul, fp_gu_c, fp_gu_s, fp_lose_o, fp_scut_o, fp_tk_o, fp_lrem_o]))
      | (refine And.intro (fun _ => ?_) (fun _ => ?_) <;> first | (exfalso; omega) | (rename_i hz_; exact absurd trivial hz_) | ((conv => whnf); (try simp only [Int.reduceToNat, Int.toNat_natCast, fp_up_c, fp_up_s, fp_up_i, fp_cp_c, fp_g_s, Nat.reduceBEq, Int.reduceAdd, Int.reduceSub, Int.reduceNeg, Int.reduceMul, fp_gu_c, fp_gu_s, fp_lose_o, fp_scut_o, fp_tk_o, fp_lrem_o])))
      | (refine And.intro (by simp [fp_rg, fp_up, fp_cp] <;> omega) ?_; (conv => whnf); (try simp only [Int.reduceToNat, Int.toNat_natCast, fp_up_c, fp_up_s, fp_up_i, fp_cp_c, fp_g_s, Nat.reduceBEq, Int.reduceAdd, Int.reduceSub, Int.reduceNeg, Int.reduceMul, fp_gu_c, fp_gu_s, fp_lose_o, fp_scut_o, fp_tk_o, fp_lrem_o]))
      | fail)
  simp only [fp_up_g, fp_g_s, fp_g_g, fp_gu_c, Nat.reduceBEq]
  exact hq
def fp_mk (G : FpG) (p s : Nat) (f : Int) : FpG :=
  fp_tp (fp_gu (fp_gu (fp_gu (fp_gu (fp_scut G s (fp_tkn G p f)) 0 8 (G 0 8 + fp_tkn G p f)) 3 p (G 3 p + (fp_ly f + 1) / 2)) 4 p (G 4 p + fp_ly f / 2)) 5 p (G 5 p + fp_ly f)) (1 + f)
/-- numbers that stay small -/
def fp_sml (G : FpG) : Prop := (∀ p, p < 10 → (0 ≤ G 3 p ∧ G 3 p ≤ 2000000) ∧ (0 ≤ G 4 p ∧ G 4 p ≤ 2000000) ∧ (0 ≤ G 5 p ∧ G 5 p ≤ 2000000)) ∧ (∀ k, 4 ≤ k → k < 9 → 0 ≤ G 0 k ∧ G 0 k ≤ 2000000)
set_option maxHeartbeats 600000 in
set_option maxRecDepth 100000 in
theorem sp_makeCut {L d g p s : Nat} {f : Int} {H : FpH} {Q : FpQ} (hp : p < 10) (hf : 0 ≤ f ∧ f < 4) (ho : fp_okc2 (H g) p) (hs : (s : Int) < H g 6 2 ∧ H g 6 2 ≤ 6) (hw : fp_tkn (H g) p f ≤ H g 7 s ∧ H g 7 s ≤ 200) (hl : 0 ≤ H g 9 3 ∧ H g 9 3 ≤ 12) (hpt : ∀ t : Nat, (t : Int) < H g 9 3 → 1 ≤ H g 12 t ∧ H g 12 t ≤ 99) (hsm : fp_sml (H g)) (hq : Q none (fp_g H g (fp_mk (H g) p s f))) : fp_Wp L (d + 3) 39 0 (fp_en 39 [.inr (g, 0), .inl (p : Int), .inl (s : Int), .inl f]) [] H Q := by
  have hk := fp_tkn_le ho hf
  have hpw := fp_pw hf
  have hp3 := hsm.1 p hp
  have h08 := hsm.2 8 (by omega) (by omega)
  have h05 := hsm.2 5 (by omega) (by omega)
  have h07 := hsm.2 7 (by omega) (by omega)
  unfold fp_mk at hq
  refine fp_go 1000 [] (fun KN KC hN hC => ?_)
  conv => whnf
  (try simp only [Int.reduceToNat, Int.toNat_natCast, fp_up_c, fp_up_s, fp_up_i, fp_cp_c, fp_g_s, Nat.reduceBEq, Int.reduceAdd, Int.reduceSub, Int.reduceNeg, Int.reduceMul, fp_gu_c, fp_gu_s, fp_lose_o, fp_scut_o, fp_tk_o, fp_lrem_o])
  (repeat' first
      | (refine And.intro (by first | omega | (unfold fp_rg; omega)) ?_; (try intro _); (conv => whnf); (try simp only [Int.reduceToNat, Int.toNat_natCast, fp_up_c, fp_up_s, fp_up_i, fp_cp_c, fp_g_s, Nat.reduceBEq, Int.reduceAdd, Int.reduceSub, Int.reduceNeg, Int.reduceMul, fp_gu_c, fp_gu_s, fp_lose_o, fp_scut_o, fp_tk_o, fp_lrem_o]))
      | (refine And.intro (fun _ => ?_) (fun _ => ?_) <;> first | (exfalso; omega) | (rename_i hz_; exact absurd trivial hz_) | ((conv => whnf); (try simp only [Int.reduceToNat, Int.toNat_natCast, fp_up_c, fp_up_s, fp_up_i, fp_cp_c, fp_g_s, Nat.reduceBEq, Int.reduceAdd, Int.reduceSub, Int.reduceNeg, Int.reduceMul, fp_gu_c, fp_gu_s, fp_lose_o, fp_scut_o, fp_tk_o, fp_lrem_o])))
      | (refine And.intro (by simp [fp_rg, fp_up, fp_cp] <;> omega) ?_; (conv => whnf); (try simp only [Int.reduceToNat, Int.toNat_natCast, fp_up_c, fp_up_s, fp_up_i, fp_cp_c, fp_g_s, Nat.reduceBEq, Int.reduceAdd, Int.reduceSub, Int.reduceNeg, Int.reduceMul, fp_gu_c, fp_gu_s, fp_lose_o, fp_scut_o, fp_tk_o, fp_lrem_o]))
      | fail)
  refine hC _ _ _ _ ⟨_, rfl, ?_⟩
  refine sp_lengthTaken hp hf ho ?_
  conv => whnf
  (try simp only [Int.reduceToNat, Int.toNat_natCast, fp_up_c, fp_up_s, fp_up_i, fp_cp_c, fp_g_s, Nat.reduceBEq, Int.reduceAdd, Int.reduceSub, Int.reduceNeg, Int.reduceMul, fp_gu_c, fp_gu_s, fp_lose_o, fp_scut_o, fp_tk_o, fp_lrem_o])
  (repeat' first
      | (refine And.intro (by first | omega | (unfold fp_rg; omega)) ?_; (try intro _); (conv => whnf); (try simp only [Int.reduceToNat, Int.toNat_natCast, fp_up_c, fp_up_s, fp_up_i, fp_cp_c, fp_g_s, Nat.reduceBEq, Int.reduceAdd, Int.reduceSub, Int.reduceNeg, Int.reduceMul, fp_gu_c, fp_gu_s, fp_lose_o, fp_scut_o, fp_tk_o, fp_lrem_o]))
      | (refine And.intro (fun _ => ?_) (fun _ => ?_) <;> first | (exfalso; omega) | (rename_i hz_; exact absurd trivial hz_) | ((conv => whnf); (try simp only [Int.reduceToNat, Int.toNat_natCast, fp_up_c, fp_up_s, fp_up_i, fp_cp_c, fp_g_s, Nat.reduceBEq, Int.reduceAdd, Int.reduceSub, Int.reduceNeg, Int.reduceMul, fp_gu_c, fp_gu_s, fp_lose_o, fp_scut_o, fp_tk_o, fp_lrem_o])))
      | (refine And.intro (by simp [fp_rg, fp_up, fp_cp] <;> omega) ?_; (conv => whnf); (try simp only [Int.reduceToNat, Int.toNat_natCast, fp_up_c, fp_up_s, fp_up_i, fp_cp_c, fp_g_s, Nat.reduceBEq, Int.reduceAdd, Int.reduceSub, Int.reduceNeg, Int.reduceMul, fp_gu_c, fp_gu_s, fp_lose_o, fp_scut_o, fp_tk_o, fp_lrem_o]))
      | fail)
  refine hC _ _ _ _ ⟨_, rfl, ?_⟩
  refine sp_shorten hs ⟨hk.1, hw.1, hw.2⟩ ?_
  conv => whnf
  (try simp only [Int.reduceToNat, Int.toNat_natCast, fp_up_c, fp_up_s, fp_up_i, fp_cp_c, fp_g_s, Nat.reduceBEq, Int.reduceAdd, Int.reduceSub, Int.reduceNeg, Int.reduceMul, fp_gu_c, fp_gu_s, fp_lose_o, fp_scut_o, fp_tk_o, fp_lrem_o])
  (repeat' first
      | (refine And.intro (by first | omega | (unfold fp_rg; omega)) ?_; (try intro _); (conv => whnf); (try simp only [Int.reduceToNat, Int.toNat_natCast, fp_up_c, fp_up_s, fp_up_i, fp_cp_c, fp_g_s, Nat.reduceBEq, Int.reduceAdd, Int.reduceSub, Int.reduceNeg, Int.reduceMul, fp_gu_c, fp_gu_s, fp_lose_o, fp_scut_o, fp_tk_o, fp_lrem_o]))
      | (refine And.intro (fun _ => ?_) (fun _ => ?_) <;> first | (exfalso; omega) | (rename_i hz_; exact absurd trivial hz_) | ((conv => whnf); (try simp only [Int.reduceToNat, Int.toNat_natCast, fp_up_c, fp_up_s, fp_up_i, fp_cp_c, fp_g_s, Nat.reduceBEq, Int.reduceAdd, Int.reduceSub, Int.reduceNeg, Int.reduceMul, fp_gu_c, fp_gu_s, fp_lose_o, fp_scut_o, fp_tk_o, fp_lrem_o])))
      | (refine And.intro (by simp [fp_rg, fp_up, fp_cp] <;> omega) ?_; (conv => whnf); (try simp only [Int.reduceToNat, Int.toNat_natCast, fp_up_c, fp_up_s, fp_up_i, fp_cp_c, fp_g_s, Nat.reduceBEq, Int.reduceAdd, Int.reduceSub, Int.reduceNeg, Int.reduceMul, fp_gu_c, fp_gu_s, fp_lose_o, fp_scut_o, fp_tk_o, fp_lrem_o]))
      | fail)
  refine hC _ _ _ _ ⟨_, rfl, ?_⟩
  refine sp_leftLayersOf hf ?_
  conv => whnf
  (try simp only [Int.reduceToNat, Int.toNat_natCast, fp_up_c, fp_up_s, fp_up_i, fp_cp_c, fp_g_s, Nat.reduceBEq, Int.reduceAdd, Int.reduceSub, Int.reduceNeg, Int.reduceMul, fp_gu_c, fp_gu_s, fp_lose_o, fp_scut_o, fp_tk_o, fp_lrem_o])
  (repeat' first
      | (refine And.intro (by first | omega | (unfold fp_rg; omega)) ?_; (try intro _); (conv => whnf); (try simp only [Int.reduceToNat, Int.toNat_natCast, fp_up_c, fp_up_s, fp_up_i, fp_cp_c, fp_g_s, Nat.reduceBEq, Int.reduceAdd, Int.reduceSub, Int.reduceNeg, Int.reduceMul, fp_gu_c, fp_gu_s, fp_lose_o, fp_scut_o, fp_tk_o, fp_lrem_o]))
      | (refine And.intro (fun _ => ?_) (fun _ => ?_) <;> first | (exfalso; omega) | (rename_i hz_; exact absurd trivial hz_) | ((conv => whnf); (try simp only [Int.reduceToNat, Int.toNat_natCast, fp_up_c, fp_up_s, fp_up_i, fp_cp_c, fp_g_s, Nat.reduceBEq, Int.reduceAdd, Int.reduceSub, Int.reduceNeg, Int.reduceMul, fp_gu_c, fp_gu_s, fp_lose_o, fp_scut_o, fp_tk_o, fp_lrem_o])))
      | (refine And.intro (by simp [fp_rg, fp_up, fp_cp] <;> omega) ?_; (conv => whnf); (try simp only [Int.reduceToNat, Int.toNat_natCast, fp_up_c, fp_up_s, fp_up_i, fp_cp_c, fp_g_s, Nat.reduceBEq, Int.reduceAdd, Int.reduceSub, Int.reduceNeg, Int.reduceMul, fp_gu_c, fp_gu_s, fp_lose_o, fp_scut_o, fp_tk_o, fp_lrem_o]))
      | fail)
  refine hC _ _ _ _ ⟨_, rfl, ?_⟩
  refine sp_rightLayersOf hf ?_
  conv => whnf
  (try simp only [Int.reduceToNat, Int.toNat_natCast, fp_up_c, fp_up_s, fp_up_i, fp_cp_c, fp_g_s, Nat.reduceBEq, Int.reduceAdd, Int.reduceSub, Int.reduceNeg, Int.reduceMul, fp_gu_c, fp_gu_s, fp_lose_o, fp_scut_o, fp_tk_o, fp_lrem_o])
  (repeat' first
      | (refine And.intro (by first | omega | (unfold fp_rg; omega)) ?_; (try intro _); (conv => whnf); (try simp only [Int.reduceToNat, Int.toNat_natCast, fp_up_c, fp_up_s, fp_up_i, fp_cp_c, fp_g_s, Nat.reduceBEq, Int.reduceAdd, Int.reduceSub, Int.reduceNeg, Int.reduceMul, fp_gu_c, fp_gu_s, fp_lose_o, fp_scut_o, fp_tk_o, fp_lrem_o]))
      | (refine And.intro (fun _ => ?_) (fun _ => ?_) <;> first | (exfalso; omega) | (rename_i hz_; exact absurd trivial hz_) | ((conv => whnf); (try simp only [Int.reduceToNat, Int.toNat_natCast, fp_up_c, fp_up_s, fp_up_i, fp_cp_c, fp_g_s, Nat.reduceBEq, Int.reduceAdd, Int.reduceSub, Int.reduceNeg, Int.reduceMul, fp_gu_c, fp_gu_s, fp_lose_o, fp_scut_o, fp_tk_o, fp_lrem_o])))
      | (refine And.intro (by simp [fp_rg, fp_up, fp_cp] <;> omega) ?_; (conv => whnf); (try simp only [Int.reduceToNat, Int.toNat_natCast, fp_up_c, fp_up_s, fp_up_i, fp_cp_c, fp_g_s, Nat.reduceBEq, Int.reduceAdd, Int.reduceSub, Int.reduceNeg, Int.reduceMul, fp_gu_c, fp_gu_s, fp_lose_o, fp_scut_o, fp_tk_o, fp_lrem_o]))
      | fail)
  refine hC _ _ _ _ ⟨_, rfl, ?_⟩
  refine sp_layersOf hf ?_
  conv => whnf
  (try simp only [Int.reduceToNat, Int.toNat_natCast, fp_up_c, fp_up_s, fp_up_i, fp_cp_c, fp_g_s, Nat.reduceBEq, Int.reduceAdd, Int.reduceSub, Int.reduceNeg, Int.reduceMul, fp_gu_c, fp_gu_s, fp_lose_o, fp_scut_o, fp_tk_o, fp_lrem_o])
  (repeat' first
      | (refine And.intro (by first | omega | (unfold fp_rg; omega)) ?_; (try intro _); (conv => whnf); (try simp only [Int.reduceToNat, Int.toNat_natCast, fp_up_c, fp_up_s, fp_up_i, fp_cp_c, fp_g_s, Nat.reduceBEq, Int.reduceAdd, Int.reduceSub, Int.reduceNeg, Int.reduceMul, fp_gu_c, fp_gu_s, fp_lose_o, fp_scut_o, fp_tk_o, fp_lrem_o]))
      | (refine And.intro (fun _ => ?_) (fun _ => ?_) <;> first | (exfalso; omega) | (rename_i hz_; exact absurd trivial hz_) | ((conv => whnf); (try simp only [Int.reduceToNat, Int.toNat_natCast, fp_up_c, fp_up_s, fp_up_i, fp_cp_c, fp_g_s, Nat.reduceBEq, Int.reduceAdd, Int.reduceSub, Int.reduceNeg, Int.reduceMul, fp_gu_c, fp_gu_s, fp_lose_o, fp_scut_o, fp_tk_o, fp_lrem_o])))
      | (refine And.intro (by simp [fp_rg, fp_up, fp_cp] <;> omega) ?_; (conv => whnf); (try simp only [Int.reduceToNat, Int.toNat_natCast, fp_up_c, fp_up_s, fp_up_i, fp_cp_c, fp_g_s, Nat.reduceBEq, Int.reduceAdd, Int.reduceSub, Int.reduceNeg, Int.reduceMul, fp_gu_c, fp_gu_s, fp_lose_o, fp_scut_o, fp_tk_o, fp_lrem_o]))
      | fail)
  simp only [fp_up_g, fp_g_s, fp_g_g, fp_gu_c, fp_scut_o, Nat.reduceBEq]
  refine hC _ _ _ _ ⟨_, rfl, ?_⟩
  refine sp_timePass (by omega) (by simp only [fp_g_s, fp_gu_c, fp_scut_o, Nat.reduceBEq]; exact hl) (fun t ht => by simp only [fp_g_s, fp_gu_c, fp_scut_o, Nat.reduceBEq] at ht ⊢; exact hpt t ht) (by simp [fp_g_s, fp_gu, fp_scut_o]; omega) ?_
  simp only [fp_up_g, fp_g_s, fp_g_g, fp_gu_c, fp_scut_o, Nat.reduceBEq]
  conv => whnf
  (try simp only [Int.reduceToNat, Int.toNat_natCast, fp_up_c, fp_up_s, fp_up_i, fp_cp_c, fp_g_s, Nat.reduceBEq, Int.reduceAdd, Int.reduceSub, Int.reduceNeg, Int.reduceMul, fp_gu_c, fp_gu_s, fp_lose_o, fp_scut_o, fp_tk_o, fp_lrem_o])
  (repeat' first
      | (refine And.intro (by first | omega | (unfold fp_rg; omega)) ?_; (try intro _); (conv => whnf); (try simp only [Int.reduceToNat, Int.toNat_natCast, fp_up_c, fp_up_s, fp_up_i, fp_cp_c, fp_g_s, Nat.reduceBEq, Int.reduceAdd, Int.reduceSub, Int.reduceNeg, Int.reduceMul, fp_gu_c, fp_gu_s, fp_lose_o, fp_scut_o, fp_tk_o, fp_lrem_o]))
      | (refine And.intro (fun _ => ?_) (fun _ => ?_) <;> first | (exfalso; omega) | (rename_i hz_; exact absurd trivial hz_) | ((conv => whnf); (try simp only [Int.reduceToNat, Int.toNat_natCast, fp_up_c, fp_up_s, fp_up_i, fp_cp_c, fp_g_s, Nat.reduceBEq, Int.reduceAdd, Int.reduceSub, Int.reduceNeg, Int.reduceMul, fp_gu_c, fp_gu_s, fp_lose_o, fp_scut_o, fp_tk_o, fp_lrem_o])))
      | (refine And.intro (by simp [fp_rg, fp_up, fp_cp] <;> omega) ?_; (conv => whnf); (try simp only [Int.reduceToNat, Int.toNat_natCast, fp_up_c, fp_up_s, fp_up_i, fp_cp_c, fp_g_s, Nat.reduceBEq, Int.reduceAdd, Int.reduceSub, Int.reduceNeg, Int.reduceMul, fp_gu_c, fp_gu_s, fp_lose_o, fp_scut_o, fp_tk_o, fp_lrem_o]))
      | fail)
  exact hq
set_option maxHeartbeats 600000 in
set_option maxRecDepth 100000 in
theorem sp_areAlikeI {L d g : Nat} {p q : Int} {H : FpH} {Q : FpQ} (h : 0 ≤ p ∧ p < 10) (hs : 0 ≤ q ∧ q < 10) (h1 : fp_alk (H g) p.toNat q.toNat → Q (some (.inl 1)) H) (h0 : ¬ fp_alk (H g) p.toNat q.toNat → Q (some (.inl 0)) H) : fp_Wp L (d + 2) 18 0 (fp_en 18 [.inr (g, 1), .inl p, .inl q]) [] H Q := by
  obtain ⟨q', rfl⟩ := Int.eq_ofNat_of_zero_le hs.1
  exact sp_areAlike h (by omega) h1 h0
/-- the least place where f holds -/
def fp_ff (f : Nat → Bool) : Nat → Option Nat
  | 0 => none
  | n + 1 => match fp_ff f n with
    | some k => some k
    | none => if f n = true then some n else none
theorem fp_ff_n {f : Nat → Bool} : ∀ n, (∀ q, q < n → f q = false) → fp_ff f n = none
  | 0, _ => rfl
  | n + 1, h => by
    simp only [fp_ff]
    rw [fp_ff_n n (fun q hq => h q (by omega)), if_neg (by simp [h n (by omega)])]
theorem fp_ff_s {f : Nat → Bool} {r : Nat} : ∀ n, r < n → f r = true → (∀ q, q < r → f q = false) → fp_ff f n = some r
  | 0, h, _, _ => by omega
  | n + 1, h, h1, h2 => by
    simp only [fp_ff]
    by_cases hr : r = n
    · subst hr
      rw [fp_ff_n r h2, if_pos h1]
    · rw [fp_ff_s n (by omega) h1 h2]
theorem fp_ff_out {f : Nat → Bool} : ∀ n, (∃ r, fp_ff f n = some r ∧ r < n ∧ f r = true ∧ ∀ q, q < r → f q = false) ∨ (fp_ff f n = none ∧ ∀ q, q < n → f q = false)
  | 0 => Or.inr ⟨rfl, fun q hq => by omega⟩
  | n + 1 => by
    rcases fp_ff_out (f := f) n with ⟨r, h1, h2, h3, h4⟩ | ⟨h1, h2⟩
    · exact Or.inl ⟨r, by simp only [fp_ff, h1], by omega, h3, h4⟩
    · by_cases hn : f n = true
      · exact Or.inl ⟨n, by simp only [fp_ff, h1, if_pos hn], by omega, hn, h2⟩
      · refine Or.inr ⟨by simp only [fp_ff, h1, if_neg hn], fun q hq => ?_⟩
        by_cases hq2 : q = n
        · subst hq2; simpa using hn
        · exact h2 q (by omega)
noncomputable def fp_dc (P : Prop) : Bool := @decide P (Classical.propDecidable P)
theorem fp_dc_t {P : Prop} (h : P) : fp_dc P = true := @decide_eq_true P (Classical.propDecidable P) h
theorem fp_dc_f {P : Prop} (h : ¬ P) : fp_dc P = false := @decide_eq_false P (Classical.propDecidable P) h
theorem fp_dc_i {P : Prop} (h : fp_dc P = true) : P := @of_decide_eq_true P (Classical.propDecidable P) h
theorem fp_dc_n {P : Prop} (h : fp_dc P = false) : ¬ P := @of_decide_eq_false P (Classical.propDecidable P) h
noncomputable def fp_okB (G : FpG) (t k : Nat) : Bool := fp_dc (fp_alk G k (G 10 t).toNat ∧ fp_has G k (G 11 t))
theorem fp_okB_t {G : FpG} {t k : Nat} (h1 : fp_alk G k (G 10 t).toNat) (h2 : fp_has G k (G 11 t)) : fp_okB G t k = true := fp_dc_t ⟨h1, h2⟩
theorem fp_okB_f {G : FpG} {t k : Nat} (h : ¬ (fp_alk G k (G 10 t).toNat ∧ fp_has G k (G 11 t))) : fp_okB G t k = false := fp_dc_f h
noncomputable def fp_fr (G : FpG) (t : Nat) : Int := match fp_ff (fp_okB G t) (G 1 4).toNat with
  | some k => (k : Int)
  | none => -5
set_option maxHeartbeats 600000 in
set_option maxRecDepth 100000 in
theorem lp_findFor {L d g t : Nat} {H : FpH} {Q : FpQ} (hn : 0 ≤ H g 1 4 ∧ H g 1 4 ≤ 10) (hw : 0 ≤ H g 10 t ∧ H g 10 t < 10) (hq : Q (some (.inl (fp_fr (H g) t))) H) : ∀ (m : Nat) (i : Int), 0 ≤ i → i + m = H g 1 4 → (∀ q : Nat, (q : Int) < i → fp_okB (H g) t q = false) → fp_Wp L (d + 3) 41 23 [some (.inr (g, 0)), some (.inl (t : Int)), some (.inl (H g 10 t)), some (.inl (H g 11 t)), some (.inl i)] [] H Q := by
  intro m
  induction m with
  | zero =>
    intro i h0 hi hf
    have e : fp_fr (H g) t = -5 := by unfold fp_fr; rw [fp_ff_n _ (fun q hq => hf q (by omega))]
    rw [e] at hq
    refine fp_go 1000 [23] (fun KN KC hN hC => ?_)
    conv => whnf
    (try simp only [Int.reduceToNat, Int.toNat_natCast, fp_up_c, fp_up_s, fp_up_i, fp_cp_c, fp_g_s, Nat.reduceBEq, Int.reduceAdd, Int.reduceSub, Int.reduceNeg, Int.reduceMul, fp_gu_c, fp_gu_s, fp_lose_o, fp_scut_o, fp_tk_o, fp_lrem_o])
    (repeat' first
        | (refine And.intro (by first | omega | (unfold fp_rg; omega)) ?_; (try intro _); (conv => whnf); (try simp only [Int.reduceToNat, Int.toNat_natCast, fp_up_c, fp_up_s, fp_up_i, fp_cp_c, fp_g_s, Nat.reduceBEq, Int.reduceAdd, Int.reduceSub, Int.reduceNeg, Int.reduceMul, fp_gu_c, fp_gu_s, fp_lose_o, fp_scut_o, fp_tk_o, fp_lrem_o]))
        | (refine And.intro (fun _ => ?_) (fun _ => ?_) <;> first | (exfalso; omega) | (rename_i hz_; exact absurd trivial hz_) | ((conv => whnf); (try simp only [Int.reduceToNat, Int.toNat_natCast, fp_up_c, fp_up_s, fp_up_i, fp_cp_c, fp_g_s, Nat.reduceBEq, Int.reduceAdd, Int.reduceSub, Int.reduceNeg, Int.reduceMul, fp_gu_c, fp_gu_s, fp_lose_o, fp_scut_o, fp_tk_o, fp_lrem_o])))
        | (refine And.intro (by simp [fp_rg, fp_up, fp_cp] <;> omega) ?_; (conv => whnf); (try simp only [Int.reduceToNat, Int.toNat_natCast, fp_up_c, fp_up_s, fp_up_i, fp_cp_c, fp_g_s, Nat.reduceBEq, Int.reduceAdd, Int.reduceSub, Int.reduceNeg, Int.reduceMul, fp_gu_c, fp_gu_s, fp_lose_o, fp_scut_o, fp_tk_o, fp_lrem_o]))
        | fail)
    exact hq
  | succ m ih =>
    intro i h0 hi hf
    have step : fp_okB (H g) t i.toNat = false → fp_Wp L (d + 3) 41 23 [some (.inr (g, 0)), some (.inl (t : Int)), some (.inl (H g 10 t)), some (.inl (H g 11 t)), some (.inl (i + 1))] [] H Q := fun hh => ih (i + 1) (by omega) (by omega) (fun q hq => by
      by_cases hji : (q : Int) < i
      · exact hf q hji
      · obtain rfl : q = i.toNat := by omega
        exact hh)
    obtain ⟨k, rfl⟩ := Int.eq_ofNat_of_zero_le h0
    simp only [Int.toNat_natCast] at step
    refine fp_go 1000 [23] (fun KN KC hN hC => ?_)
    conv => whnf
    (try simp only [Int.reduceToNat, Int.toNat_natCast, fp_up_c, fp_up_s, fp_up_i, fp_cp_c, fp_g_s, Nat.reduceBEq, Int.reduceAdd, Int.reduceSub, Int.reduceNeg, Int.reduceMul, fp_gu_c, fp_gu_s, fp_lose_o, fp_scut_o, fp_tk_o, fp_lrem_o])
    (repeat' first
        | (refine And.intro (by first | omega | (unfold fp_rg; omega)) ?_; (try intro _); (conv => whnf); (try simp only [Int.reduceToNat, Int.toNat_natCast, fp_up_c, fp_up_s, fp_up_i, fp_cp_c, fp_g_s, Nat.reduceBEq, Int.reduceAdd, Int.reduceSub, Int.reduceNeg, Int.reduceMul, fp_gu_c, fp_gu_s, fp_lose_o, fp_scut_o, fp_tk_o, fp_lrem_o]))
        | (refine And.intro (fun _ => ?_) (fun _ => ?_) <;> first | (exfalso; omega) | (rename_i hz_; exact absurd trivial hz_) | ((conv => whnf); (try simp only [Int.reduceToNat, Int.toNat_natCast, fp_up_c, fp_up_s, fp_up_i, fp_cp_c, fp_g_s, Nat.reduceBEq, Int.reduceAdd, Int.reduceSub, Int.reduceNeg, Int.reduceMul, fp_gu_c, fp_gu_s, fp_lose_o, fp_scut_o, fp_tk_o, fp_lrem_o])))
        | (refine And.intro (by simp [fp_rg, fp_up, fp_cp] <;> omega) ?_; (conv => whnf); (try simp only [Int.reduceToNat, Int.toNat_natCast, fp_up_c, fp_up_s, fp_up_i, fp_cp_c, fp_g_s, Nat.reduceBEq, Int.reduceAdd, Int.reduceSub, Int.reduceNeg, Int.reduceMul, fp_gu_c, fp_gu_s, fp_lose_o, fp_scut_o, fp_tk_o, fp_lrem_o]))
        | fail)
    refine hC _ _ _ _ ⟨_, rfl, ?_⟩
    refine sp_areAlikeI (by omega) hw (fun hh => ?_) (fun hh => ?_)
    · conv => whnf
      (try simp only [Int.reduceToNat, Int.toNat_natCast, fp_up_c, fp_up_s, fp_up_i, fp_cp_c, fp_g_s, Nat.reduceBEq, Int.reduceAdd, Int.reduceSub, Int.reduceNeg, Int.reduceMul, fp_gu_c, fp_gu_s, fp_lose_o, fp_scut_o, fp_tk_o, fp_lrem_o])
      (repeat' first
          | (refine And.intro (by first | omega | (unfold fp_rg; omega)) ?_; (try intro _); (conv => whnf); (try simp only [Int.reduceToNat, Int.toNat_natCast, fp_up_c, fp_up_s, fp_up_i, fp_cp_c, fp_g_s, Nat.reduceBEq, Int.reduceAdd, Int.reduceSub, Int.reduceNeg, Int.reduceMul, fp_gu_c, fp_gu_s, fp_lose_o, fp_scut_o, fp_tk_o, fp_lrem_o]))
          | (refine And.intro (fun _ => ?_) (fun _ => ?_) <;> first | (exfalso; omega) | (rename_i hz_; exact absurd trivial hz_) | ((conv => whnf); (try simp only [Int.reduceToNat, Int.toNat_natCast, fp_up_c, fp_up_s, fp_up_i, fp_cp_c, fp_g_s, Nat.reduceBEq, Int.reduceAdd, Int.reduceSub, Int.reduceNeg, Int.reduceMul, fp_gu_c, fp_gu_s, fp_lose_o, fp_scut_o, fp_tk_o, fp_lrem_o])))
          | (refine And.intro (by simp [fp_rg, fp_up, fp_cp] <;> omega) ?_; (conv => whnf); (try simp only [Int.reduceToNat, Int.toNat_natCast, fp_up_c, fp_up_s, fp_up_i, fp_cp_c, fp_g_s, Nat.reduceBEq, Int.reduceAdd, Int.reduceSub, Int.reduceNeg, Int.reduceMul, fp_gu_c, fp_gu_s, fp_lose_o, fp_scut_o, fp_tk_o, fp_lrem_o]))
          | fail)
      refine hC _ _ _ _ ⟨_, rfl, ?_⟩
      refine sp_hasInStock (by omega) (fun h2 => ?_) (fun h2 => ?_)
      · conv => whnf
        (try simp only [Int.reduceToNat, Int.toNat_natCast, fp_up_c, fp_up_s, fp_up_i, fp_cp_c, fp_g_s, Nat.reduceBEq, Int.reduceAdd, Int.reduceSub, Int.reduceNeg, Int.reduceMul, fp_gu_c, fp_gu_s, fp_lose_o, fp_scut_o, fp_tk_o, fp_lrem_o])
        (repeat' first
            | (refine And.intro (by first | omega | (unfold fp_rg; omega)) ?_; (try intro _); (conv => whnf); (try simp only [Int.reduceToNat, Int.toNat_natCast, fp_up_c, fp_up_s, fp_up_i, fp_cp_c, fp_g_s, Nat.reduceBEq, Int.reduceAdd, Int.reduceSub, Int.reduceNeg, Int.reduceMul, fp_gu_c, fp_gu_s, fp_lose_o, fp_scut_o, fp_tk_o, fp_lrem_o]))
            | (refine And.intro (fun _ => ?_) (fun _ => ?_) <;> first | (exfalso; omega) | (rename_i hz_; exact absurd trivial hz_) | ((conv => whnf); (try simp only [Int.reduceToNat, Int.toNat_natCast, fp_up_c, fp_up_s, fp_up_i, fp_cp_c, fp_g_s, Nat.reduceBEq, Int.reduceAdd, Int.reduceSub, Int.reduceNeg, Int.reduceMul, fp_gu_c, fp_gu_s, fp_lose_o, fp_scut_o, fp_tk_o, fp_lrem_o])))
            | (refine And.intro (by simp [fp_rg, fp_up, fp_cp] <;> omega) ?_; (conv => whnf); (try simp only [Int.reduceToNat, Int.toNat_natCast, fp_up_c, fp_up_s, fp_up_i, fp_cp_c, fp_g_s, Nat.reduceBEq, Int.reduceAdd, Int.reduceSub, Int.reduceNeg, Int.reduceMul, fp_gu_c, fp_gu_s, fp_lose_o, fp_scut_o, fp_tk_o, fp_lrem_o]))
            | fail)
        have e : fp_fr (H g) t = (k : Int) := by unfold fp_fr; rw [fp_ff_s _ (show k < (H g 1 4).toNat by omega) (fp_okB_t hh h2) (fun q hq => hf q (by omega))]
        rw [e] at hq
        exact hq
      · conv => whnf
        (try simp only [Int.reduceToNat, Int.toNat_natCast, fp_up_c, fp_up_s, fp_up_i, fp_cp_c, fp_g_s, Nat.reduceBEq, Int.reduceAdd, Int.reduceSub, Int.reduceNeg, Int.reduceMul, fp_gu_c, fp_gu_s, fp_lose_o, fp_scut_o, fp_tk_o, fp_lrem_o])
        (repeat' first
            | (refine And.intro (by first | omega | (unfold fp_rg; omega)) ?_; (try intro _); (conv => whnf); (try simp only [Int.reduceToNat, Int.toNat_natCast, fp_up_c, fp_up_s, fp_up_i, fp_cp_c, fp_g_s, Nat.reduceBEq, Int.reduceAdd, Int.reduceSub, Int.reduceNeg, Int.reduceMul, fp_gu_c, fp_gu_s, fp_lose_o, fp_scut_o, fp_tk_o, fp_lrem_o]))
            | (refine And.intro (fun _ => ?_) (fun _ => ?_) <;> first | (exfalso; omega) | (rename_i hz_; exact absurd trivial hz_) | ((conv => whnf); (try simp only [Int.reduceToNat, Int.toNat_natCast, fp_up_c, fp_up_s, fp_up_i, fp_cp_c, fp_g_s, Nat.reduceBEq, Int.reduceAdd, Int.reduceSub, Int.reduceNeg, Int.reduceMul, fp_gu_c, fp_gu_s, fp_lose_o, fp_scut_o, fp_tk_o, fp_lrem_o])))
            | (refine And.intro (by simp [fp_rg, fp_up, fp_cp] <;> omega) ?_; (conv => whnf); (try simp only [Int.reduceToNat, Int.toNat_natCast, fp_up_c, fp_up_s, fp_up_i, fp_cp_c, fp_g_s, Nat.reduceBEq, Int.reduceAdd, Int.reduceSub, Int.reduceNeg, Int.reduceMul, fp_gu_c, fp_gu_s, fp_lose_o, fp_scut_o, fp_tk_o, fp_lrem_o]))
            | fail)
        exact hN _ _ _ _ (step (fp_okB_f (fun q => h2 q.2)))
    · conv => whnf
      (try simp only [Int.reduceToNat, Int.toNat_natCast, fp_up_c, fp_up_s, fp_up_i, fp_cp_c, fp_g_s, Nat.reduceBEq, Int.reduceAdd, Int.reduceSub, Int.reduceNeg, Int.reduceMul, fp_gu_c, fp_gu_s, fp_lose_o, fp_scut_o, fp_tk_o, fp_lrem_o])
      (repeat' first
          | (refine And.intro (by first | omega | (unfold fp_rg; omega)) ?_; (try intro _); (conv => whnf); (try simp only [Int.reduceToNat, Int.toNat_natCast, fp_up_c, fp_up_s, fp_up_i, fp_cp_c, fp_g_s, Nat.reduceBEq, Int.reduceAdd, Int.reduceSub, Int.reduceNeg, Int.reduceMul, fp_gu_c, fp_gu_s, fp_lose_o, fp_scut_o, fp_tk_o, fp_lrem_o]))
          | (refine And.intro (fun _ => ?_) (fun _ => ?_) <;> first | (exfalso; omega) | (rename_i hz_; exact absurd trivial hz_) | ((conv => whnf); (try simp only [Int.reduceToNat, Int.toNat_natCast, fp_up_c, fp_up_s, fp_up_i, fp_cp_c, fp_g_s, Nat.reduceBEq, Int.reduceAdd, Int.reduceSub, Int.reduceNeg, Int.reduceMul, fp_gu_c, fp_gu_s, fp_lose_o, fp_scut_o, fp_tk_o, fp_lrem_o])))
          | (refine And.intro (by simp [fp_rg, fp_up, fp_cp] <;> omega) ?_; (conv => whnf); (try simp only [Int.reduceToNat, Int.toNat_natCast, fp_up_c, fp_up_s, fp_up_i, fp_cp_c, fp_g_s, Nat.reduceBEq, Int.reduceAdd, Int.reduceSub, Int.reduceNeg, Int.reduceMul, fp_gu_c, fp_gu_s, fp_lose_o, fp_scut_o, fp_tk_o, fp_lrem_o]))
          | fail)
      exact hN _ _ _ _ (step (fp_okB_f (fun q => hh q.1)))
set_option maxHeartbeats 600000 in
set_option maxRecDepth 100000 in
theorem sp_findFor {L d g t : Nat} {H : FpH} {Q : FpQ} (ht : t < 12) (hn : 0 ≤ H g 1 4 ∧ H g 1 4 ≤ 10) (hw : 0 ≤ H g 10 t ∧ H g 10 t < 10) (hq : Q (some (.inl (fp_fr (H g) t))) H) : fp_Wp L (d + 3) 41 0 (fp_en 41 [.inr (g, 0), .inl (t : Int)]) [] H Q := by
  refine fp_go 1000 [23] (fun KN KC hN hC => ?_)
  conv => whnf
  (try simp only [Int.reduceToNat, Int.toNat_natCast, fp_up_c, fp_up_s, fp_up_i, fp_cp_c, fp_g_s, Nat.reduceBEq, Int.reduceAdd, Int.reduceSub, Int.reduceNeg, Int.reduceMul, fp_gu_c, fp_gu_s, fp_lose_o, fp_scut_o, fp_tk_o, fp_lrem_o])
  (repeat' first
      | (refine And.intro (by first | omega | (unfold fp_rg; omega)) ?_; (try intro _); (conv => whnf); (try simp only [Int.reduceToNat, Int.toNat_natCast, fp_up_c, fp_up_s, fp_up_i, fp_cp_c, fp_g_s, Nat.reduceBEq, Int.reduceAdd, Int.reduceSub, Int.reduceNeg, Int.reduceMul, fp_gu_c, fp_gu_s, fp_lose_o, fp_scut_o, fp_tk_o, fp_lrem_o]))
      | (refine And.intro (fun _ => ?_) (fun _ => ?_) <;> first | (exfalso; omega) | (rename_i hz_; exact absurd trivial hz_) | ((conv => whnf); (try simp only [Int.reduceToNat, Int.toNat_natCast, fp_up_c, fp_up_s, fp_up_i, fp_cp_c, fp_g_s, Nat.reduceBEq, Int.reduceAdd, Int.reduceSub, Int.reduceNeg, Int.reduceMul, fp_gu_c, fp_gu_s, fp_lose_o, fp_scut_o, fp_tk_o, fp_lrem_o])))
      | (refine And.intro (by simp [fp_rg, fp_up, fp_cp] <;> omega) ?_; (conv => whnf); (try simp only [Int.reduceToNat, Int.toNat_natCast, fp_up_c, fp_up_s, fp_up_i, fp_cp_c, fp_g_s, Nat.reduceBEq, Int.reduceAdd, Int.reduceSub, Int.reduceNeg, Int.reduceMul, fp_gu_c, fp_gu_s, fp_lose_o, fp_scut_o, fp_tk_o, fp_lrem_o]))
      | fail)
  exact hN _ _ _ _ (lp_findFor hn hw hq (H g 1 4).toNat 0 (by omega) (by omega) (fun q hq => by omega))
def fp_ho (G : FpG) (t k : Nat) : FpG := fp_lrem (fp_gu (fp_gu (fp_tk G k (G 11 t)) 0 4 (G 0 4 + (if G 11 t = 2 then 5 else 2))) 0 6 (G 0 6 + 1)) t
set_option maxHeartbeats 600000 in
set_option maxRecDepth 100000 in
theorem sp_handOver {L d g t k : Nat} {H : FpH} {Q : FpQ} (ht : (t : Int) < H g 9 3 ∧ H g 9 3 ≤ 12) (hk : k < 10) (hs : 0 ≤ H g 3 k ∧ H g 3 k ≤ 2000000 ∧ 0 ≤ H g 4 k ∧ H g 4 k ≤ 2000000) (hc : 0 ≤ H g 0 4 ∧ H g 0 4 ≤ 3000000 ∧ 0 ≤ H g 0 6 ∧ H g 0 6 ≤ 3000000) (hq : Q none (fp_g H g (fp_ho (H g) t k))) : fp_Wp L (d + 1) 42 0 (fp_en 42 [.inr (g, 0), .inl (t : Int), .inl (k : Int)]) [] H Q := by
  unfold fp_ho at hq
  refine fp_go 1000 [] (fun KN KC hN hC => ?_)
  conv => whnf
  (try simp only [Int.reduceToNat, Int.toNat_natCast, fp_up_c, fp_up_s, fp_up_i, fp_cp_c, fp_g_s, Nat.reduceBEq, Int.reduceAdd, Int.reduceSub, Int.reduceNeg, Int.reduceMul, fp_gu_c, fp_gu_s, fp_lose_o, fp_scut_o, fp_tk_o, fp_lrem_o])
  (repeat' first
      | (refine And.intro (by first | omega | (unfold fp_rg; omega)) ?_; (try intro _); (conv => whnf); (try simp only [Int.reduceToNat, Int.toNat_natCast, fp_up_c, fp_up_s, fp_up_i, fp_cp_c, fp_g_s, Nat.reduceBEq, Int.reduceAdd, Int.reduceSub, Int.reduceNeg, Int.reduceMul, fp_gu_c, fp_gu_s, fp_lose_o, fp_scut_o, fp_tk_o, fp_lrem_o]))
      | (refine And.intro (fun _ => ?_) (fun _ => ?_) <;> first | (exfalso; omega) | (rename_i hz_; exact absurd trivial hz_) | ((conv => whnf); (try simp only [Int.reduceToNat, Int.toNat_natCast, fp_up_c, fp_up_s, fp_up_i, fp_cp_c, fp_g_s, Nat.reduceBEq, Int.reduceAdd, Int.reduceSub, Int.reduceNeg, Int.reduceMul, fp_gu_c, fp_gu_s, fp_lose_o, fp_scut_o, fp_tk_o, fp_lrem_o])))
      | (refine And.intro (by simp [fp_rg, fp_up, fp_cp] <;> omega) ?_; (conv => whnf); (try simp only [Int.reduceToNat, Int.toNat_natCast, fp_up_c, fp_up_s, fp_up_i, fp_cp_c, fp_g_s, Nat.reduceBEq, Int.reduceAdd, Int.reduceSub, Int.reduceNeg, Int.reduceMul, fp_gu_c, fp_gu_s, fp_lose_o, fp_scut_o, fp_tk_o, fp_lrem_o]))
      | fail)
  refine hC _ _ _ _ ⟨_, rfl, ?_⟩
  refine sp_take hk hs ?_
  conv => whnf
  (try simp only [Int.reduceToNat, Int.toNat_natCast, fp_up_c, fp_up_s, fp_up_i, fp_cp_c, fp_g_s, Nat.reduceBEq, Int.reduceAdd, Int.reduceSub, Int.reduceNeg, Int.reduceMul, fp_gu_c, fp_gu_s, fp_lose_o, fp_scut_o, fp_tk_o, fp_lrem_o])
  (repeat' first
      | (refine And.intro (by first | omega | (unfold fp_rg; omega)) ?_; (try intro _); (conv => whnf); (try simp only [Int.reduceToNat, Int.toNat_natCast, fp_up_c, fp_up_s, fp_up_i, fp_cp_c, fp_g_s, Nat.reduceBEq, Int.reduceAdd, Int.reduceSub, Int.reduceNeg, Int.reduceMul, fp_gu_c, fp_gu_s, fp_lose_o, fp_scut_o, fp_tk_o, fp_lrem_o]))
      | (refine And.intro (fun _ => ?_) (fun _ => ?_) <;> first | (exfalso; omega) | (rename_i hz_; exact absurd trivial hz_) | ((conv => whnf); (try simp only [Int.reduceToNat, Int.toNat_natCast, fp_up_c, fp_up_s, fp_up_i, fp_cp_c, fp_g_s, Nat.reduceBEq, Int.reduceAdd, Int.reduceSub, Int.reduceNeg, Int.reduceMul, fp_gu_c, fp_gu_s, fp_lose_o, fp_scut_o, fp_tk_o, fp_lrem_o])))
      | (refine And.intro (by simp [fp_rg, fp_up, fp_cp] <;> omega) ?_; (conv => whnf); (try simp only [Int.reduceToNat, Int.toNat_natCast, fp_up_c, fp_up_s, fp_up_i, fp_cp_c, fp_g_s, Nat.reduceBEq, Int.reduceAdd, Int.reduceSub, Int.reduceNeg, Int.reduceMul, fp_gu_c, fp_gu_s, fp_lose_o, fp_scut_o, fp_tk_o, fp_lrem_o]))
      | fail)
  all_goals
    rename_i hb
    first | rw [if_pos hb] at hq | rw [if_neg hb] at hq
    simp only [fp_up_g, fp_g_s, fp_g_g, fp_gu_i, Nat.reduceBEq]
    refine hC _ _ _ _ ⟨_, rfl, ?_⟩
    refine sp_remove (by simp only [fp_g_s, fp_gu_c, fp_tk_o, Nat.reduceBEq]; exact ht) ?_
    simp only [fp_up_g, fp_g_s, fp_g_g, fp_gu_c, fp_gu_i, fp_tk_o, Nat.reduceBEq]
    conv => whnf
    (try simp only [Int.reduceToNat, Int.toNat_natCast, fp_up_c, fp_up_s, fp_up_i, fp_cp_c, fp_g_s, Nat.reduceBEq, Int.reduceAdd, Int.reduceSub, Int.reduceNeg, Int.reduceMul, fp_gu_c, fp_gu_s, fp_lose_o, fp_scut_o, fp_tk_o, fp_lrem_o])
    (repeat' first
        | (refine And.intro (by first | omega | (unfold fp_rg; omega)) ?_; (try intro _); (conv => whnf); (try simp only [Int.reduceToNat, Int.toNat_natCast, fp_up_c, fp_up_s, fp_up_i, fp_cp_c, fp_g_s, Nat.reduceBEq, Int.reduceAdd, Int.reduceSub, Int.reduceNeg, Int.reduceMul, fp_gu_c, fp_gu_s, fp_lose_o, fp_scut_o, fp_tk_o, fp_lrem_o]))
        | (refine And.intro (fun _ => ?_) (fun _ => ?_) <;> first | (exfalso; omega) | (rename_i hz_; exact absurd trivial hz_) | ((conv => whnf); (try simp only [Int.reduceToNat, Int.toNat_natCast, fp_up_c, fp_up_s, fp_up_i, fp_cp_c, fp_g_s, Nat.reduceBEq, Int.reduceAdd, Int.reduceSub, Int.reduceNeg, Int.reduceMul, fp_gu_c, fp_gu_s, fp_lose_o, fp_scut_o, fp_tk_o, fp_lrem_o])))
        | (refine And.intro (by simp [fp_rg, fp_up, fp_cp] <;> omega) ?_; (conv => whnf); (try simp only [Int.reduceToNat, Int.toNat_natCast, fp_up_c, fp_up_s, fp_up_i, fp_cp_c, fp_g_s, Nat.reduceBEq, Int.reduceAdd, Int.reduceSub, Int.reduceNeg, Int.reduceMul, fp_gu_c, fp_gu_s, fp_lose_o, fp_scut_o, fp_tk_o, fp_lrem_o]))
        | fail)
    exact hq
