/-! what the calls do to a state: the answer, and the new state if it is an act -/
abbrev FqA : Type := Int × Option FpG
def fq_do (H : FpH) : Option FpG → FpH
  | none => H
  | some G => fp_g (fp_push H) 0 G
theorem fp_push_0 {H : FpH} : fp_push H 0 = H 0 := by
  unfold fp_push
  rw [if_neg (by unfold fp_pk; omega), if_neg (by omega)]
/-- what a state keeps to -/
def fq_I (n : Int) (G : FpG) : Prop :=
  ((0 ≤ G 1 4 ∧ G 1 4 ≤ 10) ∧ (0 ≤ G 6 2 ∧ G 6 2 ≤ 6) ∧ (0 ≤ G 9 3 ∧ G 9 3 ≤ 12) ∧ (0 ≤ G 13 0 ∧ G 13 0 ≤ 9) ∧ (0 ≤ G 13 1 ∧ G 13 1 ≤ 3) ∧ (1 ≤ G 13 2 ∧ G 13 2 ≤ 24)) ∧
  (∀ p j : Nat, (p : Int) < G 1 4 → j < 8 → 1 ≤ G 2 (8 * p + j) ∧ G 2 (8 * p + j) ≤ 9) ∧
  (∀ p, p < 10 → (0 ≤ G 3 p ∧ G 3 p ≤ 1000 * n) ∧ (0 ≤ G 4 p ∧ G 4 p ≤ 1000 * n) ∧ (0 ≤ G 5 p ∧ G 5 p ≤ 1000 * n)) ∧
  (∀ p : Nat, G 1 4 ≤ (p : Int) → p < 10 → G 3 p = 0 ∧ G 4 p = 0 ∧ G 5 p = 0) ∧
  (∀ s : Nat, (s : Int) < G 6 2 → (1 ≤ G 7 s ∧ G 7 s ≤ 200) ∧ (1 ≤ G 8 s ∧ G 8 s ≤ 3)) ∧
  (∀ t : Nat, (t : Int) < G 9 3 → (0 ≤ G 10 t ∧ G 10 t < G 1 4) ∧ (0 ≤ G 11 t ∧ G 11 t ≤ 2) ∧ (1 ≤ G 12 t ∧ G 12 t ≤ 99)) ∧
  (∀ k, 4 ≤ k → k < 9 → 0 ≤ G 0 k ∧ G 0 k ≤ 1000 * n)
/-- the history's numbers -/
def fq_Y (H : FpH) : Prop := (0 ≤ H 7 15 1 ∧ H 7 15 1 < 4) ∧ (0 ≤ H 7 15 2 ∧ H 7 15 2 ≤ 4)
def fq_buy (G : FpG) (l t : Int) : FqA := if ¬ (1 ≤ l ∧ l ≤ 200 ∧ 1 ≤ t ∧ t ≤ 3) then (-2, none) else if 6 ≤ G 6 2 then (-3, none) else if G 0 4 < t + l / 20 then (-4, none) else (G 6 2, some (fp_sadd (fp_gu G 0 4 (G 0 4 - (t + l / 20))) l t))
def fq_trade (G : FpG) (s t : Int) : FqA := if ¬ (0 ≤ s ∧ s < G 6 2) then (-1, none) else if ¬ (1 ≤ t ∧ t ≤ 3) then (-2, none) else if G 7 s.toNat < 10 ∨ G 8 s.toNat = t then (-4, none) else (G 7 s.toNat - 2, some (fp_gu (fp_gu G 7 s.toNat (G 7 s.toNat - 2)) 8 s.toNat t))
def fq_part (G : FpG) (s l : Int) : FqA := if ¬ (0 ≤ s ∧ s < G 6 2) then (-1, none) else if ¬ (1 ≤ l ∧ l ≤ 199) then (-2, none) else if 6 ≤ G 6 2 then (-3, none) else if G 7 s.toNat - l ≤ 0 then (-4, none) else (G 6 2, some (fp_sadd (fp_gu G 7 s.toNat l) (G 7 s.toNat - l) (G 8 s.toNat)))
def fq_draw (G : FpG) (p j w : Int) : FqA := if ¬ (0 ≤ p ∧ p < G 1 4 ∧ 0 ≤ j ∧ j < 8) then (-1, none) else if ¬ (1 ≤ w ∧ w ≤ 9) then (-2, none) else if 10 ≤ G 1 4 then (-3, none) else (G 1 4, some (fp_gu (fp_padd G (fun i => G 2 (8 * p.toNat + i))) 2 (8 * (G 1 4).toNat + j.toNat) w))
def fq_come (G : FpG) (p w t : Int) : FqA := if ¬ (0 ≤ p ∧ p < G 1 4) then (-1, none) else if ¬ (0 ≤ w ∧ w ≤ 2 ∧ 1 ≤ t ∧ t ≤ 99) then (-2, none) else if 12 ≤ G 9 3 then (-3, none) else (G 9 3 + 1, some (fp_ladd G p w t))
noncomputable def fq_serve (G : FpG) (t : Int) : FqA := if ¬ (0 ≤ t ∧ t < G 9 3) then (-1, none) else if fp_fr G t.toNat = -5 then (-4, none) else ((fp_ho G t.toNat (fp_fr G t.toNat).toNat) 0 4, some (fp_ho G t.toNat (fp_fr G t.toNat).toNat))
def fq_cut (G : FpG) (p s f : Int) : FqA := if ¬ (0 ≤ p ∧ p < G 1 4 ∧ 0 ≤ s ∧ s < G 6 2) then (-1, none) else if ¬ (0 ≤ f ∧ f < 4) then (-2, none) else if ¬ fp_why G p.toNat s.toNat f = 0 then (-10 - fp_why G p.toNat s.toNat f, none) else (fp_ly f, some (fp_mk G p.toNat s.toNat f))
def fq_trn (G : FpG) (p : Nat) (r : Int) : FpG := if r = 0 then fp_tp (fp_gu (fp_gu G 3 p (G 3 p - -1)) 4 p (G 4 p + -1)) 1 else fp_tp (fp_gu (fp_gu G 3 p (G 3 p - 1)) 4 p (G 4 p + 1)) 1
def fq_turn (G : FpG) (p r : Int) : FqA := if ¬ (0 ≤ p ∧ p < G 1 4) then (-1, none) else if (if r = 0 then G 4 p.toNat else G 3 p.toNat) = 0 then (-4, none) else ((if r = 0 then G 3 p.toNat - -1 else G 4 p.toNat + 1), some (fq_trn G p.toNat r))
def fq_lo (k : Int) : Int := if k = 2 then 1 else 0
def fq_hi (k : Int) : Int := if k = 0 then 9 else if k = 1 then 3 else 24
def fq_set (G : FpG) (k v : Int) : FqA := if ¬ (0 ≤ k ∧ k ≤ 2) then (-1, none) else if ¬ (fq_lo k ≤ v ∧ v ≤ fq_hi k) then (-2, none) else if G 13 k.toNat = v then (-5, none) else (G 13 k.toNat, some (fp_gu G 13 k.toNat v))
set_option maxHeartbeats 600000 in
set_option maxRecDepth 100000 in
theorem sp_buy {L d : Nat} {n l t : Int} {H : FpH} {Q : FpQ} (hn : 1 ≤ n ∧ n ≤ 600) (hI : fq_I n (H 0)) (hY : fq_Y H) (hq : Q (some (.inl (fq_buy (H 0) l t).1)) (fq_do H (fq_buy (H 0) l t).2)) : fp_Wp L (d + 3) 51 0 (fp_en 51 [.inr (7, 14), .inl l, .inl t]) [] H Q := by
  unfold fq_buy at hq
  have h04 := hI.2.2.2.2.2.2 4 (by omega) (by omega)
  have hns := hI.1.2.1
  refine fp_go 1000 [] (fun KN KC hN hC => ?_)
  conv => whnf
  (try simp only [Int.reduceToNat, Int.toNat_natCast, fp_up_c, fp_up_s, fp_up_i, fp_cp_c, fp_g_s, Nat.reduceBEq, Int.reduceAdd, Int.reduceSub, Int.reduceNeg, Int.reduceMul, fp_gu_c, fp_gu_s, fp_lose_o, fp_scut_o, fp_tk_o, fp_lrem_o, fp_push_0])
  (repeat' first
      | (refine And.intro (by first | omega | (unfold fp_rg; omega)) ?_; (try intro _); (conv => whnf); (try simp only [Int.reduceToNat, Int.toNat_natCast, fp_up_c, fp_up_s, fp_up_i, fp_cp_c, fp_g_s, Nat.reduceBEq, Int.reduceAdd, Int.reduceSub, Int.reduceNeg, Int.reduceMul, fp_gu_c, fp_gu_s, fp_lose_o, fp_scut_o, fp_tk_o, fp_lrem_o, fp_push_0]))
      | (refine And.intro (fun _ => ?_) (fun _ => ?_) <;> first | (exfalso; omega) | (rename_i hz_; exact absurd trivial hz_) | ((conv => whnf); (try simp only [Int.reduceToNat, Int.toNat_natCast, fp_up_c, fp_up_s, fp_up_i, fp_cp_c, fp_g_s, Nat.reduceBEq, Int.reduceAdd, Int.reduceSub, Int.reduceNeg, Int.reduceMul, fp_gu_c, fp_gu_s, fp_lose_o, fp_scut_o, fp_tk_o, fp_lrem_o, fp_push_0])))
      | (refine And.intro (by simp [fp_rg, fp_up, fp_cp] <;> omega) ?_; (conv => whnf); (try simp only [Int.reduceToNat, Int.toNat_natCast, fp_up_c, fp_up_s, fp_up_i, fp_cp_c, fp_g_s, Nat.reduceBEq, Int.reduceAdd, Int.reduceSub, Int.reduceNeg, Int.reduceMul, fp_gu_c, fp_gu_s, fp_lose_o, fp_scut_o, fp_tk_o, fp_lrem_o, fp_push_0]))
      | fail)
  refine hC _ _ _ _ ⟨_, rfl, ?_⟩
  refine sp_isIn (fun h1 => ?_) (fun h1 => ?_)
  rotate_left
  · conv => whnf
    (try simp only [Int.reduceToNat, Int.toNat_natCast, fp_up_c, fp_up_s, fp_up_i, fp_cp_c, fp_g_s, Nat.reduceBEq, Int.reduceAdd, Int.reduceSub, Int.reduceNeg, Int.reduceMul, fp_gu_c, fp_gu_s, fp_lose_o, fp_scut_o, fp_tk_o, fp_lrem_o, fp_push_0])
    (repeat' first
        | (refine And.intro (by first | omega | (unfold fp_rg; omega)) ?_; (try intro _); (conv => whnf); (try simp only [Int.reduceToNat, Int.toNat_natCast, fp_up_c, fp_up_s, fp_up_i, fp_cp_c, fp_g_s, Nat.reduceBEq, Int.reduceAdd, Int.reduceSub, Int.reduceNeg, Int.reduceMul, fp_gu_c, fp_gu_s, fp_lose_o, fp_scut_o, fp_tk_o, fp_lrem_o, fp_push_0]))
        | (refine And.intro (fun _ => ?_) (fun _ => ?_) <;> first | (exfalso; omega) | (rename_i hz_; exact absurd trivial hz_) | ((conv => whnf); (try simp only [Int.reduceToNat, Int.toNat_natCast, fp_up_c, fp_up_s, fp_up_i, fp_cp_c, fp_g_s, Nat.reduceBEq, Int.reduceAdd, Int.reduceSub, Int.reduceNeg, Int.reduceMul, fp_gu_c, fp_gu_s, fp_lose_o, fp_scut_o, fp_tk_o, fp_lrem_o, fp_push_0])))
        | (refine And.intro (by simp [fp_rg, fp_up, fp_cp] <;> omega) ?_; (conv => whnf); (try simp only [Int.reduceToNat, Int.toNat_natCast, fp_up_c, fp_up_s, fp_up_i, fp_cp_c, fp_g_s, Nat.reduceBEq, Int.reduceAdd, Int.reduceSub, Int.reduceNeg, Int.reduceMul, fp_gu_c, fp_gu_s, fp_lose_o, fp_scut_o, fp_tk_o, fp_lrem_o, fp_push_0]))
        | fail)
    (repeat' (split at hq)) <;> first | (exfalso; omega) | exact hq | (simp only [fp_up_g, fp_g_s, fp_g_g, fp_push_0, Int.toNat_natCast] at hq ⊢; exact hq)
  conv => whnf
  (try simp only [Int.reduceToNat, Int.toNat_natCast, fp_up_c, fp_up_s, fp_up_i, fp_cp_c, fp_g_s, Nat.reduceBEq, Int.reduceAdd, Int.reduceSub, Int.reduceNeg, Int.reduceMul, fp_gu_c, fp_gu_s, fp_lose_o, fp_scut_o, fp_tk_o, fp_lrem_o, fp_push_0])
  (repeat' first
      | (refine And.intro (by first | omega | (unfold fp_rg; omega)) ?_; (try intro _); (conv => whnf); (try simp only [Int.reduceToNat, Int.toNat_natCast, fp_up_c, fp_up_s, fp_up_i, fp_cp_c, fp_g_s, Nat.reduceBEq, Int.reduceAdd, Int.reduceSub, Int.reduceNeg, Int.reduceMul, fp_gu_c, fp_gu_s, fp_lose_o, fp_scut_o, fp_tk_o, fp_lrem_o, fp_push_0]))
      | (refine And.intro (fun _ => ?_) (fun _ => ?_) <;> first | (exfalso; omega) | (rename_i hz_; exact absurd trivial hz_) | ((conv => whnf); (try simp only [Int.reduceToNat, Int.toNat_natCast, fp_up_c, fp_up_s, fp_up_i, fp_cp_c, fp_g_s, Nat.reduceBEq, Int.reduceAdd, Int.reduceSub, Int.reduceNeg, Int.reduceMul, fp_gu_c, fp_gu_s, fp_lose_o, fp_scut_o, fp_tk_o, fp_lrem_o, fp_push_0])))
      | (refine And.intro (by simp [fp_rg, fp_up, fp_cp] <;> omega) ?_; (conv => whnf); (try simp only [Int.reduceToNat, Int.toNat_natCast, fp_up_c, fp_up_s, fp_up_i, fp_cp_c, fp_g_s, Nat.reduceBEq, Int.reduceAdd, Int.reduceSub, Int.reduceNeg, Int.reduceMul, fp_gu_c, fp_gu_s, fp_lose_o, fp_scut_o, fp_tk_o, fp_lrem_o, fp_push_0]))
      | fail)
  refine hC _ _ _ _ ⟨_, rfl, ?_⟩
  refine sp_isIn (fun h2 => ?_) (fun h2 => ?_)
  rotate_left
  · conv => whnf
    (try simp only [Int.reduceToNat, Int.toNat_natCast, fp_up_c, fp_up_s, fp_up_i, fp_cp_c, fp_g_s, Nat.reduceBEq, Int.reduceAdd, Int.reduceSub, Int.reduceNeg, Int.reduceMul, fp_gu_c, fp_gu_s, fp_lose_o, fp_scut_o, fp_tk_o, fp_lrem_o, fp_push_0])
    (repeat' first
        | (refine And.intro (by first | omega | (unfold fp_rg; omega)) ?_; (try intro _); (conv => whnf); (try simp only [Int.reduceToNat, Int.toNat_natCast, fp_up_c, fp_up_s, fp_up_i, fp_cp_c, fp_g_s, Nat.reduceBEq, Int.reduceAdd, Int.reduceSub, Int.reduceNeg, Int.reduceMul, fp_gu_c, fp_gu_s, fp_lose_o, fp_scut_o, fp_tk_o, fp_lrem_o, fp_push_0]))
        | (refine And.intro (fun _ => ?_) (fun _ => ?_) <;> first | (exfalso; omega) | (rename_i hz_; exact absurd trivial hz_) | ((conv => whnf); (try simp only [Int.reduceToNat, Int.toNat_natCast, fp_up_c, fp_up_s, fp_up_i, fp_cp_c, fp_g_s, Nat.reduceBEq, Int.reduceAdd, Int.reduceSub, Int.reduceNeg, Int.reduceMul, fp_gu_c, fp_gu_s, fp_lose_o, fp_scut_o, fp_tk_o, fp_lrem_o, fp_push_0])))
        | (refine And.intro (by simp [fp_rg, fp_up, fp_cp] <;> omega) ?_; (conv => whnf); (try simp only [Int.reduceToNat, Int.toNat_natCast, fp_up_c, fp_up_s, fp_up_i, fp_cp_c, fp_g_s, Nat.reduceBEq, Int.reduceAdd, Int.reduceSub, Int.reduceNeg, Int.reduceMul, fp_gu_c, fp_gu_s, fp_lose_o, fp_scut_o, fp_tk_o, fp_lrem_o, fp_push_0]))
        | fail)
    (repeat' (split at hq)) <;> first | (exfalso; omega) | exact hq | (simp only [fp_up_g, fp_g_s, fp_g_g, fp_push_0, Int.toNat_natCast] at hq ⊢; exact hq)
  conv => whnf
  (try simp only [Int.reduceToNat, Int.toNat_natCast, fp_up_c, fp_up_s, fp_up_i, fp_cp_c, fp_g_s, Nat.reduceBEq, Int.reduceAdd, Int.reduceSub, Int.reduceNeg, Int.reduceMul, fp_gu_c, fp_gu_s, fp_lose_o, fp_scut_o, fp_tk_o, fp_lrem_o, fp_push_0])
  (repeat' first
      | (refine And.intro (by first | omega | (unfold fp_rg; omega)) ?_; (try intro _); (conv => whnf); (try simp only [Int.reduceToNat, Int.toNat_natCast, fp_up_c, fp_up_s, fp_up_i, fp_cp_c, fp_g_s, Nat.reduceBEq, Int.reduceAdd, Int.reduceSub, Int.reduceNeg, Int.reduceMul, fp_gu_c, fp_gu_s, fp_lose_o, fp_scut_o, fp_tk_o, fp_lrem_o, fp_push_0]))
      | (refine And.intro (fun _ => ?_) (fun _ => ?_) <;> first | (exfalso; omega) | (rename_i hz_; exact absurd trivial hz_) | ((conv => whnf); (try simp only [Int.reduceToNat, Int.toNat_natCast, fp_up_c, fp_up_s, fp_up_i, fp_cp_c, fp_g_s, Nat.reduceBEq, Int.reduceAdd, Int.reduceSub, Int.reduceNeg, Int.reduceMul, fp_gu_c, fp_gu_s, fp_lose_o, fp_scut_o, fp_tk_o, fp_lrem_o, fp_push_0])))
      | (refine And.intro (by simp [fp_rg, fp_up, fp_cp] <;> omega) ?_; (conv => whnf); (try simp only [Int.reduceToNat, Int.toNat_natCast, fp_up_c, fp_up_s, fp_up_i, fp_cp_c, fp_g_s, Nat.reduceBEq, Int.reduceAdd, Int.reduceSub, Int.reduceNeg, Int.reduceMul, fp_gu_c, fp_gu_s, fp_lose_o, fp_scut_o, fp_tk_o, fp_lrem_o, fp_push_0]))
      | fail)
  refine hC _ _ _ _ ⟨_, rfl, ?_⟩
  refine sp_sfull (fun h3 => ?_) (fun h3 => ?_)
  · conv => whnf
    (try simp only [Int.reduceToNat, Int.toNat_natCast, fp_up_c, fp_up_s, fp_up_i, fp_cp_c, fp_g_s, Nat.reduceBEq, Int.reduceAdd, Int.reduceSub, Int.reduceNeg, Int.reduceMul, fp_gu_c, fp_gu_s, fp_lose_o, fp_scut_o, fp_tk_o, fp_lrem_o, fp_push_0])
    (repeat' first
        | (refine And.intro (by first | omega | (unfold fp_rg; omega)) ?_; (try intro _); (conv => whnf); (try simp only [Int.reduceToNat, Int.toNat_natCast, fp_up_c, fp_up_s, fp_up_i, fp_cp_c, fp_g_s, Nat.reduceBEq, Int.reduceAdd, Int.reduceSub, Int.reduceNeg, Int.reduceMul, fp_gu_c, fp_gu_s, fp_lose_o, fp_scut_o, fp_tk_o, fp_lrem_o, fp_push_0]))
        | (refine And.intro (fun _ => ?_) (fun _ => ?_) <;> first | (exfalso; omega) | (rename_i hz_; exact absurd trivial hz_) | ((conv => whnf); (try simp only [Int.reduceToNat, Int.toNat_natCast, fp_up_c, fp_up_s, fp_up_i, fp_cp_c, fp_g_s, Nat.reduceBEq, Int.reduceAdd, Int.reduceSub, Int.reduceNeg, Int.reduceMul, fp_gu_c, fp_gu_s, fp_lose_o, fp_scut_o, fp_tk_o, fp_lrem_o, fp_push_0])))
        | (refine And.intro (by simp [fp_rg, fp_up, fp_cp] <;> omega) ?_; (conv => whnf); (try simp only [Int.reduceToNat, Int.toNat_natCast, fp_up_c, fp_up_s, fp_up_i, fp_cp_c, fp_g_s, Nat.reduceBEq, Int.reduceAdd, Int.reduceSub, Int.reduceNeg, Int.reduceMul, fp_gu_c, fp_gu_s, fp_lose_o, fp_scut_o, fp_tk_o, fp_lrem_o, fp_push_0]))
        | fail)
    (repeat' (split at hq)) <;> first | (exfalso; omega) | exact hq | (simp only [fp_up_g, fp_g_s, fp_g_g, fp_push_0, Int.toNat_natCast] at hq ⊢; exact hq)
  conv => whnf
  (try simp only [Int.reduceToNat, Int.toNat_natCast, fp_up_c, fp_up_s, fp_up_i, fp_cp_c, fp_g_s, Nat.reduceBEq, Int.reduceAdd, Int.reduceSub, Int.reduceNeg, Int.reduceMul, fp_gu_c, fp_gu_s, fp_lose_o, fp_scut_o, fp_tk_o, fp_lrem_o, fp_push_0])
  (repeat' first
      | (refine And.intro (by first | omega | (unfold fp_rg; omega)) ?_; (try intro _); (conv => whnf); (try simp only [Int.reduceToNat, Int.toNat_natCast, fp_up_c, fp_up_s, fp_up_i, fp_cp_c, fp_g_s, Nat.reduceBEq, Int.reduceAdd, Int.reduceSub, Int.reduceNeg, Int.reduceMul, fp_gu_c, fp_gu_s, fp_lose_o, fp_scut_o, fp_tk_o, fp_lrem_o, fp_push_0]))
      | (refine And.intro (fun _ => ?_) (fun _ => ?_) <;> first | (exfalso; omega) | (rename_i hz_; exact absurd trivial hz_) | ((conv => whnf); (try simp only [Int.reduceToNat, Int.toNat_natCast, fp_up_c, fp_up_s, fp_up_i, fp_cp_c, fp_g_s, Nat.reduceBEq, Int.reduceAdd, Int.reduceSub, Int.reduceNeg, Int.reduceMul, fp_gu_c, fp_gu_s, fp_lose_o, fp_scut_o, fp_tk_o, fp_lrem_o, fp_push_0])))
      | (refine And.intro (by simp [fp_rg, fp_up, fp_cp] <;> omega) ?_; (conv => whnf); (try simp only [Int.reduceToNat, Int.toNat_natCast, fp_up_c, fp_up_s, fp_up_i, fp_cp_c, fp_g_s, Nat.reduceBEq, Int.reduceAdd, Int.reduceSub, Int.reduceNeg, Int.reduceMul, fp_gu_c, fp_gu_s, fp_lose_o, fp_scut_o, fp_tk_o, fp_lrem_o, fp_push_0]))
      | fail)
  · (repeat' (split at hq)) <;> first | (exfalso; omega) | exact hq | (simp only [fp_up_g, fp_g_s, fp_g_g, fp_push_0, Int.toNat_natCast] at hq ⊢; exact hq)
  refine hC _ _ _ _ ⟨_, rfl, ?_⟩
  refine sp_push hY.1 hY.2 ?_
  conv => whnf
  (try simp only [Int.reduceToNat, Int.toNat_natCast, fp_up_c, fp_up_s, fp_up_i, fp_cp_c, fp_g_s, Nat.reduceBEq, Int.reduceAdd, Int.reduceSub, Int.reduceNeg, Int.reduceMul, fp_gu_c, fp_gu_s, fp_lose_o, fp_scut_o, fp_tk_o, fp_lrem_o, fp_push_0])
  (repeat' first
      | (refine And.intro (by first | omega | (unfold fp_rg; omega)) ?_; (try intro _); (conv => whnf); (try simp only [Int.reduceToNat, Int.toNat_natCast, fp_up_c, fp_up_s, fp_up_i, fp_cp_c, fp_g_s, Nat.reduceBEq, Int.reduceAdd, Int.reduceSub, Int.reduceNeg, Int.reduceMul, fp_gu_c, fp_gu_s, fp_lose_o, fp_scut_o, fp_tk_o, fp_lrem_o, fp_push_0]))
      | (refine And.intro (fun _ => ?_) (fun _ => ?_) <;> first | (exfalso; omega) | (rename_i hz_; exact absurd trivial hz_) | ((conv => whnf); (try simp only [Int.reduceToNat, Int.toNat_natCast, fp_up_c, fp_up_s, fp_up_i, fp_cp_c, fp_g_s, Nat.reduceBEq, Int.reduceAdd, Int.reduceSub, Int.reduceNeg, Int.reduceMul, fp_gu_c, fp_gu_s, fp_lose_o, fp_scut_o, fp_tk_o, fp_lrem_o, fp_push_0])))
      | (refine And.intro (by simp [fp_rg, fp_up, fp_cp] <;> omega) ?_; (conv => whnf); (try simp only [Int.reduceToNat, Int.toNat_natCast, fp_up_c, fp_up_s, fp_up_i, fp_cp_c, fp_g_s, Nat.reduceBEq, Int.reduceAdd, Int.reduceSub, Int.reduceNeg, Int.reduceMul, fp_gu_c, fp_gu_s, fp_lose_o, fp_scut_o, fp_tk_o, fp_lrem_o, fp_push_0]))
      | fail)
  refine hC _ _ _ _ ⟨_, rfl, ?_⟩
  refine sp_sadd (by simp only [fp_up_g, fp_g_s, fp_gu_c, fp_push_0, Nat.reduceBEq]; omega) ?_
  simp only [fp_up_g, fp_g_s, fp_g_g, fp_gu_c, fp_push_0, Nat.reduceBEq]
  conv => whnf
  (try simp only [Int.reduceToNat, Int.toNat_natCast, fp_up_c, fp_up_s, fp_up_i, fp_cp_c, fp_g_s, Nat.reduceBEq, Int.reduceAdd, Int.reduceSub, Int.reduceNeg, Int.reduceMul, fp_gu_c, fp_gu_s, fp_lose_o, fp_scut_o, fp_tk_o, fp_lrem_o, fp_push_0])
  (repeat' first
      | (refine And.intro (by first | omega | (unfold fp_rg; omega)) ?_; (try intro _); (conv => whnf); (try simp only [Int.reduceToNat, Int.toNat_natCast, fp_up_c, fp_up_s, fp_up_i, fp_cp_c, fp_g_s, Nat.reduceBEq, Int.reduceAdd, Int.reduceSub, Int.reduceNeg, Int.reduceMul, fp_gu_c, fp_gu_s, fp_lose_o, fp_scut_o, fp_tk_o, fp_lrem_o, fp_push_0]))
      | (refine And.intro (fun _ => ?_) (fun _ => ?_) <;> first | (exfalso; omega) | (rename_i hz_; exact absurd trivial hz_) | ((conv => whnf); (try simp only [Int.reduceToNat, Int.toNat_natCast, fp_up_c, fp_up_s, fp_up_i, fp_cp_c, fp_g_s, Nat.reduceBEq, Int.reduceAdd, Int.reduceSub, Int.reduceNeg, Int.reduceMul, fp_gu_c, fp_gu_s, fp_lose_o, fp_scut_o, fp_tk_o, fp_lrem_o, fp_push_0])))
      | (refine And.intro (by simp [fp_rg, fp_up, fp_cp] <;> omega) ?_; (conv => whnf); (try simp only [Int.reduceToNat, Int.toNat_natCast, fp_up_c, fp_up_s, fp_up_i, fp_cp_c, fp_g_s, Nat.reduceBEq, Int.reduceAdd, Int.reduceSub, Int.reduceNeg, Int.reduceMul, fp_gu_c, fp_gu_s, fp_lose_o, fp_scut_o, fp_tk_o, fp_lrem_o, fp_push_0]))
      | fail)
  (repeat' (split at hq)) <;> first | (exfalso; omega) | exact hq | (simp only [fp_up_g, fp_g_s, fp_g_g, fp_push_0, Int.toNat_natCast] at hq ⊢; exact hq)
set_option maxHeartbeats 600000 in
set_option maxRecDepth 100000 in
theorem sp_trade {L d : Nat} {n s t : Int} {H : FpH} {Q : FpQ} (hn : 1 ≤ n ∧ n ≤ 600) (hI : fq_I n (H 0)) (hY : fq_Y H) (hq : Q (some (.inl (fq_trade (H 0) s t).1)) (fq_do H (fq_trade (H 0) s t).2)) : fp_Wp L (d + 3) 52 0 (fp_en 52 [.inr (7, 14), .inl s, .inl t]) [] H Q := by
  unfold fq_trade at hq
  have hns := hI.1.2.1
  refine fp_go 1000 [] (fun KN KC hN hC => ?_)
  conv => whnf
  (try simp only [Int.reduceToNat, Int.toNat_natCast, fp_up_c, fp_up_s, fp_up_i, fp_cp_c, fp_g_s, Nat.reduceBEq, Int.reduceAdd, Int.reduceSub, Int.reduceNeg, Int.reduceMul, fp_gu_c, fp_gu_s, fp_lose_o, fp_scut_o, fp_tk_o, fp_lrem_o, fp_push_0])
  (repeat' first
      | (refine And.intro (by first | omega | (unfold fp_rg; omega)) ?_; (try intro _); (conv => whnf); (try simp only [Int.reduceToNat, Int.toNat_natCast, fp_up_c, fp_up_s, fp_up_i, fp_cp_c, fp_g_s, Nat.reduceBEq, Int.reduceAdd, Int.reduceSub, Int.reduceNeg, Int.reduceMul, fp_gu_c, fp_gu_s, fp_lose_o, fp_scut_o, fp_tk_o, fp_lrem_o, fp_push_0]))
      | (refine And.intro (fun _ => ?_) (fun _ => ?_) <;> first | (exfalso; omega) | (rename_i hz_; exact absurd trivial hz_) | ((conv => whnf); (try simp only [Int.reduceToNat, Int.toNat_natCast, fp_up_c, fp_up_s, fp_up_i, fp_cp_c, fp_g_s, Nat.reduceBEq, Int.reduceAdd, Int.reduceSub, Int.reduceNeg, Int.reduceMul, fp_gu_c, fp_gu_s, fp_lose_o, fp_scut_o, fp_tk_o, fp_lrem_o, fp_push_0])))
      | (refine And.intro (by simp [fp_rg, fp_up, fp_cp] <;> omega) ?_; (conv => whnf); (try simp only [Int.reduceToNat, Int.toNat_natCast, fp_up_c, fp_up_s, fp_up_i, fp_cp_c, fp_g_s, Nat.reduceBEq, Int.reduceAdd, Int.reduceSub, Int.reduceNeg, Int.reduceMul, fp_gu_c, fp_gu_s, fp_lose_o, fp_scut_o, fp_tk_o, fp_lrem_o, fp_push_0]))
      | fail)
  refine hC _ _ _ _ ⟨_, rfl, ?_⟩
  refine sp_shas (fun h1 => ?_) (fun h1 => ?_)
  rotate_left
  · conv => whnf
    (try simp only [Int.reduceToNat, Int.toNat_natCast, fp_up_c, fp_up_s, fp_up_i, fp_cp_c, fp_g_s, Nat.reduceBEq, Int.reduceAdd, Int.reduceSub, Int.reduceNeg, Int.reduceMul, fp_gu_c, fp_gu_s, fp_lose_o, fp_scut_o, fp_tk_o, fp_lrem_o, fp_push_0])
    (repeat' first
        | (refine And.intro (by first | omega | (unfold fp_rg; omega)) ?_; (try intro _); (conv => whnf); (try simp only [Int.reduceToNat, Int.toNat_natCast, fp_up_c, fp_up_s, fp_up_i, fp_cp_c, fp_g_s, Nat.reduceBEq, Int.reduceAdd, Int.reduceSub, Int.reduceNeg, Int.reduceMul, fp_gu_c, fp_gu_s, fp_lose_o, fp_scut_o, fp_tk_o, fp_lrem_o, fp_push_0]))
        | (refine And.intro (fun _ => ?_) (fun _ => ?_) <;> first | (exfalso; omega) | (rename_i hz_; exact absurd trivial hz_) | ((conv => whnf); (try simp only [Int.reduceToNat, Int.toNat_natCast, fp_up_c, fp_up_s, fp_up_i, fp_cp_c, fp_g_s, Nat.reduceBEq, Int.reduceAdd, Int.reduceSub, Int.reduceNeg, Int.reduceMul, fp_gu_c, fp_gu_s, fp_lose_o, fp_scut_o, fp_tk_o, fp_lrem_o, fp_push_0])))
        | (refine And.intro (by simp [fp_rg, fp_up, fp_cp] <;> omega) ?_; (conv => whnf); (try simp only [Int.reduceToNat, Int.toNat_natCast, fp_up_c, fp_up_s, fp_up_i, fp_cp_c, fp_g_s, Nat.reduceBEq, Int.reduceAdd, Int.reduceSub, Int.reduceNeg, Int.reduceMul, fp_gu_c, fp_gu_s, fp_lose_o, fp_scut_o, fp_tk_o, fp_lrem_o, fp_push_0]))
        | fail)
    (repeat' (split at hq)) <;> first | (exfalso; omega) | exact hq | (simp only [fp_up_g, fp_g_s, fp_g_g, fp_push_0, Int.toNat_natCast] at hq ⊢; exact hq)
  have hs7 := hI.2.2.2.2.1 s.toNat (by omega)
  conv => whnf
  (try simp only [Int.reduceToNat, Int.toNat_natCast, fp_up_c, fp_up_s, fp_up_i, fp_cp_c, fp_g_s, Nat.reduceBEq, Int.reduceAdd, Int.reduceSub, Int.reduceNeg, Int.reduceMul, fp_gu_c, fp_gu_s, fp_lose_o, fp_scut_o, fp_tk_o, fp_lrem_o, fp_push_0])
  (repeat' first
      | (refine And.intro (by first | omega | (unfold fp_rg; omega)) ?_; (try intro _); (conv => whnf); (try simp only [Int.reduceToNat, Int.toNat_natCast, fp_up_c, fp_up_s, fp_up_i, fp_cp_c, fp_g_s, Nat.reduceBEq, Int.reduceAdd, Int.reduceSub, Int.reduceNeg, Int.reduceMul, fp_gu_c, fp_gu_s, fp_lose_o, fp_scut_o, fp_tk_o, fp_lrem_o, fp_push_0]))
      | (refine And.intro (fun _ => ?_) (fun _ => ?_) <;> first | (exfalso; omega) | (rename_i hz_; exact absurd trivial hz_) | ((conv => whnf); (try simp only [Int.reduceToNat, Int.toNat_natCast, fp_up_c, fp_up_s, fp_up_i, fp_cp_c, fp_g_s, Nat.reduceBEq, Int.reduceAdd, Int.reduceSub, Int.reduceNeg, Int.reduceMul, fp_gu_c, fp_gu_s, fp_lose_o, fp_scut_o, fp_tk_o, fp_lrem_o, fp_push_0])))
      | (refine And.intro (by simp [fp_rg, fp_up, fp_cp] <;> omega) ?_; (conv => whnf); (try simp only [Int.reduceToNat, Int.toNat_natCast, fp_up_c, fp_up_s, fp_up_i, fp_cp_c, fp_g_s, Nat.reduceBEq, Int.reduceAdd, Int.reduceSub, Int.reduceNeg, Int.reduceMul, fp_gu_c, fp_gu_s, fp_lose_o, fp_scut_o, fp_tk_o, fp_lrem_o, fp_push_0]))
      | fail)
  refine hC _ _ _ _ ⟨_, rfl, ?_⟩
  refine sp_isIn (fun h2 => ?_) (fun h2 => ?_)
  rotate_left
  · conv => whnf
    (try simp only [Int.reduceToNat, Int.toNat_natCast, fp_up_c, fp_up_s, fp_up_i, fp_cp_c, fp_g_s, Nat.reduceBEq, Int.reduceAdd, Int.reduceSub, Int.reduceNeg, Int.reduceMul, fp_gu_c, fp_gu_s, fp_lose_o, fp_scut_o, fp_tk_o, fp_lrem_o, fp_push_0])
    (repeat' first
        | (refine And.intro (by first | omega | (unfold fp_rg; omega)) ?_; (try intro _); (conv => whnf); (try simp only [Int.reduceToNat, Int.toNat_natCast, fp_up_c, fp_up_s, fp_up_i, fp_cp_c, fp_g_s, Nat.reduceBEq, Int.reduceAdd, Int.reduceSub, Int.reduceNeg, Int.reduceMul, fp_gu_c, fp_gu_s, fp_lose_o, fp_scut_o, fp_tk_o, fp_lrem_o, fp_push_0]))
        | (refine And.intro (fun _ => ?_) (fun _ => ?_) <;> first | (exfalso; omega) | (rename_i hz_; exact absurd trivial hz_) | ((conv => whnf); (try simp only [Int.reduceToNat, Int.toNat_natCast, fp_up_c, fp_up_s, fp_up_i, fp_cp_c, fp_g_s, Nat.reduceBEq, Int.reduceAdd, Int.reduceSub, Int.reduceNeg, Int.reduceMul, fp_gu_c, fp_gu_s, fp_lose_o, fp_scut_o, fp_tk_o, fp_lrem_o, fp_push_0])))
        | (refine And.intro (by simp [fp_rg, fp_up, fp_cp] <;> omega) ?_; (conv => whnf); (try simp only [Int.reduceToNat, Int.toNat_natCast, fp_up_c, fp_up_s, fp_up_i, fp_cp_c, fp_g_s, Nat.reduceBEq, Int.reduceAdd, Int.reduceSub, Int.reduceNeg, Int.reduceMul, fp_gu_c, fp_gu_s, fp_lose_o, fp_scut_o, fp_tk_o, fp_lrem_o, fp_push_0]))
        | fail)
    (repeat' (split at hq)) <;> first | (exfalso; omega) | exact hq | (simp only [fp_up_g, fp_g_s, fp_g_g, fp_push_0, Int.toNat_natCast] at hq ⊢; exact hq)
  conv => whnf
  (try simp only [Int.reduceToNat, Int.toNat_natCast, fp_up_c, fp_up_s, fp_up_i, fp_cp_c, fp_g_s, Nat.reduceBEq, Int.reduceAdd, Int.reduceSub, Int.reduceNeg, Int.reduceMul, fp_gu_c, fp_gu_s, fp_lose_o, fp_scut_o, fp_tk_o, fp_lrem_o, fp_push_0])
  (repeat' first
      | (refine And.intro (by first | omega | (unfold fp_rg; omega)) ?_; (try intro _); (conv => whnf); (try simp only [Int.reduceToNat, Int.toNat_natCast, fp_up_c, fp_up_s, fp_up_i, fp_cp_c, fp_g_s, Nat.reduceBEq, Int.reduceAdd, Int.reduceSub, Int.reduceNeg, Int.reduceMul, fp_gu_c, fp_gu_s, fp_lose_o, fp_scut_o, fp_tk_o, fp_lrem_o, fp_push_0]))
      | (refine And.intro (fun _ => ?_) (fun _ => ?_) <;> first | (exfalso; omega) | (rename_i hz_; exact absurd trivial hz_) | ((conv => whnf); (try simp only [Int.reduceToNat, Int.toNat_natCast, fp_up_c, fp_up_s, fp_up_i, fp_cp_c, fp_g_s, Nat.reduceBEq, Int.reduceAdd, Int.reduceSub, Int.reduceNeg, Int.reduceMul, fp_gu_c, fp_gu_s, fp_lose_o, fp_scut_o, fp_tk_o, fp_lrem_o, fp_push_0])))
      | (refine And.intro (by simp [fp_rg, fp_up, fp_cp] <;> omega) ?_; (conv => whnf); (try simp only [Int.reduceToNat, Int.toNat_natCast, fp_up_c, fp_up_s, fp_up_i, fp_cp_c, fp_g_s, Nat.reduceBEq, Int.reduceAdd, Int.reduceSub, Int.reduceNeg, Int.reduceMul, fp_gu_c, fp_gu_s, fp_lose_o, fp_scut_o, fp_tk_o, fp_lrem_o, fp_push_0]))
      | fail)
  · (repeat' (split at hq)) <;> first | (exfalso; omega) | exact hq | (simp only [fp_up_g, fp_g_s, fp_g_g, fp_push_0, Int.toNat_natCast] at hq ⊢; exact hq)
  · (repeat' (split at hq)) <;> first | (exfalso; omega) | exact hq | (simp only [fp_up_g, fp_g_s, fp_g_g, fp_push_0, Int.toNat_natCast] at hq ⊢; exact hq)
  refine hC _ _ _ _ ⟨_, rfl, ?_⟩
  refine sp_push hY.1 hY.2 ?_
  conv => whnf
  (try simp only [Int.reduceToNat, Int.toNat_natCast, fp_up_c, fp_up_s, fp_up_i, fp_cp_c, fp_g_s, Nat.reduceBEq, Int.reduceAdd, Int.reduceSub, Int.reduceNeg, Int.reduceMul, fp_gu_c, fp_gu_s, fp_lose_o, fp_scut_o, fp_tk_o, fp_lrem_o, fp_push_0])
  (repeat' first
      | (refine And.intro (by first | omega | (unfold fp_rg; omega)) ?_; (try intro _); (conv => whnf); (try simp only [Int.reduceToNat, Int.toNat_natCast, fp_up_c, fp_up_s, fp_up_i, fp_cp_c, fp_g_s, Nat.reduceBEq, Int.reduceAdd, Int.reduceSub, Int.reduceNeg, Int.reduceMul, fp_gu_c, fp_gu_s, fp_lose_o, fp_scut_o, fp_tk_o, fp_lrem_o, fp_push_0]))
      | (refine And.intro (fun _ => ?_) (fun _ => ?_) <;> first | (exfalso; omega) | (rename_i hz_; exact absurd trivial hz_) | ((conv => whnf); (try simp only [Int.reduceToNat, Int.toNat_natCast, fp_up_c, fp_up_s, fp_up_i, fp_cp_c, fp_g_s, Nat.reduceBEq, Int.reduceAdd, Int.reduceSub, Int.reduceNeg, Int.reduceMul, fp_gu_c, fp_gu_s, fp_lose_o, fp_scut_o, fp_tk_o, fp_lrem_o, fp_push_0])))
      | (refine And.intro (by simp [fp_rg, fp_up, fp_cp] <;> omega) ?_; (conv => whnf); (try simp only [Int.reduceToNat, Int.toNat_natCast, fp_up_c, fp_up_s, fp_up_i, fp_cp_c, fp_g_s, Nat.reduceBEq, Int.reduceAdd, Int.reduceSub, Int.reduceNeg, Int.reduceMul, fp_gu_c, fp_gu_s, fp_lose_o, fp_scut_o, fp_tk_o, fp_lrem_o, fp_push_0]))
      | fail)
  (repeat' (split at hq)) <;> first | (exfalso; omega) | exact hq | (simp only [fp_up_g, fp_g_s, fp_g_g, fp_push_0, Int.toNat_natCast] at hq ⊢; exact hq)
