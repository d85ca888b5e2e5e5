/-! behind the act, by its kind -/
theorem fq_T_O {n : Int} {H K : FpH} {t : Int} (h : fq_T n H K t) : fq_O (n + 2) K := by
  rcases h with ⟨_, o, _⟩ | ⟨_, o, _⟩ <;> exact fq_O_m o (by omega)
theorem fq_T_1 {n : Int} {H K : FpH} {t : Int} (h : fq_T n H K t) (ht : 0 ≤ t) : fq_O (n + 1) K ∧ K 7 15 2 = fq_up H := by
  rcases h with ⟨q, o, _⟩ | ⟨_, o, e⟩
  · omega
  · exact ⟨o, e⟩
set_option maxHeartbeats 600000 in
set_option maxRecDepth 100000 in
theorem lk_cut {L d : Nat} {n i y t : Int} {H K : FpH} {Q : FpQ} (hn : 1 ≤ n ∧ n ≤ 588) (h : fq_O n H) (hT : fq_T n H K t) (hU : fq_U H K t y) (hy : 0 ≤ y ∧ y ≤ 2147483647) (l23 : Option FpV) (hk : ∀ (K : FpH) (l23 : Option FpV), fq_O (n + 2) K → fp_Wp L (d + 7) 0 938 [some (.inr (9, 26)), some (.inr (7, 14)), some (.inl (1)), some (.inl (i)), some (.inl (y)), some (.inl (y / 16)), some (.inl (y % 16)), some (.inl (H 7 15 2)), some (.inl (H 0 0 5)), some (.inl (H 0 9 3)), some (.inl (fq_pp (H 0))), some (.inl (fp_sm (H 0 5) (H 0 1 4).toNat)), some (.inl (H 0 0 6)), some (.inl (H 0 0 7)), some (.inl (H 0 0 4)), some (.inl (H 0 0 8)), some (.inl (y / 16 / 16 % 3)), some (.inl (fq_ifc (H 0) (H 0) (y / 16 % 3) (y / 16 / 4 % 3) (y / 16 / 16 % 3) 2)), some (.inl (fq_ifc (H 0) (H 0) (y / 16 % 3) (y / 16 / 4 % 3) (y / 16 / 16 % 3) 3)), some (.inl (fq_ifc (H 0) (H 0) (y / 16 % 3) (y / 16 / 4 % 3) (y / 16 / 16 % 3) 4)), some (.inl (fq_sit (H 0) (y / 16 % 5) 3)), some (.inl (fq_sit (H 0) (y / 16 % 5) 1)), some (.inl (t)), l23] [] K Q) (hk1 : 10 ≤ y % 16 ∧ y % 16 < 14) : fp_Wp L (d + 7) 0 428 [some (.inr (9, 26)), some (.inr (7, 14)), some (.inl (1)), some (.inl (i)), some (.inl (y)), some (.inl (y / 16)), some (.inl (y % 16)), some (.inl (H 7 15 2)), some (.inl (H 0 0 5)), some (.inl (H 0 9 3)), some (.inl (fq_pp (H 0))), some (.inl (fp_sm (H 0 5) (H 0 1 4).toNat)), some (.inl (H 0 0 6)), some (.inl (H 0 0 7)), some (.inl (H 0 0 4)), some (.inl (H 0 0 8)), some (.inl (y / 16 / 16 % 3)), some (.inl (fq_ifc (H 0) (H 0) (y / 16 % 3) (y / 16 / 4 % 3) (y / 16 / 16 % 3) 2)), some (.inl (fq_ifc (H 0) (H 0) (y / 16 % 3) (y / 16 / 4 % 3) (y / 16 / 16 % 3) 3)), some (.inl (fq_ifc (H 0) (H 0) (y / 16 % 3) (y / 16 / 4 % 3) (y / 16 / 16 % 3) 4)), some (.inl (fq_sit (H 0) (y / 16 % 5) 3)), some (.inl (fq_sit (H 0) (y / 16 % 5) 1)), some (.inl (t)), l23] [] K Q := by
  have hact : fq_act (H 0) y = fq_cut (H 0) (y / 16 % 3) (y / 16 / 4 % 3) (y / 16 / 16 % 3) := by
    unfold fq_act
    rw [if_neg (by omega), if_neg (by omega), if_neg (by omega), if_neg (by omega), if_neg (by omega), if_pos (by omega)]
  obtain ⟨hU1, hU2⟩ := hU.1 (by omega)
  rw [hact] at hU1 hU2
  have hkO := hk K
  rcases fq_cut_s (p := y / 16 % 3) (s := y / 16 / 4 % 3) (f := y / 16 / 16 % 3) hn.1 h.1 (by omega) with ⟨e1, e2, e3⟩ | ⟨G', e1, e2, e3, e3', e4, e5, e6, e7, e8, e9, e10, e11, e12, e13⟩
  · rw [e3, ← hU1] at hkO ⊢
    rw [← hU1] at e2
    have hk2 := fun l23 => hkO l23 (fq_T_O hT)
    refine fp_go 1000 [938] (fun KN KC hN hC => ?_)
    conv => whnf
    (try simp only [Int.reduceToNat, Int.toNat_natCast, fp_up_c, fp_up_s, fp_up_i, fp_cp_c, fp_g_s, Nat.reduceBEq, Int.reduceAdd, Int.reduceSub, Int.reduceNeg, Int.reduceMul, fp_ly_i])
    (repeat' first
        | (refine And.intro (by first | omega | (unfold fp_rg; omega)) ?_; (try intro _); (conv => whnf); (try simp only [Int.reduceToNat, Int.toNat_natCast, fp_up_c, fp_up_s, fp_up_i, fp_cp_c, fp_g_s, Nat.reduceBEq, Int.reduceAdd, Int.reduceSub, Int.reduceNeg, Int.reduceMul, fp_ly_i]))
        | (refine And.intro (fun _ => ?_) (fun _ => ?_) <;> first | (exfalso; omega) | (rename_i hz_; exact absurd trivial hz_) | ((conv => whnf); (try simp only [Int.reduceToNat, Int.toNat_natCast, fp_up_c, fp_up_s, fp_up_i, fp_cp_c, fp_g_s, Nat.reduceBEq, Int.reduceAdd, Int.reduceSub, Int.reduceNeg, Int.reduceMul, fp_ly_i])))
        | (refine And.intro (fun _ => ?_) ?_ <;> first | (exfalso; omega) | trivial | ((conv => whnf); (try simp only [Int.reduceToNat, Int.toNat_natCast, fp_up_c, fp_up_s, fp_up_i, fp_cp_c, fp_g_s, Nat.reduceBEq, Int.reduceAdd, Int.reduceSub, Int.reduceNeg, Int.reduceMul, fp_ly_i])))
        | (refine And.intro (by simp [fp_rg, fp_up, fp_cp] <;> omega) ?_; (conv => whnf); (try simp only [Int.reduceToNat, Int.toNat_natCast, fp_up_c, fp_up_s, fp_up_i, fp_cp_c, fp_g_s, Nat.reduceBEq, Int.reduceAdd, Int.reduceSub, Int.reduceNeg, Int.reduceMul, fp_ly_i]))
        | fail)
    exact hN _ _ _ _ (hk2 _)
  · have ht0 : 0 ≤ t := by omega
    have hG : K 0 = G' := by
      have := hU2 ht0
      rw [e1] at this
      exact (Option.some.inj this).symm
    subst hG
    obtain ⟨oK, sK⟩ := fq_T_1 hT ht0
    have hn1 : 1 ≤ n + 1 ∧ n + 1 ≤ 600 := by omega
    have bH := fq_bd (by omega) h.1
    have bK := fq_bd hn1.2 oK.1
    have hsa := fq_sa_n (G := K 0) oK.1.1.2.2.1.1
    rw [e10] at hk ⊢
    rw [e2] at hU1
    refine fp_go 1000 [938] (fun KN KC hN hC => ?_)
    conv => whnf
    (try simp only [Int.reduceToNat, Int.toNat_natCast, fp_up_c, fp_up_s, fp_up_i, fp_cp_c, fp_g_s, Nat.reduceBEq, Int.reduceAdd, Int.reduceSub, Int.reduceNeg, Int.reduceMul, fp_ly_i])
    (repeat' first
        | (refine And.intro (by first | omega | (unfold fp_rg; omega)) ?_; (try intro _); (conv => whnf); (try simp only [Int.reduceToNat, Int.toNat_natCast, fp_up_c, fp_up_s, fp_up_i, fp_cp_c, fp_g_s, Nat.reduceBEq, Int.reduceAdd, Int.reduceSub, Int.reduceNeg, Int.reduceMul, fp_ly_i]))
        | (refine And.intro (fun _ => ?_) (fun _ => ?_) <;> first | (exfalso; omega) | (rename_i hz_; exact absurd trivial hz_) | ((conv => whnf); (try simp only [Int.reduceToNat, Int.toNat_natCast, fp_up_c, fp_up_s, fp_up_i, fp_cp_c, fp_g_s, Nat.reduceBEq, Int.reduceAdd, Int.reduceSub, Int.reduceNeg, Int.reduceMul, fp_ly_i])))
        | (refine And.intro (fun _ => ?_) ?_ <;> first | (exfalso; omega) | trivial | ((conv => whnf); (try simp only [Int.reduceToNat, Int.toNat_natCast, fp_up_c, fp_up_s, fp_up_i, fp_cp_c, fp_g_s, Nat.reduceBEq, Int.reduceAdd, Int.reduceSub, Int.reduceNeg, Int.reduceMul, fp_ly_i])))
        | (refine And.intro (by simp [fp_rg, fp_up, fp_cp] <;> omega) ?_; (conv => whnf); (try simp only [Int.reduceToNat, Int.toNat_natCast, fp_up_c, fp_up_s, fp_up_i, fp_cp_c, fp_g_s, Nat.reduceBEq, Int.reduceAdd, Int.reduceSub, Int.reduceNeg, Int.reduceMul, fp_ly_i]))
        | fail)
    refine hC _ _ _ _ ⟨_, rfl, ?_⟩
    refine sc_0 hn1 oK.1 ?_
    conv => whnf
    (try simp only [Int.reduceToNat, Int.toNat_natCast, fp_up_c, fp_up_s, fp_up_i, fp_cp_c, fp_g_s, Nat.reduceBEq, Int.reduceAdd, Int.reduceSub, Int.reduceNeg, Int.reduceMul, fp_ly_i])
    (repeat' first
        | (refine And.intro (by first | omega | (unfold fp_rg; omega)) ?_; (try intro _); (conv => whnf); (try simp only [Int.reduceToNat, Int.toNat_natCast, fp_up_c, fp_up_s, fp_up_i, fp_cp_c, fp_g_s, Nat.reduceBEq, Int.reduceAdd, Int.reduceSub, Int.reduceNeg, Int.reduceMul, fp_ly_i]))
        | (refine And.intro (fun _ => ?_) (fun _ => ?_) <;> first | (exfalso; omega) | (rename_i hz_; exact absurd trivial hz_) | ((conv => whnf); (try simp only [Int.reduceToNat, Int.toNat_natCast, fp_up_c, fp_up_s, fp_up_i, fp_cp_c, fp_g_s, Nat.reduceBEq, Int.reduceAdd, Int.reduceSub, Int.reduceNeg, Int.reduceMul, fp_ly_i])))
        | (refine And.intro (fun _ => ?_) ?_ <;> first | (exfalso; omega) | trivial | ((conv => whnf); (try simp only [Int.reduceToNat, Int.toNat_natCast, fp_up_c, fp_up_s, fp_up_i, fp_cp_c, fp_g_s, Nat.reduceBEq, Int.reduceAdd, Int.reduceSub, Int.reduceNeg, Int.reduceMul, fp_ly_i])))
        | (refine And.intro (by simp [fp_rg, fp_up, fp_cp] <;> omega) ?_; (conv => whnf); (try simp only [Int.reduceToNat, Int.toNat_natCast, fp_up_c, fp_up_s, fp_up_i, fp_cp_c, fp_g_s, Nat.reduceBEq, Int.reduceAdd, Int.reduceSub, Int.reduceNeg, Int.reduceMul, fp_ly_i]))
        | fail)
    refine hC _ _ _ _ ⟨_, rfl, ?_⟩
    refine sc_6 hn1 oK.1 ?_
    conv => whnf
    (try simp only [Int.reduceToNat, Int.toNat_natCast, fp_up_c, fp_up_s, fp_up_i, fp_cp_c, fp_g_s, Nat.reduceBEq, Int.reduceAdd, Int.reduceSub, Int.reduceNeg, Int.reduceMul, fp_ly_i])
    (repeat' first
        | (refine And.intro (by first | omega | (unfold fp_rg; omega)) ?_; (try intro _); (conv => whnf); (try simp only [Int.reduceToNat, Int.toNat_natCast, fp_up_c, fp_up_s, fp_up_i, fp_cp_c, fp_g_s, Nat.reduceBEq, Int.reduceAdd, Int.reduceSub, Int.reduceNeg, Int.reduceMul, fp_ly_i]))
        | (refine And.intro (fun _ => ?_) (fun _ => ?_) <;> first | (exfalso; omega) | (rename_i hz_; exact absurd trivial hz_) | ((conv => whnf); (try simp only [Int.reduceToNat, Int.toNat_natCast, fp_up_c, fp_up_s, fp_up_i, fp_cp_c, fp_g_s, Nat.reduceBEq, Int.reduceAdd, Int.reduceSub, Int.reduceNeg, Int.reduceMul, fp_ly_i])))
        | (refine And.intro (fun _ => ?_) ?_ <;> first | (exfalso; omega) | trivial | ((conv => whnf); (try simp only [Int.reduceToNat, Int.toNat_natCast, fp_up_c, fp_up_s, fp_up_i, fp_cp_c, fp_g_s, Nat.reduceBEq, Int.reduceAdd, Int.reduceSub, Int.reduceNeg, Int.reduceMul, fp_ly_i])))
        | (refine And.intro (by simp [fp_rg, fp_up, fp_cp] <;> omega) ?_; (conv => whnf); (try simp only [Int.reduceToNat, Int.toNat_natCast, fp_up_c, fp_up_s, fp_up_i, fp_cp_c, fp_g_s, Nat.reduceBEq, Int.reduceAdd, Int.reduceSub, Int.reduceNeg, Int.reduceMul, fp_ly_i]))
        | fail)
    refine hC _ _ _ _ ⟨_, rfl, ?_⟩
    refine sc_4 hn1 oK.1 ?_
    conv => whnf
    (try simp only [Int.reduceToNat, Int.toNat_natCast, fp_up_c, fp_up_s, fp_up_i, fp_cp_c, fp_g_s, Nat.reduceBEq, Int.reduceAdd, Int.reduceSub, Int.reduceNeg, Int.reduceMul, fp_ly_i])
    (repeat' first
        | (refine And.intro (by first | omega | (unfold fp_rg; omega)) ?_; (try intro _); (conv => whnf); (try simp only [Int.reduceToNat, Int.toNat_natCast, fp_up_c, fp_up_s, fp_up_i, fp_cp_c, fp_g_s, Nat.reduceBEq, Int.reduceAdd, Int.reduceSub, Int.reduceNeg, Int.reduceMul, fp_ly_i]))
        | (refine And.intro (fun _ => ?_) (fun _ => ?_) <;> first | (exfalso; omega) | (rename_i hz_; exact absurd trivial hz_) | ((conv => whnf); (try simp only [Int.reduceToNat, Int.toNat_natCast, fp_up_c, fp_up_s, fp_up_i, fp_cp_c, fp_g_s, Nat.reduceBEq, Int.reduceAdd, Int.reduceSub, Int.reduceNeg, Int.reduceMul, fp_ly_i])))
        | (refine And.intro (fun _ => ?_) ?_ <;> first | (exfalso; omega) | trivial | ((conv => whnf); (try simp only [Int.reduceToNat, Int.toNat_natCast, fp_up_c, fp_up_s, fp_up_i, fp_cp_c, fp_g_s, Nat.reduceBEq, Int.reduceAdd, Int.reduceSub, Int.reduceNeg, Int.reduceMul, fp_ly_i])))
        | (refine And.intro (by simp [fp_rg, fp_up, fp_cp] <;> omega) ?_; (conv => whnf); (try simp only [Int.reduceToNat, Int.toNat_natCast, fp_up_c, fp_up_s, fp_up_i, fp_cp_c, fp_g_s, Nat.reduceBEq, Int.reduceAdd, Int.reduceSub, Int.reduceNeg, Int.reduceMul, fp_ly_i]))
        | fail)
    refine hC _ _ _ _ ⟨_, rfl, ?_⟩
    refine sc_13 hn1 oK.1 ?_
    conv => whnf
    (try simp only [Int.reduceToNat, Int.toNat_natCast, fp_up_c, fp_up_s, fp_up_i, fp_cp_c, fp_g_s, Nat.reduceBEq, Int.reduceAdd, Int.reduceSub, Int.reduceNeg, Int.reduceMul, fp_ly_i])
    (repeat' first
        | (refine And.intro (by first | omega | (unfold fp_rg; omega)) ?_; (try intro _); (conv => whnf); (try simp only [Int.reduceToNat, Int.toNat_natCast, fp_up_c, fp_up_s, fp_up_i, fp_cp_c, fp_g_s, Nat.reduceBEq, Int.reduceAdd, Int.reduceSub, Int.reduceNeg, Int.reduceMul, fp_ly_i]))
        | (refine And.intro (fun _ => ?_) (fun _ => ?_) <;> first | (exfalso; omega) | (rename_i hz_; exact absurd trivial hz_) | ((conv => whnf); (try simp only [Int.reduceToNat, Int.toNat_natCast, fp_up_c, fp_up_s, fp_up_i, fp_cp_c, fp_g_s, Nat.reduceBEq, Int.reduceAdd, Int.reduceSub, Int.reduceNeg, Int.reduceMul, fp_ly_i])))
        | (refine And.intro (fun _ => ?_) ?_ <;> first | (exfalso; omega) | trivial | ((conv => whnf); (try simp only [Int.reduceToNat, Int.toNat_natCast, fp_up_c, fp_up_s, fp_up_i, fp_cp_c, fp_g_s, Nat.reduceBEq, Int.reduceAdd, Int.reduceSub, Int.reduceNeg, Int.reduceMul, fp_ly_i])))
        | (refine And.intro (by simp [fp_rg, fp_up, fp_cp] <;> omega) ?_; (conv => whnf); (try simp only [Int.reduceToNat, Int.toNat_natCast, fp_up_c, fp_up_s, fp_up_i, fp_cp_c, fp_g_s, Nat.reduceBEq, Int.reduceAdd, Int.reduceSub, Int.reduceNeg, Int.reduceMul, fp_ly_i]))
        | fail)
    refine hC _ _ _ _ ⟨_, rfl, ?_⟩
    refine sc_8 hn1 oK.1 ?_
    conv => whnf
    (try simp only [Int.reduceToNat, Int.toNat_natCast, fp_up_c, fp_up_s, fp_up_i, fp_cp_c, fp_g_s, Nat.reduceBEq, Int.reduceAdd, Int.reduceSub, Int.reduceNeg, Int.reduceMul, fp_ly_i])
    (repeat' first
        | (refine And.intro (by first | omega | (unfold fp_rg; omega)) ?_; (try intro _); (conv => whnf); (try simp only [Int.reduceToNat, Int.toNat_natCast, fp_up_c, fp_up_s, fp_up_i, fp_cp_c, fp_g_s, Nat.reduceBEq, Int.reduceAdd, Int.reduceSub, Int.reduceNeg, Int.reduceMul, fp_ly_i]))
        | (refine And.intro (fun _ => ?_) (fun _ => ?_) <;> first | (exfalso; omega) | (rename_i hz_; exact absurd trivial hz_) | ((conv => whnf); (try simp only [Int.reduceToNat, Int.toNat_natCast, fp_up_c, fp_up_s, fp_up_i, fp_cp_c, fp_g_s, Nat.reduceBEq, Int.reduceAdd, Int.reduceSub, Int.reduceNeg, Int.reduceMul, fp_ly_i])))
        | (refine And.intro (fun _ => ?_) ?_ <;> first | (exfalso; omega) | trivial | ((conv => whnf); (try simp only [Int.reduceToNat, Int.toNat_natCast, fp_up_c, fp_up_s, fp_up_i, fp_cp_c, fp_g_s, Nat.reduceBEq, Int.reduceAdd, Int.reduceSub, Int.reduceNeg, Int.reduceMul, fp_ly_i])))
        | (refine And.intro (by simp [fp_rg, fp_up, fp_cp] <;> omega) ?_; (conv => whnf); (try simp only [Int.reduceToNat, Int.toNat_natCast, fp_up_c, fp_up_s, fp_up_i, fp_cp_c, fp_g_s, Nat.reduceBEq, Int.reduceAdd, Int.reduceSub, Int.reduceNeg, Int.reduceMul, fp_ly_i]))
        | fail)
    refine hC _ _ _ _ ⟨_, rfl, ?_⟩
    refine sc_3 hn1 oK.1 ?_
    conv => whnf
    (try simp only [Int.reduceToNat, Int.toNat_natCast, fp_up_c, fp_up_s, fp_up_i, fp_cp_c, fp_g_s, Nat.reduceBEq, Int.reduceAdd, Int.reduceSub, Int.reduceNeg, Int.reduceMul, fp_ly_i])
    (repeat' first
        | (refine And.intro (by first | omega | (unfold fp_rg; omega)) ?_; (try intro _); (conv => whnf); (try simp only [Int.reduceToNat, Int.toNat_natCast, fp_up_c, fp_up_s, fp_up_i, fp_cp_c, fp_g_s, Nat.reduceBEq, Int.reduceAdd, Int.reduceSub, Int.reduceNeg, Int.reduceMul, fp_ly_i]))
        | (refine And.intro (fun _ => ?_) (fun _ => ?_) <;> first | (exfalso; omega) | (rename_i hz_; exact absurd trivial hz_) | ((conv => whnf); (try simp only [Int.reduceToNat, Int.toNat_natCast, fp_up_c, fp_up_s, fp_up_i, fp_cp_c, fp_g_s, Nat.reduceBEq, Int.reduceAdd, Int.reduceSub, Int.reduceNeg, Int.reduceMul, fp_ly_i])))
        | (refine And.intro (fun _ => ?_) ?_ <;> first | (exfalso; omega) | trivial | ((conv => whnf); (try simp only [Int.reduceToNat, Int.toNat_natCast, fp_up_c, fp_up_s, fp_up_i, fp_cp_c, fp_g_s, Nat.reduceBEq, Int.reduceAdd, Int.reduceSub, Int.reduceNeg, Int.reduceMul, fp_ly_i])))
        | (refine And.intro (by simp [fp_rg, fp_up, fp_cp] <;> omega) ?_; (conv => whnf); (try simp only [Int.reduceToNat, Int.toNat_natCast, fp_up_c, fp_up_s, fp_up_i, fp_cp_c, fp_g_s, Nat.reduceBEq, Int.reduceAdd, Int.reduceSub, Int.reduceNeg, Int.reduceMul, fp_ly_i]))
        | fail)
    refine hC _ _ _ _ ⟨_, rfl, ?_⟩
    refine sp_serveAllN ⟨hn1.1, by omega⟩ oK (fun hz K2 hc => ?_) (fun hz K2 oK2 sK2 eK2 hp => ?_)
    · have hk2 := fun l23 => hk K2 l23 (fq_O_m (fq_O_c oK hc) (by omega))
      conv => whnf
      (try simp only [Int.reduceToNat, Int.toNat_natCast, fp_up_c, fp_up_s, fp_up_i, fp_cp_c, fp_g_s, Nat.reduceBEq, Int.reduceAdd, Int.reduceSub, Int.reduceNeg, Int.reduceMul, fp_ly_i])
      (repeat' first
          | (refine And.intro (by first | omega | (unfold fp_rg; omega)) ?_; (try intro _); (conv => whnf); (try simp only [Int.reduceToNat, Int.toNat_natCast, fp_up_c, fp_up_s, fp_up_i, fp_cp_c, fp_g_s, Nat.reduceBEq, Int.reduceAdd, Int.reduceSub, Int.reduceNeg, Int.reduceMul, fp_ly_i]))
          | (refine And.intro (fun _ => ?_) (fun _ => ?_) <;> first | (exfalso; omega) | (rename_i hz_; exact absurd trivial hz_) | ((conv => whnf); (try simp only [Int.reduceToNat, Int.toNat_natCast, fp_up_c, fp_up_s, fp_up_i, fp_cp_c, fp_g_s, Nat.reduceBEq, Int.reduceAdd, Int.reduceSub, Int.reduceNeg, Int.reduceMul, fp_ly_i])))
          | (refine And.intro (fun _ => ?_) ?_ <;> first | (exfalso; omega) | trivial | ((conv => whnf); (try simp only [Int.reduceToNat, Int.toNat_natCast, fp_up_c, fp_up_s, fp_up_i, fp_cp_c, fp_g_s, Nat.reduceBEq, Int.reduceAdd, Int.reduceSub, Int.reduceNeg, Int.reduceMul, fp_ly_i])))
          | (refine And.intro (by simp [fp_rg, fp_up, fp_cp] <;> omega) ?_; (conv => whnf); (try simp only [Int.reduceToNat, Int.toNat_natCast, fp_up_c, fp_up_s, fp_up_i, fp_cp_c, fp_g_s, Nat.reduceBEq, Int.reduceAdd, Int.reduceSub, Int.reduceNeg, Int.reduceMul, fp_ly_i]))
          | fail)
      exact hN _ _ _ _ (hk2 _)
    · have hn2 : 1 ≤ n + 1 + 1 ∧ n + 1 + 1 ≤ 600 := by omega
      have e06 : K2 0 0 6 = K 0 0 6 + (K 0 9 3 - fq_sa (K 0) 9 3) := by rw [eK2 0 6 (by omega)]; exact hsa.1
      have bK2 := fq_bd hn2.2 oK2.1
      conv => whnf
      (try simp only [Int.reduceToNat, Int.toNat_natCast, fp_up_c, fp_up_s, fp_up_i, fp_cp_c, fp_g_s, Nat.reduceBEq, Int.reduceAdd, Int.reduceSub, Int.reduceNeg, Int.reduceMul, fp_ly_i])
      (repeat' first
          | (refine And.intro (by first | omega | (unfold fp_rg; omega)) ?_; (try intro _); (conv => whnf); (try simp only [Int.reduceToNat, Int.toNat_natCast, fp_up_c, fp_up_s, fp_up_i, fp_cp_c, fp_g_s, Nat.reduceBEq, Int.reduceAdd, Int.reduceSub, Int.reduceNeg, Int.reduceMul, fp_ly_i]))
          | (refine And.intro (fun _ => ?_) (fun _ => ?_) <;> first | (exfalso; omega) | (rename_i hz_; exact absurd trivial hz_) | ((conv => whnf); (try simp only [Int.reduceToNat, Int.toNat_natCast, fp_up_c, fp_up_s, fp_up_i, fp_cp_c, fp_g_s, Nat.reduceBEq, Int.reduceAdd, Int.reduceSub, Int.reduceNeg, Int.reduceMul, fp_ly_i])))
          | (refine And.intro (fun _ => ?_) ?_ <;> first | (exfalso; omega) | trivial | ((conv => whnf); (try simp only [Int.reduceToNat, Int.toNat_natCast, fp_up_c, fp_up_s, fp_up_i, fp_cp_c, fp_g_s, Nat.reduceBEq, Int.reduceAdd, Int.reduceSub, Int.reduceNeg, Int.reduceMul, fp_ly_i])))
          | (refine And.intro (by simp [fp_rg, fp_up, fp_cp] <;> omega) ?_; (conv => whnf); (try simp only [Int.reduceToNat, Int.toNat_natCast, fp_up_c, fp_up_s, fp_up_i, fp_cp_c, fp_g_s, Nat.reduceBEq, Int.reduceAdd, Int.reduceSub, Int.reduceNeg, Int.reduceMul, fp_ly_i]))
          | fail)
      refine hC _ _ _ _ ⟨_, rfl, ?_⟩
      refine sc_7 hn2 oK2.1 ?_
      conv => whnf
      (try simp only [Int.reduceToNat, Int.toNat_natCast, fp_up_c, fp_up_s, fp_up_i, fp_cp_c, fp_g_s, Nat.reduceBEq, Int.reduceAdd, Int.reduceSub, Int.reduceNeg, Int.reduceMul, fp_ly_i])
      (repeat' first
          | (refine And.intro (by first | omega | (unfold fp_rg; omega)) ?_; (try intro _); (conv => whnf); (try simp only [Int.reduceToNat, Int.toNat_natCast, fp_up_c, fp_up_s, fp_up_i, fp_cp_c, fp_g_s, Nat.reduceBEq, Int.reduceAdd, Int.reduceSub, Int.reduceNeg, Int.reduceMul, fp_ly_i]))
          | (refine And.intro (fun _ => ?_) (fun _ => ?_) <;> first | (exfalso; omega) | (rename_i hz_; exact absurd trivial hz_) | ((conv => whnf); (try simp only [Int.reduceToNat, Int.toNat_natCast, fp_up_c, fp_up_s, fp_up_i, fp_cp_c, fp_g_s, Nat.reduceBEq, Int.reduceAdd, Int.reduceSub, Int.reduceNeg, Int.reduceMul, fp_ly_i])))
          | (refine And.intro (fun _ => ?_) ?_ <;> first | (exfalso; omega) | trivial | ((conv => whnf); (try simp only [Int.reduceToNat, Int.toNat_natCast, fp_up_c, fp_up_s, fp_up_i, fp_cp_c, fp_g_s, Nat.reduceBEq, Int.reduceAdd, Int.reduceSub, Int.reduceNeg, Int.reduceMul, fp_ly_i])))
          | (refine And.intro (by simp [fp_rg, fp_up, fp_cp] <;> omega) ?_; (conv => whnf); (try simp only [Int.reduceToNat, Int.toNat_natCast, fp_up_c, fp_up_s, fp_up_i, fp_cp_c, fp_g_s, Nat.reduceBEq, Int.reduceAdd, Int.reduceSub, Int.reduceNeg, Int.reduceMul, fp_ly_i]))
          | fail)
      refine hC _ _ _ _ ⟨_, rfl, ?_⟩
      refine fp_Wp_ag (sp_undo oK2.2.1 (fun q ha => ?_) (fun q ha => ?_))
      · exfalso
        rw [sK2] at q
        unfold fq_up at q
        have := oK.2.1.2
        split at q <;> omega
      · have hk2 := fun l23 => hk (fp_pop K2) l23 (fq_O_m (hp (fq_N_ag oK2.2.2.2.2 ha)) (by omega))
        conv => whnf
        (try simp only [Int.reduceToNat, Int.toNat_natCast, fp_up_c, fp_up_s, fp_up_i, fp_cp_c, fp_g_s, Nat.reduceBEq, Int.reduceAdd, Int.reduceSub, Int.reduceNeg, Int.reduceMul, fp_ly_i])
        (repeat' first
            | (refine And.intro (by first | omega | (unfold fp_rg; omega)) ?_; (try intro _); (conv => whnf); (try simp only [Int.reduceToNat, Int.toNat_natCast, fp_up_c, fp_up_s, fp_up_i, fp_cp_c, fp_g_s, Nat.reduceBEq, Int.reduceAdd, Int.reduceSub, Int.reduceNeg, Int.reduceMul, fp_ly_i]))
            | (refine And.intro (fun _ => ?_) (fun _ => ?_) <;> first | (exfalso; omega) | (rename_i hz_; exact absurd trivial hz_) | ((conv => whnf); (try simp only [Int.reduceToNat, Int.toNat_natCast, fp_up_c, fp_up_s, fp_up_i, fp_cp_c, fp_g_s, Nat.reduceBEq, Int.reduceAdd, Int.reduceSub, Int.reduceNeg, Int.reduceMul, fp_ly_i])))
            | (refine And.intro (fun _ => ?_) ?_ <;> first | (exfalso; omega) | trivial | ((conv => whnf); (try simp only [Int.reduceToNat, Int.toNat_natCast, fp_up_c, fp_up_s, fp_up_i, fp_cp_c, fp_g_s, Nat.reduceBEq, Int.reduceAdd, Int.reduceSub, Int.reduceNeg, Int.reduceMul, fp_ly_i])))
            | (refine And.intro (by simp [fp_rg, fp_up, fp_cp] <;> omega) ?_; (conv => whnf); (try simp only [Int.reduceToNat, Int.toNat_natCast, fp_up_c, fp_up_s, fp_up_i, fp_cp_c, fp_g_s, Nat.reduceBEq, Int.reduceAdd, Int.reduceSub, Int.reduceNeg, Int.reduceMul, fp_ly_i]))
            | fail)
        exact hN _ _ _ _ (hk2 _)
set_option maxHeartbeats 600000 in
set_option maxRecDepth 100000 in
theorem lk_serve {L d : Nat} {n i y t : Int} {H K : FpH} {Q : FpQ} (hn : 1 ≤ n ∧ n ≤ 588) (h : fq_O n H) (hT : fq_T n H K t) (hU : fq_U H K t y) (hy : 0 ≤ y ∧ y ≤ 2147483647) (l23 : Option FpV) (hk : ∀ (K : FpH) (l23 : Option FpV), fq_O (n + 2) K → fp_Wp L (d + 7) 0 938 [some (.inr (9, 26)), some (.inr (7, 14)), some (.inl (1)), some (.inl (i)), some (.inl (y)), some (.inl (y / 16)), some (.inl (y % 16)), some (.inl (H 7 15 2)), some (.inl (H 0 0 5)), some (.inl (H 0 9 3)), some (.inl (fq_pp (H 0))), some (.inl (fp_sm (H 0 5) (H 0 1 4).toNat)), some (.inl (H 0 0 6)), some (.inl (H 0 0 7)), some (.inl (H 0 0 4)), some (.inl (H 0 0 8)), some (.inl (y / 16 / 16 % 3)), some (.inl (fq_ifc (H 0) (H 0) (y / 16 % 3) (y / 16 / 4 % 3) (y / 16 / 16 % 3) 2)), some (.inl (fq_ifc (H 0) (H 0) (y / 16 % 3) (y / 16 / 4 % 3) (y / 16 / 16 % 3) 3)), some (.inl (fq_ifc (H 0) (H 0) (y / 16 % 3) (y / 16 / 4 % 3) (y / 16 / 16 % 3) 4)), some (.inl (fq_sit (H 0) (y / 16 % 5) 3)), some (.inl (fq_sit (H 0) (y / 16 % 5) 1)), some (.inl (t)), l23] [] K Q) (hk1 : 7 ≤ y % 16 ∧ y % 16 < 9) : fp_Wp L (d + 7) 0 428 [some (.inr (9, 26)), some (.inr (7, 14)), some (.inl (1)), some (.inl (i)), some (.inl (y)), some (.inl (y / 16)), some (.inl (y % 16)), some (.inl (H 7 15 2)), some (.inl (H 0 0 5)), some (.inl (H 0 9 3)), some (.inl (fq_pp (H 0))), some (.inl (fp_sm (H 0 5) (H 0 1 4).toNat)), some (.inl (H 0 0 6)), some (.inl (H 0 0 7)), some (.inl (H 0 0 4)), some (.inl (H 0 0 8)), some (.inl (y / 16 / 16 % 3)), some (.inl (fq_ifc (H 0) (H 0) (y / 16 % 3) (y / 16 / 4 % 3) (y / 16 / 16 % 3) 2)), some (.inl (fq_ifc (H 0) (H 0) (y / 16 % 3) (y / 16 / 4 % 3) (y / 16 / 16 % 3) 3)), some (.inl (fq_ifc (H 0) (H 0) (y / 16 % 3) (y / 16 / 4 % 3) (y / 16 / 16 % 3) 4)), some (.inl (fq_sit (H 0) (y / 16 % 5) 3)), some (.inl (fq_sit (H 0) (y / 16 % 5) 1)), some (.inl (t)), l23] [] K Q := by
  have hact : fq_act (H 0) y = fq_serve (H 0) (y / 16 % 5) := by
    unfold fq_act
    rw [if_neg (by omega), if_neg (by omega), if_neg (by omega), if_neg (by omega), if_pos (by omega)]
  obtain ⟨hU1, hU2⟩ := hU.1 (by omega)
  rw [hact] at hU1 hU2
  have hk2 := fun l23 => hk K l23 (fq_T_O hT)
  have h78 : y % 16 = 7 ∨ y % 16 = 8 := by omega
  rcases fq_serve_s (t := y / 16 % 5) h.1 (by omega) with ⟨e1, e2, e3, e4, e5⟩ | ⟨G', e1, e2, e3, e4, e5, e6, e7⟩
  · rw [← hU1] at e2 e3 e4
    by_cases hc : fq_sit (H 0) (y / 16 % 5) 3 < 0
    · have e3 := e3 hc
      rcases h78 with h7 | h7
      · refine fp_go 1000 [938] (fun KN KC hN hC => ?_)
        conv => whnf
        (try simp only [Int.reduceToNat, Int.toNat_natCast, fp_up_c, fp_up_s, fp_up_i, fp_cp_c, fp_g_s, Nat.reduceBEq, Int.reduceAdd, Int.reduceSub, Int.reduceNeg, Int.reduceMul, fp_ly_i])
        (repeat' first
            | (refine And.intro (by first | omega | (unfold fp_rg; omega)) ?_; (try intro _); (conv => whnf); (try simp only [Int.reduceToNat, Int.toNat_natCast, fp_up_c, fp_up_s, fp_up_i, fp_cp_c, fp_g_s, Nat.reduceBEq, Int.reduceAdd, Int.reduceSub, Int.reduceNeg, Int.reduceMul, fp_ly_i]))
            | (refine And.intro (fun _ => ?_) (fun _ => ?_) <;> first | (exfalso; omega) | (rename_i hz_; exact absurd trivial hz_) | ((conv => whnf); (try simp only [Int.reduceToNat, Int.toNat_natCast, fp_up_c, fp_up_s, fp_up_i, fp_cp_c, fp_g_s, Nat.reduceBEq, Int.reduceAdd, Int.reduceSub, Int.reduceNeg, Int.reduceMul, fp_ly_i])))
            | (refine And.intro (fun _ => ?_) ?_ <;> first | (exfalso; omega) | trivial | ((conv => whnf); (try simp only [Int.reduceToNat, Int.toNat_natCast, fp_up_c, fp_up_s, fp_up_i, fp_cp_c, fp_g_s, Nat.reduceBEq, Int.reduceAdd, Int.reduceSub, Int.reduceNeg, Int.reduceMul, fp_ly_i])))
            | (refine And.intro (by simp [fp_rg, fp_up, fp_cp] <;> omega) ?_; (conv => whnf); (try simp only [Int.reduceToNat, Int.toNat_natCast, fp_up_c, fp_up_s, fp_up_i, fp_cp_c, fp_g_s, Nat.reduceBEq, Int.reduceAdd, Int.reduceSub, Int.reduceNeg, Int.reduceMul, fp_ly_i]))
            | fail)
        exact hN _ _ _ _ (hk2 _)
      · refine fp_go 1000 [938] (fun KN KC hN hC => ?_)
        conv => whnf
        (try simp only [Int.reduceToNat, Int.toNat_natCast, fp_up_c, fp_up_s, fp_up_i, fp_cp_c, fp_g_s, Nat.reduceBEq, Int.reduceAdd, Int.reduceSub, Int.reduceNeg, Int.reduceMul, fp_ly_i])
        (repeat' first
            | (refine And.intro (by first | omega | (unfold fp_rg; omega)) ?_; (try intro _); (conv => whnf); (try simp only [Int.reduceToNat, Int.toNat_natCast, fp_up_c, fp_up_s, fp_up_i, fp_cp_c, fp_g_s, Nat.reduceBEq, Int.reduceAdd, Int.reduceSub, Int.reduceNeg, Int.reduceMul, fp_ly_i]))
            | (refine And.intro (fun _ => ?_) (fun _ => ?_) <;> first | (exfalso; omega) | (rename_i hz_; exact absurd trivial hz_) | ((conv => whnf); (try simp only [Int.reduceToNat, Int.toNat_natCast, fp_up_c, fp_up_s, fp_up_i, fp_cp_c, fp_g_s, Nat.reduceBEq, Int.reduceAdd, Int.reduceSub, Int.reduceNeg, Int.reduceMul, fp_ly_i])))
            | (refine And.intro (fun _ => ?_) ?_ <;> first | (exfalso; omega) | trivial | ((conv => whnf); (try simp only [Int.reduceToNat, Int.toNat_natCast, fp_up_c, fp_up_s, fp_up_i, fp_cp_c, fp_g_s, Nat.reduceBEq, Int.reduceAdd, Int.reduceSub, Int.reduceNeg, Int.reduceMul, fp_ly_i])))
            | (refine And.intro (by simp [fp_rg, fp_up, fp_cp] <;> omega) ?_; (conv => whnf); (try simp only [Int.reduceToNat, Int.toNat_natCast, fp_up_c, fp_up_s, fp_up_i, fp_cp_c, fp_g_s, Nat.reduceBEq, Int.reduceAdd, Int.reduceSub, Int.reduceNeg, Int.reduceMul, fp_ly_i]))
            | fail)
        exact hN _ _ _ _ (hk2 _)
    · have hc0 : fq_sit (H 0) (y / 16 % 5) 3 = 0 := by omega
      have e4 := e4 hc0
      rcases h78 with h7 | h7
      · refine fp_go 1000 [938] (fun KN KC hN hC => ?_)
        conv => whnf
        (try simp only [Int.reduceToNat, Int.toNat_natCast, fp_up_c, fp_up_s, fp_up_i, fp_cp_c, fp_g_s, Nat.reduceBEq, Int.reduceAdd, Int.reduceSub, Int.reduceNeg, Int.reduceMul, fp_ly_i])
        (repeat' first
            | (refine And.intro (by first | omega | (unfold fp_rg; omega)) ?_; (try intro _); (conv => whnf); (try simp only [Int.reduceToNat, Int.toNat_natCast, fp_up_c, fp_up_s, fp_up_i, fp_cp_c, fp_g_s, Nat.reduceBEq, Int.reduceAdd, Int.reduceSub, Int.reduceNeg, Int.reduceMul, fp_ly_i]))
            | (refine And.intro (fun _ => ?_) (fun _ => ?_) <;> first | (exfalso; omega) | (rename_i hz_; exact absurd trivial hz_) | ((conv => whnf); (try simp only [Int.reduceToNat, Int.toNat_natCast, fp_up_c, fp_up_s, fp_up_i, fp_cp_c, fp_g_s, Nat.reduceBEq, Int.reduceAdd, Int.reduceSub, Int.reduceNeg, Int.reduceMul, fp_ly_i])))
            | (refine And.intro (fun _ => ?_) ?_ <;> first | (exfalso; omega) | trivial | ((conv => whnf); (try simp only [Int.reduceToNat, Int.toNat_natCast, fp_up_c, fp_up_s, fp_up_i, fp_cp_c, fp_g_s, Nat.reduceBEq, Int.reduceAdd, Int.reduceSub, Int.reduceNeg, Int.reduceMul, fp_ly_i])))
            | (refine And.intro (by simp [fp_rg, fp_up, fp_cp] <;> omega) ?_; (conv => whnf); (try simp only [Int.reduceToNat, Int.toNat_natCast, fp_up_c, fp_up_s, fp_up_i, fp_cp_c, fp_g_s, Nat.reduceBEq, Int.reduceAdd, Int.reduceSub, Int.reduceNeg, Int.reduceMul, fp_ly_i]))
            | fail)
        exact hN _ _ _ _ (hk2 _)
      · refine fp_go 1000 [938] (fun KN KC hN hC => ?_)
        conv => whnf
        (try simp only [Int.reduceToNat, Int.toNat_natCast, fp_up_c, fp_up_s, fp_up_i, fp_cp_c, fp_g_s, Nat.reduceBEq, Int.reduceAdd, Int.reduceSub, Int.reduceNeg, Int.reduceMul, fp_ly_i])
        (repeat' first
            | (refine And.intro (by first | omega | (unfold fp_rg; omega)) ?_; (try intro _); (conv => whnf); (try simp only [Int.reduceToNat, Int.toNat_natCast, fp_up_c, fp_up_s, fp_up_i, fp_cp_c, fp_g_s, Nat.reduceBEq, Int.reduceAdd, Int.reduceSub, Int.reduceNeg, Int.reduceMul, fp_ly_i]))
            | (refine And.intro (fun _ => ?_) (fun _ => ?_) <;> first | (exfalso; omega) | (rename_i hz_; exact absurd trivial hz_) | ((conv => whnf); (try simp only [Int.reduceToNat, Int.toNat_natCast, fp_up_c, fp_up_s, fp_up_i, fp_cp_c, fp_g_s, Nat.reduceBEq, Int.reduceAdd, Int.reduceSub, Int.reduceNeg, Int.reduceMul, fp_ly_i])))
            | (refine And.intro (fun _ => ?_) ?_ <;> first | (exfalso; omega) | trivial | ((conv => whnf); (try simp only [Int.reduceToNat, Int.toNat_natCast, fp_up_c, fp_up_s, fp_up_i, fp_cp_c, fp_g_s, Nat.reduceBEq, Int.reduceAdd, Int.reduceSub, Int.reduceNeg, Int.reduceMul, fp_ly_i])))
            | (refine And.intro (by simp [fp_rg, fp_up, fp_cp] <;> omega) ?_; (conv => whnf); (try simp only [Int.reduceToNat, Int.toNat_natCast, fp_up_c, fp_up_s, fp_up_i, fp_cp_c, fp_g_s, Nat.reduceBEq, Int.reduceAdd, Int.reduceSub, Int.reduceNeg, Int.reduceMul, fp_ly_i]))
            | fail)
        exact hN _ _ _ _ (hk2 _)
  · rw [← hU1] at e2 e4 e5
    have hG : K 0 = G' := by
      have := hU2 e2
      rw [e1] at this
      exact (Option.some.inj this).symm
    subst hG
    obtain ⟨oK, sK⟩ := fq_T_1 hT e2
    have hn1 : 1 ≤ n + 1 ∧ n + 1 ≤ 600 := by omega
    have bH := fq_bd (by omega) h.1
    have bK := fq_bd hn1.2 oK.1
    by_cases hw : fq_sit (H 0) (y / 16 % 5) 1 = 2
    · rw [if_pos hw] at e4
      rcases h78 with h7 | h7
      · refine fp_go 1000 [938] (fun KN KC hN hC => ?_)
        conv => whnf
        (try simp only [Int.reduceToNat, Int.toNat_natCast, fp_up_c, fp_up_s, fp_up_i, fp_cp_c, fp_g_s, Nat.reduceBEq, Int.reduceAdd, Int.reduceSub, Int.reduceNeg, Int.reduceMul, fp_ly_i])
        (repeat' first
            | (refine And.intro (by first | omega | (unfold fp_rg; omega)) ?_; (try intro _); (conv => whnf); (try simp only [Int.reduceToNat, Int.toNat_natCast, fp_up_c, fp_up_s, fp_up_i, fp_cp_c, fp_g_s, Nat.reduceBEq, Int.reduceAdd, Int.reduceSub, Int.reduceNeg, Int.reduceMul, fp_ly_i]))
            | (refine And.intro (fun _ => ?_) (fun _ => ?_) <;> first | (exfalso; omega) | (rename_i hz_; exact absurd trivial hz_) | ((conv => whnf); (try simp only [Int.reduceToNat, Int.toNat_natCast, fp_up_c, fp_up_s, fp_up_i, fp_cp_c, fp_g_s, Nat.reduceBEq, Int.reduceAdd, Int.reduceSub, Int.reduceNeg, Int.reduceMul, fp_ly_i])))
            | (refine And.intro (fun _ => ?_) ?_ <;> first | (exfalso; omega) | trivial | ((conv => whnf); (try simp only [Int.reduceToNat, Int.toNat_natCast, fp_up_c, fp_up_s, fp_up_i, fp_cp_c, fp_g_s, Nat.reduceBEq, Int.reduceAdd, Int.reduceSub, Int.reduceNeg, Int.reduceMul, fp_ly_i])))
            | (refine And.intro (by simp [fp_rg, fp_up, fp_cp] <;> omega) ?_; (conv => whnf); (try simp only [Int.reduceToNat, Int.toNat_natCast, fp_up_c, fp_up_s, fp_up_i, fp_cp_c, fp_g_s, Nat.reduceBEq, Int.reduceAdd, Int.reduceSub, Int.reduceNeg, Int.reduceMul, fp_ly_i]))
            | fail)
        refine hC _ _ _ _ ⟨_, rfl, ?_⟩
        refine sc_9 hn1 oK.1 ?_
        conv => whnf
        (try simp only [Int.reduceToNat, Int.toNat_natCast, fp_up_c, fp_up_s, fp_up_i, fp_cp_c, fp_g_s, Nat.reduceBEq, Int.reduceAdd, Int.reduceSub, Int.reduceNeg, Int.reduceMul, fp_ly_i])
        (repeat' first
            | (refine And.intro (by first | omega | (unfold fp_rg; omega)) ?_; (try intro _); (conv => whnf); (try simp only [Int.reduceToNat, Int.toNat_natCast, fp_up_c, fp_up_s, fp_up_i, fp_cp_c, fp_g_s, Nat.reduceBEq, Int.reduceAdd, Int.reduceSub, Int.reduceNeg, Int.reduceMul, fp_ly_i]))
            | (refine And.intro (fun _ => ?_) (fun _ => ?_) <;> first | (exfalso; omega) | (rename_i hz_; exact absurd trivial hz_) | ((conv => whnf); (try simp only [Int.reduceToNat, Int.toNat_natCast, fp_up_c, fp_up_s, fp_up_i, fp_cp_c, fp_g_s, Nat.reduceBEq, Int.reduceAdd, Int.reduceSub, Int.reduceNeg, Int.reduceMul, fp_ly_i])))
            | (refine And.intro (fun _ => ?_) ?_ <;> first | (exfalso; omega) | trivial | ((conv => whnf); (try simp only [Int.reduceToNat, Int.toNat_natCast, fp_up_c, fp_up_s, fp_up_i, fp_cp_c, fp_g_s, Nat.reduceBEq, Int.reduceAdd, Int.reduceSub, Int.reduceNeg, Int.reduceMul, fp_ly_i])))
            | (refine And.intro (by simp [fp_rg, fp_up, fp_cp] <;> omega) ?_; (conv => whnf); (try simp only [Int.reduceToNat, Int.toNat_natCast, fp_up_c, fp_up_s, fp_up_i, fp_cp_c, fp_g_s, Nat.reduceBEq, Int.reduceAdd, Int.reduceSub, Int.reduceNeg, Int.reduceMul, fp_ly_i]))
            | fail)
        refine hC _ _ _ _ ⟨_, rfl, ?_⟩
        refine sc_7 hn1 oK.1 ?_
        conv => whnf
        (try simp only [Int.reduceToNat, Int.toNat_natCast, fp_up_c, fp_up_s, fp_up_i, fp_cp_c, fp_g_s, Nat.reduceBEq, Int.reduceAdd, Int.reduceSub, Int.reduceNeg, Int.reduceMul, fp_ly_i])
        (repeat' first
            | (refine And.intro (by first | omega | (unfold fp_rg; omega)) ?_; (try intro _); (conv => whnf); (try simp only [Int.reduceToNat, Int.toNat_natCast, fp_up_c, fp_up_s, fp_up_i, fp_cp_c, fp_g_s, Nat.reduceBEq, Int.reduceAdd, Int.reduceSub, Int.reduceNeg, Int.reduceMul, fp_ly_i]))
            | (refine And.intro (fun _ => ?_) (fun _ => ?_) <;> first | (exfalso; omega) | (rename_i hz_; exact absurd trivial hz_) | ((conv => whnf); (try simp only [Int.reduceToNat, Int.toNat_natCast, fp_up_c, fp_up_s, fp_up_i, fp_cp_c, fp_g_s, Nat.reduceBEq, Int.reduceAdd, Int.reduceSub, Int.reduceNeg, Int.reduceMul, fp_ly_i])))
            | (refine And.intro (fun _ => ?_) ?_ <;> first | (exfalso; omega) | trivial | ((conv => whnf); (try simp only [Int.reduceToNat, Int.toNat_natCast, fp_up_c, fp_up_s, fp_up_i, fp_cp_c, fp_g_s, Nat.reduceBEq, Int.reduceAdd, Int.reduceSub, Int.reduceNeg, Int.reduceMul, fp_ly_i])))
            | (refine And.intro (by simp [fp_rg, fp_up, fp_cp] <;> omega) ?_; (conv => whnf); (try simp only [Int.reduceToNat, Int.toNat_natCast, fp_up_c, fp_up_s, fp_up_i, fp_cp_c, fp_g_s, Nat.reduceBEq, Int.reduceAdd, Int.reduceSub, Int.reduceNeg, Int.reduceMul, fp_ly_i]))
            | fail)
        refine hC _ _ _ _ ⟨_, rfl, ?_⟩
        refine sc_3 hn1 oK.1 ?_
        conv => whnf
        (try simp only [Int.reduceToNat, Int.toNat_natCast, fp_up_c, fp_up_s, fp_up_i, fp_cp_c, fp_g_s, Nat.reduceBEq, Int.reduceAdd, Int.reduceSub, Int.reduceNeg, Int.reduceMul, fp_ly_i])
        (repeat' first
            | (refine And.intro (by first | omega | (unfold fp_rg; omega)) ?_; (try intro _); (conv => whnf); (try simp only [Int.reduceToNat, Int.toNat_natCast, fp_up_c, fp_up_s, fp_up_i, fp_cp_c, fp_g_s, Nat.reduceBEq, Int.reduceAdd, Int.reduceSub, Int.reduceNeg, Int.reduceMul, fp_ly_i]))
            | (refine And.intro (fun _ => ?_) (fun _ => ?_) <;> first | (exfalso; omega) | (rename_i hz_; exact absurd trivial hz_) | ((conv => whnf); (try simp only [Int.reduceToNat, Int.toNat_natCast, fp_up_c, fp_up_s, fp_up_i, fp_cp_c, fp_g_s, Nat.reduceBEq, Int.reduceAdd, Int.reduceSub, Int.reduceNeg, Int.reduceMul, fp_ly_i])))
            | (refine And.intro (fun _ => ?_) ?_ <;> first | (exfalso; omega) | trivial | ((conv => whnf); (try simp only [Int.reduceToNat, Int.toNat_natCast, fp_up_c, fp_up_s, fp_up_i, fp_cp_c, fp_g_s, Nat.reduceBEq, Int.reduceAdd, Int.reduceSub, Int.reduceNeg, Int.reduceMul, fp_ly_i])))
            | (refine And.intro (by simp [fp_rg, fp_up, fp_cp] <;> omega) ?_; (conv => whnf); (try simp only [Int.reduceToNat, Int.toNat_natCast, fp_up_c, fp_up_s, fp_up_i, fp_cp_c, fp_g_s, Nat.reduceBEq, Int.reduceAdd, Int.reduceSub, Int.reduceNeg, Int.reduceMul, fp_ly_i]))
            | fail)
        exact hN _ _ _ _ (hk2 _)
      · refine fp_go 1000 [938] (fun KN KC hN hC => ?_)
        conv => whnf
        (try simp only [Int.reduceToNat, Int.toNat_natCast, fp_up_c, fp_up_s, fp_up_i, fp_cp_c, fp_g_s, Nat.reduceBEq, Int.reduceAdd, Int.reduceSub, Int.reduceNeg, Int.reduceMul, fp_ly_i])
        (repeat' first
            | (refine And.intro (by first | omega | (unfold fp_rg; omega)) ?_; (try intro _); (conv => whnf); (try simp only [Int.reduceToNat, Int.toNat_natCast, fp_up_c, fp_up_s, fp_up_i, fp_cp_c, fp_g_s, Nat.reduceBEq, Int.reduceAdd, Int.reduceSub, Int.reduceNeg, Int.reduceMul, fp_ly_i]))
            | (refine And.intro (fun _ => ?_) (fun _ => ?_) <;> first | (exfalso; omega) | (rename_i hz_; exact absurd trivial hz_) | ((conv => whnf); (try simp only [Int.reduceToNat, Int.toNat_natCast, fp_up_c, fp_up_s, fp_up_i, fp_cp_c, fp_g_s, Nat.reduceBEq, Int.reduceAdd, Int.reduceSub, Int.reduceNeg, Int.reduceMul, fp_ly_i])))
            | (refine And.intro (fun _ => ?_) ?_ <;> first | (exfalso; omega) | trivial | ((conv => whnf); (try simp only [Int.reduceToNat, Int.toNat_natCast, fp_up_c, fp_up_s, fp_up_i, fp_cp_c, fp_g_s, Nat.reduceBEq, Int.reduceAdd, Int.reduceSub, Int.reduceNeg, Int.reduceMul, fp_ly_i])))
            | (refine And.intro (by simp [fp_rg, fp_up, fp_cp] <;> omega) ?_; (conv => whnf); (try simp only [Int.reduceToNat, Int.toNat_natCast, fp_up_c, fp_up_s, fp_up_i, fp_cp_c, fp_g_s, Nat.reduceBEq, Int.reduceAdd, Int.reduceSub, Int.reduceNeg, Int.reduceMul, fp_ly_i]))
            | fail)
        refine hC _ _ _ _ ⟨_, rfl, ?_⟩
        refine sc_9 hn1 oK.1 ?_
        conv => whnf
        (try simp only [Int.reduceToNat, Int.toNat_natCast, fp_up_c, fp_up_s, fp_up_i, fp_cp_c, fp_g_s, Nat.reduceBEq, Int.reduceAdd, Int.reduceSub, Int.reduceNeg, Int.reduceMul, fp_ly_i])
        (repeat' first
            | (refine And.intro (by first | omega | (unfold fp_rg; omega)) ?_; (try intro _); (conv => whnf); (try simp only [Int.reduceToNat, Int.toNat_natCast, fp_up_c, fp_up_s, fp_up_i, fp_cp_c, fp_g_s, Nat.reduceBEq, Int.reduceAdd, Int.reduceSub, Int.reduceNeg, Int.reduceMul, fp_ly_i]))
            | (refine And.intro (fun _ => ?_) (fun _ => ?_) <;> first | (exfalso; omega) | (rename_i hz_; exact absurd trivial hz_) | ((conv => whnf); (try simp only [Int.reduceToNat, Int.toNat_natCast, fp_up_c, fp_up_s, fp_up_i, fp_cp_c, fp_g_s, Nat.reduceBEq, Int.reduceAdd, Int.reduceSub, Int.reduceNeg, Int.reduceMul, fp_ly_i])))
            | (refine And.intro (fun _ => ?_) ?_ <;> first | (exfalso; omega) | trivial | ((conv => whnf); (try simp only [Int.reduceToNat, Int.toNat_natCast, fp_up_c, fp_up_s, fp_up_i, fp_cp_c, fp_g_s, Nat.reduceBEq, Int.reduceAdd, Int.reduceSub, Int.reduceNeg, Int.reduceMul, fp_ly_i])))
            | (refine And.intro (by simp [fp_rg, fp_up, fp_cp] <;> omega) ?_; (conv => whnf); (try simp only [Int.reduceToNat, Int.toNat_natCast, fp_up_c, fp_up_s, fp_up_i, fp_cp_c, fp_g_s, Nat.reduceBEq, Int.reduceAdd, Int.reduceSub, Int.reduceNeg, Int.reduceMul, fp_ly_i]))
            | fail)
        refine hC _ _ _ _ ⟨_, rfl, ?_⟩
        refine sc_7 hn1 oK.1 ?_
        conv => whnf
        (try simp only [Int.reduceToNat, Int.toNat_natCast, fp_up_c, fp_up_s, fp_up_i, fp_cp_c, fp_g_s, Nat.reduceBEq, Int.reduceAdd, Int.reduceSub, Int.reduceNeg, Int.reduceMul, fp_ly_i])
        (repeat' first
            | (refine And.intro (by first | omega | (unfold fp_rg; omega)) ?_; (try intro _); (conv => whnf); (try simp only [Int.reduceToNat, Int.toNat_natCast, fp_up_c, fp_up_s, fp_up_i, fp_cp_c, fp_g_s, Nat.reduceBEq, Int.reduceAdd, Int.reduceSub, Int.reduceNeg, Int.reduceMul, fp_ly_i]))
            | (refine And.intro (fun _ => ?_) (fun _ => ?_) <;> first | (exfalso; omega) | (rename_i hz_; exact absurd trivial hz_) | ((conv => whnf); (try simp only [Int.reduceToNat, Int.toNat_natCast, fp_up_c, fp_up_s, fp_up_i, fp_cp_c, fp_g_s, Nat.reduceBEq, Int.reduceAdd, Int.reduceSub, Int.reduceNeg, Int.reduceMul, fp_ly_i])))
            | (refine And.intro (fun _ => ?_) ?_ <;> first | (exfalso; omega) | trivial | ((conv => whnf); (try simp only [Int.reduceToNat, Int.toNat_natCast, fp_up_c, fp_up_s, fp_up_i, fp_cp_c, fp_g_s, Nat.reduceBEq, Int.reduceAdd, Int.reduceSub, Int.reduceNeg, Int.reduceMul, fp_ly_i])))
            | (refine And.intro (by simp [fp_rg, fp_up, fp_cp] <;> omega) ?_; (conv => whnf); (try simp only [Int.reduceToNat, Int.toNat_natCast, fp_up_c, fp_up_s, fp_up_i, fp_cp_c, fp_g_s, Nat.reduceBEq, Int.reduceAdd, Int.reduceSub, Int.reduceNeg, Int.reduceMul, fp_ly_i]))
            | fail)
        refine hC _ _ _ _ ⟨_, rfl, ?_⟩
        refine sc_3 hn1 oK.1 ?_
        conv => whnf
        (try simp only [Int.reduceToNat, Int.toNat_natCast, fp_up_c, fp_up_s, fp_up_i, fp_cp_c, fp_g_s, Nat.reduceBEq, Int.reduceAdd, Int.reduceSub, Int.reduceNeg, Int.reduceMul, fp_ly_i])
        (repeat' first
            | (refine And.intro (by first | omega | (unfold fp_rg; omega)) ?_; (try intro _); (conv => whnf); (try simp only [Int.reduceToNat, Int.toNat_natCast, fp_up_c, fp_up_s, fp_up_i, fp_cp_c, fp_g_s, Nat.reduceBEq, Int.reduceAdd, Int.reduceSub, Int.reduceNeg, Int.reduceMul, fp_ly_i]))
            | (refine And.intro (fun _ => ?_) (fun _ => ?_) <;> first | (exfalso; omega) | (rename_i hz_; exact absurd trivial hz_) | ((conv => whnf); (try simp only [Int.reduceToNat, Int.toNat_natCast, fp_up_c, fp_up_s, fp_up_i, fp_cp_c, fp_g_s, Nat.reduceBEq, Int.reduceAdd, Int.reduceSub, Int.reduceNeg, Int.reduceMul, fp_ly_i])))
            | (refine And.intro (fun _ => ?_) ?_ <;> first | (exfalso; omega) | trivial | ((conv => whnf); (try simp only [Int.reduceToNat, Int.toNat_natCast, fp_up_c, fp_up_s, fp_up_i, fp_cp_c, fp_g_s, Nat.reduceBEq, Int.reduceAdd, Int.reduceSub, Int.reduceNeg, Int.reduceMul, fp_ly_i])))
            | (refine And.intro (by simp [fp_rg, fp_up, fp_cp] <;> omega) ?_; (conv => whnf); (try simp only [Int.reduceToNat, Int.toNat_natCast, fp_up_c, fp_up_s, fp_up_i, fp_cp_c, fp_g_s, Nat.reduceBEq, Int.reduceAdd, Int.reduceSub, Int.reduceNeg, Int.reduceMul, fp_ly_i]))
            | fail)
        exact hN _ _ _ _ (hk2 _)
    · rw [if_neg hw] at e4
      rcases h78 with h7 | h7
      · refine fp_go 1000 [938] (fun KN KC hN hC => ?_)
        conv => whnf
        (try simp only [Int.reduceToNat, Int.toNat_natCast, fp_up_c, fp_up_s, fp_up_i, fp_cp_c, fp_g_s, Nat.reduceBEq, Int.reduceAdd, Int.reduceSub, Int.reduceNeg, Int.reduceMul, fp_ly_i])
        (repeat' first
            | (refine And.intro (by first | omega | (unfold fp_rg; omega)) ?_; (try intro _); (conv => whnf); (try simp only [Int.reduceToNat, Int.toNat_natCast, fp_up_c, fp_up_s, fp_up_i, fp_cp_c, fp_g_s, Nat.reduceBEq, Int.reduceAdd, Int.reduceSub, Int.reduceNeg, Int.reduceMul, fp_ly_i]))
            | (refine And.intro (fun _ => ?_) (fun _ => ?_) <;> first | (exfalso; omega) | (rename_i hz_; exact absurd trivial hz_) | ((conv => whnf); (try simp only [Int.reduceToNat, Int.toNat_natCast, fp_up_c, fp_up_s, fp_up_i, fp_cp_c, fp_g_s, Nat.reduceBEq, Int.reduceAdd, Int.reduceSub, Int.reduceNeg, Int.reduceMul, fp_ly_i])))
            | (refine And.intro (fun _ => ?_) ?_ <;> first | (exfalso; omega) | trivial | ((conv => whnf); (try simp only [Int.reduceToNat, Int.toNat_natCast, fp_up_c, fp_up_s, fp_up_i, fp_cp_c, fp_g_s, Nat.reduceBEq, Int.reduceAdd, Int.reduceSub, Int.reduceNeg, Int.reduceMul, fp_ly_i])))
            | (refine And.intro (by simp [fp_rg, fp_up, fp_cp] <;> omega) ?_; (conv => whnf); (try simp only [Int.reduceToNat, Int.toNat_natCast, fp_up_c, fp_up_s, fp_up_i, fp_cp_c, fp_g_s, Nat.reduceBEq, Int.reduceAdd, Int.reduceSub, Int.reduceNeg, Int.reduceMul, fp_ly_i]))
            | fail)
        refine hC _ _ _ _ ⟨_, rfl, ?_⟩
        refine sc_9 hn1 oK.1 ?_
        conv => whnf
        (try simp only [Int.reduceToNat, Int.toNat_natCast, fp_up_c, fp_up_s, fp_up_i, fp_cp_c, fp_g_s, Nat.reduceBEq, Int.reduceAdd, Int.reduceSub, Int.reduceNeg, Int.reduceMul, fp_ly_i])
        (repeat' first
            | (refine And.intro (by first | omega | (unfold fp_rg; omega)) ?_; (try intro _); (conv => whnf); (try simp only [Int.reduceToNat, Int.toNat_natCast, fp_up_c, fp_up_s, fp_up_i, fp_cp_c, fp_g_s, Nat.reduceBEq, Int.reduceAdd, Int.reduceSub, Int.reduceNeg, Int.reduceMul, fp_ly_i]))
            | (refine And.intro (fun _ => ?_) (fun _ => ?_) <;> first | (exfalso; omega) | (rename_i hz_; exact absurd trivial hz_) | ((conv => whnf); (try simp only [Int.reduceToNat, Int.toNat_natCast, fp_up_c, fp_up_s, fp_up_i, fp_cp_c, fp_g_s, Nat.reduceBEq, Int.reduceAdd, Int.reduceSub, Int.reduceNeg, Int.reduceMul, fp_ly_i])))
            | (refine And.intro (fun _ => ?_) ?_ <;> first | (exfalso; omega) | trivial | ((conv => whnf); (try simp only [Int.reduceToNat, Int.toNat_natCast, fp_up_c, fp_up_s, fp_up_i, fp_cp_c, fp_g_s, Nat.reduceBEq, Int.reduceAdd, Int.reduceSub, Int.reduceNeg, Int.reduceMul, fp_ly_i])))
            | (refine And.intro (by simp [fp_rg, fp_up, fp_cp] <;> omega) ?_; (conv => whnf); (try simp only [Int.reduceToNat, Int.toNat_natCast, fp_up_c, fp_up_s, fp_up_i, fp_cp_c, fp_g_s, Nat.reduceBEq, Int.reduceAdd, Int.reduceSub, Int.reduceNeg, Int.reduceMul, fp_ly_i]))
            | fail)
        refine hC _ _ _ _ ⟨_, rfl, ?_⟩
        refine sc_7 hn1 oK.1 ?_
        conv => whnf
        (try simp only [Int.reduceToNat, Int.toNat_natCast, fp_up_c, fp_up_s, fp_up_i, fp_cp_c, fp_g_s, Nat.reduceBEq, Int.reduceAdd, Int.reduceSub, Int.reduceNeg, Int.reduceMul, fp_ly_i])
        (repeat' first
            | (refine And.intro (by first | omega | (unfold fp_rg; omega)) ?_; (try intro _); (conv => whnf); (try simp only [Int.reduceToNat, Int.toNat_natCast, fp_up_c, fp_up_s, fp_up_i, fp_cp_c, fp_g_s, Nat.reduceBEq, Int.reduceAdd, Int.reduceSub, Int.reduceNeg, Int.reduceMul, fp_ly_i]))
            | (refine And.intro (fun _ => ?_) (fun _ => ?_) <;> first | (exfalso; omega) | (rename_i hz_; exact absurd trivial hz_) | ((conv => whnf); (try simp only [Int.reduceToNat, Int.toNat_natCast, fp_up_c, fp_up_s, fp_up_i, fp_cp_c, fp_g_s, Nat.reduceBEq, Int.reduceAdd, Int.reduceSub, Int.reduceNeg, Int.reduceMul, fp_ly_i])))
            | (refine And.intro (fun _ => ?_) ?_ <;> first | (exfalso; omega) | trivial | ((conv => whnf); (try simp only [Int.reduceToNat, Int.toNat_natCast, fp_up_c, fp_up_s, fp_up_i, fp_cp_c, fp_g_s, Nat.reduceBEq, Int.reduceAdd, Int.reduceSub, Int.reduceNeg, Int.reduceMul, fp_ly_i])))
            | (refine And.intro (by simp [fp_rg, fp_up, fp_cp] <;> omega) ?_; (conv => whnf); (try simp only [Int.reduceToNat, Int.toNat_natCast, fp_up_c, fp_up_s, fp_up_i, fp_cp_c, fp_g_s, Nat.reduceBEq, Int.reduceAdd, Int.reduceSub, Int.reduceNeg, Int.reduceMul, fp_ly_i]))
            | fail)
        refine hC _ _ _ _ ⟨_, rfl, ?_⟩
        refine sc_3 hn1 oK.1 ?_
        conv => whnf
        (try simp only [Int.reduceToNat, Int.toNat_natCast, fp_up_c, fp_up_s, fp_up_i, fp_cp_c, fp_g_s, Nat.reduceBEq, Int.reduceAdd, Int.reduceSub, Int.reduceNeg, Int.reduceMul, fp_ly_i])
        (repeat' first
            | (refine And.intro (by first | omega | (unfold fp_rg; omega)) ?_; (try intro _); (conv => whnf); (try simp only [Int.reduceToNat, Int.toNat_natCast, fp_up_c, fp_up_s, fp_up_i, fp_cp_c, fp_g_s, Nat.reduceBEq, Int.reduceAdd, Int.reduceSub, Int.reduceNeg, Int.reduceMul, fp_ly_i]))
            | (refine And.intro (fun _ => ?_) (fun _ => ?_) <;> first | (exfalso; omega) | (rename_i hz_; exact absurd trivial hz_) | ((conv => whnf); (try simp only [Int.reduceToNat, Int.toNat_natCast, fp_up_c, fp_up_s, fp_up_i, fp_cp_c, fp_g_s, Nat.reduceBEq, Int.reduceAdd, Int.reduceSub, Int.reduceNeg, Int.reduceMul, fp_ly_i])))
            | (refine And.intro (fun _ => ?_) ?_ <;> first | (exfalso; omega) | trivial | ((conv => whnf); (try simp only [Int.reduceToNat, Int.toNat_natCast, fp_up_c, fp_up_s, fp_up_i, fp_cp_c, fp_g_s, Nat.reduceBEq, Int.reduceAdd, Int.reduceSub, Int.reduceNeg, Int.reduceMul, fp_ly_i])))
            | (refine And.intro (by simp [fp_rg, fp_up, fp_cp] <;> omega) ?_; (conv => whnf); (try simp only [Int.reduceToNat, Int.toNat_natCast, fp_up_c, fp_up_s, fp_up_i, fp_cp_c, fp_g_s, Nat.reduceBEq, Int.reduceAdd, Int.reduceSub, Int.reduceNeg, Int.reduceMul, fp_ly_i]))
            | fail)
        exact hN _ _ _ _ (hk2 _)
      · refine fp_go 1000 [938] (fun KN KC hN hC => ?_)
        conv => whnf
        (try simp only [Int.reduceToNat, Int.toNat_natCast, fp_up_c, fp_up_s, fp_up_i, fp_cp_c, fp_g_s, Nat.reduceBEq, Int.reduceAdd, Int.reduceSub, Int.reduceNeg, Int.reduceMul, fp_ly_i])
        (repeat' first
            | (refine And.intro (by first | omega | (unfold fp_rg; omega)) ?_; (try intro _); (conv => whnf); (try simp only [Int.reduceToNat, Int.toNat_natCast, fp_up_c, fp_up_s, fp_up_i, fp_cp_c, fp_g_s, Nat.reduceBEq, Int.reduceAdd, Int.reduceSub, Int.reduceNeg, Int.reduceMul, fp_ly_i]))
            | (refine And.intro (fun _ => ?_) (fun _ => ?_) <;> first | (exfalso; omega) | (rename_i hz_; exact absurd trivial hz_) | ((conv => whnf); (try simp only [Int.reduceToNat, Int.toNat_natCast, fp_up_c, fp_up_s, fp_up_i, fp_cp_c, fp_g_s, Nat.reduceBEq, Int.reduceAdd, Int.reduceSub, Int.reduceNeg, Int.reduceMul, fp_ly_i])))
            | (refine And.intro (fun _ => ?_) ?_ <;> first | (exfalso; omega) | trivial | ((conv => whnf); (try simp only [Int.reduceToNat, Int.toNat_natCast, fp_up_c, fp_up_s, fp_up_i, fp_cp_c, fp_g_s, Nat.reduceBEq, Int.reduceAdd, Int.reduceSub, Int.reduceNeg, Int.reduceMul, fp_ly_i])))
            | (refine And.intro (by simp [fp_rg, fp_up, fp_cp] <;> omega) ?_; (conv => whnf); (try simp only [Int.reduceToNat, Int.toNat_natCast, fp_up_c, fp_up_s, fp_up_i, fp_cp_c, fp_g_s, Nat.reduceBEq, Int.reduceAdd, Int.reduceSub, Int.reduceNeg, Int.reduceMul, fp_ly_i]))
            | fail)
        refine hC _ _ _ _ ⟨_, rfl, ?_⟩
        refine sc_9 hn1 oK.1 ?_
        conv => whnf
        (try simp only [Int.reduceToNat, Int.toNat_natCast, fp_up_c, fp_up_s, fp_up_i, fp_cp_c, fp_g_s, Nat.reduceBEq, Int.reduceAdd, Int.reduceSub, Int.reduceNeg, Int.reduceMul, fp_ly_i])
        (repeat' first
            | (refine And.intro (by first | omega | (unfold fp_rg; omega)) ?_; (try intro _); (conv => whnf); (try simp only [Int.reduceToNat, Int.toNat_natCast, fp_up_c, fp_up_s, fp_up_i, fp_cp_c, fp_g_s, Nat.reduceBEq, Int.reduceAdd, Int.reduceSub, Int.reduceNeg, Int.reduceMul, fp_ly_i]))
            | (refine And.intro (fun _ => ?_) (fun _ => ?_) <;> first | (exfalso; omega) | (rename_i hz_; exact absurd trivial hz_) | ((conv => whnf); (try simp only [Int.reduceToNat, Int.toNat_natCast, fp_up_c, fp_up_s, fp_up_i, fp_cp_c, fp_g_s, Nat.reduceBEq, Int.reduceAdd, Int.reduceSub, Int.reduceNeg, Int.reduceMul, fp_ly_i])))
            | (refine And.intro (fun _ => ?_) ?_ <;> first | (exfalso; omega) | trivial | ((conv => whnf); (try simp only [Int.reduceToNat, Int.toNat_natCast, fp_up_c, fp_up_s, fp_up_i, fp_cp_c, fp_g_s, Nat.reduceBEq, Int.reduceAdd, Int.reduceSub, Int.reduceNeg, Int.reduceMul, fp_ly_i])))
            | (refine And.intro (by simp [fp_rg, fp_up, fp_cp] <;> omega) ?_; (conv => whnf); (try simp only [Int.reduceToNat, Int.toNat_natCast, fp_up_c, fp_up_s, fp_up_i, fp_cp_c, fp_g_s, Nat.reduceBEq, Int.reduceAdd, Int.reduceSub, Int.reduceNeg, Int.reduceMul, fp_ly_i]))
            | fail)
        refine hC _ _ _ _ ⟨_, rfl, ?_⟩
        refine sc_7 hn1 oK.1 ?_
        conv => whnf
        (try simp only [Int.reduceToNat, Int.toNat_natCast, fp_up_c, fp_up_s, fp_up_i, fp_cp_c, fp_g_s, Nat.reduceBEq, Int.reduceAdd, Int.reduceSub, Int.reduceNeg, Int.reduceMul, fp_ly_i])
        (repeat' first
            | (refine And.intro (by first | omega | (unfold fp_rg; omega)) ?_; (try intro _); (conv => whnf); (try simp only [Int.reduceToNat, Int.toNat_natCast, fp_up_c, fp_up_s, fp_up_i, fp_cp_c, fp_g_s, Nat.reduceBEq, Int.reduceAdd, Int.reduceSub, Int.reduceNeg, Int.reduceMul, fp_ly_i]))
            | (refine And.intro (fun _ => ?_) (fun _ => ?_) <;> first | (exfalso; omega) | (rename_i hz_; exact absurd trivial hz_) | ((conv => whnf); (try simp only [Int.reduceToNat, Int.toNat_natCast, fp_up_c, fp_up_s, fp_up_i, fp_cp_c, fp_g_s, Nat.reduceBEq, Int.reduceAdd, Int.reduceSub, Int.reduceNeg, Int.reduceMul, fp_ly_i])))
            | (refine And.intro (fun _ => ?_) ?_ <;> first | (exfalso; omega) | trivial | ((conv => whnf); (try simp only [Int.reduceToNat, Int.toNat_natCast, fp_up_c, fp_up_s, fp_up_i, fp_cp_c, fp_g_s, Nat.reduceBEq, Int.reduceAdd, Int.reduceSub, Int.reduceNeg, Int.reduceMul, fp_ly_i])))
            | (refine And.intro (by simp [fp_rg, fp_up, fp_cp] <;> omega) ?_; (conv => whnf); (try simp only [Int.reduceToNat, Int.toNat_natCast, fp_up_c, fp_up_s, fp_up_i, fp_cp_c, fp_g_s, Nat.reduceBEq, Int.reduceAdd, Int.reduceSub, Int.reduceNeg, Int.reduceMul, fp_ly_i]))
            | fail)
        refine hC _ _ _ _ ⟨_, rfl, ?_⟩
        refine sc_3 hn1 oK.1 ?_
        conv => whnf
        (try simp only [Int.reduceToNat, Int.toNat_natCast, fp_up_c, fp_up_s, fp_up_i, fp_cp_c, fp_g_s, Nat.reduceBEq, Int.reduceAdd, Int.reduceSub, Int.reduceNeg, Int.reduceMul, fp_ly_i])
        (repeat' first
            | (refine And.intro (by first | omega | (unfold fp_rg; omega)) ?_; (try intro _); (conv => whnf); (try simp only [Int.reduceToNat, Int.toNat_natCast, fp_up_c, fp_up_s, fp_up_i, fp_cp_c, fp_g_s, Nat.reduceBEq, Int.reduceAdd, Int.reduceSub, Int.reduceNeg, Int.reduceMul, fp_ly_i]))
            | (refine And.intro (fun _ => ?_) (fun _ => ?_) <;> first | (exfalso; omega) | (rename_i hz_; exact absurd trivial hz_) | ((conv => whnf); (try simp only [Int.reduceToNat, Int.toNat_natCast, fp_up_c, fp_up_s, fp_up_i, fp_cp_c, fp_g_s, Nat.reduceBEq, Int.reduceAdd, Int.reduceSub, Int.reduceNeg, Int.reduceMul, fp_ly_i])))
            | (refine And.intro (fun _ => ?_) ?_ <;> first | (exfalso; omega) | trivial | ((conv => whnf); (try simp only [Int.reduceToNat, Int.toNat_natCast, fp_up_c, fp_up_s, fp_up_i, fp_cp_c, fp_g_s, Nat.reduceBEq, Int.reduceAdd, Int.reduceSub, Int.reduceNeg, Int.reduceMul, fp_ly_i])))
            | (refine And.intro (by simp [fp_rg, fp_up, fp_cp] <;> omega) ?_; (conv => whnf); (try simp only [Int.reduceToNat, Int.toNat_natCast, fp_up_c, fp_up_s, fp_up_i, fp_cp_c, fp_g_s, Nat.reduceBEq, Int.reduceAdd, Int.reduceSub, Int.reduceNeg, Int.reduceMul, fp_ly_i]))
            | fail)
        exact hN _ _ _ _ (hk2 _)
set_option maxHeartbeats 600000 in
set_option maxRecDepth 100000 in
theorem lk_buy {L d : Nat} {n i y t : Int} {H K : FpH} {Q : FpQ} (hn : 1 ≤ n ∧ n ≤ 588) (h : fq_O n H) (hT : fq_T n H K t) (hU : fq_U H K t y) (hy : 0 ≤ y ∧ y ≤ 2147483647) (l23 : Option FpV) (hk : ∀ (K : FpH) (l23 : Option FpV), fq_O (n + 2) K → fp_Wp L (d + 7) 0 938 [some (.inr (9, 26)), some (.inr (7, 14)), some (.inl (1)), some (.inl (i)), some (.inl (y)), some (.inl (y / 16)), some (.inl (y % 16)), some (.inl (H 7 15 2)), some (.inl (H 0 0 5)), some (.inl (H 0 9 3)), some (.inl (fq_pp (H 0))), some (.inl (fp_sm (H 0 5) (H 0 1 4).toNat)), some (.inl (H 0 0 6)), some (.inl (H 0 0 7)), some (.inl (H 0 0 4)), some (.inl (H 0 0 8)), some (.inl (y / 16 / 16 % 3)), some (.inl (fq_ifc (H 0) (H 0) (y / 16 % 3) (y / 16 / 4 % 3) (y / 16 / 16 % 3) 2)), some (.inl (fq_ifc (H 0) (H 0) (y / 16 % 3) (y / 16 / 4 % 3) (y / 16 / 16 % 3) 3)), some (.inl (fq_ifc (H 0) (H 0) (y / 16 % 3) (y / 16 / 4 % 3) (y / 16 / 16 % 3) 4)), some (.inl (fq_sit (H 0) (y / 16 % 5) 3)), some (.inl (fq_sit (H 0) (y / 16 % 5) 1)), some (.inl (t)), l23] [] K Q) (hk1 : y % 16 < 2) (ht0 : 0 ≤ t) : fp_Wp L (d + 7) 0 428 [some (.inr (9, 26)), some (.inr (7, 14)), some (.inl (1)), some (.inl (i)), some (.inl (y)), some (.inl (y / 16)), some (.inl (y % 16)), some (.inl (H 7 15 2)), some (.inl (H 0 0 5)), some (.inl (H 0 9 3)), some (.inl (fq_pp (H 0))), some (.inl (fp_sm (H 0 5) (H 0 1 4).toNat)), some (.inl (H 0 0 6)), some (.inl (H 0 0 7)), some (.inl (H 0 0 4)), some (.inl (H 0 0 8)), some (.inl (y / 16 / 16 % 3)), some (.inl (fq_ifc (H 0) (H 0) (y / 16 % 3) (y / 16 / 4 % 3) (y / 16 / 16 % 3) 2)), some (.inl (fq_ifc (H 0) (H 0) (y / 16 % 3) (y / 16 / 4 % 3) (y / 16 / 16 % 3) 3)), some (.inl (fq_ifc (H 0) (H 0) (y / 16 % 3) (y / 16 / 4 % 3) (y / 16 / 16 % 3) 4)), some (.inl (fq_sit (H 0) (y / 16 % 5) 3)), some (.inl (fq_sit (H 0) (y / 16 % 5) 1)), some (.inl (t)), l23] [] K Q := by
  have hact : fq_act (H 0) y = fq_buy (H 0) (1 + y / 16 % 200) (1 + y / 16 / 256 % 3) := by
    unfold fq_act
    rw [if_pos hk1]
  obtain ⟨hU1, hU2⟩ := hU.1 (by omega)
  rw [hact] at hU1 hU2
  have hk2 := fun l23 => hk K l23 (fq_T_O hT)
  obtain ⟨oK, sK⟩ := fq_T_1 hT ht0
  obtain ⟨e1, e2⟩ := fq_buy_s h.1 (hU2 ht0)
  have hn1 : 1 ≤ n + 1 ∧ n + 1 ≤ 600 := by omega
  have bH := fq_bd (by omega) h.1
  have bK := fq_bd hn1.2 oK.1
  refine fp_go 1000 [938] (fun KN KC hN hC => ?_)
  conv => whnf
  (try simp only [Int.reduceToNat, Int.toNat_natCast, fp_up_c, fp_up_s, fp_up_i, fp_cp_c, fp_g_s, Nat.reduceBEq, Int.reduceAdd, Int.reduceSub, Int.reduceNeg, Int.reduceMul, fp_ly_i])
  (repeat' first
      | (refine And.intro (by first | omega | (unfold fp_rg; omega)) ?_; (try intro _); (conv => whnf); (try simp only [Int.reduceToNat, Int.toNat_natCast, fp_up_c, fp_up_s, fp_up_i, fp_cp_c, fp_g_s, Nat.reduceBEq, Int.reduceAdd, Int.reduceSub, Int.reduceNeg, Int.reduceMul, fp_ly_i]))
      | (refine And.intro (fun _ => ?_) (fun _ => ?_) <;> first | (exfalso; omega) | (rename_i hz_; exact absurd trivial hz_) | ((conv => whnf); (try simp only [Int.reduceToNat, Int.toNat_natCast, fp_up_c, fp_up_s, fp_up_i, fp_cp_c, fp_g_s, Nat.reduceBEq, Int.reduceAdd, Int.reduceSub, Int.reduceNeg, Int.reduceMul, fp_ly_i])))
      | (refine And.intro (fun _ => ?_) ?_ <;> first | (exfalso; omega) | trivial | ((conv => whnf); (try simp only [Int.reduceToNat, Int.toNat_natCast, fp_up_c, fp_up_s, fp_up_i, fp_cp_c, fp_g_s, Nat.reduceBEq, Int.reduceAdd, Int.reduceSub, Int.reduceNeg, Int.reduceMul, fp_ly_i])))
      | (refine And.intro (by simp [fp_rg, fp_up, fp_cp] <;> omega) ?_; (conv => whnf); (try simp only [Int.reduceToNat, Int.toNat_natCast, fp_up_c, fp_up_s, fp_up_i, fp_cp_c, fp_g_s, Nat.reduceBEq, Int.reduceAdd, Int.reduceSub, Int.reduceNeg, Int.reduceMul, fp_ly_i]))
      | fail)
  refine hC _ _ _ _ ⟨_, rfl, ?_⟩
  refine sc_9 hn1 oK.1 ?_
  conv => whnf
  (try simp only [Int.reduceToNat, Int.toNat_natCast, fp_up_c, fp_up_s, fp_up_i, fp_cp_c, fp_g_s, Nat.reduceBEq, Int.reduceAdd, Int.reduceSub, Int.reduceNeg, Int.reduceMul, fp_ly_i])
  (repeat' first
      | (refine And.intro (by first | omega | (unfold fp_rg; omega)) ?_; (try intro _); (conv => whnf); (try simp only [Int.reduceToNat, Int.toNat_natCast, fp_up_c, fp_up_s, fp_up_i, fp_cp_c, fp_g_s, Nat.reduceBEq, Int.reduceAdd, Int.reduceSub, Int.reduceNeg, Int.reduceMul, fp_ly_i]))
      | (refine And.intro (fun _ => ?_) (fun _ => ?_) <;> first | (exfalso; omega) | (rename_i hz_; exact absurd trivial hz_) | ((conv => whnf); (try simp only [Int.reduceToNat, Int.toNat_natCast, fp_up_c, fp_up_s, fp_up_i, fp_cp_c, fp_g_s, Nat.reduceBEq, Int.reduceAdd, Int.reduceSub, Int.reduceNeg, Int.reduceMul, fp_ly_i])))
      | (refine And.intro (fun _ => ?_) ?_ <;> first | (exfalso; omega) | trivial | ((conv => whnf); (try simp only [Int.reduceToNat, Int.toNat_natCast, fp_up_c, fp_up_s, fp_up_i, fp_cp_c, fp_g_s, Nat.reduceBEq, Int.reduceAdd, Int.reduceSub, Int.reduceNeg, Int.reduceMul, fp_ly_i])))
      | (refine And.intro (by simp [fp_rg, fp_up, fp_cp] <;> omega) ?_; (conv => whnf); (try simp only [Int.reduceToNat, Int.toNat_natCast, fp_up_c, fp_up_s, fp_up_i, fp_cp_c, fp_g_s, Nat.reduceBEq, Int.reduceAdd, Int.reduceSub, Int.reduceNeg, Int.reduceMul, fp_ly_i]))
      | fail)
  refine hC _ _ _ _ ⟨_, rfl, ?_⟩
  refine sc_4 hn1 oK.1 ?_
  conv => whnf
  (try simp only [Int.reduceToNat, Int.toNat_natCast, fp_up_c, fp_up_s, fp_up_i, fp_cp_c, fp_g_s, Nat.reduceBEq, Int.reduceAdd, Int.reduceSub, Int.reduceNeg, Int.reduceMul, fp_ly_i])
  (repeat' first
      | (refine And.intro (by first | omega | (unfold fp_rg; omega)) ?_; (try intro _); (conv => whnf); (try simp only [Int.reduceToNat, Int.toNat_natCast, fp_up_c, fp_up_s, fp_up_i, fp_cp_c, fp_g_s, Nat.reduceBEq, Int.reduceAdd, Int.reduceSub, Int.reduceNeg, Int.reduceMul, fp_ly_i]))
      | (refine And.intro (fun _ => ?_) (fun _ => ?_) <;> first | (exfalso; omega) | (rename_i hz_; exact absurd trivial hz_) | ((conv => whnf); (try simp only [Int.reduceToNat, Int.toNat_natCast, fp_up_c, fp_up_s, fp_up_i, fp_cp_c, fp_g_s, Nat.reduceBEq, Int.reduceAdd, Int.reduceSub, Int.reduceNeg, Int.reduceMul, fp_ly_i])))
      | (refine And.intro (fun _ => ?_) ?_ <;> first | (exfalso; omega) | trivial | ((conv => whnf); (try simp only [Int.reduceToNat, Int.toNat_natCast, fp_up_c, fp_up_s, fp_up_i, fp_cp_c, fp_g_s, Nat.reduceBEq, Int.reduceAdd, Int.reduceSub, Int.reduceNeg, Int.reduceMul, fp_ly_i])))
      | (refine And.intro (by simp [fp_rg, fp_up, fp_cp] <;> omega) ?_; (conv => whnf); (try simp only [Int.reduceToNat, Int.toNat_natCast, fp_up_c, fp_up_s, fp_up_i, fp_cp_c, fp_g_s, Nat.reduceBEq, Int.reduceAdd, Int.reduceSub, Int.reduceNeg, Int.reduceMul, fp_ly_i]))
      | fail)
  exact hN _ _ _ _ (hk2 _)
set_option maxHeartbeats 600000 in
set_option maxRecDepth 100000 in
theorem lk_two {L d : Nat} {n i y t : Int} {H K : FpH} {Q : FpQ} (hn : 1 ≤ n ∧ n ≤ 588) (h : fq_O n H) (hT : fq_T n H K t) (hU : fq_U H K t y) (hy : 0 ≤ y ∧ y ≤ 2147483647) (l23 : Option FpV) (hk : ∀ (K : FpH) (l23 : Option FpV), fq_O (n + 2) K → fp_Wp L (d + 7) 0 938 [some (.inr (9, 26)), some (.inr (7, 14)), some (.inl (1)), some (.inl (i)), some (.inl (y)), some (.inl (y / 16)), some (.inl (y % 16)), some (.inl (H 7 15 2)), some (.inl (H 0 0 5)), some (.inl (H 0 9 3)), some (.inl (fq_pp (H 0))), some (.inl (fp_sm (H 0 5) (H 0 1 4).toNat)), some (.inl (H 0 0 6)), some (.inl (H 0 0 7)), some (.inl (H 0 0 4)), some (.inl (H 0 0 8)), some (.inl (y / 16 / 16 % 3)), some (.inl (fq_ifc (H 0) (H 0) (y / 16 % 3) (y / 16 / 4 % 3) (y / 16 / 16 % 3) 2)), some (.inl (fq_ifc (H 0) (H 0) (y / 16 % 3) (y / 16 / 4 % 3) (y / 16 / 16 % 3) 3)), some (.inl (fq_ifc (H 0) (H 0) (y / 16 % 3) (y / 16 / 4 % 3) (y / 16 / 16 % 3) 4)), some (.inl (fq_sit (H 0) (y / 16 % 5) 3)), some (.inl (fq_sit (H 0) (y / 16 % 5) 1)), some (.inl (t)), l23] [] K Q) (hk1 : y % 16 = 2) (ht0 : 0 ≤ t) : fp_Wp L (d + 7) 0 428 [some (.inr (9, 26)), some (.inr (7, 14)), some (.inl (1)), some (.inl (i)), some (.inl (y)), some (.inl (y / 16)), some (.inl (y % 16)), some (.inl (H 7 15 2)), some (.inl (H 0 0 5)), some (.inl (H 0 9 3)), some (.inl (fq_pp (H 0))), some (.inl (fp_sm (H 0 5) (H 0 1 4).toNat)), some (.inl (H 0 0 6)), some (.inl (H 0 0 7)), some (.inl (H 0 0 4)), some (.inl (H 0 0 8)), some (.inl (y / 16 / 16 % 3)), some (.inl (fq_ifc (H 0) (H 0) (y / 16 % 3) (y / 16 / 4 % 3) (y / 16 / 16 % 3) 2)), some (.inl (fq_ifc (H 0) (H 0) (y / 16 % 3) (y / 16 / 4 % 3) (y / 16 / 16 % 3) 3)), some (.inl (fq_ifc (H 0) (H 0) (y / 16 % 3) (y / 16 / 4 % 3) (y / 16 / 16 % 3) 4)), some (.inl (fq_sit (H 0) (y / 16 % 5) 3)), some (.inl (fq_sit (H 0) (y / 16 % 5) 1)), some (.inl (t)), l23] [] K Q := by
  obtain ⟨hU1, hU2⟩ := hU.1 (by omega)
  have hk2 := fun l23 => hk K l23 (fq_T_O hT)
  obtain ⟨oK, sK⟩ := fq_T_1 hT ht0
  have hn1 : 1 ≤ n + 1 ∧ n + 1 ≤ 600 := by omega
  have bH := fq_bd (by omega) h.1
  have bK := fq_bd hn1.2 oK.1
  by_cases hp : y / 16 % 2 = 0
  · have hact : fq_act (H 0) y = fq_trade (H 0) (y / 16 / 2 % 4) (1 + y / 16 / 8 % 3) := by
      unfold fq_act
      rw [if_neg (by omega), if_pos hk1, if_pos hp]
    rw [hact] at hU1 hU2
    have e1 := fq_trade_s (hU2 ht0)
    refine fp_go 1000 [938] (fun KN KC hN hC => ?_)
    conv => whnf
    (try simp only [Int.reduceToNat, Int.toNat_natCast, fp_up_c, fp_up_s, fp_up_i, fp_cp_c, fp_g_s, Nat.reduceBEq, Int.reduceAdd, Int.reduceSub, Int.reduceNeg, Int.reduceMul, fp_ly_i])
    (repeat' first
        | (refine And.intro (by first | omega | (unfold fp_rg; omega)) ?_; (try intro _); (conv => whnf); (try simp only [Int.reduceToNat, Int.toNat_natCast, fp_up_c, fp_up_s, fp_up_i, fp_cp_c, fp_g_s, Nat.reduceBEq, Int.reduceAdd, Int.reduceSub, Int.reduceNeg, Int.reduceMul, fp_ly_i]))
        | (refine And.intro (fun _ => ?_) (fun _ => ?_) <;> first | (exfalso; omega) | (rename_i hz_; exact absurd trivial hz_) | ((conv => whnf); (try simp only [Int.reduceToNat, Int.toNat_natCast, fp_up_c, fp_up_s, fp_up_i, fp_cp_c, fp_g_s, Nat.reduceBEq, Int.reduceAdd, Int.reduceSub, Int.reduceNeg, Int.reduceMul, fp_ly_i])))
        | (refine And.intro (fun _ => ?_) ?_ <;> first | (exfalso; omega) | trivial | ((conv => whnf); (try simp only [Int.reduceToNat, Int.toNat_natCast, fp_up_c, fp_up_s, fp_up_i, fp_cp_c, fp_g_s, Nat.reduceBEq, Int.reduceAdd, Int.reduceSub, Int.reduceNeg, Int.reduceMul, fp_ly_i])))
        | (refine And.intro (by simp [fp_rg, fp_up, fp_cp] <;> omega) ?_; (conv => whnf); (try simp only [Int.reduceToNat, Int.toNat_natCast, fp_up_c, fp_up_s, fp_up_i, fp_cp_c, fp_g_s, Nat.reduceBEq, Int.reduceAdd, Int.reduceSub, Int.reduceNeg, Int.reduceMul, fp_ly_i]))
        | fail)
    refine hC _ _ _ _ ⟨_, rfl, ?_⟩
    refine sc_4 hn1 oK.1 ?_
    conv => whnf
    (try simp only [Int.reduceToNat, Int.toNat_natCast, fp_up_c, fp_up_s, fp_up_i, fp_cp_c, fp_g_s, Nat.reduceBEq, Int.reduceAdd, Int.reduceSub, Int.reduceNeg, Int.reduceMul, fp_ly_i])
    (repeat' first
        | (refine And.intro (by first | omega | (unfold fp_rg; omega)) ?_; (try intro _); (conv => whnf); (try simp only [Int.reduceToNat, Int.toNat_natCast, fp_up_c, fp_up_s, fp_up_i, fp_cp_c, fp_g_s, Nat.reduceBEq, Int.reduceAdd, Int.reduceSub, Int.reduceNeg, Int.reduceMul, fp_ly_i]))
        | (refine And.intro (fun _ => ?_) (fun _ => ?_) <;> first | (exfalso; omega) | (rename_i hz_; exact absurd trivial hz_) | ((conv => whnf); (try simp only [Int.reduceToNat, Int.toNat_natCast, fp_up_c, fp_up_s, fp_up_i, fp_cp_c, fp_g_s, Nat.reduceBEq, Int.reduceAdd, Int.reduceSub, Int.reduceNeg, Int.reduceMul, fp_ly_i])))
        | (refine And.intro (fun _ => ?_) ?_ <;> first | (exfalso; omega) | trivial | ((conv => whnf); (try simp only [Int.reduceToNat, Int.toNat_natCast, fp_up_c, fp_up_s, fp_up_i, fp_cp_c, fp_g_s, Nat.reduceBEq, Int.reduceAdd, Int.reduceSub, Int.reduceNeg, Int.reduceMul, fp_ly_i])))
        | (refine And.intro (by simp [fp_rg, fp_up, fp_cp] <;> omega) ?_; (conv => whnf); (try simp only [Int.reduceToNat, Int.toNat_natCast, fp_up_c, fp_up_s, fp_up_i, fp_cp_c, fp_g_s, Nat.reduceBEq, Int.reduceAdd, Int.reduceSub, Int.reduceNeg, Int.reduceMul, fp_ly_i]))
        | fail)
    exact hN _ _ _ _ (hk2 _)
  · have hact : fq_act (H 0) y = fq_part (H 0) (y / 16 / 2 % 4) (1 + y / 16 / 8 % 90) := by
      unfold fq_act
      rw [if_neg (by omega), if_pos hk1, if_neg hp]
    rw [hact] at hU1 hU2
    have e1 := fq_part_s h.1 (hU2 ht0)
    refine fp_go 1000 [938] (fun KN KC hN hC => ?_)
    conv => whnf
    (try simp only [Int.reduceToNat, Int.toNat_natCast, fp_up_c, fp_up_s, fp_up_i, fp_cp_c, fp_g_s, Nat.reduceBEq, Int.reduceAdd, Int.reduceSub, Int.reduceNeg, Int.reduceMul, fp_ly_i])
    (repeat' first
        | (refine And.intro (by first | omega | (unfold fp_rg; omega)) ?_; (try intro _); (conv => whnf); (try simp only [Int.reduceToNat, Int.toNat_natCast, fp_up_c, fp_up_s, fp_up_i, fp_cp_c, fp_g_s, Nat.reduceBEq, Int.reduceAdd, Int.reduceSub, Int.reduceNeg, Int.reduceMul, fp_ly_i]))
        | (refine And.intro (fun _ => ?_) (fun _ => ?_) <;> first | (exfalso; omega) | (rename_i hz_; exact absurd trivial hz_) | ((conv => whnf); (try simp only [Int.reduceToNat, Int.toNat_natCast, fp_up_c, fp_up_s, fp_up_i, fp_cp_c, fp_g_s, Nat.reduceBEq, Int.reduceAdd, Int.reduceSub, Int.reduceNeg, Int.reduceMul, fp_ly_i])))
        | (refine And.intro (fun _ => ?_) ?_ <;> first | (exfalso; omega) | trivial | ((conv => whnf); (try simp only [Int.reduceToNat, Int.toNat_natCast, fp_up_c, fp_up_s, fp_up_i, fp_cp_c, fp_g_s, Nat.reduceBEq, Int.reduceAdd, Int.reduceSub, Int.reduceNeg, Int.reduceMul, fp_ly_i])))
        | (refine And.intro (by simp [fp_rg, fp_up, fp_cp] <;> omega) ?_; (conv => whnf); (try simp only [Int.reduceToNat, Int.toNat_natCast, fp_up_c, fp_up_s, fp_up_i, fp_cp_c, fp_g_s, Nat.reduceBEq, Int.reduceAdd, Int.reduceSub, Int.reduceNeg, Int.reduceMul, fp_ly_i]))
        | fail)
    refine hC _ _ _ _ ⟨_, rfl, ?_⟩
    refine sc_4 hn1 oK.1 ?_
    conv => whnf
    (try simp only [Int.reduceToNat, Int.toNat_natCast, fp_up_c, fp_up_s, fp_up_i, fp_cp_c, fp_g_s, Nat.reduceBEq, Int.reduceAdd, Int.reduceSub, Int.reduceNeg, Int.reduceMul, fp_ly_i])
    (repeat' first
        | (refine And.intro (by first | omega | (unfold fp_rg; omega)) ?_; (try intro _); (conv => whnf); (try simp only [Int.reduceToNat, Int.toNat_natCast, fp_up_c, fp_up_s, fp_up_i, fp_cp_c, fp_g_s, Nat.reduceBEq, Int.reduceAdd, Int.reduceSub, Int.reduceNeg, Int.reduceMul, fp_ly_i]))
        | (refine And.intro (fun _ => ?_) (fun _ => ?_) <;> first | (exfalso; omega) | (rename_i hz_; exact absurd trivial hz_) | ((conv => whnf); (try simp only [Int.reduceToNat, Int.toNat_natCast, fp_up_c, fp_up_s, fp_up_i, fp_cp_c, fp_g_s, Nat.reduceBEq, Int.reduceAdd, Int.reduceSub, Int.reduceNeg, Int.reduceMul, fp_ly_i])))
        | (refine And.intro (fun _ => ?_) ?_ <;> first | (exfalso; omega) | trivial | ((conv => whnf); (try simp only [Int.reduceToNat, Int.toNat_natCast, fp_up_c, fp_up_s, fp_up_i, fp_cp_c, fp_g_s, Nat.reduceBEq, Int.reduceAdd, Int.reduceSub, Int.reduceNeg, Int.reduceMul, fp_ly_i])))
        | (refine And.intro (by simp [fp_rg, fp_up, fp_cp] <;> omega) ?_; (conv => whnf); (try simp only [Int.reduceToNat, Int.toNat_natCast, fp_up_c, fp_up_s, fp_up_i, fp_cp_c, fp_g_s, Nat.reduceBEq, Int.reduceAdd, Int.reduceSub, Int.reduceNeg, Int.reduceMul, fp_ly_i]))
        | fail)
    exact hN _ _ _ _ (hk2 _)
set_option maxHeartbeats 600000 in
set_option maxRecDepth 100000 in
theorem lk_nine {L d : Nat} {n i y t : Int} {H K : FpH} {Q : FpQ} (hn : 1 ≤ n ∧ n ≤ 588) (h : fq_O n H) (hT : fq_T n H K t) (hU : fq_U H K t y) (hy : 0 ≤ y ∧ y ≤ 2147483647) (l23 : Option FpV) (hk : ∀ (K : FpH) (l23 : Option FpV), fq_O (n + 2) K → fp_Wp L (d + 7) 0 938 [some (.inr (9, 26)), some (.inr (7, 14)), some (.inl (1)), some (.inl (i)), some (.inl (y)), some (.inl (y / 16)), some (.inl (y % 16)), some (.inl (H 7 15 2)), some (.inl (H 0 0 5)), some (.inl (H 0 9 3)), some (.inl (fq_pp (H 0))), some (.inl (fp_sm (H 0 5) (H 0 1 4).toNat)), some (.inl (H 0 0 6)), some (.inl (H 0 0 7)), some (.inl (H 0 0 4)), some (.inl (H 0 0 8)), some (.inl (y / 16 / 16 % 3)), some (.inl (fq_ifc (H 0) (H 0) (y / 16 % 3) (y / 16 / 4 % 3) (y / 16 / 16 % 3) 2)), some (.inl (fq_ifc (H 0) (H 0) (y / 16 % 3) (y / 16 / 4 % 3) (y / 16 / 16 % 3) 3)), some (.inl (fq_ifc (H 0) (H 0) (y / 16 % 3) (y / 16 / 4 % 3) (y / 16 / 16 % 3) 4)), some (.inl (fq_sit (H 0) (y / 16 % 5) 3)), some (.inl (fq_sit (H 0) (y / 16 % 5) 1)), some (.inl (t)), l23] [] K Q) (hk1 : y % 16 = 9) (ht0 : 0 ≤ t) : fp_Wp L (d + 7) 0 428 [some (.inr (9, 26)), some (.inr (7, 14)), some (.inl (1)), some (.inl (i)), some (.inl (y)), some (.inl (y / 16)), some (.inl (y % 16)), some (.inl (H 7 15 2)), some (.inl (H 0 0 5)), some (.inl (H 0 9 3)), some (.inl (fq_pp (H 0))), some (.inl (fp_sm (H 0 5) (H 0 1 4).toNat)), some (.inl (H 0 0 6)), some (.inl (H 0 0 7)), some (.inl (H 0 0 4)), some (.inl (H 0 0 8)), some (.inl (y / 16 / 16 % 3)), some (.inl (fq_ifc (H 0) (H 0) (y / 16 % 3) (y / 16 / 4 % 3) (y / 16 / 16 % 3) 2)), some (.inl (fq_ifc (H 0) (H 0) (y / 16 % 3) (y / 16 / 4 % 3) (y / 16 / 16 % 3) 3)), some (.inl (fq_ifc (H 0) (H 0) (y / 16 % 3) (y / 16 / 4 % 3) (y / 16 / 16 % 3) 4)), some (.inl (fq_sit (H 0) (y / 16 % 5) 3)), some (.inl (fq_sit (H 0) (y / 16 % 5) 1)), some (.inl (t)), l23] [] K Q := by
  obtain ⟨hU1, hU2⟩ := hU.2 hk1 ht0
  obtain ⟨oK, sK⟩ := fq_T_1 hT ht0
  have hn1 : 1 ≤ n + 1 ∧ n + 1 ≤ 600 := by omega
  have bH := fq_bd (by omega) h.1
  have bK := fq_bd hn1.2 oK.1
  have hsa := fq_sa_n (G := H 0) h.1.1.2.2.1.1
  have e06 := hU2 0 6 (by omega)
  have e05 := hU2 0 5 (by omega)
  have e93 := hU2 9 3 (by omega)
  have esa := fp_e_sa hU2 9 3 (by omega)
  rw [fq_sa_sa h.1.1.1.1 h.1.1.2.2.1.1] at esa
  refine fp_go 1000 [938] (fun KN KC hN hC => ?_)
  conv => whnf
  (try simp only [Int.reduceToNat, Int.toNat_natCast, fp_up_c, fp_up_s, fp_up_i, fp_cp_c, fp_g_s, Nat.reduceBEq, Int.reduceAdd, Int.reduceSub, Int.reduceNeg, Int.reduceMul, fp_ly_i])
  (repeat' first
      | (refine And.intro (by first | omega | (unfold fp_rg; omega)) ?_; (try intro _); (conv => whnf); (try simp only [Int.reduceToNat, Int.toNat_natCast, fp_up_c, fp_up_s, fp_up_i, fp_cp_c, fp_g_s, Nat.reduceBEq, Int.reduceAdd, Int.reduceSub, Int.reduceNeg, Int.reduceMul, fp_ly_i]))
      | (refine And.intro (fun _ => ?_) (fun _ => ?_) <;> first | (exfalso; omega) | (rename_i hz_; exact absurd trivial hz_) | ((conv => whnf); (try simp only [Int.reduceToNat, Int.toNat_natCast, fp_up_c, fp_up_s, fp_up_i, fp_cp_c, fp_g_s, Nat.reduceBEq, Int.reduceAdd, Int.reduceSub, Int.reduceNeg, Int.reduceMul, fp_ly_i])))
      | (refine And.intro (fun _ => ?_) ?_ <;> first | (exfalso; omega) | trivial | ((conv => whnf); (try simp only [Int.reduceToNat, Int.toNat_natCast, fp_up_c, fp_up_s, fp_up_i, fp_cp_c, fp_g_s, Nat.reduceBEq, Int.reduceAdd, Int.reduceSub, Int.reduceNeg, Int.reduceMul, fp_ly_i])))
      | (refine And.intro (by simp [fp_rg, fp_up, fp_cp] <;> omega) ?_; (conv => whnf); (try simp only [Int.reduceToNat, Int.toNat_natCast, fp_up_c, fp_up_s, fp_up_i, fp_cp_c, fp_g_s, Nat.reduceBEq, Int.reduceAdd, Int.reduceSub, Int.reduceNeg, Int.reduceMul, fp_ly_i]))
      | fail)
  refine hC _ _ _ _ ⟨_, rfl, ?_⟩
  refine sc_7 hn1 oK.1 ?_
  conv => whnf
  (try simp only [Int.reduceToNat, Int.toNat_natCast, fp_up_c, fp_up_s, fp_up_i, fp_cp_c, fp_g_s, Nat.reduceBEq, Int.reduceAdd, Int.reduceSub, Int.reduceNeg, Int.reduceMul, fp_ly_i])
  (repeat' first
      | (refine And.intro (by first | omega | (unfold fp_rg; omega)) ?_; (try intro _); (conv => whnf); (try simp only [Int.reduceToNat, Int.toNat_natCast, fp_up_c, fp_up_s, fp_up_i, fp_cp_c, fp_g_s, Nat.reduceBEq, Int.reduceAdd, Int.reduceSub, Int.reduceNeg, Int.reduceMul, fp_ly_i]))
      | (refine And.intro (fun _ => ?_) (fun _ => ?_) <;> first | (exfalso; omega) | (rename_i hz_; exact absurd trivial hz_) | ((conv => whnf); (try simp only [Int.reduceToNat, Int.toNat_natCast, fp_up_c, fp_up_s, fp_up_i, fp_cp_c, fp_g_s, Nat.reduceBEq, Int.reduceAdd, Int.reduceSub, Int.reduceNeg, Int.reduceMul, fp_ly_i])))
      | (refine And.intro (fun _ => ?_) ?_ <;> first | (exfalso; omega) | trivial | ((conv => whnf); (try simp only [Int.reduceToNat, Int.toNat_natCast, fp_up_c, fp_up_s, fp_up_i, fp_cp_c, fp_g_s, Nat.reduceBEq, Int.reduceAdd, Int.reduceSub, Int.reduceNeg, Int.reduceMul, fp_ly_i])))
      | (refine And.intro (by simp [fp_rg, fp_up, fp_cp] <;> omega) ?_; (conv => whnf); (try simp only [Int.reduceToNat, Int.toNat_natCast, fp_up_c, fp_up_s, fp_up_i, fp_cp_c, fp_g_s, Nat.reduceBEq, Int.reduceAdd, Int.reduceSub, Int.reduceNeg, Int.reduceMul, fp_ly_i]))
      | fail)
  refine hC _ _ _ _ ⟨_, rfl, ?_⟩
  refine sc_3 hn1 oK.1 ?_
  conv => whnf
  (try simp only [Int.reduceToNat, Int.toNat_natCast, fp_up_c, fp_up_s, fp_up_i, fp_cp_c, fp_g_s, Nat.reduceBEq, Int.reduceAdd, Int.reduceSub, Int.reduceNeg, Int.reduceMul, fp_ly_i])
  (repeat' first
      | (refine And.intro (by first | omega | (unfold fp_rg; omega)) ?_; (try intro _); (conv => whnf); (try simp only [Int.reduceToNat, Int.toNat_natCast, fp_up_c, fp_up_s, fp_up_i, fp_cp_c, fp_g_s, Nat.reduceBEq, Int.reduceAdd, Int.reduceSub, Int.reduceNeg, Int.reduceMul, fp_ly_i]))
      | (refine And.intro (fun _ => ?_) (fun _ => ?_) <;> first | (exfalso; omega) | (rename_i hz_; exact absurd trivial hz_) | ((conv => whnf); (try simp only [Int.reduceToNat, Int.toNat_natCast, fp_up_c, fp_up_s, fp_up_i, fp_cp_c, fp_g_s, Nat.reduceBEq, Int.reduceAdd, Int.reduceSub, Int.reduceNeg, Int.reduceMul, fp_ly_i])))
      | (refine And.intro (fun _ => ?_) ?_ <;> first | (exfalso; omega) | trivial | ((conv => whnf); (try simp only [Int.reduceToNat, Int.toNat_natCast, fp_up_c, fp_up_s, fp_up_i, fp_cp_c, fp_g_s, Nat.reduceBEq, Int.reduceAdd, Int.reduceSub, Int.reduceNeg, Int.reduceMul, fp_ly_i])))
      | (refine And.intro (by simp [fp_rg, fp_up, fp_cp] <;> omega) ?_; (conv => whnf); (try simp only [Int.reduceToNat, Int.toNat_natCast, fp_up_c, fp_up_s, fp_up_i, fp_cp_c, fp_g_s, Nat.reduceBEq, Int.reduceAdd, Int.reduceSub, Int.reduceNeg, Int.reduceMul, fp_ly_i]))
      | fail)
  refine hC _ _ _ _ ⟨_, rfl, ?_⟩
  refine sc_0 hn1 oK.1 ?_
  conv => whnf
  (try simp only [Int.reduceToNat, Int.toNat_natCast, fp_up_c, fp_up_s, fp_up_i, fp_cp_c, fp_g_s, Nat.reduceBEq, Int.reduceAdd, Int.reduceSub, Int.reduceNeg, Int.reduceMul, fp_ly_i])
  (repeat' first
      | (refine And.intro (by first | omega | (unfold fp_rg; omega)) ?_; (try intro _); (conv => whnf); (try simp only [Int.reduceToNat, Int.toNat_natCast, fp_up_c, fp_up_s, fp_up_i, fp_cp_c, fp_g_s, Nat.reduceBEq, Int.reduceAdd, Int.reduceSub, Int.reduceNeg, Int.reduceMul, fp_ly_i]))
      | (refine And.intro (fun _ => ?_) (fun _ => ?_) <;> first | (exfalso; omega) | (rename_i hz_; exact absurd trivial hz_) | ((conv => whnf); (try simp only [Int.reduceToNat, Int.toNat_natCast, fp_up_c, fp_up_s, fp_up_i, fp_cp_c, fp_g_s, Nat.reduceBEq, Int.reduceAdd, Int.reduceSub, Int.reduceNeg, Int.reduceMul, fp_ly_i])))
      | (refine And.intro (fun _ => ?_) ?_ <;> first | (exfalso; omega) | trivial | ((conv => whnf); (try simp only [Int.reduceToNat, Int.toNat_natCast, fp_up_c, fp_up_s, fp_up_i, fp_cp_c, fp_g_s, Nat.reduceBEq, Int.reduceAdd, Int.reduceSub, Int.reduceNeg, Int.reduceMul, fp_ly_i])))
      | (refine And.intro (by simp [fp_rg, fp_up, fp_cp] <;> omega) ?_; (conv => whnf); (try simp only [Int.reduceToNat, Int.toNat_natCast, fp_up_c, fp_up_s, fp_up_i, fp_cp_c, fp_g_s, Nat.reduceBEq, Int.reduceAdd, Int.reduceSub, Int.reduceNeg, Int.reduceMul, fp_ly_i]))
      | fail)
  refine hC _ _ _ _ ⟨_, rfl, ?_⟩
  refine sp_serveAllN ⟨hn1.1, by omega⟩ oK (fun hz K2 hc => ?_) (fun hz K2 oK2 sK2 eK2 hp => ?_)
  · have hk2 := fun l23 => hk K2 l23 (fq_O_m (fq_O_c oK hc) (by omega))
    conv => whnf
    (try simp only [Int.reduceToNat, Int.toNat_natCast, fp_up_c, fp_up_s, fp_up_i, fp_cp_c, fp_g_s, Nat.reduceBEq, Int.reduceAdd, Int.reduceSub, Int.reduceNeg, Int.reduceMul, fp_ly_i])
    (repeat' first
        | (refine And.intro (by first | omega | (unfold fp_rg; omega)) ?_; (try intro _); (conv => whnf); (try simp only [Int.reduceToNat, Int.toNat_natCast, fp_up_c, fp_up_s, fp_up_i, fp_cp_c, fp_g_s, Nat.reduceBEq, Int.reduceAdd, Int.reduceSub, Int.reduceNeg, Int.reduceMul, fp_ly_i]))
        | (refine And.intro (fun _ => ?_) (fun _ => ?_) <;> first | (exfalso; omega) | (rename_i hz_; exact absurd trivial hz_) | ((conv => whnf); (try simp only [Int.reduceToNat, Int.toNat_natCast, fp_up_c, fp_up_s, fp_up_i, fp_cp_c, fp_g_s, Nat.reduceBEq, Int.reduceAdd, Int.reduceSub, Int.reduceNeg, Int.reduceMul, fp_ly_i])))
        | (refine And.intro (fun _ => ?_) ?_ <;> first | (exfalso; omega) | trivial | ((conv => whnf); (try simp only [Int.reduceToNat, Int.toNat_natCast, fp_up_c, fp_up_s, fp_up_i, fp_cp_c, fp_g_s, Nat.reduceBEq, Int.reduceAdd, Int.reduceSub, Int.reduceNeg, Int.reduceMul, fp_ly_i])))
        | (refine And.intro (by simp [fp_rg, fp_up, fp_cp] <;> omega) ?_; (conv => whnf); (try simp only [Int.reduceToNat, Int.toNat_natCast, fp_up_c, fp_up_s, fp_up_i, fp_cp_c, fp_g_s, Nat.reduceBEq, Int.reduceAdd, Int.reduceSub, Int.reduceNeg, Int.reduceMul, fp_ly_i]))
        | fail)
    exact hN _ _ _ _ (hk2 _)
  · omega
set_option maxHeartbeats 600000 in
set_option maxRecDepth 100000 in
theorem lk_rest {L d : Nat} {n i y t : Int} {H K : FpH} {Q : FpQ} (hn : 1 ≤ n ∧ n ≤ 588) (h : fq_O n H) (hT : fq_T n H K t) (hU : fq_U H K t y) (hy : 0 ≤ y ∧ y ≤ 2147483647) (l23 : Option FpV) (hk : ∀ (K : FpH) (l23 : Option FpV), fq_O (n + 2) K → fp_Wp L (d + 7) 0 938 [some (.inr (9, 26)), some (.inr (7, 14)), some (.inl (1)), some (.inl (i)), some (.inl (y)), some (.inl (y / 16)), some (.inl (y % 16)), some (.inl (H 7 15 2)), some (.inl (H 0 0 5)), some (.inl (H 0 9 3)), some (.inl (fq_pp (H 0))), some (.inl (fp_sm (H 0 5) (H 0 1 4).toNat)), some (.inl (H 0 0 6)), some (.inl (H 0 0 7)), some (.inl (H 0 0 4)), some (.inl (H 0 0 8)), some (.inl (y / 16 / 16 % 3)), some (.inl (fq_ifc (H 0) (H 0) (y / 16 % 3) (y / 16 / 4 % 3) (y / 16 / 16 % 3) 2)), some (.inl (fq_ifc (H 0) (H 0) (y / 16 % 3) (y / 16 / 4 % 3) (y / 16 / 16 % 3) 3)), some (.inl (fq_ifc (H 0) (H 0) (y / 16 % 3) (y / 16 / 4 % 3) (y / 16 / 16 % 3) 4)), some (.inl (fq_sit (H 0) (y / 16 % 5) 3)), some (.inl (fq_sit (H 0) (y / 16 % 5) 1)), some (.inl (t)), l23] [] K Q) (hk1 : y % 16 < 7 ∨ y % 16 = 9 ∨ 14 ≤ y % 16) (hk2 : t < 0 ∨ (2 < y % 16 ∧ y % 16 ≠ 9)) : fp_Wp L (d + 7) 0 428 [some (.inr (9, 26)), some (.inr (7, 14)), some (.inl (1)), some (.inl (i)), some (.inl (y)), some (.inl (y / 16)), some (.inl (y % 16)), some (.inl (H 7 15 2)), some (.inl (H 0 0 5)), some (.inl (H 0 9 3)), some (.inl (fq_pp (H 0))), some (.inl (fp_sm (H 0 5) (H 0 1 4).toNat)), some (.inl (H 0 0 6)), some (.inl (H 0 0 7)), some (.inl (H 0 0 4)), some (.inl (H 0 0 8)), some (.inl (y / 16 / 16 % 3)), some (.inl (fq_ifc (H 0) (H 0) (y / 16 % 3) (y / 16 / 4 % 3) (y / 16 / 16 % 3) 2)), some (.inl (fq_ifc (H 0) (H 0) (y / 16 % 3) (y / 16 / 4 % 3) (y / 16 / 16 % 3) 3)), some (.inl (fq_ifc (H 0) (H 0) (y / 16 % 3) (y / 16 / 4 % 3) (y / 16 / 16 % 3) 4)), some (.inl (fq_sit (H 0) (y / 16 % 5) 3)), some (.inl (fq_sit (H 0) (y / 16 % 5) 1)), some (.inl (t)), l23] [] K Q := by
  have hk2 := fun l23 => hk K l23 (fq_T_O hT)
  refine fp_go 1000 [938] (fun KN KC hN hC => ?_)
  conv => whnf
  (try simp only [Int.reduceToNat, Int.toNat_natCast, fp_up_c, fp_up_s, fp_up_i, fp_cp_c, fp_g_s, Nat.reduceBEq, Int.reduceAdd, Int.reduceSub, Int.reduceNeg, Int.reduceMul, fp_ly_i])
  (repeat' first
      | (refine And.intro (by first | omega | (unfold fp_rg; omega)) ?_; (try intro _); (conv => whnf); (try simp only [Int.reduceToNat, Int.toNat_natCast, fp_up_c, fp_up_s, fp_up_i, fp_cp_c, fp_g_s, Nat.reduceBEq, Int.reduceAdd, Int.reduceSub, Int.reduceNeg, Int.reduceMul, fp_ly_i]))
      | (refine And.intro (fun _ => ?_) (fun _ => ?_) <;> first | (exfalso; omega) | (rename_i hz_; exact absurd trivial hz_) | ((conv => whnf); (try simp only [Int.reduceToNat, Int.toNat_natCast, fp_up_c, fp_up_s, fp_up_i, fp_cp_c, fp_g_s, Nat.reduceBEq, Int.reduceAdd, Int.reduceSub, Int.reduceNeg, Int.reduceMul, fp_ly_i])))
      | (refine And.intro (fun _ => ?_) ?_ <;> first | (exfalso; omega) | trivial | ((conv => whnf); (try simp only [Int.reduceToNat, Int.toNat_natCast, fp_up_c, fp_up_s, fp_up_i, fp_cp_c, fp_g_s, Nat.reduceBEq, Int.reduceAdd, Int.reduceSub, Int.reduceNeg, Int.reduceMul, fp_ly_i])))
      | (refine And.intro (by simp [fp_rg, fp_up, fp_cp] <;> omega) ?_; (conv => whnf); (try simp only [Int.reduceToNat, Int.toNat_natCast, fp_up_c, fp_up_s, fp_up_i, fp_cp_c, fp_g_s, Nat.reduceBEq, Int.reduceAdd, Int.reduceSub, Int.reduceNeg, Int.reduceMul, fp_ly_i]))
      | fail)
  all_goals exact hN _ _ _ _ (hk2 _)
theorem lk_all {L d : Nat} {n i y t : Int} {H K : FpH} {Q : FpQ} (hn : 1 ≤ n ∧ n ≤ 588) (h : fq_O n H) (hT : fq_T n H K t) (hU : fq_U H K t y) (hy : 0 ≤ y ∧ y ≤ 2147483647) (l23 : Option FpV) (hk : ∀ (K : FpH) (l23 : Option FpV), fq_O (n + 2) K → fp_Wp L (d + 7) 0 938 [some (.inr (9, 26)), some (.inr (7, 14)), some (.inl (1)), some (.inl (i)), some (.inl (y)), some (.inl (y / 16)), some (.inl (y % 16)), some (.inl (H 7 15 2)), some (.inl (H 0 0 5)), some (.inl (H 0 9 3)), some (.inl (fq_pp (H 0))), some (.inl (fp_sm (H 0 5) (H 0 1 4).toNat)), some (.inl (H 0 0 6)), some (.inl (H 0 0 7)), some (.inl (H 0 0 4)), some (.inl (H 0 0 8)), some (.inl (y / 16 / 16 % 3)), some (.inl (fq_ifc (H 0) (H 0) (y / 16 % 3) (y / 16 / 4 % 3) (y / 16 / 16 % 3) 2)), some (.inl (fq_ifc (H 0) (H 0) (y / 16 % 3) (y / 16 / 4 % 3) (y / 16 / 16 % 3) 3)), some (.inl (fq_ifc (H 0) (H 0) (y / 16 % 3) (y / 16 / 4 % 3) (y / 16 / 16 % 3) 4)), some (.inl (fq_sit (H 0) (y / 16 % 5) 3)), some (.inl (fq_sit (H 0) (y / 16 % 5) 1)), some (.inl (t)), l23] [] K Q) : fp_Wp L (d + 7) 0 428 [some (.inr (9, 26)), some (.inr (7, 14)), some (.inl (1)), some (.inl (i)), some (.inl (y)), some (.inl (y / 16)), some (.inl (y % 16)), some (.inl (H 7 15 2)), some (.inl (H 0 0 5)), some (.inl (H 0 9 3)), some (.inl (fq_pp (H 0))), some (.inl (fp_sm (H 0 5) (H 0 1 4).toNat)), some (.inl (H 0 0 6)), some (.inl (H 0 0 7)), some (.inl (H 0 0 4)), some (.inl (H 0 0 8)), some (.inl (y / 16 / 16 % 3)), some (.inl (fq_ifc (H 0) (H 0) (y / 16 % 3) (y / 16 / 4 % 3) (y / 16 / 16 % 3) 2)), some (.inl (fq_ifc (H 0) (H 0) (y / 16 % 3) (y / 16 / 4 % 3) (y / 16 / 16 % 3) 3)), some (.inl (fq_ifc (H 0) (H 0) (y / 16 % 3) (y / 16 / 4 % 3) (y / 16 / 16 % 3) 4)), some (.inl (fq_sit (H 0) (y / 16 % 5) 3)), some (.inl (fq_sit (H 0) (y / 16 % 5) 1)), some (.inl (t)), l23] [] K Q := by
  by_cases h1 : 10 ≤ y % 16 ∧ y % 16 < 14
  · exact lk_cut hn h hT hU hy l23 hk h1
  by_cases h2 : 7 ≤ y % 16 ∧ y % 16 < 9
  · exact lk_serve hn h hT hU hy l23 hk h2
  by_cases h3 : y % 16 < 2 ∧ 0 ≤ t
  · exact lk_buy hn h hT hU hy l23 hk h3.1 h3.2
  by_cases h4 : y % 16 = 2 ∧ 0 ≤ t
  · exact lk_two hn h hT hU hy l23 hk h4.1 h4.2
  by_cases h5 : y % 16 = 9 ∧ 0 ≤ t
  · exact lk_nine hn h hT hU hy l23 hk h5.1 h5.2
  exact lk_rest hn h hT hU hy l23 hk (by omega) (by omega)
