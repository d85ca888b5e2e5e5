/-! the law's loop -/
set_option maxHeartbeats 600000 in
set_option maxRecDepth 100000 in
theorem fq_loop {L d : Nat} {Q : FpQ} (hL : L ≤ 2560) (hq : ∀ H, Q (some (.inl 1)) H) : ∀ (k : Nat) (n i : Int) (H : FpH), 0 ≤ i → i ≤ (L : Int) → (L : Int) < i + 5 * (k : Int) → 1 ≤ n → n + (k : Int) ≤ 599 → fq_REL n H → fp_Wp L (d + 8) 0 18 (fq_L i) [] H Q := by
  intro k
  induction k with
  | zero =>
    intro n i H h0 h1 h2
    omega
  | succ k ih =>
    intro n i H h0 h1 h2 h3 h4 h
    have hn : 1 ≤ n ∧ n ≤ 599 := ⟨h3, by omega⟩
    by_cases hi : i + 5 ≤ (L : Int)
    · have hii : 0 ≤ i ∧ i + 5 ≤ (L : Int) := ⟨h0, hi⟩
      have hend : ∀ H', fq_REL (n + 1) H' → fp_Wp L (d + 8) 0 901 (fq_L i) [] H' Q := fun H' hr => by
        have hr := ih (n + 1) (i + 5) H' (by omega) hi (by omega) (by omega) (by omega) hr
        unfold fq_L at hr ⊢
        refine fp_go 1000 [18] (fun KN KC hN hC => ?_)
        conv => whnf
        (try simp only [Int.reduceToNat, Int.toNat_natCast, fp_up_c, fp_up_s, fp_up_i, fp_cp_c, fp_g_s, Nat.reduceBEq, Int.reduceAdd, Int.reduceSub, Int.reduceNeg, Int.reduceMul, fq_do_8])
        (repeat' first
            | (refine And.intro (by first | omega | (unfold fp_rg; omega)) ?_; (try intro _); (conv => whnf); (try simp only [Int.reduceToNat, Int.toNat_natCast, fp_up_c, fp_up_s, fp_up_i, fp_cp_c, fp_g_s, Nat.reduceBEq, Int.reduceAdd, Int.reduceSub, Int.reduceNeg, Int.reduceMul, fq_do_8]))
            | (refine And.intro (fun _ => ?_) (fun _ => ?_) <;> first | (exfalso; omega) | (rename_i hz_; exact absurd trivial hz_) | ((conv => whnf); (try simp only [Int.reduceToNat, Int.toNat_natCast, fp_up_c, fp_up_s, fp_up_i, fp_cp_c, fp_g_s, Nat.reduceBEq, Int.reduceAdd, Int.reduceSub, Int.reduceNeg, Int.reduceMul, fq_do_8])))
            | (refine And.intro (fun _ => ?_) ?_ <;> first | (exfalso; omega) | trivial | ((conv => whnf); (try simp only [Int.reduceToNat, Int.toNat_natCast, fp_up_c, fp_up_s, fp_up_i, fp_cp_c, fp_g_s, Nat.reduceBEq, Int.reduceAdd, Int.reduceSub, Int.reduceNeg, Int.reduceMul, fq_do_8])))
            | (refine And.intro (by simp [fp_rg, fp_up, fp_cp] <;> omega) ?_; (conv => whnf); (try simp only [Int.reduceToNat, Int.toNat_natCast, fp_up_c, fp_up_s, fp_up_i, fp_cp_c, fp_g_s, Nat.reduceBEq, Int.reduceAdd, Int.reduceSub, Int.reduceNeg, Int.reduceMul, fq_do_8]))
            | fail)
        all_goals first | (exfalso; omega) | exact hN _ _ _ _ hr
      have hk : fq_K L (d + 8) Q n i H := fun H' hr _ => hend H' hr
      have hE := hend H (fq_REL_m h (by omega))
      have s0 := st_buy hL hii hn h hk
      have s1 := st_trade hL hii hn h hk
      have s2 := st_part hL hii hn h hk
      have s3 := st_draw hL hii hn h hk
      have s4 := st_come hL hii hn h hk
      have s5 := st_comeAll hL hii hn h hk
      have s6 := st_serve hL hii hn h hk
      have s7 := st_serveAll hL hii hn h hk
      have s8 := st_cut hL hii hn h hk
      have s9 := st_turn hL hii hn h hk
      have s10 := st_set hL hii hn h hk
      have s11 := st_type hL hii hn h hk
      have s12 := st_clear hL hii hn h hk
      have s13 := st_undo hL hii hn h hk
      have s14 := st_keep hL hii hn h hk
      have s15 := st_restore hL hii hn h hk
      have s16 := st_width hL hii hn h hk
      have s17 := st_prof hL hii hn h hk
      have s18 := st_lw hL hii hn h hk
      have s19 := st_strip hL hii hn h hk
      have s20 := st_sit hL hii hn h hk
      have s21 := st_ifCut hL hii hn h hk
      have s22 := st_best hL hii hn h hk
      have s23 := st_few hL hii hn h hk
      have s24 := st_count hL hii hn h hk
      unfold fq_L at *
      refine fp_go 1000 [148, 181, 214, 247, 290, 333, 346, 369, 382, 425, 474, 507, 532, 545, 558, 571, 584, 617, 650, 693, 726, 759, 812, 845, 878, 901, 907] (fun KN KC hN hC => ?_)
      conv => whnf
      (try simp only [Int.reduceToNat, Int.toNat_natCast, fp_up_c, fp_up_s, fp_up_i, fp_cp_c, fp_g_s, Nat.reduceBEq, Int.reduceAdd, Int.reduceSub, Int.reduceNeg, Int.reduceMul, fq_do_8])
      (repeat' first
          | (refine And.intro (by first | omega | (unfold fp_rg; omega)) ?_; (try intro _); (conv => whnf); (try simp only [Int.reduceToNat, Int.toNat_natCast, fp_up_c, fp_up_s, fp_up_i, fp_cp_c, fp_g_s, Nat.reduceBEq, Int.reduceAdd, Int.reduceSub, Int.reduceNeg, Int.reduceMul, fq_do_8]))
          | (refine And.intro (fun _ => ?_) (fun _ => ?_) <;> first | (exfalso; omega) | (rename_i hz_; exact absurd trivial hz_) | ((conv => whnf); (try simp only [Int.reduceToNat, Int.toNat_natCast, fp_up_c, fp_up_s, fp_up_i, fp_cp_c, fp_g_s, Nat.reduceBEq, Int.reduceAdd, Int.reduceSub, Int.reduceNeg, Int.reduceMul, fq_do_8])))
          | (refine And.intro (fun _ => ?_) ?_ <;> first | (exfalso; omega) | trivial | ((conv => whnf); (try simp only [Int.reduceToNat, Int.toNat_natCast, fp_up_c, fp_up_s, fp_up_i, fp_cp_c, fp_g_s, Nat.reduceBEq, Int.reduceAdd, Int.reduceSub, Int.reduceNeg, Int.reduceMul, fq_do_8])))
          | (refine And.intro (by simp [fp_rg, fp_up, fp_cp] <;> omega) ?_; (conv => whnf); (try simp only [Int.reduceToNat, Int.toNat_natCast, fp_up_c, fp_up_s, fp_up_i, fp_cp_c, fp_g_s, Nat.reduceBEq, Int.reduceAdd, Int.reduceSub, Int.reduceNeg, Int.reduceMul, fq_do_8]))
          | fail)
      all_goals first | (exfalso; omega) | exact hN _ _ _ _ s0 | exact hN _ _ _ _ s1 | exact hN _ _ _ _ s2 | exact hN _ _ _ _ s3 | exact hN _ _ _ _ s4 | exact hN _ _ _ _ s5 | exact hN _ _ _ _ s6 | exact hN _ _ _ _ s7 | exact hN _ _ _ _ s8 | exact hN _ _ _ _ s9 | exact hN _ _ _ _ s10 | exact hN _ _ _ _ s11 | exact hN _ _ _ _ s12 | exact hN _ _ _ _ s13 | exact hN _ _ _ _ s14 | exact hN _ _ _ _ s15 | exact hN _ _ _ _ s16 | exact hN _ _ _ _ s17 | exact hN _ _ _ _ s18 | exact hN _ _ _ _ s19 | exact hN _ _ _ _ s20 | exact hN _ _ _ _ s21 | exact hN _ _ _ _ s22 | exact hN _ _ _ _ s23 | exact hN _ _ _ _ s24 | exact hN _ _ _ _ hE
    · have hq1 := hq H
      unfold fq_L
      refine fp_go 1000 [] (fun KN KC hN hC => ?_)
      conv => whnf
      (try simp only [Int.reduceToNat, Int.toNat_natCast, fp_up_c, fp_up_s, fp_up_i, fp_cp_c, fp_g_s, Nat.reduceBEq, Int.reduceAdd, Int.reduceSub, Int.reduceNeg, Int.reduceMul, fq_do_8])
      (repeat' first
          | (refine And.intro (by first | omega | (unfold fp_rg; omega)) ?_; (try intro _); (conv => whnf); (try simp only [Int.reduceToNat, Int.toNat_natCast, fp_up_c, fp_up_s, fp_up_i, fp_cp_c, fp_g_s, Nat.reduceBEq, Int.reduceAdd, Int.reduceSub, Int.reduceNeg, Int.reduceMul, fq_do_8]))
          | (refine And.intro (fun _ => ?_) (fun _ => ?_) <;> first | (exfalso; omega) | (rename_i hz_; exact absurd trivial hz_) | ((conv => whnf); (try simp only [Int.reduceToNat, Int.toNat_natCast, fp_up_c, fp_up_s, fp_up_i, fp_cp_c, fp_g_s, Nat.reduceBEq, Int.reduceAdd, Int.reduceSub, Int.reduceNeg, Int.reduceMul, fq_do_8])))
          | (refine And.intro (fun _ => ?_) ?_ <;> first | (exfalso; omega) | trivial | ((conv => whnf); (try simp only [Int.reduceToNat, Int.toNat_natCast, fp_up_c, fp_up_s, fp_up_i, fp_cp_c, fp_g_s, Nat.reduceBEq, Int.reduceAdd, Int.reduceSub, Int.reduceNeg, Int.reduceMul, fq_do_8])))
          | (refine And.intro (by simp [fp_rg, fp_up, fp_cp] <;> omega) ?_; (conv => whnf); (try simp only [Int.reduceToNat, Int.toNat_natCast, fp_up_c, fp_up_s, fp_up_i, fp_cp_c, fp_g_s, Nat.reduceBEq, Int.reduceAdd, Int.reduceSub, Int.reduceNeg, Int.reduceMul, fq_do_8]))
          | fail)
      all_goals first | (exfalso; omega) | exact hq1
