/-! the line of sitters -/
def fp_lrem (G : FpG) (k : Nat) : FpG := fun c i => if c = 9 ∧ i = 3 then G 9 3 - 1 else if (c = 10 ∨ c = 11 ∨ c = 12) ∧ k ≤ i ∧ (i : Int) + 1 < G 9 3 then G c (i + 1) else G c i
def fp_ladd (G : FpG) (p w t : Int) : FpG := fun c i => if c = 9 ∧ i = 3 then G 9 3 + 1 else if (i : Int) = G 9 3 then (if c = 10 then p else if c = 11 then w else if c = 12 then t else G c i) else G c i
set_option maxHeartbeats 600000 in
set_option maxRecDepth 100000 in
theorem sp_remove {L d g t : Nat} {H : FpH} {Q : FpQ} (h : (t : Int) < H g 9 3 ∧ H g 9 3 ≤ 12) (hq : Q none (fp_g H g (fp_lrem (H g) t))) : fp_Wp L d 7 0 (fp_en 7 [.inr (g, 9), .inl (t : Int)]) [] H Q := by
  refine fp_go 1000 [] (fun KN KC hN hC => ?_)
  conv => whnf
  (try simp only [Int.reduceToNat, Int.toNat_natCast])
  (repeat' first
      | (refine And.intro (by first | omega | (unfold fp_rg; omega)) ?_; (conv => whnf); (try simp only [Int.reduceToNat, Int.toNat_natCast]))
      | (refine And.intro (fun _ => ?_) (fun _ => ?_) <;> first | (exfalso; omega) | ((conv => whnf); (try simp only [Int.reduceToNat, Int.toNat_natCast])))
      | (refine And.intro (by simp [fp_rg, fp_up, fp_cp] <;> omega) ?_; (conv => whnf); (try simp only [Int.reduceToNat, Int.toNat_natCast]))
      | fail)
  trace_state
  have e : fp_cp H g 10 g 10 (t + 1 : Int).toNat (t : Int).toNat (H g 9 3 - t - 1).toNat g 9 3 = H g 9 3 := by simp [fp_cp]
  sorry
set_option maxHeartbeats 600000 in
set_option maxRecDepth 100000 in
theorem sp_ladd {L d g : Nat} {p w t : Int} {H : FpH} {Q : FpQ} (h : 0 ≤ H g 9 3 ∧ H g 9 3 < 12) (hq : Q (some (.inl (H g 9 3 + 1))) (fp_g H g (fp_ladd (H g) p w t))) : fp_Wp L d 6 0 (fp_en 6 [.inr (g, 9), .inl p, .inl w, .inl t]) [] H Q := by
  refine fp_go 1000 [] (fun KN KC hN hC => ?_)
  conv => whnf
  (try simp only [Int.reduceToNat, Int.toNat_natCast])
  (repeat' first
      | (refine And.intro (by first | omega | (unfold fp_rg; omega)) ?_; (conv => whnf); (try simp only [Int.reduceToNat, Int.toNat_natCast]))
      | (refine And.intro (fun _ => ?_) (fun _ => ?_) <;> first | (exfalso; omega) | ((conv => whnf); (try simp only [Int.reduceToNat, Int.toNat_natCast])))
      | (refine And.intro (by simp [fp_rg, fp_up, fp_cp] <;> omega) ?_; (conv => whnf); (try simp only [Int.reduceToNat, Int.toNat_natCast]))
      | fail)
  trace_state
  sorry
