/-! the small methods, in the machine of numbers -/
abbrev FpG : Type := Nat → Nat → Int
/-- another content of one group -/
def fp_g (H : FpH) (g : Nat) (G : FpG) : FpH := fun g' => if g' = g then G else H g'
theorem fp_g_s {H : FpH} {g : Nat} {G : FpG} : fp_g H g G g = G := by simp [fp_g]
theorem fp_g_n {H : FpH} {g g' : Nat} {G : FpG} (h : g' ≠ g) : fp_g H g G g' = H g' := by simp [fp_g, h]
theorem fp_g_g {H : FpH} {g : Nat} {G G' : FpG} : fp_g (fp_g H g G) g G' = fp_g H g G' := by funext x; simp only [fp_g]; split <;> rfl
theorem fp_g_i {H : FpH} {g : Nat} : fp_g H g (H g) = H := by
  funext x; simp only [fp_g]; split
  · rename_i h; rw [h]
  · rfl
theorem fp_eqQ {Q : FpQ} {v : Option FpV} {H H' : FpH} (hq : Q v H) (e : H' = H) : Q v H' := e ▸ hq
theorem fp_eqW {L d u pc : Nat} {ls : FpL} {st : List FpV} {H H' : FpH} {Q : FpQ} (hq : fp_Wp L d u pc ls st H Q) (e : H' = H) : fp_Wp L d u pc ls st H' Q := e ▸ hq
theorem fp_up_c {H : FpH} {g c i g' c' i' : Nat} {v : Int} (h : (c' == c) = false) : fp_up H g c i v g' c' i' = H g' c' i' := by
  have : c' ≠ c := fun e => by subst e; simp at h
  simp [fp_up, this]
theorem fp_up_s {H : FpH} {g c i : Nat} {v : Int} : fp_up H g c i v g c i = v := by simp [fp_up]
theorem fp_up_i {H : FpH} {g c i g' c' i' : Nat} {v : Int} (h : (i' == i) = false) : fp_up H g c i v g' c' i' = H g' c' i' := by
  have : i' ≠ i := fun e => by subst e; simp at h
  simp [fp_up, this]
theorem fp_cp_c {H : FpH} {g c g' c' sp dp n G C I : Nat} (h : (C == c') = false) : fp_cp H g c g' c' sp dp n G C I = H G C I := by
  have : C ≠ c' := fun e => by subst e; simp at h
  simp [fp_cp, this]
theorem fp_hext {H H' : FpH} {g : Nat} {G : FpG} (h1 : ∀ x, x ≠ g → ∀ y z, H' x y z = H x y z) (h2 : ∀ y z, H' g y z = G y z) : H' = fp_g H g G := by
  funext x y z
  by_cases h : x = g
  · subst h; rw [fp_g_s]; exact h2 y z
  · rw [fp_g_n h]; exact h1 x h y z
/-- one write is another content of its group -/
def fp_gu (G : FpG) (c i : Nat) (v : Int) : FpG := fun c' i' => if c' = c ∧ i' = i then v else G c' i'
theorem fp_up_g {H : FpH} {g c i : Nat} {v : Int} : fp_up H g c i v = fp_g H g (fp_gu (H g) c i v) := by
  funext x y z
  simp only [fp_up, fp_g, fp_gu]
  by_cases h : x = g
  · subst h; simp [fp_gu]
  · simp [h]
set_option maxHeartbeats 600000 in
set_option maxRecDepth 100000 in
theorem sp_isIn {L d : Nat} {a b c : Int} {H : FpH} {Q : FpQ} (h1 : b ≤ a ∧ a ≤ c → Q (some (.inl 1)) H) (h0 : ¬ (b ≤ a ∧ a ≤ c) → Q (some (.inl 0)) H) : fp_Wp L d 77 0 (fp_en 77 [.inl a, .inl b, .inl c]) [] H Q := by
  refine fp_go 1000 [] (fun KN KC hN hC => ?_)
  conv => whnf
  (try simp only [Int.reduceToNat, Int.toNat_natCast, fp_up_c, fp_up_s, fp_up_i, fp_cp_c, fp_g_s, Nat.reduceBEq, Int.reduceAdd, Int.reduceSub, Int.reduceNeg, Int.reduceMul])
  (repeat' first
      | (refine And.intro (by first | omega | (unfold fp_rg; omega)) ?_; (try intro _); (conv => whnf); (try simp only [Int.reduceToNat, Int.toNat_natCast, fp_up_c, fp_up_s, fp_up_i, fp_cp_c, fp_g_s, Nat.reduceBEq, Int.reduceAdd, Int.reduceSub, Int.reduceNeg, Int.reduceMul]))
      | (refine And.intro (fun _ => ?_) (fun _ => ?_) <;> first | (exfalso; omega) | (rename_i hz_; exact absurd trivial hz_) | ((conv => whnf); (try simp only [Int.reduceToNat, Int.toNat_natCast, fp_up_c, fp_up_s, fp_up_i, fp_cp_c, fp_g_s, Nat.reduceBEq, Int.reduceAdd, Int.reduceSub, Int.reduceNeg, Int.reduceMul])))
      | (refine And.intro (by simp [fp_rg, fp_up, fp_cp] <;> omega) ?_; (conv => whnf); (try simp only [Int.reduceToNat, Int.toNat_natCast, fp_up_c, fp_up_s, fp_up_i, fp_cp_c, fp_g_s, Nat.reduceBEq, Int.reduceAdd, Int.reduceSub, Int.reduceNeg, Int.reduceMul]))
      | fail)
  all_goals first | exact h0 (by omega) | exact h1 (by omega)
set_option maxHeartbeats 600000 in
set_option maxRecDepth 100000 in
theorem sp_isStep {L d : Nat} {a : Int} {H : FpH} {Q : FpQ} (h1 : 0 ≤ a ∧ a < 8 → Q (some (.inl 1)) H) (h0 : ¬ (0 ≤ a ∧ a < 8) → Q (some (.inl 0)) H) : fp_Wp L (d + 1) 78 0 (fp_en 78 [.inl a]) [] H Q := by
  refine fp_go 1000 [] (fun KN KC hN hC => ?_)
  conv => whnf
  (try simp only [Int.reduceToNat, Int.toNat_natCast, fp_up_c, fp_up_s, fp_up_i, fp_cp_c, fp_g_s, Nat.reduceBEq, Int.reduceAdd, Int.reduceSub, Int.reduceNeg, Int.reduceMul])
  (repeat' first
      | (refine And.intro (by first | omega | (unfold fp_rg; omega)) ?_; (try intro _); (conv => whnf); (try simp only [Int.reduceToNat, Int.toNat_natCast, fp_up_c, fp_up_s, fp_up_i, fp_cp_c, fp_g_s, Nat.reduceBEq, Int.reduceAdd, Int.reduceSub, Int.reduceNeg, Int.reduceMul]))
      | (refine And.intro (fun _ => ?_) (fun _ => ?_) <;> first | (exfalso; omega) | (rename_i hz_; exact absurd trivial hz_) | ((conv => whnf); (try simp only [Int.reduceToNat, Int.toNat_natCast, fp_up_c, fp_up_s, fp_up_i, fp_cp_c, fp_g_s, Nat.reduceBEq, Int.reduceAdd, Int.reduceSub, Int.reduceNeg, Int.reduceMul])))
      | (refine And.intro (by simp [fp_rg, fp_up, fp_cp] <;> omega) ?_; (conv => whnf); (try simp only [Int.reduceToNat, Int.toNat_natCast, fp_up_c, fp_up_s, fp_up_i, fp_cp_c, fp_g_s, Nat.reduceBEq, Int.reduceAdd, Int.reduceSub, Int.reduceNeg, Int.reduceMul]))
      | fail)
  refine hC _ _ _ _ ⟨_, rfl, ?_⟩
  refine sp_isIn (fun h => ?_) (fun h => ?_)
  · conv => whnf
    (try simp only [Int.reduceToNat, Int.toNat_natCast, fp_up_c, fp_up_s, fp_up_i, fp_cp_c, fp_g_s, Nat.reduceBEq, Int.reduceAdd, Int.reduceSub, Int.reduceNeg, Int.reduceMul])
    (repeat' first
        | (refine And.intro (by first | omega | (unfold fp_rg; omega)) ?_; (try intro _); (conv => whnf); (try simp only [Int.reduceToNat, Int.toNat_natCast, fp_up_c, fp_up_s, fp_up_i, fp_cp_c, fp_g_s, Nat.reduceBEq, Int.reduceAdd, Int.reduceSub, Int.reduceNeg, Int.reduceMul]))
        | (refine And.intro (fun _ => ?_) (fun _ => ?_) <;> first | (exfalso; omega) | (rename_i hz_; exact absurd trivial hz_) | ((conv => whnf); (try simp only [Int.reduceToNat, Int.toNat_natCast, fp_up_c, fp_up_s, fp_up_i, fp_cp_c, fp_g_s, Nat.reduceBEq, Int.reduceAdd, Int.reduceSub, Int.reduceNeg, Int.reduceMul])))
        | (refine And.intro (by simp [fp_rg, fp_up, fp_cp] <;> omega) ?_; (conv => whnf); (try simp only [Int.reduceToNat, Int.toNat_natCast, fp_up_c, fp_up_s, fp_up_i, fp_cp_c, fp_g_s, Nat.reduceBEq, Int.reduceAdd, Int.reduceSub, Int.reduceNeg, Int.reduceMul]))
        | fail)
    exact h1 (by omega)
  · conv => whnf
    (try simp only [Int.reduceToNat, Int.toNat_natCast, fp_up_c, fp_up_s, fp_up_i, fp_cp_c, fp_g_s, Nat.reduceBEq, Int.reduceAdd, Int.reduceSub, Int.reduceNeg, Int.reduceMul])
    (repeat' first
        | (refine And.intro (by first | omega | (unfold fp_rg; omega)) ?_; (try intro _); (conv => whnf); (try simp only [Int.reduceToNat, Int.toNat_natCast, fp_up_c, fp_up_s, fp_up_i, fp_cp_c, fp_g_s, Nat.reduceBEq, Int.reduceAdd, Int.reduceSub, Int.reduceNeg, Int.reduceMul]))
        | (refine And.intro (fun _ => ?_) (fun _ => ?_) <;> first | (exfalso; omega) | (rename_i hz_; exact absurd trivial hz_) | ((conv => whnf); (try simp only [Int.reduceToNat, Int.toNat_natCast, fp_up_c, fp_up_s, fp_up_i, fp_cp_c, fp_g_s, Nat.reduceBEq, Int.reduceAdd, Int.reduceSub, Int.reduceNeg, Int.reduceMul])))
        | (refine And.intro (by simp [fp_rg, fp_up, fp_cp] <;> omega) ?_; (conv => whnf); (try simp only [Int.reduceToNat, Int.toNat_natCast, fp_up_c, fp_up_s, fp_up_i, fp_cp_c, fp_g_s, Nat.reduceBEq, Int.reduceAdd, Int.reduceSub, Int.reduceNeg, Int.reduceMul]))
        | fail)
    exact h0 (by omega)
set_option maxHeartbeats 600000 in
set_option maxRecDepth 100000 in
theorem sp_areFolds {L d : Nat} {a : Int} {H : FpH} {Q : FpQ} (h1 : 0 ≤ a ∧ a < 4 → Q (some (.inl 1)) H) (h0 : ¬ (0 ≤ a ∧ a < 4) → Q (some (.inl 0)) H) : fp_Wp L (d + 1) 79 0 (fp_en 79 [.inl a]) [] H Q := by
  refine fp_go 1000 [] (fun KN KC hN hC => ?_)
  conv => whnf
  (try simp only [Int.reduceToNat, Int.toNat_natCast, fp_up_c, fp_up_s, fp_up_i, fp_cp_c, fp_g_s, Nat.reduceBEq, Int.reduceAdd, Int.reduceSub, Int.reduceNeg, Int.reduceMul])
  (repeat' first
      | (refine And.intro (by first | omega | (unfold fp_rg; omega)) ?_; (try intro _); (conv => whnf); (try simp only [Int.reduceToNat, Int.toNat_natCast, fp_up_c, fp_up_s, fp_up_i, fp_cp_c, fp_g_s, Nat.reduceBEq, Int.reduceAdd, Int.reduceSub, Int.reduceNeg, Int.reduceMul]))
      | (refine And.intro (fun _ => ?_) (fun _ => ?_) <;> first | (exfalso; omega) | (rename_i hz_; exact absurd trivial hz_) | ((conv => whnf); (try simp only [Int.reduceToNat, Int.toNat_natCast, fp_up_c, fp_up_s, fp_up_i, fp_cp_c, fp_g_s, Nat.reduceBEq, Int.reduceAdd, Int.reduceSub, Int.reduceNeg, Int.reduceMul])))
      | (refine And.intro (by simp [fp_rg, fp_up, fp_cp] <;> omega) ?_; (conv => whnf); (try simp only [Int.reduceToNat, Int.toNat_natCast, fp_up_c, fp_up_s, fp_up_i, fp_cp_c, fp_g_s, Nat.reduceBEq, Int.reduceAdd, Int.reduceSub, Int.reduceNeg, Int.reduceMul]))
      | fail)
  refine hC _ _ _ _ ⟨_, rfl, ?_⟩
  refine sp_isIn (fun h => ?_) (fun h => ?_)
  · conv => whnf
    (try simp only [Int.reduceToNat, Int.toNat_natCast, fp_up_c, fp_up_s, fp_up_i, fp_cp_c, fp_g_s, Nat.reduceBEq, Int.reduceAdd, Int.reduceSub, Int.reduceNeg, Int.reduceMul])
    (repeat' first
        | (refine And.intro (by first | omega | (unfold fp_rg; omega)) ?_; (try intro _); (conv => whnf); (try simp only [Int.reduceToNat, Int.toNat_natCast, fp_up_c, fp_up_s, fp_up_i, fp_cp_c, fp_g_s, Nat.reduceBEq, Int.reduceAdd, Int.reduceSub, Int.reduceNeg, Int.reduceMul]))
        | (refine And.intro (fun _ => ?_) (fun _ => ?_) <;> first | (exfalso; omega) | (rename_i hz_; exact absurd trivial hz_) | ((conv => whnf); (try simp only [Int.reduceToNat, Int.toNat_natCast, fp_up_c, fp_up_s, fp_up_i, fp_cp_c, fp_g_s, Nat.reduceBEq, Int.reduceAdd, Int.reduceSub, Int.reduceNeg, Int.reduceMul])))
        | (refine And.intro (by simp [fp_rg, fp_up, fp_cp] <;> omega) ?_; (conv => whnf); (try simp only [Int.reduceToNat, Int.toNat_natCast, fp_up_c, fp_up_s, fp_up_i, fp_cp_c, fp_g_s, Nat.reduceBEq, Int.reduceAdd, Int.reduceSub, Int.reduceNeg, Int.reduceMul]))
        | fail)
    exact h1 (by omega)
  · conv => whnf
    (try simp only [Int.reduceToNat, Int.toNat_natCast, fp_up_c, fp_up_s, fp_up_i, fp_cp_c, fp_g_s, Nat.reduceBEq, Int.reduceAdd, Int.reduceSub, Int.reduceNeg, Int.reduceMul])
    (repeat' first
        | (refine And.intro (by first | omega | (unfold fp_rg; omega)) ?_; (try intro _); (conv => whnf); (try simp only [Int.reduceToNat, Int.toNat_natCast, fp_up_c, fp_up_s, fp_up_i, fp_cp_c, fp_g_s, Nat.reduceBEq, Int.reduceAdd, Int.reduceSub, Int.reduceNeg, Int.reduceMul]))
        | (refine And.intro (fun _ => ?_) (fun _ => ?_) <;> first | (exfalso; omega) | (rename_i hz_; exact absurd trivial hz_) | ((conv => whnf); (try simp only [Int.reduceToNat, Int.toNat_natCast, fp_up_c, fp_up_s, fp_up_i, fp_cp_c, fp_g_s, Nat.reduceBEq, Int.reduceAdd, Int.reduceSub, Int.reduceNeg, Int.reduceMul])))
        | (refine And.intro (by simp [fp_rg, fp_up, fp_cp] <;> omega) ?_; (conv => whnf); (try simp only [Int.reduceToNat, Int.toNat_natCast, fp_up_c, fp_up_s, fp_up_i, fp_cp_c, fp_g_s, Nat.reduceBEq, Int.reduceAdd, Int.reduceSub, Int.reduceNeg, Int.reduceMul]))
        | fail)
    exact h0 (by omega)
def fp_ly (a : Int) : Int := 2 ^ a.toNat
theorem fp_pw {a : Int} (h : 0 ≤ a ∧ a < 4) : (a = 0 ∧ fp_ly a = 1) ∨ (a = 1 ∧ fp_ly a = 2) ∨ (a = 2 ∧ fp_ly a = 4) ∨ (a = 3 ∧ fp_ly a = 8) := by
  have : a = 0 ∨ a = 1 ∨ a = 2 ∨ a = 3 := by omega
  rcases this with rfl | rfl | rfl | rfl <;> decide
set_option maxHeartbeats 600000 in
set_option maxRecDepth 100000 in
theorem sp_layersOf {L d : Nat} {a : Int} {H : FpH} {Q : FpQ} (h : 0 ≤ a ∧ a < 4) (hq : Q (some (.inl (fp_ly a))) H) : fp_Wp L d 80 0 (fp_en 80 [.inl a]) [] H Q := by
  refine fp_go 1000 [] (fun KN KC hN hC => ?_)
  conv => whnf
  (try simp only [Int.reduceToNat, Int.toNat_natCast, fp_up_c, fp_up_s, fp_up_i, fp_cp_c, fp_g_s, Nat.reduceBEq, Int.reduceAdd, Int.reduceSub, Int.reduceNeg, Int.reduceMul])
  (repeat' first
      | (refine And.intro (by first | omega | (unfold fp_rg; omega)) ?_; (try intro _); (conv => whnf); (try simp only [Int.reduceToNat, Int.toNat_natCast, fp_up_c, fp_up_s, fp_up_i, fp_cp_c, fp_g_s, Nat.reduceBEq, Int.reduceAdd, Int.reduceSub, Int.reduceNeg, Int.reduceMul]))
      | (refine And.intro (fun _ => ?_) (fun _ => ?_) <;> first | (exfalso; omega) | (rename_i hz_; exact absurd trivial hz_) | ((conv => whnf); (try simp only [Int.reduceToNat, Int.toNat_natCast, fp_up_c, fp_up_s, fp_up_i, fp_cp_c, fp_g_s, Nat.reduceBEq, Int.reduceAdd, Int.reduceSub, Int.reduceNeg, Int.reduceMul])))
      | (refine And.intro (by simp [fp_rg, fp_up, fp_cp] <;> omega) ?_; (conv => whnf); (try simp only [Int.reduceToNat, Int.toNat_natCast, fp_up_c, fp_up_s, fp_up_i, fp_cp_c, fp_g_s, Nat.reduceBEq, Int.reduceAdd, Int.reduceSub, Int.reduceNeg, Int.reduceMul]))
      | fail)
  simp only [Int.one_mul]
  exact hq
set_option maxHeartbeats 600000 in
set_option maxRecDepth 100000 in
theorem sp_leftLayersOf {L d : Nat} {a : Int} {H : FpH} {Q : FpQ} (h : 0 ≤ a ∧ a < 4) (hq : Q (some (.inl ((fp_ly a + 1) / 2))) H) : fp_Wp L (d + 1) 81 0 (fp_en 81 [.inl a]) [] H Q := by
  have hp := fp_pw h
  refine fp_go 1000 [] (fun KN KC hN hC => ?_)
  conv => whnf
  (try simp only [Int.reduceToNat, Int.toNat_natCast, fp_up_c, fp_up_s, fp_up_i, fp_cp_c, fp_g_s, Nat.reduceBEq, Int.reduceAdd, Int.reduceSub, Int.reduceNeg, Int.reduceMul])
  (repeat' first
      | (refine And.intro (by first | omega | (unfold fp_rg; omega)) ?_; (try intro _); (conv => whnf); (try simp only [Int.reduceToNat, Int.toNat_natCast, fp_up_c, fp_up_s, fp_up_i, fp_cp_c, fp_g_s, Nat.reduceBEq, Int.reduceAdd, Int.reduceSub, Int.reduceNeg, Int.reduceMul]))
      | (refine And.intro (fun _ => ?_) (fun _ => ?_) <;> first | (exfalso; omega) | (rename_i hz_; exact absurd trivial hz_) | ((conv => whnf); (try simp only [Int.reduceToNat, Int.toNat_natCast, fp_up_c, fp_up_s, fp_up_i, fp_cp_c, fp_g_s, Nat.reduceBEq, Int.reduceAdd, Int.reduceSub, Int.reduceNeg, Int.reduceMul])))
      | (refine And.intro (by simp [fp_rg, fp_up, fp_cp] <;> omega) ?_; (conv => whnf); (try simp only [Int.reduceToNat, Int.toNat_natCast, fp_up_c, fp_up_s, fp_up_i, fp_cp_c, fp_g_s, Nat.reduceBEq, Int.reduceAdd, Int.reduceSub, Int.reduceNeg, Int.reduceMul]))
      | fail)
  refine hC _ _ _ _ ⟨_, rfl, ?_⟩
  refine sp_layersOf h ?_
  conv => whnf
  (try simp only [Int.reduceToNat, Int.toNat_natCast, fp_up_c, fp_up_s, fp_up_i, fp_cp_c, fp_g_s, Nat.reduceBEq, Int.reduceAdd, Int.reduceSub, Int.reduceNeg, Int.reduceMul])
  (repeat' first
      | (refine And.intro (by first | omega | (unfold fp_rg; omega)) ?_; (try intro _); (conv => whnf); (try simp only [Int.reduceToNat, Int.toNat_natCast, fp_up_c, fp_up_s, fp_up_i, fp_cp_c, fp_g_s, Nat.reduceBEq, Int.reduceAdd, Int.reduceSub, Int.reduceNeg, Int.reduceMul]))
      | (refine And.intro (fun _ => ?_) (fun _ => ?_) <;> first | (exfalso; omega) | (rename_i hz_; exact absurd trivial hz_) | ((conv => whnf); (try simp only [Int.reduceToNat, Int.toNat_natCast, fp_up_c, fp_up_s, fp_up_i, fp_cp_c, fp_g_s, Nat.reduceBEq, Int.reduceAdd, Int.reduceSub, Int.reduceNeg, Int.reduceMul])))
      | (refine And.intro (by simp [fp_rg, fp_up, fp_cp] <;> omega) ?_; (conv => whnf); (try simp only [Int.reduceToNat, Int.toNat_natCast, fp_up_c, fp_up_s, fp_up_i, fp_cp_c, fp_g_s, Nat.reduceBEq, Int.reduceAdd, Int.reduceSub, Int.reduceNeg, Int.reduceMul]))
      | fail)
  exact hq
set_option maxHeartbeats 600000 in
set_option maxRecDepth 100000 in
theorem sp_rightLayersOf {L d : Nat} {a : Int} {H : FpH} {Q : FpQ} (h : 0 ≤ a ∧ a < 4) (hq : Q (some (.inl (fp_ly a / 2))) H) : fp_Wp L (d + 1) 82 0 (fp_en 82 [.inl a]) [] H Q := by
  have hp := fp_pw h
  refine fp_go 1000 [] (fun KN KC hN hC => ?_)
  conv => whnf
  (try simp only [Int.reduceToNat, Int.toNat_natCast, fp_up_c, fp_up_s, fp_up_i, fp_cp_c, fp_g_s, Nat.reduceBEq, Int.reduceAdd, Int.reduceSub, Int.reduceNeg, Int.reduceMul])
  (repeat' first
      | (refine And.intro (by first | omega | (unfold fp_rg; omega)) ?_; (try intro _); (conv => whnf); (try simp only [Int.reduceToNat, Int.toNat_natCast, fp_up_c, fp_up_s, fp_up_i, fp_cp_c, fp_g_s, Nat.reduceBEq, Int.reduceAdd, Int.reduceSub, Int.reduceNeg, Int.reduceMul]))
      | (refine And.intro (fun _ => ?_) (fun _ => ?_) <;> first | (exfalso; omega) | (rename_i hz_; exact absurd trivial hz_) | ((conv => whnf); (try simp only [Int.reduceToNat, Int.toNat_natCast, fp_up_c, fp_up_s, fp_up_i, fp_cp_c, fp_g_s, Nat.reduceBEq, Int.reduceAdd, Int.reduceSub, Int.reduceNeg, Int.reduceMul])))
      | (refine And.intro (by simp [fp_rg, fp_up, fp_cp] <;> omega) ?_; (conv => whnf); (try simp only [Int.reduceToNat, Int.toNat_natCast, fp_up_c, fp_up_s, fp_up_i, fp_cp_c, fp_g_s, Nat.reduceBEq, Int.reduceAdd, Int.reduceSub, Int.reduceNeg, Int.reduceMul]))
      | fail)
  refine hC _ _ _ _ ⟨_, rfl, ?_⟩
  refine sp_layersOf h ?_
  conv => whnf
  (try simp only [Int.reduceToNat, Int.toNat_natCast, fp_up_c, fp_up_s, fp_up_i, fp_cp_c, fp_g_s, Nat.reduceBEq, Int.reduceAdd, Int.reduceSub, Int.reduceNeg, Int.reduceMul])
  (repeat' first
      | (refine And.intro (by first | omega | (unfold fp_rg; omega)) ?_; (try intro _); (conv => whnf); (try simp only [Int.reduceToNat, Int.toNat_natCast, fp_up_c, fp_up_s, fp_up_i, fp_cp_c, fp_g_s, Nat.reduceBEq, Int.reduceAdd, Int.reduceSub, Int.reduceNeg, Int.reduceMul]))
      | (refine And.intro (fun _ => ?_) (fun _ => ?_) <;> first | (exfalso; omega) | (rename_i hz_; exact absurd trivial hz_) | ((conv => whnf); (try simp only [Int.reduceToNat, Int.toNat_natCast, fp_up_c, fp_up_s, fp_up_i, fp_cp_c, fp_g_s, Nat.reduceBEq, Int.reduceAdd, Int.reduceSub, Int.reduceNeg, Int.reduceMul])))
      | (refine And.intro (by simp [fp_rg, fp_up, fp_cp] <;> omega) ?_; (conv => whnf); (try simp only [Int.reduceToNat, Int.toNat_natCast, fp_up_c, fp_up_s, fp_up_i, fp_cp_c, fp_g_s, Nat.reduceBEq, Int.reduceAdd, Int.reduceSub, Int.reduceNeg, Int.reduceMul]))
      | fail)
  exact hq
set_option maxHeartbeats 600000 in
set_option maxRecDepth 100000 in
theorem sp_lhas {L d g : Nat} {a : Int} {H : FpH} {Q : FpQ} (h1 : 0 ≤ a ∧ a < H g 9 3 → Q (some (.inl 1)) H) (h0 : ¬ (0 ≤ a ∧ a < H g 9 3) → Q (some (.inl 0)) H) : fp_Wp L d 4 0 (fp_en 4 [.inr (g, 9), .inl a]) [] H Q := by
  refine fp_go 1000 [] (fun KN KC hN hC => ?_)
  conv => whnf
  (try simp only [Int.reduceToNat, Int.toNat_natCast, fp_up_c, fp_up_s, fp_up_i, fp_cp_c, fp_g_s, Nat.reduceBEq, Int.reduceAdd, Int.reduceSub, Int.reduceNeg, Int.reduceMul])
  (repeat' first
      | (refine And.intro (by first | omega | (unfold fp_rg; omega)) ?_; (try intro _); (conv => whnf); (try simp only [Int.reduceToNat, Int.toNat_natCast, fp_up_c, fp_up_s, fp_up_i, fp_cp_c, fp_g_s, Nat.reduceBEq, Int.reduceAdd, Int.reduceSub, Int.reduceNeg, Int.reduceMul]))
      | (refine And.intro (fun _ => ?_) (fun _ => ?_) <;> first | (exfalso; omega) | (rename_i hz_; exact absurd trivial hz_) | ((conv => whnf); (try simp only [Int.reduceToNat, Int.toNat_natCast, fp_up_c, fp_up_s, fp_up_i, fp_cp_c, fp_g_s, Nat.reduceBEq, Int.reduceAdd, Int.reduceSub, Int.reduceNeg, Int.reduceMul])))
      | (refine And.intro (by simp [fp_rg, fp_up, fp_cp] <;> omega) ?_; (conv => whnf); (try simp only [Int.reduceToNat, Int.toNat_natCast, fp_up_c, fp_up_s, fp_up_i, fp_cp_c, fp_g_s, Nat.reduceBEq, Int.reduceAdd, Int.reduceSub, Int.reduceNeg, Int.reduceMul]))
      | fail)
  all_goals first | exact h0 (by omega) | exact h1 (by omega)
set_option maxHeartbeats 600000 in
set_option maxRecDepth 100000 in
theorem sp_phas {L d g : Nat} {a : Int} {H : FpH} {Q : FpQ} (h1 : 0 ≤ a ∧ a < H g 1 4 → Q (some (.inl 1)) H) (h0 : ¬ (0 ≤ a ∧ a < H g 1 4) → Q (some (.inl 0)) H) : fp_Wp L d 12 0 (fp_en 12 [.inr (g, 1), .inl a]) [] H Q := by
  refine fp_go 1000 [] (fun KN KC hN hC => ?_)
  conv => whnf
  (try simp only [Int.reduceToNat, Int.toNat_natCast, fp_up_c, fp_up_s, fp_up_i, fp_cp_c, fp_g_s, Nat.reduceBEq, Int.reduceAdd, Int.reduceSub, Int.reduceNeg, Int.reduceMul])
  (repeat' first
      | (refine And.intro (by first | omega | (unfold fp_rg; omega)) ?_; (try intro _); (conv => whnf); (try simp only [Int.reduceToNat, Int.toNat_natCast, fp_up_c, fp_up_s, fp_up_i, fp_cp_c, fp_g_s, Nat.reduceBEq, Int.reduceAdd, Int.reduceSub, Int.reduceNeg, Int.reduceMul]))
      | (refine And.intro (fun _ => ?_) (fun _ => ?_) <;> first | (exfalso; omega) | (rename_i hz_; exact absurd trivial hz_) | ((conv => whnf); (try simp only [Int.reduceToNat, Int.toNat_natCast, fp_up_c, fp_up_s, fp_up_i, fp_cp_c, fp_g_s, Nat.reduceBEq, Int.reduceAdd, Int.reduceSub, Int.reduceNeg, Int.reduceMul])))
      | (refine And.intro (by simp [fp_rg, fp_up, fp_cp] <;> omega) ?_; (conv => whnf); (try simp only [Int.reduceToNat, Int.toNat_natCast, fp_up_c, fp_up_s, fp_up_i, fp_cp_c, fp_g_s, Nat.reduceBEq, Int.reduceAdd, Int.reduceSub, Int.reduceNeg, Int.reduceMul]))
      | fail)
  all_goals first | exact h0 (by omega) | exact h1 (by omega)
set_option maxHeartbeats 600000 in
set_option maxRecDepth 100000 in
theorem sp_shas {L d g : Nat} {a : Int} {H : FpH} {Q : FpQ} (h1 : 0 ≤ a ∧ a < H g 6 2 → Q (some (.inl 1)) H) (h0 : ¬ (0 ≤ a ∧ a < H g 6 2) → Q (some (.inl 0)) H) : fp_Wp L d 45 0 (fp_en 45 [.inr (g, 6), .inl a]) [] H Q := by
  refine fp_go 1000 [] (fun KN KC hN hC => ?_)
  conv => whnf
  (try simp only [Int.reduceToNat, Int.toNat_natCast, fp_up_c, fp_up_s, fp_up_i, fp_cp_c, fp_g_s, Nat.reduceBEq, Int.reduceAdd, Int.reduceSub, Int.reduceNeg, Int.reduceMul])
  (repeat' first
      | (refine And.intro (by first | omega | (unfold fp_rg; omega)) ?_; (try intro _); (conv => whnf); (try simp only [Int.reduceToNat, Int.toNat_natCast, fp_up_c, fp_up_s, fp_up_i, fp_cp_c, fp_g_s, Nat.reduceBEq, Int.reduceAdd, Int.reduceSub, Int.reduceNeg, Int.reduceMul]))
      | (refine And.intro (fun _ => ?_) (fun _ => ?_) <;> first | (exfalso; omega) | (rename_i hz_; exact absurd trivial hz_) | ((conv => whnf); (try simp only [Int.reduceToNat, Int.toNat_natCast, fp_up_c, fp_up_s, fp_up_i, fp_cp_c, fp_g_s, Nat.reduceBEq, Int.reduceAdd, Int.reduceSub, Int.reduceNeg, Int.reduceMul])))
      | (refine And.intro (by simp [fp_rg, fp_up, fp_cp] <;> omega) ?_; (conv => whnf); (try simp only [Int.reduceToNat, Int.toNat_natCast, fp_up_c, fp_up_s, fp_up_i, fp_cp_c, fp_g_s, Nat.reduceBEq, Int.reduceAdd, Int.reduceSub, Int.reduceNeg, Int.reduceMul]))
      | fail)
  all_goals first | exact h0 (by omega) | exact h1 (by omega)
set_option maxHeartbeats 600000 in
set_option maxRecDepth 100000 in
theorem sp_lfull {L d g : Nat} {H : FpH} {Q : FpQ} (h1 : 12 ≤ H g 9 3 → Q (some (.inl 1)) H) (h0 : ¬ (12 ≤ H g 9 3) → Q (some (.inl 0)) H) : fp_Wp L d 5 0 (fp_en 5 [.inr (g, 9)]) [] H Q := by
  refine fp_go 1000 [] (fun KN KC hN hC => ?_)
  conv => whnf
  (try simp only [Int.reduceToNat, Int.toNat_natCast, fp_up_c, fp_up_s, fp_up_i, fp_cp_c, fp_g_s, Nat.reduceBEq, Int.reduceAdd, Int.reduceSub, Int.reduceNeg, Int.reduceMul])
  (repeat' first
      | (refine And.intro (by first | omega | (unfold fp_rg; omega)) ?_; (try intro _); (conv => whnf); (try simp only [Int.reduceToNat, Int.toNat_natCast, fp_up_c, fp_up_s, fp_up_i, fp_cp_c, fp_g_s, Nat.reduceBEq, Int.reduceAdd, Int.reduceSub, Int.reduceNeg, Int.reduceMul]))
      | (refine And.intro (fun _ => ?_) (fun _ => ?_) <;> first | (exfalso; omega) | (rename_i hz_; exact absurd trivial hz_) | ((conv => whnf); (try simp only [Int.reduceToNat, Int.toNat_natCast, fp_up_c, fp_up_s, fp_up_i, fp_cp_c, fp_g_s, Nat.reduceBEq, Int.reduceAdd, Int.reduceSub, Int.reduceNeg, Int.reduceMul])))
      | (refine And.intro (by simp [fp_rg, fp_up, fp_cp] <;> omega) ?_; (conv => whnf); (try simp only [Int.reduceToNat, Int.toNat_natCast, fp_up_c, fp_up_s, fp_up_i, fp_cp_c, fp_g_s, Nat.reduceBEq, Int.reduceAdd, Int.reduceSub, Int.reduceNeg, Int.reduceMul]))
      | fail)
  all_goals first | exact h0 (by omega) | exact h1 (by omega)
set_option maxHeartbeats 600000 in
set_option maxRecDepth 100000 in
theorem sp_pfull {L d g : Nat} {H : FpH} {Q : FpQ} (h1 : 10 ≤ H g 1 4 → Q (some (.inl 1)) H) (h0 : ¬ (10 ≤ H g 1 4) → Q (some (.inl 0)) H) : fp_Wp L d 13 0 (fp_en 13 [.inr (g, 1)]) [] H Q := by
  refine fp_go 1000 [] (fun KN KC hN hC => ?_)
  conv => whnf
  (try simp only [Int.reduceToNat, Int.toNat_natCast, fp_up_c, fp_up_s, fp_up_i, fp_cp_c, fp_g_s, Nat.reduceBEq, Int.reduceAdd, Int.reduceSub, Int.reduceNeg, Int.reduceMul])
  (repeat' first
      | (refine And.intro (by first | omega | (unfold fp_rg; omega)) ?_; (try intro _); (conv => whnf); (try simp only [Int.reduceToNat, Int.toNat_natCast, fp_up_c, fp_up_s, fp_up_i, fp_cp_c, fp_g_s, Nat.reduceBEq, Int.reduceAdd, Int.reduceSub, Int.reduceNeg, Int.reduceMul]))
      | (refine And.intro (fun _ => ?_) (fun _ => ?_) <;> first | (exfalso; omega) | (rename_i hz_; exact absurd trivial hz_) | ((conv => whnf); (try simp only [Int.reduceToNat, Int.toNat_natCast, fp_up_c, fp_up_s, fp_up_i, fp_cp_c, fp_g_s, Nat.reduceBEq, Int.reduceAdd, Int.reduceSub, Int.reduceNeg, Int.reduceMul])))
      | (refine And.intro (by simp [fp_rg, fp_up, fp_cp] <;> omega) ?_; (conv => whnf); (try simp only [Int.reduceToNat, Int.toNat_natCast, fp_up_c, fp_up_s, fp_up_i, fp_cp_c, fp_g_s, Nat.reduceBEq, Int.reduceAdd, Int.reduceSub, Int.reduceNeg, Int.reduceMul]))
      | fail)
  all_goals first | exact h0 (by omega) | exact h1 (by omega)
set_option maxHeartbeats 600000 in
set_option maxRecDepth 100000 in
theorem sp_sfull {L d g : Nat} {H : FpH} {Q : FpQ} (h1 : 6 ≤ H g 6 2 → Q (some (.inl 1)) H) (h0 : ¬ (6 ≤ H g 6 2) → Q (some (.inl 0)) H) : fp_Wp L d 46 0 (fp_en 46 [.inr (g, 6)]) [] H Q := by
  refine fp_go 1000 [] (fun KN KC hN hC => ?_)
  conv => whnf
  (try simp only [Int.reduceToNat, Int.toNat_natCast, fp_up_c, fp_up_s, fp_up_i, fp_cp_c, fp_g_s, Nat.reduceBEq, Int.reduceAdd, Int.reduceSub, Int.reduceNeg, Int.reduceMul])
  (repeat' first
      | (refine And.intro (by first | omega | (unfold fp_rg; omega)) ?_; (try intro _); (conv => whnf); (try simp only [Int.reduceToNat, Int.toNat_natCast, fp_up_c, fp_up_s, fp_up_i, fp_cp_c, fp_g_s, Nat.reduceBEq, Int.reduceAdd, Int.reduceSub, Int.reduceNeg, Int.reduceMul]))
      | (refine And.intro (fun _ => ?_) (fun _ => ?_) <;> first | (exfalso; omega) | (rename_i hz_; exact absurd trivial hz_) | ((conv => whnf); (try simp only [Int.reduceToNat, Int.toNat_natCast, fp_up_c, fp_up_s, fp_up_i, fp_cp_c, fp_g_s, Nat.reduceBEq, Int.reduceAdd, Int.reduceSub, Int.reduceNeg, Int.reduceMul])))
      | (refine And.intro (by simp [fp_rg, fp_up, fp_cp] <;> omega) ?_; (conv => whnf); (try simp only [Int.reduceToNat, Int.toNat_natCast, fp_up_c, fp_up_s, fp_up_i, fp_cp_c, fp_g_s, Nat.reduceBEq, Int.reduceAdd, Int.reduceSub, Int.reduceNeg, Int.reduceMul]))
      | fail)
  all_goals first | exact h0 (by omega) | exact h1 (by omega)
