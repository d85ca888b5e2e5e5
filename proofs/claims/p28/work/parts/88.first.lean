/-! the addresses, and the first heap of numbers -/
def fk_ad (bs b27 b28 : Nat) (u : FkU) : Nat → Nat → Nat := fun g c =>
  if g = 0 then u.2.1 c else if g = 1 then u.2.2.1 c else if g = 2 then u.2.2.2.1 c else if g < 7 then u.2.2.2.2.1.2 (g - 3) c
  else if g = 7 then (if c = 14 then u.1 else if c < 17 then u.2.2.2.2.1.1 (c - 15) else u.2.2.2.2.2 (c - 17))
  else if c = 26 then bs else if c = 27 then b27 else b28
def fk_H (xs : Nat → Int32) : FpH := fun g c i =>
  if g < 7 then (if c = 0 then (if i = 4 then 10 else 0) else if c = 13 then fk_f i else 0)
  else if g = 7 then 0
  else if c = 26 then (xs i).toInt else if c = 27 then (if i = 2 then 1 else 0) else (if i = 0 then 9 else if i = 1 then 3 else 24)
def fk_ord : List (Nat × Nat) := [(7, 14), (0, 0), (0, 1), (0, 2), (0, 3), (0, 4), (0, 5), (0, 6), (0, 7), (0, 8), (0, 9), (0, 10), (0, 11), (0, 12), (0, 13), (1, 0), (1, 1), (1, 2), (1, 3), (1, 4), (1, 5), (1, 6), (1, 7), (1, 8), (1, 9), (1, 10), (1, 11), (1, 12), (1, 13), (2, 0), (2, 1), (2, 2), (2, 3), (2, 4), (2, 5), (2, 6), (2, 7), (2, 8), (2, 9), (2, 10), (2, 11), (2, 12), (2, 13), (7, 15), (7, 16), (3, 0), (3, 1), (3, 2), (3, 3), (3, 4), (3, 5), (3, 6), (3, 7), (3, 8), (3, 9), (3, 10), (3, 11), (3, 12), (3, 13), (4, 0), (4, 1), (4, 2), (4, 3), (4, 4), (4, 5), (4, 6), (4, 7), (4, 8), (4, 9), (4, 10), (4, 11), (4, 12), (4, 13), (5, 0), (5, 1), (5, 2), (5, 3), (5, 4), (5, 5), (5, 6), (5, 7), (5, 8), (5, 9), (5, 10), (5, 11), (5, 12), (5, 13), (6, 0), (6, 1), (6, 2), (6, 3), (6, 4), (6, 5), (6, 6), (6, 7), (6, 8), (6, 9), (6, 10), (6, 11), (6, 12), (6, 13), (7, 17), (7, 18), (7, 19), (7, 20), (7, 21)]
theorem fk_ord_in : ∀ x ∈ fp_cells, x ∈ fk_ord := by decide +kernel
theorem fk_ord_in2 : ∀ x ∈ fk_ord, x ∈ fp_cells := by decide +kernel
section FKW
variable {cI cC cO : ClassId} {bs b27 b28 : Nat} {xs : Nat → Int32} {D : va_G} {A : Nat → Prop} {Hp : Heap}
set_option maxHeartbeats 4000000 in
set_option maxRecDepth 100000 in
theorem fk_all (u : FkU) : fk_w6 cI cC cO u = fk_ord.map (fun q => (fk_ad bs b27 b28 u q.1 q.2, fp_ce (fk_ad bs b27 b28 u) cI cC cO (fk_H xs) q.1 q.2)) := by
  have hH : fk_Hf u.2.2.2.2.1.2 = fun i => if i < 4 then some (fk_ad bs b27 b28 u (3 + i) 0) else none := by
    funext i
    unfold fk_Hf
    by_cases h : i < 4
    · rw [if_pos h, if_pos h]
      unfold fk_ad
      rw [if_neg (by omega), if_neg (by omega), if_neg (by omega), if_pos (by omega), Nat.add_sub_cancel_left]
    · rw [if_neg h, if_neg h]
  unfold fk_w6 fk_wH
  rw [hH]
  rfl
theorem fk_at {u : FkU} {x : Nat × Nat} (hx : x ∈ fp_cells) : ∃ i : Nat, fk_ord[i]? = some x ∧ (fk_w6 cI cC cO u)[i]? = some (fk_ad bs b27 b28 u x.1 x.2, fp_ce (fk_ad bs b27 b28 u) cI cC cO (fk_H xs) x.1 x.2) := by
  obtain ⟨i, hi⟩ := List.getElem?_of_mem (fk_ord_in x hx)
  refine ⟨i, hi, ?_⟩
  rw [fk_all (bs := bs) (b27 := b27) (b28 := b28) (xs := xs), List.getElem?_map, hi]
  rfl
theorem fk_inj {u : FkU} (hD : va_D A (fk_w6 cI cC cO u)) : fp_inj (fk_ad bs b27 b28 u) := by
  intro x hx y hy hxy
  obtain ⟨i, i1, i2⟩ := fk_at (cI := cI) (cC := cC) (cO := cO) (bs := bs) (b27 := b27) (b28 := b28) (xs := fun _ => 0) (u := u) hx
  obtain ⟨j, j1, j2⟩ := fk_at (cI := cI) (cC := cC) (cO := cO) (bs := bs) (b27 := b27) (b28 := b28) (xs := fun _ => 0) (u := u) hy
  have := hD.1 i j _ _ i2 j2 hxy
  subst this
  exact Option.some.inj (i1.symm.trans j1)
theorem fk_sub {u : FkU} (hD : va_D A (fk_w6 cI cC cO u)) : ∀ q, fp_A (fk_ad bs b27 b28 u) q → A q := by
  rintro q ⟨x, hx, rfl⟩
  obtain ⟨i, i1, i2⟩ := fk_at (cI := cI) (cC := cC) (cO := cO) (bs := bs) (b27 := b27) (b28 := b28) (xs := fun _ => 0) (u := u) hx
  exact hD.2 i _ i2
theorem fk_P {u : FkU} (hP : va_P D fp_cl (fk_w6 cI cC cO u) Hp) : va_P D fp_cl (fp_W (fk_ad bs b27 b28 u) cI cC cO (fk_H xs)) Hp := by
  intro k q hk
  unfold fp_W at hk
  obtain ⟨x, hx, rfl⟩ := List.mem_map.mp (List.mem_of_getElem? hk)
  obtain ⟨i, i1, i2⟩ := fk_at (cI := cI) (cC := cC) (cO := cO) (bs := bs) (b27 := b27) (b28 := b28) (xs := xs) (u := u) hx
  exact hP i _ i2
end FKW
set_option maxRecDepth 100000 in
theorem fk_ok (xs : Nat → Int32) : fp_okH (fk_H xs) := by
  intro g c i
  unfold fk_H
  (repeat' split) <;> first | exact fp_rg_t _ | (unfold fp_rg; omega) | (unfold fk_f fp_rg; (repeat' split) <;> omega)
/-! what holds at the start -/
theorem fk_e0 {xs : Nat → Int32} {g c i : Nat} (hg : g < 7) (h1 : c ≠ 0) (h2 : c ≠ 13) : fk_H xs g c i = 0 := by
  unfold fk_H
  rw [if_pos hg, if_neg h1, if_neg h2]
theorem fk_I (xs : Nat → Int32) : fq_I 1 (fk_H xs 0) := by
  have e0 : ∀ c i, c ≠ 0 → c ≠ 13 → fk_H xs 0 c i = 0 := fun c i h1 h2 => fk_e0 (by omega) h1 h2
  have a14 := e0 1 4 (by omega) (by omega)
  have a62 := e0 6 2 (by omega) (by omega)
  have a93 := e0 9 3 (by omega) (by omega)
  have b0 : fk_H xs 0 13 0 = 1 := rfl
  have b1 : fk_H xs 0 13 1 = 0 := rfl
  have b2 : fk_H xs 0 13 2 = 8 := rfl
  refine ⟨⟨?_, ?_, ?_, ?_, ?_, ?_⟩, fun p j hp hj => ?_, fun p hp => ?_, fun p h1 h2 => ?_, fun s hs => ?_, fun t ht => ?_, fun k h1 h2 => ?_⟩
  · omega
  · omega
  · omega
  · omega
  · omega
  · omega
  · omega
  · rw [e0 3 p (by omega) (by omega), e0 4 p (by omega) (by omega), e0 5 p (by omega) (by omega)]; omega
  · rw [e0 3 p (by omega) (by omega), e0 4 p (by omega) (by omega), e0 5 p (by omega) (by omega)]; omega
  · omega
  · omega
  · have : fk_H xs 0 0 k = if k = 4 then 10 else 0 := rfl
    rw [this]; split <;> omega
theorem fk_N (xs : Nat → Int32) : fq_N (fk_H xs) := by
  intro g c i hg hc hr
  unfold fp_rel at hr
  unfold fk_H
  rw [if_pos hg]
  by_cases h0 : c = 0
  · subst h0
    rw [if_pos rfl, if_neg (by omega)]
  · rw [if_neg h0]
    by_cases h13 : c = 13
    · subst h13
      rw [if_pos rfl]
      unfold fk_f
      (repeat' split) <;> omega
    · rw [if_neg h13]
