/-! a reading begins -/
theorem Rl_0 {I N : Nat → Int} {F : Nat → Int → Int} {K : Nat → Int} {G : Nat → Int → Int} (hn : N 0 = K 1) (ht : ∀ i : Int, 0 ≤ i → i < K 1 → F 0 i = G 0 i) (h9 : G 9 0 = 0) : Rl (stI I) (stN N) (stF F) (rdK (rbK K)) (rbG K G) := by
  have f9 : ∀ (f : Int → Int) (k : Int), 0 ≤ k → k < 6 → uI (uI (uI (uI (uI (uI f 0 0) 1 0) 2 0) 3 0) 4 0) 5 0 k = 0 := by
    intro f k h0 h1
    have d : k = 0 ∨ k = 1 ∨ k = 2 ∨ k = 3 ∨ k = 4 ∨ k = 5 := by omega
    rcases d with d | d | d | d | d | d <;> subst d <;> simp [uI]
  refine ⟨⟨⟨rfl, rfl, rfl, rfl, rfl, rfl, rfl, rfl, rfl, rfl⟩, ⟨f9 (F 9) 0 (by decide) (by decide), f9 (F 9) 1 (by decide) (by decide), f9 (F 9) 2 (by decide) (by decide), f9 (F 9) 3 (by decide) (by decide), f9 (F 9) 4 (by decide) (by decide), f9 (F 9) 5 (by decide) (by decide)⟩, ⟨rfl, rfl, rfl, rfl, rfl⟩, ⟨Int.le_refl 0, Int.le_refl 0⟩, rfl⟩, ?_, ?_, ?_, ?_⟩
  · intro s h0 h1
    have h1 : s < 0 := h1
    omega
  · intro n h0 h1
    have h1 : n < 0 := h1
    omega
  · refine ⟨fun _ => 0, fun _ => 0, fun _ => 0, fun _ => 4, fun _ _ => 0, fun _ => 0, ?_, ?_, ⟨rfl, rfl, rfl, rfl, rfl, rfl, rfl⟩, ?_, rfl, ?_, ?_, ?_, h9, h9, ?_, ?_, ?_, ?_⟩
    · intro k h0 h1
      have h1 : k < 0 := h1
      omega
    · intro k h0 h1
      exact ⟨⟨Int.le_refl 0, Int.le_refl 0⟩, ⟨Int.le_refl 0, Int.le_refl 0⟩, ⟨Int.le_refl 0, Int.le_refl 0⟩, show (0 : Int) ≤ 4 ∧ (4 : Int) ≤ 14 by decide⟩
    · intro k h
      show (0 : Int) ≤ 0 ∧ (0 : Int) ≤ 1
      decide
    · intro h h0 h1
      show bnd (bsr 0 h) 1 = if (1 : Int) = 1 then 0 else _
      rw [if_pos rfl, bit_0 ⟨h0, h1⟩]
    · intro s h0 h1
      have h1 : s < 0 := h1
      omega
    · intro k h0 h1
      have h1 : k < 0 := h1
      omega
    · intro q
      exact absurd (show (0 : Int) < 0 from q) (by decide)
    · intro q
      exact absurd (show (1 : Int) = 0 from q) (by decide)
    · intro q
      exact absurd (show (0 : Int) = 1 from q) (by decide)
    · intro q
      exact absurd (show (0 : Int) = 1 from q) (by decide)
  · refine ⟨hn, fun i h0 h1 => ?_⟩
    have h1 : i < K 1 := h1
    show F 0 i = cpT (G 2) (G 0) (K 1) i
    unfold cpT
    rw [if_pos ⟨h0, h1⟩]
    exact ht i h0 h1
theorem stI_r {I : Nat → Int} (hI : IR I) : IR (stI I) := by
  unfold stI
  repeat (first | exact hI | refine IR.up ?_ (by decide))
theorem stN_r {N : Nat → Int} (hN : NR N) : NR (stN N) := by
  unfold NR stN at *
  simp (disch := decide) only [uN_s, uN_n]
  omega
theorem stF_r {F : Nat → Int → Int} (hF : FR F) : FR (stF F) := hF.up (uI_r (uI_r (uI_r (uI_r (uI_r (uI_r (hF 9) (by decide)) (by decide)) (by decide)) (by decide)) (by decide)) (by decide))
theorem st_kpt {I N : Nat → Int} {F : Nat → Int → Int} : Kpt I N F (stI I) (stN N) (stF F) := by
  refine ⟨?_, ?_, ?_⟩
  · unfold stI
    repeat (first | exact fun _ _ => rfl | refine kI_w (by decide) ?_)
  · unfold stN
    repeat (first | exact fun _ _ => rfl | refine kN_w (by decide) ?_)
  · unfold stF
    exact kF_w (by decide) (fun _ _ => rfl)