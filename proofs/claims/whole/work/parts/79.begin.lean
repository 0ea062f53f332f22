/-! the start: class and reference as they are made -/
theorem tI_at {l : List Int} {i : Int} : tI l i = l.getD i.toNat 0 := rfl
theorem T41_0 : T41 G00 := by
  have key : ∀ n : Nat, n < 7 → tab41.getD n 0 = if 1 ≤ (n : Int) ∧ (n : Int) ≤ 4 then 2 * (n : Int) - 1 else 0 := by decide
  intro i h0 h1
  have k := key i.toNat (by omega)
  rw [Int.toNat_of_nonneg h0] at k
  exact k
theorem T42_0 : T42 G00 := by
  have key : ∀ n : Nat, n < 9 → 1 ≤ n → tab42.getD n 0 = ([4, 2, 5, 3, 4, 2, 4, 3] : List Int).getD (n - 1) 0 := by decide
  intro m h0 h1
  have k := key m.toNat (by omega) (by omega)
  show tab42.getD m.toNat 0 = ([4, 2, 5, 3, 4, 2, 4, 3] : List Int).getD (m - 1).toNat 0
  rw [show (m - 1).toNat = m.toNat - 1 by omega]
  exact k
theorem T46_0 : T46 G00 := by
  have key : ∀ t : Nat, t < 8 → ∀ k : Nat, k < 2 → tab46.getD (2 * t + k) 0 = tabC.getD (t * 20 + k) 0 := by decide +kernel
  intro t k h0 h1 h2 h3
  have q := key (t - 1).toNat (by omega) k.toNat (by omega)
  show tab46.getD (2 * (t - 1) + k).toNat 0 = tabC.getD ((t - 1) * 20 + k).toNat 0
  rw [show (2 * (t - 1) + k).toNat = 2 * (t - 1).toNat + k.toNat by omega, show ((t - 1) * 20 + k).toNat = (t - 1).toNat * 20 + k.toNat by omega]
  exact q
theorem T47_0 : T47 G00 := by
  have key : ∀ t : Nat, t < 8 → ∀ h : Nat, h < 2 → ∀ i : Nat, i < 9 → tab47.getD (18 * t + 9 * h + i) 0 = tabC.getD (t * 20 + (2 + h * 9 + i)) 0 := by decide +kernel
  intro t h i h0 h1 h2 h3 h4 h5
  have q := key (t - 1).toNat (by omega) h.toNat (by omega) i.toNat (by omega)
  show tab47.getD (18 * (t - 1) + 9 * h + i).toNat 0 = tabC.getD ((t - 1) * 20 + (2 + h * 9 + i)).toNat 0
  rw [show (18 * (t - 1) + 9 * h + i).toNat = 18 * (t - 1).toNat + 9 * h.toNat + i.toNat by omega, show ((t - 1) * 20 + (2 + h * 9 + i)).toNat = (t - 1).toNat * 20 + (2 + h.toNat * 9 + i.toNat) by omega]
  exact q
theorem tI_r {l : List Int} (h : l.all (fun a => decide (-2147483648 ≤ a ∧ a < 2147483648)) = true) : ∀ i, -2147483648 ≤ tI l i ∧ tI l i < 2147483648 := by
  intro i
  show -2147483648 ≤ l.getD i.toNat 0 ∧ l.getD i.toNat 0 < 2147483648
  rw [List.getD_eq_getElem?_getD]
  cases e : l[i.toNat]? with
  | none => decide
  | some a => exact of_decide_eq_true (List.all_eq_true.mp h a (List.mem_of_getElem? e))
theorem G00_r : FR G00 := by
  intro t i
  unfold G00
  split
  · exact tI_r (by decide) i
  split
  · exact tI_r (by decide) i
  split
  · exact tI_r (by decide) i
  split
  · exact tI_r (by decide) i
  split
  · exact tI_r (by decide) i
  split
  · exact tI_r (by decide) i
  · show (-2147483648 : Int) ≤ 0 ∧ (0 : Int) < 2147483648
    decide
theorem GI_0 : GI I00 N00 F00 K00 G00 := by
  refine ⟨⟨fun t i => by show (-2147483648 : Int) ≤ 0 ∧ (0 : Int) < 2147483648; decide, ?_, ?_, G00_r, ?_, ?_⟩, ⟨fun i _ _ => rfl, fun i _ _ => rfl, T41_0, T42_0, T46_0, T47_0⟩, ⟨rfl, rfl⟩, ⟨rfl, ?_, ?_⟩, ⟨rfl, ?_⟩, ⟨rfl, rfl, rfl, ?_, ?_⟩, ⟨⟨rfl, rfl, rfl, rfl, rfl, rfl, rfl⟩, ?_, ?_, ?_, ?_, ?_⟩, ?_, ?_, rfl, ?_⟩
  · intro k
    unfold I00
    split
    · decide
    split <;> decide
  · unfold NR N00
    decide
  · intro k
    unfold K00
    split
    · decide
    split <;> decide
  · unfold MR K00
    decide
  · intro i a b
    have b : i < 0 := b
    omega
  · intro i a b
    have b : i < 0 := b
    omega
  · intro i a b
    have b : i < 0 := b
    omega
  · intro i a b
    have b : i < 0 := b
    omega
  · intro i a b
    have b : i < 0 := b
    omega
  · intro i a b
    have b : i < 0 := b
    omega
  · intro i a b
    have b : i < 0 := b
    omega
  · intro i a b
    have b : i < 0 := b
    omega
  · intro i z a b
    have b : i < 0 := b
    omega
  · intro i a b
    have b : i < 0 := b
    omega
  · intro i a b
    have b : i < 0 := b
    omega
  · intro i a b
    have b : i < 0 := b
    omega
  · show ((mTx K00 G00).length : Int) ≤ 1500
    have e : mTx K00 G00 = [] := rfl
    rw [e]
    decide
