/-! bits of the flats, of the marks, of the bytes -/
theorem and1 (x : BitVec 32) : x &&& 1#32 = if x.getLsbD 0 then 1#32 else 0#32 := by
  apply BitVec.eq_of_getLsbD_eq
  intro i hi
  rw [BitVec.getLsbD_and]
  by_cases h : i = 0
  · subst h
    cases hx : x.getLsbD 0 <;> simp
  · have e1 : (1#32).getLsbD i = false := by rw [BitVec.getLsbD_one]; simp [h]
    rw [e1]
    cases hx : x.getLsbD 0 <;> simp [e1]
def btA (a : Int) (h : Int) : Bool := (iI a).toBitVec.getLsbD h.toNat
theorem sh_at {a h : Int} (hh : 0 ≤ h ∧ h ≤ 12) : (iI a >>> (iI h &&& 31)).toBitVec.getLsbD 0 = btA a h := by
  have key : ∀ v : Nat, v < 13 → (iI v &&& 31).toBitVec.smod 32 = BitVec.ofNat 32 v := by decide
  have k := key h.toNat (by omega)
  rw [Int.toNat_of_nonneg hh.1] at k
  rw [Int32.toBitVec_shiftRight, k]
  unfold BitVec.sshiftRight' btA
  have e : (BitVec.ofNat 32 h.toNat).toNat = h.toNat := by rw [BitVec.toNat_ofNat]; omega
  rw [e, BitVec.getLsbD_sshiftRight, if_pos (by omega)]
  simp
theorem bit_at {a h : Int} (hh : 0 ≤ h ∧ h ≤ 12) : bnd (bsr a h) 1 = if btA a h then 1 else 0 := by
  unfold bnd bsr
  rw [← iI_of]
  have e := sh_at (a := a) hh
  have h1 : (iI a >>> (iI h &&& 31)) &&& iI 1 = if btA a h then (1 : Int32) else 0 := by
    apply Int32.toBitVec_inj.mp
    rw [Int32.toBitVec_and, show (iI 1).toBitVec = 1#32 from rfl, and1, e]
    cases btA a h <;> rfl
  rw [h1]
  cases btA a h <;> rfl
theorem bt_0 {h : Int} : btA 0 h = false := by
  unfold btA
  rw [show (iI 0).toBitVec = 0#32 from rfl]
  exact BitVec.getLsbD_zero
theorem bit_0 {h : Int} (hh : 0 ≤ h ∧ h ≤ 12) : bnd (bsr 0 h) 1 = 0 := by rw [bit_at hh, bt_0]; rfl
theorem bt_sl {v h : Int} (hv : 0 ≤ v ∧ v ≤ 12) (hh : 0 ≤ h ∧ h ≤ 12) : btA (bsl 1 v) h = decide (h = v) := by
  have key : ∀ v : Nat, v < 13 → ∀ h : Nat, h < 13 → (((iI 1 <<< (iI v &&& 31)).toBitVec).getLsbD h = decide (v = h)) := by decide
  have k := key v.toNat (by omega) h.toNat (by omega)
  rw [Int.toNat_of_nonneg hv.1] at k
  unfold btA bsl
  rw [← iI_of, k]
  by_cases e : h = v
  · rw [e]; simp
  · have : ¬ v.toNat = h.toNat := by omega
    simp [e, this]
theorem bit_or {a v h : Int} (hv : 0 ≤ v ∧ v ≤ 12) (hh : 0 ≤ h ∧ h ≤ 12) : bnd (bsr (bor a (bsl 1 v)) h) 1 = if h = v then 1 else bnd (bsr a h) 1 := by
  rw [bit_at hh, bit_at hh]
  have e : btA (bor a (bsl 1 v)) h = (btA a h || btA (bsl 1 v) h) := by
    unfold btA bor
    rw [← iI_of, Int32.toBitVec_or, BitVec.getLsbD_or]
  rw [e, bt_sl hv hh]
  by_cases c : h = v
  · rw [if_pos c]; simp [c]
  · rw [if_neg c]; simp [c]
theorem bit_an {a v h : Int} (hv : 0 ≤ v ∧ v ≤ 12) (hh : 0 ≤ h ∧ h ≤ 12) : bnd (bsr (bnd a (bxr (bsl 1 v) (-1))) h) 1 = if h = v then 0 else bnd (bsr a h) 1 := by
  rw [bit_at hh, bit_at hh]
  have e : btA (bnd a (bxr (bsl 1 v) (-1))) h = (btA a h && !btA (bsl 1 v) h) := by
    unfold btA bnd bxr
    rw [← iI_of, ← iI_of, Int32.toBitVec_and, BitVec.getLsbD_and, Int32.toBitVec_xor, BitVec.getLsbD_xor, show (iI (-1)).toBitVec = BitVec.allOnes 32 from rfl, BitVec.getLsbD_allOnes]
    have : h.toNat < 32 := by omega
    simp [this]
  rw [e, bt_sl hv hh]
  by_cases c : h = v
  · rw [if_pos c]; simp [c]
  · rw [if_neg c]; simp [c]
/-- a mark that is not yet there -/
theorem mark_or {a b : Int} (ha : 0 ≤ a ∧ a ≤ 31) (h : bnd a (mkOf b) = 0) : bor a (mkOf b) = a + mkOf b ∧ a + mkOf b ≤ 31 := by
  have key : ∀ x : Nat, x < 32 → ∀ m : Nat, m = 0 ∨ m = 1 ∨ m = 2 ∨ m = 4 ∨ m = 8 ∨ m = 16 → bnd x m = 0 → bor x m = x + m ∧ (x : Int) + m ≤ 31 := by
    intro x hx m hm
    rcases hm with h | h | h | h | h | h <;> (subst h; revert x; decide)
  have hm : mkOf b = 0 ∨ mkOf b = 1 ∨ mkOf b = 2 ∨ mkOf b = 4 ∨ mkOf b = 8 ∨ mkOf b = 16 := by unfold mkOf; omega
  have k := key a.toNat (by omega) (mkOf b).toNat (by omega)
  rw [Int.toNat_of_nonneg ha.1, Int.toNat_of_nonneg (by omega)] at k
  exact k h
/-- a byte of a number -/
theorem byte_bv (x : BitVec 32) {n : Nat} (hn : n ≤ 24) : x >>> n &&& 255#32 = x.sshiftRight n &&& 255#32 := by
  apply BitVec.eq_of_getLsbD_eq
  intro i hi
  rw [BitVec.getLsbD_and, BitVec.getLsbD_and]
  have key : ∀ i : Nat, i < 32 → 8 ≤ i → (255#32).getLsbD i = false := by decide
  by_cases h : i < 8
  · rw [BitVec.getLsbD_sshiftRight, BitVec.getLsbD_ushiftRight, if_pos (by omega)]
    have : ¬ 32 ≤ i := by omega
    simp [this]
  · rw [key i hi (by omega)]
    simp
theorem byte_sh {a s : Int} (hs : s = 0 ∨ s = 8 ∨ s = 16 ∨ s = 24) : bnd (bus a s) 255 = bnd (bsr a s) 255 := by
  unfold bnd bus bsr
  rw [← iI_of, ← iI_of]
  apply congrArg Int32.toInt
  apply Int32.toBitVec_inj.mp
  rw [Int32.toBitVec_and, Int32.toBitVec_and, Int32.toBitVec_shiftRight, show (iI 255).toBitVec = 255#32 from rfl]
  rcases hs with h | h | h | h <;> subst h
  · exact byte_bv (iI a).toBitVec (n := 0) (by decide)
  · exact byte_bv (iI a).toBitVec (n := 8) (by decide)
  · exact byte_bv (iI a).toBitVec (n := 16) (by decide)
  · exact byte_bv (iI a).toBitVec (n := 24) (by decide)
