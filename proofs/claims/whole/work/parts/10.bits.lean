/-! bits over Int, switches over Int -/
def bnd (a b : Int) : Int := (iI a &&& iI b).toInt
def bor (a b : Int) : Int := (iI a ||| iI b).toInt
def bxr (a b : Int) : Int := (iI a ^^^ iI b).toInt
def bsl (a b : Int) : Int := (iI a <<< (iI b &&& 31)).toInt
def bsr (a b : Int) : Int := (iI a >>> (iI b &&& 31)).toInt
def bus (a b : Int) : Int := ((iI a).toUInt32 >>> ((iI b).toUInt32 &&& Int32.toUInt32 31)).toInt32.toInt
theorem bnd_r (a b : Int) : -2147483648 ≤ bnd a b ∧ bnd a b < 2147483648 := r32 _
theorem bor_r (a b : Int) : -2147483648 ≤ bor a b ∧ bor a b < 2147483648 := r32 _
theorem bxr_r (a b : Int) : -2147483648 ≤ bxr a b ∧ bxr a b < 2147483648 := r32 _
theorem bsl_r (a b : Int) : -2147483648 ≤ bsl a b ∧ bsl a b < 2147483648 := r32 _
theorem bsr_r (a b : Int) : -2147483648 ≤ bsr a b ∧ bsr a b < 2147483648 := r32 _
theorem bus_r (a b : Int) : -2147483648 ≤ bus a b ∧ bus a b < 2147483648 := r32 _
section VdBits
variable {R : Room} {ex : List (Nat × (Nat → Int32))} {M : MI} {n0 : Nat} {Z : XW → Option Value → Prop} {ca sl pc pc' : Nat} {ls : List (Option Value)} {st : List Value} {w : XW} {a b n : Int} {off : Int} {tgt : Nat}
theorem vi_and (hd : DcAt M.2.1 pc .iand 1 pc') (k : Vd R ex M n0 Z ca sl pc' ls (J (bnd a b) :: st) w) : Vd R ex M n0 Z ca sl pc ls (J b :: J a :: st) w := v_iand hd (by unfold bnd J at k; rw [← iI_of] at k; exact k)
theorem vi_or (hd : DcAt M.2.1 pc .ior 1 pc') (k : Vd R ex M n0 Z ca sl pc' ls (J (bor a b) :: st) w) : Vd R ex M n0 Z ca sl pc ls (J b :: J a :: st) w := v_ior hd (by unfold bor J at k; rw [← iI_of] at k; exact k)
theorem vi_xor (hd : DcAt M.2.1 pc .ixor 1 pc') (k : Vd R ex M n0 Z ca sl pc' ls (J (bxr a b) :: st) w) : Vd R ex M n0 Z ca sl pc ls (J b :: J a :: st) w := v_ixor hd (by unfold bxr J at k; rw [← iI_of] at k; exact k)
theorem vi_shl (hd : DcAt M.2.1 pc .ishl 1 pc') (k : Vd R ex M n0 Z ca sl pc' ls (J (bsl a b) :: st) w) : Vd R ex M n0 Z ca sl pc ls (J b :: J a :: st) w := v_ishl hd (by unfold bsl J at k; rw [← iI_of] at k; exact k)
theorem vi_shr (hd : DcAt M.2.1 pc .ishr 1 pc') (k : Vd R ex M n0 Z ca sl pc' ls (J (bsr a b) :: st) w) : Vd R ex M n0 Z ca sl pc ls (J b :: J a :: st) w := v_ishr hd (by unfold bsr J at k; rw [← iI_of] at k; exact k)
theorem vi_ushr (hd : DcAt M.2.1 pc .iushr 1 pc') (k : Vd R ex M n0 Z ca sl pc' ls (J (bus a b) :: st) w) : Vd R ex M n0 Z ca sl pc ls (J b :: J a :: st) w := v_iushr hd rfl (by unfold bus J at k; rw [← iI_of] at k; exact k)
theorem vi_lookup {dflt : Int} {ps : Array (Int × Int)} {len : Nat} (hd : DcAt M.2.1 pc (.lookupswitch dflt ps) len pc') (ha : -2147483648 ≤ a ∧ a < 2147483648) (hp : (ps.toList.zip (ps.toList.drop 1)).all (fun (a, next) => a.1 < next.1) = true) (ho : Op.lookupswitch.offset ps.toList dflt a = off) (ht : (pc : Int) + off = (tgt : Int)) (k : Vd R ex M n0 Z ca sl tgt ls st w) : Vd R ex M n0 Z ca sl pc ls (J a :: st) w := v_lookup hd hp (by rw [iI_toInt ha]; exact ho) ht k
theorem vi_tabIn {dflt lo hi : Int} {offs : Array Int} {len : Nat} (hd : DcAt M.2.1 pc (.tableswitch dflt lo hi offs) len pc') (ha : -2147483648 ≤ a ∧ a < 2147483648) (h1 : lo ≤ a) (h2 : a ≤ hi) (ho : offs[(a - lo).toNat]? = some off) (ht : (pc : Int) + off = (tgt : Int)) (k : Vd R ex M n0 Z ca sl tgt ls st w) : Vd R ex M n0 Z ca sl pc ls (J a :: st) w := v_tableIn hd (by rw [iI_toInt ha]; omega) (by rw [iI_toInt ha]; omega) (by rw [iI_toInt ha]; exact ho) ht k
theorem vi_tabOut {dflt lo hi : Int} {offs : Array Int} {len : Nat} (hd : DcAt M.2.1 pc (.tableswitch dflt lo hi offs) len pc') (ha : -2147483648 ≤ a ∧ a < 2147483648) (h : a < lo ∨ hi < a) (ht : (pc : Int) + dflt = (tgt : Int)) (k : Vd R ex M n0 Z ca sl tgt ls st w) : Vd R ex M n0 Z ca sl pc ls (J a :: st) w := v_tableOut hd (by rw [iI_toInt ha]; exact h) ht k
end VdBits
/-- every number held is an int -/
def FR (F : Nat → Int → Int) : Prop := ∀ (t : Nat) (i : Int), -2147483648 ≤ F t i ∧ F t i < 2147483648
def IR (I : Nat → Int) : Prop := ∀ k : Nat, -2147483648 ≤ I k ∧ I k < 2147483648
/-- every table has no more rows than its room -/
def NR (N : Nat → Int) : Prop := (0 ≤ N 0 ∧ N 0 ≤ 1500) ∧ (0 ≤ N 1 ∧ N 1 ≤ 1500) ∧ (0 ≤ N 2 ∧ N 2 ≤ 1500) ∧ (0 ≤ N 3 ∧ N 3 ≤ 60) ∧ (0 ≤ N 4 ∧ N 4 ≤ 150) ∧ (0 ≤ N 5 ∧ N 5 ≤ 150) ∧ (0 ≤ N 6 ∧ N 6 ≤ 30) ∧ (0 ≤ N 7 ∧ N 7 ≤ 20) ∧ (0 ≤ N 8 ∧ N 8 ≤ 260) ∧ (0 ≤ N 9 ∧ N 9 ≤ 6) ∧ (0 ≤ N 10 ∧ N 10 ≤ 40) ∧ (0 ≤ N 11 ∧ N 11 ≤ 40) ∧ (0 ≤ N 12 ∧ N 12 ≤ 41)
theorem FR.up {F : Nat → Int → Int} (h : FR F) {t : Nat} {g : Int → Int} (hg : ∀ i, -2147483648 ≤ g i ∧ g i < 2147483648) : FR (uN F t g) := by
  intro k i
  unfold uN
  by_cases hk : k = t
  · rw [if_pos hk]; exact hg i
  · rw [if_neg hk]; exact h k i
theorem uI_r {g : Int → Int} {j v : Int} (hg : ∀ i, -2147483648 ≤ g i ∧ g i < 2147483648) (hv : -2147483648 ≤ v ∧ v < 2147483648) : ∀ i, -2147483648 ≤ uI g j v i ∧ uI g j v i < 2147483648 := by
  intro i
  unfold uI
  by_cases hk : i = j
  · rw [if_pos hk]; exact hv
  · rw [if_neg hk]; exact hg i
theorem adf_r {g : Int → Int} {c n v : Int} (hg : ∀ i, -2147483648 ≤ g i ∧ g i < 2147483648) (hv : -2147483648 ≤ v ∧ v < 2147483648) : ∀ i, -2147483648 ≤ adf g c n v i ∧ adf g c n v i < 2147483648 := by
  intro i
  unfold adf clr
  by_cases hk : n * c + 1 ≤ i ∧ i < n * c + c
  · rw [if_pos hk]; omega
  · rw [if_neg hk]; exact uI_r hg hv i
theorem IR.up {I : Nat → Int} (h : IR I) {k : Nat} {v : Int} (hv : -2147483648 ≤ v ∧ v < 2147483648) : IR (uN I k v) := by
  intro j
  unfold uN
  by_cases hk : j = k
  · rw [if_pos hk]; exact hv
  · rw [if_neg hk]; exact h j
