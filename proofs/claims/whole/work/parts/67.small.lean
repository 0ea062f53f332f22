/-! small equalities: feed, mode, count -/
def eqT (f g : Int → Int) (n : Int) : Prop := ∀ i : Int, 0 ≤ i → i < n → f i = g i
theorem eqT_u {f g : Int → Int} {n v w : Int} (h : eqT f g n) (e : v = w) : eqT (uI f n v) (uI g n w) (n + 1) := by
  intro i h0 h1
  unfold uI
  by_cases c : i = n
  · rw [if_pos c, if_pos c, e]
  · rw [if_neg c, if_neg c]
    exact h i h0 (by omega)
theorem b255 (a : Int) : 0 ≤ bnd a 255 ∧ bnd a 255 < 256 := by
  unfold bnd
  have e : (iI a &&& iI 255).toInt = ((iI a).toBitVec &&& 255#32).toInt := by
    show (iI a &&& iI 255).toBitVec.toInt = _
    rw [Int32.toBitVec_and]
    rfl
  have l : ((iI a).toBitVec &&& 255#32).toNat ≤ 255 := by
    rw [BitVec.toNat_and]
    exact Nat.and_le_right
  rw [e, BitVec.toInt_eq_toNat_of_lt (by omega)]
  omega
def byT (g : Int → Int) (n : Int) : Prop := ∀ i : Int, 0 ≤ i → i < n → 0 ≤ g i ∧ g i < 256
theorem byT_u {g : Int → Int} {n a : Int} (h : byT g n) : byT (uI g n (bnd a 255)) (n + 1) := by
  intro i h0 h1
  unfold uI
  by_cases c : i = n
  · rw [if_pos c]; exact b255 a
  · rw [if_neg c]; exact h i h0 (by omega)
theorem feed_eq {f g : Int → Int} {n : Int} (h : eqT f g n) (a1 a2 a3 a4 a5 : Int) : eqT (fdF (fdF (fdF (fdF (fdF f n a1) (n + 1 + 1 + 1 + 1) a2) (n + 1 + 1 + 1 + 1 + 1 + 1 + 1 + 1) a3) (n + 1 + 1 + 1 + 1 + 1 + 1 + 1 + 1 + 1 + 1 + 1 + 1) a4) (n + 1 + 1 + 1 + 1 + 1 + 1 + 1 + 1 + 1 + 1 + 1 + 1 + 1 + 1 + 1 + 1) a5) (fdM g n a1 a2 a3 a4 a5) (n + 1 + 1 + 1 + 1 + 1 + 1 + 1 + 1 + 1 + 1 + 1 + 1 + 1 + 1 + 1 + 1 + 1 + 1 + 1 + 1) := by
  have s : ∀ a : Int, bnd (bus a 24) 255 = bnd (bsr a 24) 255 ∧ bnd (bus a 16) 255 = bnd (bsr a 16) 255 ∧ bnd (bus a 8) 255 = bnd (bsr a 8) 255 ∧ bnd (bus a 0) 255 = bnd (bsr a 0) 255 := fun a => ⟨byte_sh (by decide), byte_sh (by decide), byte_sh (by decide), byte_sh (by decide)⟩
  have st : ∀ {f g : Int → Int} {n : Int} (a : Int), eqT f g n → eqT (fdF f n a) (uI (uI (uI (uI g n (bnd (bsr a 24) 255)) (n + 1) (bnd (bsr a 16) 255)) (n + 1 + 1) (bnd (bsr a 8) 255)) (n + 1 + 1 + 1) (bnd (bsr a 0) 255)) (n + 1 + 1 + 1 + 1) := fun a h => eqT_u (eqT_u (eqT_u (eqT_u h (s a).1) (s a).2.1) (s a).2.2.1) (s a).2.2.2
  unfold fdM
  exact st a5 (st a4 (st a3 (st a2 (st a1 h))))
theorem feed_by {g : Int → Int} {n : Int} (h : byT g n) (a1 a2 a3 a4 a5 : Int) : byT (fdM g n a1 a2 a3 a4 a5) (n + 1 + 1 + 1 + 1 + 1 + 1 + 1 + 1 + 1 + 1 + 1 + 1 + 1 + 1 + 1 + 1 + 1 + 1 + 1 + 1) := by
  unfold fdM
  repeat (first | exact h | apply byT_u)
/-! the mode -/
def T41 (G : Nat → Int → Int) : Prop := ∀ i : Int, 0 ≤ i → i < 7 → G 41 i = if 1 ≤ i ∧ i ≤ 4 then 2 * i - 1 else 0
def T42 (G : Nat → Int → Int) : Prop := ∀ m : Int, 1 ≤ m → m ≤ 8 → G 42 m = tenI (m - 1)
theorem MT_of {G : Nat → Int → Int} (h : T41 G) : MT G := by
  intro i h0 h1
  rw [h i h0 h1]
  split <;> omega
theorem lowF_of {f : Int → Int} {a : Int} : ∀ n : Nat, lowF f a (n + 1) = if lwM f n < a then lwM f n else a := by
  intro n
  induction n with
  | zero => rfl
  | succ n ih =>
    have e : lowF f a (n + 1 + 1) = if f ((n + 1 : Nat) : Int) < lowF f a (n + 1) then f ((n + 1 : Nat) : Int) else lowF f a (n + 1) := rfl
    rw [e, ih, lwM, show ((n + 1 : Nat) : Int) = (n : Int) + 1 by omega]
    repeat' split
    all_goals omega
theorem hghF_of {f : Int → Int} {a : Int} : ∀ n : Nat, hghF f a (n + 1) = if a < hgM f n then hgM f n else a := by
  intro n
  induction n with
  | zero => rfl
  | succ n ih =>
    have e : hghF f a (n + 1 + 1) = if hghF f a (n + 1) < f ((n + 1 : Nat) : Int) then f ((n + 1 : Nat) : Int) else hghF f a (n + 1) := rfl
    rw [e, ih, hgM, show ((n + 1 : Nat) : Int) = (n : Int) + 1 by omega]
    repeat' split
    all_goals omega
theorem lwM_le {f : Int → Int} (n : Nat) : lwM f n ≤ f n := by
  cases n with
  | zero => exact Int.le_refl _
  | succ n =>
    rw [lwM, show ((n + 1 : Nat) : Int) = (n : Int) + 1 by omega]
    split <;> omega
theorem hgM_ge {f : Int → Int} (n : Nat) : f n ≤ hgM f n := by
  cases n with
  | zero => exact Int.le_refl _
  | succ n =>
    rw [hgM, show ((n + 1 : Nat) : Int) = (n : Int) + 1 by omega]
    split <;> omega
theorem lwM_c {f g : Int → Int} : ∀ n : Nat, (∀ i : Int, 0 ≤ i → i ≤ n → f i = g i) → lwM f n = lwM g n := by
  intro n
  induction n with
  | zero => intro h; exact h 0 (Int.le_refl 0) (Int.le_refl 0)
  | succ n ih => intro h; rw [lwM, lwM, ih (fun i a b => h i a (by omega)), h ((n : Int) + 1) (by omega) (by omega)]
theorem hgM_c {f g : Int → Int} : ∀ n : Nat, (∀ i : Int, 0 ≤ i → i ≤ n → f i = g i) → hgM f n = hgM g n := by
  intro n
  induction n with
  | zero => intro h; exact h 0 (Int.le_refl 0) (Int.le_refl 0)
  | succ n ih => intro h; rw [hgM, hgM, ih (fun i a b => h i a (by omega)), h ((n : Int) + 1) (by omega) (by omega)]
theorem mode_of {I N : Nat → Int} {F : Nat → Int → Int} {K : Nat → Int} {G : Nat → Int → Int} (h : RS I N F K G) (h41 : T41 G) (p : 0 < K 15) : finS N F = lsM K G ∧ lowS N F = lowM K G ∧ hghS N F = hghM K G ∧ modN N F = mdM K G ∧ SR N F ∧ SM K G := by
  obtain ⟨⟨_, _, _, h4, _, _, _⟩, _, hn, _⟩ := h
  have ef : finS N F = lsM K G := by unfold finS lsM; rw [h4]; exact (hn (K 15 - 1) (by omega) (by omega)).2.2.2.2.2.1
  have es : ∀ i : Int, 0 ≤ i → i ≤ (K 15 - 1).toNat → stepF F i = G 30 i := fun i a b => (hn i a (by omega)).2.2.2.2.2.1
  have lf : stepF F (K 15 - 1) = finS N F := by unfold finS stepF; rw [h4]
  have e15 : (N 4).toNat = (K 15 - 1).toNat + 1 := by rw [h4]; omega
  have t : ((K 15 - 1).toNat : Int) = K 15 - 1 := by omega
  have el : lowS N F = lowM K G := by
    unfold lowS lowM
    rw [e15, lowF_of, lwM_c _ es]
    have := lwM_le (f := stepF F) (K 15 - 1).toNat
    rw [t, lf, lwM_c _ es] at this
    split <;> omega
  have eh : hghS N F = hghM K G := by
    unfold hghS hghM
    rw [e15, hghF_of, hgM_c _ es]
    have := hgM_ge (f := stepF F) (K 15 - 1).toNat
    rw [t, lf, hgM_c _ es] at this
    split <;> omega
  refine ⟨ef, el, eh, ?_, fun k a b => ?_, fun k a b => ?_⟩
  · unfold modN mdM
    rw [ef, el, eh, h41 (lsM K G % 7) (by omega) (by omega)]
    generalize lsM K G % 7 = m
    by_cases c : 1 ≤ m ∧ m ≤ 4
    · rw [if_neg (by omega), if_pos c]
      by_cases d : 3 ≤ lsM K G - lowM K G ∧ hghM K G - lsM K G ≤ 5
      · rw [if_pos d, if_pos ⟨by omega, d⟩]
      · rw [if_neg d, if_neg (fun q => d q.2)]; omega
    · rw [if_pos (by omega), if_neg c, if_neg (by omega)]; rfl
  · have := hn k a (by omega)
    rw [this.2.2.2.2.2.1]
    have := this.2.2.2.2.2.2.2.2
    omega
  · have := (hn k a b).2.2.2.2.2.2.2.2
    omega
theorem mdM_r {K : Nat → Int} {G : Nat → Int → Int} (h41 : T41 G) : 0 ≤ mdM K G ∧ mdM K G ≤ 8 := by
  unfold mdM
  rw [h41 (lsM K G % 7) (by omega) (by omega)]
  split <;> split <;> omega
theorem mode2_of {N : Nat → Int} {F : Nat → Int → Int} {K : Nat → Int} {G : Nat → Int → Int} (e1 : finS N F = lsM K G) (e2 : modN N F = mdM K G) (h41 : T41 G) (h42 : T42 G) : (if modN N F < 1 then -100 else finS N F + tenI (modN N F - 1)) = (if mdM K G = 0 then -100 else lsM K G + G 42 (mdM K G)) := by
  have r := mdM_r (K := K) h41
  rw [e1, e2]
  by_cases c : mdM K G = 0
  · rw [if_pos c, if_pos (by omega)]
  · rw [if_neg c, if_neg (by omega), h42 _ (by omega) r.2]
theorem cnt_of {F : Nat → Int → Int} {K : Nat → Int} {G : Nat → Int → Int} : ∀ n : Nat, (∀ s : Int, 0 ≤ s → s < n → F 3 (s * 9 + 4) = cnM (G 18) s (K 15).toNat) → cnt0 (swn F) n = nzM K G n := by
  intro n
  induction n with
  | zero => intro _; rfl
  | succ n ih =>
    intro h
    rw [cnt0, nzM, ih (fun s a b => h s a (by omega))]
    have e : swn F n = cnM (G 18) n (K 15).toNat := h n (by omega) (by omega)
    rw [e]
    split <;> omega
