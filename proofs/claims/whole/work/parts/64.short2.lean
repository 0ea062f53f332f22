/-! the length: a mark, a sign, a note -/
theorem ip_17 {G : Nat → Int → Int} {x : Int → Int} {k : Int} : ∀ (m : Nat) (j : Int), ipL (uN G 17 x) k m j = ipL G k m j := by
  intro m
  induction m with
  | zero => intro j; rfl
  | succ m ih =>
    intro j
    rw [ipL, ipL, ih]
    rfl
theorem sgn_17 {G : Nat → Int → Int} {x : Int → Int} {k e : Int} (h : G 11 k = 1 → x (G 13 k) = G 17 (G 13 k)) : mSgn (uN G 17 x) k e = mSgn G k e := by
  unfold mSgn
  rw [ip_17]
  by_cases c : G 11 k = 1
  · have e2 : mNt (uN G 17 x) k = mNt G k := by
      have h := h c
      unfold mNt
      show [97 + G 12 k] ++ wMk (x (G 13 k)) 46 1 ++ wMk (x (G 13 k)) 95 2 ++ wMk (x (G 13 k)) 118 4 ++ wMk (x (G 13 k)) 119 8 ++ wMk (x (G 13 k)) 126 16 = _
      rw [h]
    show (if G 11 k = 1 then _ else _) = _
    rw [if_pos c, if_pos c, e2]
  · show (if G 11 k = 1 then _ else _) = _
    rw [if_neg c, if_neg c]
    rfl
theorem sgs_17 {G : Nat → Int → Int} {x : Int → Int} {e : Int} : ∀ (m : Nat) (j : Int), (∀ k : Int, j ≤ k → k < j + m → G 11 k = 1 → x (G 13 k) = G 17 (G 13 k)) → mSgs (uN G 17 x) e m j = mSgs G e m j := by
  intro m
  induction m with
  | zero => intro j _; rfl
  | succ m ih =>
    intro j h
    rw [mSgs, mSgs, sgn_17 (h j (by omega) (by omega)), ih (j + 1) (fun k a b => h k (by omega) (by omega))]
def mkL (a : Int) : Int := (if bnd a 1 = 0 then 0 else 1) + (if bnd a 2 = 0 then 0 else 1) + (if bnd a 4 = 0 then 0 else 1) + (if bnd a 8 = 0 then 0 else 1) + (if bnd a 16 = 0 then 0 else 1)
theorem wMk_l (m c b : Int) : ((wMk m c b).length : Int) = if bnd m b = 0 then 0 else 1 := by
  unfold wMk
  split <;> rfl
theorem mNt_l {G : Nat → Int → Int} {k : Int} : ((mNt G k).length : Int) = 1 + mkL (G 17 (G 13 k)) := by
  unfold mNt mkL
  simp only [List.length_append]
  have e1 := wMk_l (G 17 (G 13 k)) 46 1
  have e2 := wMk_l (G 17 (G 13 k)) 95 2
  have e3 := wMk_l (G 17 (G 13 k)) 118 4
  have e4 := wMk_l (G 17 (G 13 k)) 119 8
  have e5 := wMk_l (G 17 (G 13 k)) 126 16
  have e0 : ([97 + G 12 k] : List Int).length = 1 := rfl
  omega
theorem mkL_or {a b : Int} (ha : 0 ≤ a ∧ a ≤ 31) (h : bnd a (mkOf b) = 0) (hb : ¬ mkOf b = 0) : mkL (bor a (mkOf b)) = mkL a + 1 := by
  have key : ∀ x : Nat, x < 32 → ∀ m : Nat, m = 1 ∨ m = 2 ∨ m = 4 ∨ m = 8 ∨ m = 16 → bnd x m = 0 → mkL (bor x m) = mkL x + 1 := by
    intro x hx m hm
    rcases hm with h | h | h | h | h <;> (subst h; revert x; decide)
  have hm : mkOf b = 1 ∨ mkOf b = 2 ∨ mkOf b = 4 ∨ mkOf b = 8 ∨ mkOf b = 16 := by unfold mkOf at hb ⊢; omega
  have k := key a.toNat (by omega) (mkOf b).toNat (by omega)
  rw [Int.toNat_of_nonneg ha.1, Int.toNat_of_nonneg (by omega)] at k
  exact k h
theorem LI_mk {K : Nat → Int} {G : Nat → Int → Int} {b : Int} (h : LI K G) (hf : Rf K G) (hp : PI K) (h60 : K 60 = 1) (h64 : K 64 = 1) (hb : ¬ mkOf b = 0) (hm : bnd (G 17 (K 15 - 1)) (mkOf b) = 0) : LI (adv K 1) (mkG (mkOf b) K G) := by
  obtain ⟨f1, f2, f3, f4, f5, f6, f7, f8, f9⟩ := hf
  have p61 := f6 h60
  have p62 := f5 p61
  have p3 := f4 p62
  have p15 : 0 < K 15 := hp.2.2.2.2.2.2.2.2.2.2.2.2.2.2.2 ⟨h64, h60⟩
  obtain ⟨l1, l2, l3, l4, l5, l6, l7⟩ := h
  obtain ⟨q9, q11⟩ := l7 h60 h64
  have w := f1 (K 3 - 1) (by omega) (by omega)
  obtain ⟨n1, n2⟩ := f8 (by omega) q11
  have x1 : ∀ k : Int, 0 ≤ k → k < K 10 - 1 → G 11 k = 1 → uI (G 17) (K 15 - 1) (bor (G 17 (K 15 - 1)) (mkOf b)) (G 13 k) = G 17 (G 13 k) := fun k a b c => uI_n (by have := n2 k a b c; omega)
  have l := Lx_last (K := K) (K' := adv K 1) (G := G) (G' := mkG (mkOf b) K G) p3 rfl (fun i a b => by
    have w2 := f1 i a (by omega)
    have m9 : G 9 (i + 1) ≤ G 9 (K 3 - 1) := by
      have : ∀ m : Nat, i + 1 + m ≤ K 3 - 1 → G 9 (i + 1) ≤ G 9 (i + 1 + m) := by
        intro m
        induction m with
        | zero => intro _; rw [show i + 1 + ((0 : Nat) : Int) = i + 1 by omega]; exact Int.le_refl _
        | succ m ih =>
          intro q
          have a1 := ih (by omega)
          have a2 := (f1 (i + 1 + m) (by omega) (by omega)).2.1
          rw [show i + 1 + ((m + 1 : Nat) : Int) = i + 1 + m + 1 by omega]
          omega
      have t := this (K 3 - 1 - (i + 1)).toNat (by omega)
      rw [show i + 1 + ((K 3 - 1 - (i + 1)).toNat : Int) = K 3 - 1 by omega] at t
      exact t
    exact mSy_c ⟨rfl, fun _ => rfl, rfl, rfl, rfl, rfl, rfl⟩ rfl (fun k a b => ⟨rfl, rfl, rfl, fun c => ⟨x1 k a (by omega) c, rfl⟩⟩) ⟨w2.1, w2.2.1⟩)
  have s0 := sy_len (G := G) (s := K 3 - 1) w.2.2.2
  have s1 := sy_len (G := mkG (mkOf b) K G) (s := K 3 - 1) w.2.2.2
  have g7 := l3 h60
  rw [bk_1 g7] at s0
  rw [bk_1 (G := mkG (mkOf b) K G) g7] at s1
  have e2 : mBl (mkG (mkOf b) K G) (K 3 - 1) = mBl G (K 3 - 1) := rfl
  have e5 : mkG (mkOf b) K G 5 (K 3 - 1) = G 5 (K 3 - 1) := rfl
  rw [e2, e5] at s1
  have t0 : mSs G (K 3 - 1) = mSgs G (K 10) (K 10 - 1 - G 9 (K 3 - 1)).toNat (G 9 (K 3 - 1)) ++ mSgn G (K 10 - 1) (K 10) := by
    unfold mSs
    rw [show K 3 - 1 + 1 = K 3 by omega, f2, show (K 10 - G 9 (K 3 - 1)).toNat = (K 10 - 1 - G 9 (K 3 - 1)).toNat + 1 by omega, sgs_snoc, show G 9 (K 3 - 1) + ((K 10 - 1 - G 9 (K 3 - 1)).toNat : Int) = K 10 - 1 by omega]
  have t1 : mSs (mkG (mkOf b) K G) (K 3 - 1) = mSgs G (K 10) (K 10 - 1 - G 9 (K 3 - 1)).toNat (G 9 (K 3 - 1)) ++ mSgn (mkG (mkOf b) K G) (K 10 - 1) (K 10) := by
    unfold mSs
    show mSgs (mkG (mkOf b) K G) (G 9 (K 3 - 1 + 1)) (G 9 (K 3 - 1 + 1) - G 9 (K 3 - 1)).toNat (G 9 (K 3 - 1)) = _
    rw [show K 3 - 1 + 1 = K 3 by omega, f2, show (K 10 - G 9 (K 3 - 1)).toNat = (K 10 - 1 - G 9 (K 3 - 1)).toNat + 1 by omega, sgs_snoc, show G 9 (K 3 - 1) + ((K 10 - 1 - G 9 (K 3 - 1)).toNat : Int) = K 10 - 1 by omega]
    unfold mkG
    rw [sgs_17 _ _ (fun k a b c => x1 k (by omega) (by omega) c)]
  rw [t0, List.length_append] at s0
  rw [t1, List.length_append] at s1
  have i0 : ∀ G1 : Nat → Int → Int, ipL G1 (K 10 - 1) (K 10 - (K 10 - 1 + 1)).toNat (K 10 - 1 + 1) = 0 := fun G1 => by rw [show (K 10 - (K 10 - 1 + 1)).toNat = 0 by omega]; rfl
  have u0 : mSgn G (K 10 - 1) (K 10) = mNt G (K 10 - 1) := by unfold mSgn; rw [if_pos q11, if_pos (i0 G)]
  have u1 : mSgn (mkG (mkOf b) K G) (K 10 - 1) (K 10) = mNt (mkG (mkOf b) K G) (K 10 - 1) := by unfold mSgn; rw [if_pos (show mkG (mkOf b) K G 11 (K 10 - 1) = 1 from q11), if_pos (i0 _)]
  have v0 := mNt_l (G := G) (k := K 10 - 1)
  have v1 := mNt_l (G := mkG (mkOf b) K G) (k := K 10 - 1)
  have y : mkG (mkOf b) K G 17 (mkG (mkOf b) K G 13 (K 10 - 1)) = bor (G 17 (K 15 - 1)) (mkOf b) := by
    show uI (G 17) (K 15 - 1) (bor (G 17 (K 15 - 1)) (mkOf b)) (G 13 (K 10 - 1)) = _
    rw [n1, uI_s]
  rw [y, mkL_or (f9 (K 15 - 1) (by omega) (by omega)) hm hb] at v1
  rw [n1] at v0
  rw [u0] at s0
  rw [u1] at s1
  have fin : Lx (adv K 1) (mkG (mkOf b) K G) = Lx K G + 1 := by omega
  refine ⟨?_, fun q => absurd (show K 62 = 1 from q) (by omega), fun _ => g7, fun _ q => absurd (show K 60 = 0 from q) (by omega), fun _ k a c d e => ?_, fun _ _ q => ?_, l7⟩
  · rw [fin]
    show _ ≤ K 29 + 1 + K 60
    omega
  · obtain ⟨z1, z2⟩ := l5 h60 k a c d e
    refine ⟨z1, fun q => ?_⟩
    have := z2 q
    rw [fin]
    show _ ≤ K 29 + 1
    omega
  · exact absurd (show G 11 (K 10 - 1) = 5 from q) (by omega)
theorem m9_le {K : Nat → Int} {G : Nat → Int → Int} (hf : Rf K G) {i : Int} (h0 : 0 ≤ i) (h1 : i ≤ K 3) : G 9 i ≤ K 10 := by
  by_cases e : i = K 3
  · rw [e, hf.2.1]; exact Int.le_refl _
  · have := hf.1 i h0 (by omega); omega
/-- a sign more: the length -/
theorem app_len {K K' : Nat → Int} {G G' : Nat → Int → Int} {X : Int} (hf : Rf K G) (p3 : 0 < K 3) (h7 : G 7 (K 3 - 1) = 1) (hA : Ag G G' (K 10)) (k3 : K' 3 = K 3) (g9 : G' 9 = uI (G 9) (K 3) (K 10 + 1)) (g2 : G' 2 = G 2) (g8 : G' 8 = G 8) (g5 : G' 5 = G 5) (g4 : G' 4 = G 4) (g7 : G' 7 = G 7) (hX0 : 0 ≤ X)
    (hX : ∀ k : Int, G 9 (K 3 - 1) ≤ k → k < K 10 → AllA G (k + 1) (K 10) → ((G 11 k = 1 ∧ G' 11 (K 10) = 1 ∧ ¬ G' 19 (G' 13 (K 10)) = G 19 (G 13 k)) ∨ (G 11 k = 5 ∧ G 12 k = 3 ∧ k + 1 = K 10 ∧ G' 11 (K 10) = 5 ∧ 3 ≤ G' 12 (K 10))) → 1 ≤ X) :
    Lx K' G' ≤ Lx K G + (mSgn G' (K 10) (K 10 + 1)).length + X := by
  obtain ⟨f1, f2, f3, f4, f5, f6, f7, f8, f9⟩ := hf
  have n9 : ∀ s : Int, s < K 3 → G' 9 s = G 9 s := fun s q => by rw [g9]; exact uI_n (by omega)
  have l := Lx_last (K := K) (K' := K') (G := G) (G' := G') p3 k3 (fun i a b => by
    have w2 := f1 i a (by omega)
    exact mSy_c ⟨by rw [g8], fun _ => by rw [g8], by rw [g5], by rw [g4], by rw [g7], n9 i (by omega), n9 (i + 1) (by omega)⟩ g2 (fun k a b => hA k a (by omega)) ⟨w2.1, w2.2.1⟩)
  have w := f1 (K 3 - 1) (by omega) (by omega)
  have s0 := sy_len (G := G) (s := K 3 - 1) w.2.2.2
  have s1 := sy_len (G := G') (s := K 3 - 1) (by rw [g5]; exact w.2.2.2)
  rw [bk_1 h7] at s0
  rw [bk_1 (by rw [g7]; exact h7)] at s1
  have e2 : (mBl G' (K 3 - 1)).length = (mBl G (K 3 - 1)).length := by unfold mBl; rw [g8]
  rw [g5, e2] at s1
  have a9 : G 9 (K 3 - 1) ≤ K 10 := by omega
  have t0 : mSs G (K 3 - 1) = mSgs G (K 10) (K 10 - G 9 (K 3 - 1)).toNat (G 9 (K 3 - 1)) := by
    unfold mSs
    rw [show K 3 - 1 + 1 = K 3 by omega, f2]
  have t1 : mSs G' (K 3 - 1) = mSgs G' (K 10 + 1) (K 10 - G 9 (K 3 - 1)).toNat (G 9 (K 3 - 1)) ++ mSgn G' (K 10) (K 10 + 1) := by
    unfold mSs
    rw [show K 3 - 1 + 1 = K 3 by omega, n9 (K 3 - 1) (by omega), show G' 9 (K 3) = K 10 + 1 by rw [g9, uI_s], show (K 10 + 1 - G 9 (K 3 - 1)).toNat = (K 10 - G 9 (K 3 - 1)).toNat + 1 by omega, sgs_snoc, show G 9 (K 3 - 1) + ((K 10 - G 9 (K 3 - 1)).toNat : Int) = K 10 by omega]
  have t2 := (sgs_app hA (fun i a b => (f7 i a b).1) hX0 (a := G 9 (K 3 - 1)) w.1 hX (K 10 - G 9 (K 3 - 1)).toNat (G 9 (K 3 - 1)) (Int.le_refl _) (by omega)).1
  rw [t0] at s0
  rw [t1, List.length_append] at s1
  omega
theorem pt_Ag {K : Nat → Int} {G : Nat → Int → Int} {kd v : Int} : Ag G (ptG K G kd v) (K 10) := fun k a b => ⟨uI_n (show k ≠ K 10 by omega), uI_n (show k ≠ K 10 by omega), uI_n (show k ≠ K 10 by omega), fun _ => ⟨rfl, rfl⟩⟩
/-- every sign but a note -/
theorem LI_sg {K K' : Nat → Int} {G : Nat → Int → Int} {kd v n q : Int} (h : LI K G) (hf : Rf K G) (hp : PI K) (h60 : K 60 = 1) (hk : 2 ≤ kd ∧ kd ≤ 6) (hv : kd = 5 → 1 ≤ v ∧ v ≤ 4)
    (hn : n = if kd ≤ 4 ∨ (kd = 5 ∧ v = 4) then 2 else 1) (hq : kd ≤ 3 → q = K 63) (hb : kd = 5 → 3 ≤ v → byB K G (K 29) = 58) (hb2 : kd = 5 → v = 3 → byB K G (K 29 + n) ≠ 58)
    (hK : K' 3 = K 3 ∧ K' 10 = K 10 + 1 ∧ K' 20 = K 20 ∧ K' 28 = K 28 ∧ K' 29 = K 29 + n ∧ K' 60 = K 60 ∧ K' 61 = K 61 ∧ K' 62 = K 62 ∧ K' 63 = q ∧ K' 64 = 0) : LI K' (ptG K G kd v) := by
  obtain ⟨k3, k10, k20, k28, k29, k60, k61, k62, k63, k64⟩ := hK
  have hf0 := hf
  obtain ⟨f1, f2, f3, f4, f5, f6, f7, f8, f9⟩ := hf
  have p10 : 0 ≤ K 10 := hp.1.2.2.1.1
  have p61 := f6 h60
  have p62 := f5 p61
  have p3 := f4 p62
  obtain ⟨l1, l2, l3, l4, l5, l6, l7⟩ := h
  have g7 := l3 h60
  have w := f1 (K 3 - 1) (by omega) (by omega)
  have g11 : ptG K G kd v 11 (K 10) = kd := by show uI (G 11) (K 10) kd (K 10) = kd; rw [uI_s]
  have g12 : ptG K G kd v 12 (K 10) = v := by show uI (G 12) (K 10) v (K 10) = v; rw [uI_s]
  have o11 : ∀ k : Int, k < K 10 → ptG K G kd v 11 k = G 11 k := fun k z => uI_n (show k ≠ K 10 by omega)
  have o9 : ptG K G kd v 9 (K 3 - 1) = G 9 (K 3 - 1) := uI_n (show K 3 - 1 ≠ K 3 by omega)
  have sl : ((mSgn (ptG K G kd v) (K 10) (K 10 + 1)).length : Int) = n := by
    unfold mSgn
    rw [g11, g12, if_neg (by omega)]
    by_cases c2 : kd = 2
    · rw [if_pos c2, hn, if_pos (Or.inl (by omega))]; rfl
    rw [if_neg c2]
    by_cases c3 : kd = 3
    · rw [if_pos c3, hn, if_pos (Or.inl (by omega))]; rfl
    rw [if_neg c3]
    by_cases c4 : kd = 4
    · rw [if_pos c4, hn, if_pos (Or.inl (by omega))]
      split <;> rfl
    rw [if_neg c4]
    by_cases c5 : kd = 5
    · rw [if_pos c5, if_neg (fun z => by have := z.2.1; omega), List.length_append]
      have dv : v = 1 ∨ v = 2 ∨ v = 3 ∨ v = 4 := by have := hv c5; omega
      rcases dv with d | d | d | d
      · have hn1 : n = 1 := by rw [hn, if_neg (by omega)]
        rw [hn1, d]; rfl
      · have hn1 : n = 1 := by rw [hn, if_neg (by omega)]
        rw [hn1, d]; rfl
      · have hn1 : n = 1 := by rw [hn, if_neg (by omega)]
        rw [hn1, d]; rfl
      · rw [hn, if_pos (Or.inr ⟨c5, d⟩), d]; rfl
    · rw [if_neg c5, hn, if_neg (by omega)]; rfl
  have np : 1 ≤ n ∧ n ≤ 2 := by rw [hn]; split <;> omega
  -- with or without a stroke
  have len0 : (¬ (kd = 5 ∧ 3 ≤ v ∧ G 9 (K 3 - 1) < K 10 ∧ G 11 (K 10 - 1) = 5 ∧ G 12 (K 10 - 1) = 3)) → Lx K' (ptG K G kd v) ≤ Lx K G + n := by
    intro no
    have := app_len (K' := K') (G' := ptG K G kd v) (X := 0) hf0 p3 g7 pt_Ag k3 rfl rfl rfl rfl rfl rfl (Int.le_refl 0) (fun k a b c d => by
      exfalso
      rcases d with d | d
      · rw [g11] at d; omega
      · rw [g11, g12] at d
        have ek : k = K 10 - 1 := by omega
        rw [ek] at d
        exact no ⟨d.2.2.2.1, d.2.2.2.2, by omega, d.1, d.2.1⟩)
    omega
  have len1 : Lx K' (ptG K G kd v) ≤ Lx K G + n + 1 := by
    have := app_len (K' := K') (G' := ptG K G kd v) (X := 1) hf0 p3 g7 pt_Ag k3 rfl rfl rfl rfl rfl rfl (by decide) (fun k a b c d => Int.le_refl 1)
    omega
  have main : Lx K' (ptG K G kd v) ≤ K 29 + n + 1 := by
    by_cases c : kd = 5 ∧ 3 ≤ v ∧ G 9 (K 3 - 1) < K 10 ∧ G 11 (K 10 - 1) = 5 ∧ G 12 (K 10 - 1) = 3
    · have b := l6 h60 c.2.2.1 c.2.2.2.1 c.2.2.2.2
      have b2 := hb c.1 c.2.1
      rcases b with b | b
      · exact absurd b2 b
      · omega
    · have := len0 c
      omega
  refine ⟨by rw [k29, k60]; omega, fun z => absurd (k62.symm.trans z) (by omega), fun _ => ?_, fun _ z => absurd (k60.symm.trans z) (by omega), fun _ k a b c d => ?_, fun _ a b c => ?_, fun _ z => absurd (k64.symm.trans z) (by decide)⟩
  · rw [k3]; exact g7
  · rw [k3, o9] at a
    rw [k10] at b d
    by_cases e : k = K 10
    · rw [e, g11] at c; omega
    · have e3 := d (K 10) (by omega) (by omega)
      rw [g11] at e3
      rw [o11 k (by omega)] at c
      have dd : AllA G (k + 1) (K 10) := fun i y0 y1 => by have := d i y0 (by omega); rw [o11 i y1] at this; exact this
      obtain ⟨z1, z2⟩ := l5 h60 k a (by omega) c dd
      have o13 : ptG K G kd v 13 k = G 13 k := uI_n (show k ≠ K 10 by omega)
      rw [k63, k20, k29, hq (by omega), o13]
      refine ⟨z1, fun y => ?_⟩
      have := z2 y
      have := len0 (by omega)
      omega
  · rw [k10, show K 10 + 1 - 1 = K 10 by omega, g11] at b
    rw [k10, show K 10 + 1 - 1 = K 10 by omega, g12] at c
    refine Or.inl ?_
    have := hb2 b c
    unfold byB at this ⊢
    rw [k28, k29]
    exact this
theorem LI_nt {K : Nat → Int} {G : Nat → Int → Int} {v : Int} (h : LI K G) (hf : Rf K G) (hp : PI K) (h60 : K 60 = 1) : LI (ntK K) (ntG v K G) := by
  have hf0 := hf
  obtain ⟨f1, f2, f3, f4, f5, f6, f7, f8, f9⟩ := hf
  have p10 : 0 ≤ K 10 := hp.1.2.2.1.1
  have p61 := f6 h60
  have p62 := f5 p61
  have p3 := f4 p62
  have p63 := hp.2.2.2.2.2.2.2.2.2.2.2.1
  obtain ⟨l1, l2, l3, l4, l5, l6, l7⟩ := h
  have g7 := l3 h60
  have w := f1 (K 3 - 1) (by omega) (by omega)
  have g11 : ntG v K G 11 (K 10) = 1 := by show uI (G 11) (K 10) 1 (K 10) = 1; rw [uI_s]
  have g13 : ntG v K G 13 (K 10) = K 15 := by show uI (G 13) (K 10) (K 15) (K 10) = K 15; rw [uI_s]
  have g17 : ntG v K G 17 (K 15) = 0 := by show uI (G 17) (K 15) 0 (K 15) = 0; rw [uI_s]
  have g19 : ntG v K G 19 (K 15) = K 20 + K 63 - 1 := by show uI (G 19) (K 15) (K 20 + K 63 - 1) (K 15) = _; rw [uI_s]
  have o9 : ntG v K G 9 (K 3 - 1) = G 9 (K 3 - 1) := uI_n (show K 3 - 1 ≠ K 3 by omega)
  have hA : Ag G (ntG v K G) (K 10) := fun k a b => ⟨uI_n (show k ≠ K 10 by omega), uI_n (show k ≠ K 10 by omega), uI_n (show k ≠ K 10 by omega), fun c => by
    have := (f7 k a b).2 c
    exact ⟨uI_n (show G 13 k ≠ K 15 by omega), uI_n (show G 13 k ≠ K 15 by omega)⟩⟩
  have sl : ((mSgn (ntG v K G) (K 10) (K 10 + 1)).length : Int) = 1 := by
    unfold mSgn
    rw [if_pos g11, show (K 10 + 1 - (K 10 + 1)).toNat = 0 by omega, if_pos (show ipL (ntG v K G) (K 10) 0 (K 10 + 1) = 0 from rfl), mNt_l, g13, g17]
    decide
  have main : Lx (ntK K) (ntG v K G) ≤ K 29 + 1 + 1 := by
    by_cases c : ∃ k : Int, G 9 (K 3 - 1) ≤ k ∧ k < K 10 ∧ AllA G (k + 1) (K 10) ∧ G 11 k = 1 ∧ ¬ K 20 + K 63 - 1 = G 19 (G 13 k)
    · obtain ⟨k, a, b, d, e, g⟩ := c
      obtain ⟨z1, z2⟩ := l5 h60 k a b e d
      have := app_len (K' := ntK K) (G' := ntG v K G) (X := 1) hf0 p3 g7 hA rfl rfl rfl rfl rfl rfl rfl (by decide) (fun k a b c d => Int.le_refl 1)
      rcases p63 with q | q
      · have := z1 q
        omega
      · have := z2 q
        omega
    · have := app_len (K' := ntK K) (G' := ntG v K G) (X := 0) hf0 p3 g7 hA rfl rfl rfl rfl rfl rfl rfl (Int.le_refl 0) (fun k a b d e => by
        exfalso
        rcases e with e | e
        · rw [g13, g19] at e
          exact c ⟨k, a, b, d, e.1, e.2.2⟩
        · rw [g11] at e
          omega)
      omega
  refine ⟨by show Lx (ntK K) (ntG v K G) ≤ K 29 + 1 + K 60; omega, fun z => absurd (show K 62 = 1 from z) (by omega), fun _ => g7, fun _ z => absurd (show K 60 = 0 from z) (by omega), fun _ k a b c d => ?_, fun _ a b => ?_, fun _ _ => ?_⟩
  · have b : k < K 10 + 1 := b
    have d : AllA (ntG v K G) (k + 1) (K 10 + 1) := d
    by_cases e : k = K 10
    · refine ⟨fun _ => ?_, fun z => absurd (show (0 : Int) = 1 from z) (by decide)⟩
      rw [e, g13, g19]
      rfl
    · have e3 := d (K 10) (by omega) (by omega)
      rw [g11] at e3
      omega
  · have b : ntG v K G 11 (K 10 + 1 - 1) = 5 := b
    rw [show K 10 + 1 - 1 = K 10 by omega, g11] at b
    omega
  · refine ⟨?_, ?_⟩
    · show ntG v K G 9 (K 3 - 1) < K 10 + 1
      rw [o9]; omega
    · show ntG v K G 11 (K 10 + 1 - 1) = 1
      rw [show K 10 + 1 - 1 = K 10 by omega, g11]
