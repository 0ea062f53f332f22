/-! the text written anew is no longer than the text read -/
def Lx (K : Nat → Int) (G : Nat → Int → Int) : Int := (mTx K G).length
def LI (K : Nat → Int) (G : Nat → Int → Int) : Prop :=
  (Lx K G ≤ K 29 + K 60) ∧ (K 62 = 1 → 0 < K 3 → Lx K G + 1 ≤ K 29) ∧ (K 60 = 1 → G 7 (K 3 - 1) = 1) ∧ (K 61 = 1 → K 60 = 0 → G 9 (K 3 - 1) = K 10 ∧ G 7 (K 3 - 1) = 0) ∧
  (K 60 = 1 → ∀ k : Int, G 9 (K 3 - 1) ≤ k → k < K 10 → G 11 k = 1 → AllA G (k + 1) (K 10) → (K 63 = 0 → G 19 (G 13 k) = K 20 - 1) ∧ (K 63 = 1 → Lx K G ≤ K 29)) ∧
  (K 60 = 1 → G 9 (K 3 - 1) < K 10 → G 11 (K 10 - 1) = 5 → G 12 (K 10 - 1) = 3 → byB K G (K 29) ≠ 58 ∨ Lx K G ≤ K 29) ∧
  (K 60 = 1 → K 64 = 1 → G 9 (K 3 - 1) < K 10 ∧ G 11 (K 10 - 1) = 1)
/-- what the reference's rows are under way -/
def Rf (K : Nat → Int) (G : Nat → Int → Int) : Prop :=
  (∀ s : Int, 0 ≤ s → s < K 3 → 0 ≤ G 9 s ∧ G 9 s ≤ G 9 (s + 1) ∧ G 9 (s + 1) ≤ K 10 ∧ 0 ≤ G 5 s) ∧ G 9 (K 3) = K 10 ∧ (0 < K 3 → G 8 (K 3 - 1) = K 14 - 1) ∧ (K 62 = 0 → 0 < K 3) ∧ (K 61 = 1 → K 62 = 0) ∧ (K 60 = 1 → K 61 = 1) ∧
  (∀ k : Int, 0 ≤ k → k < K 10 → 1 ≤ G 11 k ∧ (G 11 k = 1 → 0 ≤ G 13 k ∧ G 13 k < K 15)) ∧
  (0 < K 10 → G 11 (K 10 - 1) = 1 → G 13 (K 10 - 1) = K 15 - 1 ∧ ∀ k : Int, 0 ≤ k → k < K 10 - 1 → G 11 k = 1 → G 13 k < K 15 - 1) ∧ (∀ n : Int, 0 ≤ n → n < K 15 → 0 ≤ G 17 n ∧ G 17 n ≤ 31)
theorem rf_of {I N : Nat → Int} {F : Nat → Int → Int} {K : Nat → Int} {G : Nat → Int → Int} (h : Rl I N F K G) : Rf K G := by
  obtain ⟨_, hs, hn, ⟨nt, en, bn, cB, fl, wd, r1, r2, r3, r4, r5, r6, w1, w2, w3, w4, w5, w6, w7, w8⟩, _⟩ := h
  refine ⟨fun s a b => ⟨(w1 s a b).1.1, (w1 s a b).1.2.1, (w1 s a b).1.2.2, (hs s a b).2.2.2.2.1.2.2.1⟩, w4, w5, w6, w7, w8, ?_, ?_, fun n a b => (hn n a b).2.2.1⟩
  · intro k a b
    have d := r1 k a b
    refine ⟨d.1.1.1, fun e => ?_⟩
    have x := d.2.1.1
    rw [if_pos e] at x
    have y := (r2 (k + 1) (by omega) (by omega)).1
    have z := (r2 k a (by omega)).1
    rw [d.2.1.2.2.2.2]
    omega
  · intro p e
    have d := r1 (K 10 - 1) (by omega) (by omega)
    have x := d.2.1.1
    rw [if_pos e, show K 10 - 1 + 1 = K 10 by omega, r3.2.2.2.2.1] at x
    refine ⟨by rw [d.2.1.2.2.2.2]; omega, fun k a b c => ?_⟩
    have d' := r1 k a (by omega)
    have x' := d'.2.1.1
    rw [if_pos c] at x'
    have mo := mono1 (f := nt) (p := fun k => G 11 k = 1) (M := K 10) (fun k z0 z1 => (r1 k z0 z1).2.1.1) (a := k + 1) (by omega) (K 10 - 1 - (k + 1)).toNat (by omega)
    rw [show k + 1 + ((K 10 - 1 - (k + 1)).toNat : Int) = K 10 - 1 by omega] at mo
    rw [d'.2.1.2.2.2.2]
    omega
/-- nothing of the text changes -/
theorem Lx_c {K K' : Nat → Int} {G G' : Nat → Int → Int} (h3 : K' 3 = K 3) (hy : ∀ i : Int, 0 ≤ i → i < K 3 → mSy G' i = mSy G i) : Lx K' G' = Lx K G := by
  unfold Lx mTx
  rw [h3, mSc_c _ _ (fun i a b => hy i a (by omega))]
/-- only the last syllable changes -/
theorem Lx_last {K K' : Nat → Int} {G G' : Nat → Int → Int} (p3 : 0 < K 3) (h3 : K' 3 = K 3) (hy : ∀ i : Int, 0 ≤ i → i < K 3 - 1 → mSy G' i = mSy G i) : Lx K' G' = Lx K G - (mSy G (K 3 - 1)).length + (mSy G' (K 3 - 1)).length := by
  have a : Lx K G = _ := tx_last (G := G) p3
  have b : Lx K' G' = _ := tx_last (K := K') (G := G') (by omega)
  rw [h3, mSc_c _ _ (fun i a b => hy i a (by omega))] at b
  omega
theorem LI_bl {K : Nat → Int} {G : Nat → Int → Int} (h : LI K G) (h60 : K 60 = 0) : LI (uN (uN (adv K 1) 61 0) 62 1) G := by
  have e : Lx (uN (uN (adv K 1) 61 0) 62 1) G = Lx K G := rfl
  have n : ¬ uN (uN (adv K 1) 61 0) 62 1 60 = 1 := by show ¬ K 60 = 1; omega
  refine ⟨?_, ?_, fun q => absurd q n, fun q => absurd (show (0 : Int) = 1 from q) (by decide), fun q => absurd q n, fun q => absurd q n, fun q => absurd q n⟩
  · rw [e]
    have := h.1
    show Lx K G ≤ K 29 + 1 + K 60
    omega
  · intro _ _
    rw [e]
    have := h.1
    show Lx K G + 1 ≤ K 29 + 1
    omega
theorem LI_cl {K : Nat → Int} {G : Nat → Int → Int} (h : LI K G) (hf : Rf K G) (h60 : K 60 = 1) : LI (uN (uN (adv K 1) 60 0) 61 0) G := by
  have e : Lx (uN (uN (adv K 1) 60 0) 61 0) G = Lx K G := rfl
  have p62 := hf.2.2.2.2.1 (hf.2.2.2.2.2.1 h60)
  have n : ¬ uN (uN (adv K 1) 60 0) 61 0 60 = 1 := by show ¬ (0 : Int) = 1; decide
  refine ⟨?_, ?_, fun q => absurd q n, fun q => absurd (show (0 : Int) = 1 from q) (by decide), fun q => absurd q n, fun q => absurd q n, fun q => absurd q n⟩
  · rw [e]
    have := h.1
    show Lx K G ≤ K 29 + 1 + 0
    omega
  · intro q
    exact absurd (show K 62 = 1 from q) (by omega)
theorem LI_sp {K : Nat → Int} {G : Nat → Int → Int} (h : LI K G) (hf : Rf K G) (h60 : K 60 = 1) : LI (uN (uN (adv K 1) 63 1) 64 0) G := by
  have e : Lx (uN (uN (adv K 1) 63 1) 64 0) G = Lx K G := rfl
  have p62 := hf.2.2.2.2.1 (hf.2.2.2.2.2.1 h60)
  have l := h.1
  refine ⟨?_, ?_, h.2.2.1, h.2.2.2.1, ?_, ?_, ?_⟩
  · rw [e]
    show Lx K G ≤ K 29 + 1 + K 60
    omega
  · intro q
    exact absurd (show K 62 = 1 from q) (by omega)
  · intro _ k a b c d
    refine ⟨fun q => absurd (show (1 : Int) = 0 from q) (by decide), fun _ => ?_⟩
    rw [e]
    show Lx K G ≤ K 29 + 1
    omega
  · intro _ _ _ _
    refine Or.inr ?_
    rw [e]
    show Lx K G ≤ K 29 + 1
    omega
  · intro _ q
    exact absurd (show (0 : Int) = 1 from q) (by decide)
theorem LI_bg {K : Nat → Int} {G : Nat → Int → Int} (h : LI K G) (hf : Rf K G) (hp : PI K) (h60 : K 60 = 0) : LI (bgK K) (bgG K G) := by
  have p3 : 0 ≤ K 3 := hp.1.2.1.1
  have p62 := hp.2.2.2.2.2.2.2.2.2.2.1
  have n60 : ¬ bgK K 60 = 1 := by show ¬ K 60 = 1; omega
  obtain ⟨f1, f2, f3, f4, f5, f6, f7, f8, f9⟩ := hf
  have g9 : ∀ s : Int, s ≤ K 3 → bgG K G 9 s = G 9 s := by
    intro s q
    show uI (uI (G 9) (K 3) (K 10)) (K 3 + 1) (K 10) s = _
    rw [uI_n (by omega)]
    by_cases e : s = K 3
    · rw [e, uI_s, f2]
    · rw [uI_n e]
  have gx : ∀ (x : Int → Int) (v s : Int), s < K 3 → uI x (K 3) v s = x s := fun x v s q => uI_n (by omega)
  have old : ∀ i : Int, 0 ≤ i → i < K 3 → mSy (bgG K G) i = mSy G i := by
    intro i a b
    have w := f1 i a b
    refine mSy_c ⟨gx _ _ _ b, fun _ => gx _ _ _ (by omega), gx _ _ _ b, gx _ _ _ b, gx _ _ _ b, g9 i (by omega), g9 (i + 1) (by omega)⟩ rfl (fun k a b => ⟨rfl, rfl, rfl, fun _ => ⟨rfl, rfl⟩⟩) ⟨w.1, w.2.1⟩
  have l : Lx (bgK K) (bgG K G) = Lx K G + (mBl (bgG K G) (K 3)).length := by
    have b : Lx (bgK K) (bgG K G) = _ := tx_last (K := bgK K) (G := bgG K G) (show 0 < K 3 + 1 by omega)
    rw [show bgK K 3 = K 3 + 1 from rfl, show K 3 + 1 - 1 = K 3 by omega, mSc_c _ _ (fun i a b => old i a (by omega))] at b
    have s := sy_len (G := bgG K G) (s := K 3) (show 0 ≤ uI (G 5) (K 3) 0 (K 3) by rw [uI_s]; exact Int.le_refl 0)
    have e5 : bgG K G 5 (K 3) = 0 := by show uI (G 5) (K 3) 0 (K 3) = 0; rw [uI_s]
    have e7 : bgG K G 7 (K 3) = 0 := by show uI (G 7) (K 3) 0 (K 3) = 0; rw [uI_s]
    rw [e5, bk_0 (by rw [e7]; decide)] at s
    unfold Lx at b ⊢
    unfold mTx at b ⊢
    omega
  have g8 : bgG K G 8 (K 3) = K 14 + K 62 - 1 := by show uI (G 8) (K 3) (K 14 + K 62 - 1) (K 3) = _; rw [uI_s]
  have ll : Lx (bgK K) (bgG K G) ≤ K 29 := by
    rw [l, bl_r]
    have a := h.1
    have b := h.2.1
    by_cases c : 0 < K 3 ∧ ¬ bgG K G 8 (K 3) = bgG K G 8 (K 3 - 1)
    · rw [if_pos c]
      have e : bgG K G 8 (K 3 - 1) = G 8 (K 3 - 1) := gx _ _ _ (by omega)
      rw [e, g8, f3 c.1] at c
      have := b (by omega) c.1
      omega
    · rw [if_neg c]
      omega
  refine ⟨?_, fun q => absurd (show (0 : Int) = 1 from q) (by decide), fun q => absurd q n60, fun _ _ => ?_, fun q => absurd q n60, fun q => absurd q n60, fun q => absurd q n60⟩
  · show Lx (bgK K) (bgG K G) ≤ K 29 + K 60
    omega
  · show bgG K G 9 (K 3 + 1 - 1) = K 10 ∧ bgG K G 7 (K 3 + 1 - 1) = 0
    rw [show K 3 + 1 - 1 = K 3 by omega, g9 _ (Int.le_refl _), f2]
    exact ⟨rfl, show uI (G 7) (K 3) 0 (K 3) = 0 by rw [uI_s]⟩
theorem LI_par {K : Nat → Int} {G : Nat → Int → Int} (h : LI K G) (hf : Rf K G) (h60 : K 60 = 0) (h61 : K 61 = 1) : LI (uN (uN (uN (adv K 1) 60 1) 63 1) 64 0) (uN G 7 (uI (G 7) (K 3 - 1) 1)) := by
  obtain ⟨f1, f2, f3, f4, f5, f6, f7, f8, f9⟩ := hf
  have p62 := f5 h61
  have p3 := f4 p62
  obtain ⟨q9, q7⟩ := h.2.2.2.1 h61 h60
  have l := Lx_last (K := K) (K' := uN (uN (uN (adv K 1) 60 1) 63 1) 64 0) (G := G) (G' := uN G 7 (uI (G 7) (K 3 - 1) 1)) p3 rfl (fun i a b => by
    have w := f1 i a (by omega)
    exact mSy_c ⟨rfl, fun _ => rfl, rfl, rfl, uI_n (show i ≠ K 3 - 1 by omega), rfl, rfl⟩ rfl (fun k a b => ⟨rfl, rfl, rfl, fun _ => ⟨rfl, rfl⟩⟩) ⟨w.1, w.2.1⟩)
  have w := f1 (K 3 - 1) (by omega) (by omega)
  have s0 := sy_len (G := G) (s := K 3 - 1) w.2.2.2
  have s1 := sy_len (G := uN G 7 (uI (G 7) (K 3 - 1) 1)) (s := K 3 - 1) w.2.2.2
  rw [bk_0 (by rw [q7]; decide)] at s0
  rw [bk_1 (show uI (G 7) (K 3 - 1) 1 (K 3 - 1) = 1 by rw [uI_s])] at s1
  have e : mSs (uN G 7 (uI (G 7) (K 3 - 1) 1)) (K 3 - 1) = [] := by
    unfold mSs
    show mSgs (uN G 7 (uI (G 7) (K 3 - 1) 1)) (G 9 (K 3 - 1 + 1)) (G 9 (K 3 - 1 + 1) - G 9 (K 3 - 1)).toNat (G 9 (K 3 - 1)) = []
    rw [show K 3 - 1 + 1 = K 3 by omega, f2, q9, show (K 10 - K 10).toNat = 0 by omega]
    rfl
  rw [e] at s1
  have e2 : mBl (uN G 7 (uI (G 7) (K 3 - 1) 1)) (K 3 - 1) = mBl G (K 3 - 1) := rfl
  have e5 : uN G 7 (uI (G 7) (K 3 - 1) 1) 5 (K 3 - 1) = G 5 (K 3 - 1) := rfl
  rw [e2, e5] at s1
  have z : (([] : List Int).length : Int) = 0 := rfl
  have a := h.1
  have n9 : ¬ G 9 (K 3 - 1) < K 10 := by omega
  refine ⟨?_, fun q => absurd (show K 62 = 1 from q) (by omega), fun _ => ?_, fun _ q => absurd (show (1 : Int) = 0 from q) (by decide), fun _ k b c => ?_, fun _ q => absurd q n9, fun _ q => absurd (show (0 : Int) = 1 from q) (by decide)⟩
  · rw [l]
    show _ ≤ K 29 + 1 + 1
    omega
  · show uI (G 7) (K 3 - 1) 1 (K 3 - 1) = 1
    rw [uI_s]
  · have b : G 9 (K 3 - 1) ≤ k := b
    have c : k < K 10 := c
    omega
theorem LI_let {K : Nat → Int} {G : Nat → Int → Int} {b : Int} (h : LI K G) (hf : Rf K G) (h60 : K 60 = 0) (h61 : K 61 = 1) : LI (adv K 1) (uN (uN G 5 (uI (G 5) (K 3 - 1) (G 5 (K 3 - 1) + 1))) 6 (uI (G 6) (K 3 - 1) (if b = 39 then 1 else G 6 (K 3 - 1)))) := by
  obtain ⟨f1, f2, f3, f4, f5, f6, f7, f8, f9⟩ := hf
  have p62 := f5 h61
  have p3 := f4 p62
  obtain ⟨q9, q7⟩ := h.2.2.2.1 h61 h60
  have n60 : ¬ adv K 1 60 = 1 := by show ¬ K 60 = 1; omega
  generalize hG' : uN (uN G 5 (uI (G 5) (K 3 - 1) (G 5 (K 3 - 1) + 1))) 6 (uI (G 6) (K 3 - 1) (if b = 39 then 1 else G 6 (K 3 - 1))) = G'
  have g5 : ∀ i : Int, G' 5 i = uI (G 5) (K 3 - 1) (G 5 (K 3 - 1) + 1) i := fun i => by rw [← hG']; rfl
  have l := Lx_last (K := K) (K' := adv K 1) (G := G) (G' := G') p3 rfl (fun i a b => by
    have w := f1 i a (by omega)
    rw [← hG']
    exact mSy_c ⟨rfl, fun _ => rfl, uI_n (show i ≠ K 3 - 1 by omega), rfl, rfl, rfl, rfl⟩ rfl (fun k a b => ⟨rfl, rfl, rfl, fun _ => ⟨rfl, rfl⟩⟩) ⟨w.1, w.2.1⟩)
  have w := f1 (K 3 - 1) (by omega) (by omega)
  have e5 : G' 5 (K 3 - 1) = G 5 (K 3 - 1) + 1 := by rw [g5, uI_s]
  have s0 := sy_len (G := G) (s := K 3 - 1) w.2.2.2
  have s1 := sy_len (G := G') (s := K 3 - 1) (by omega)
  have e7 : G' 7 (K 3 - 1) = 0 := by rw [← hG']; exact q7
  rw [bk_0 (by rw [q7]; decide)] at s0
  rw [bk_0 (by rw [e7]; decide), e5] at s1
  have e2 : mBl G' (K 3 - 1) = mBl G (K 3 - 1) := by rw [← hG']; rfl
  rw [e2] at s1
  have a := h.1
  refine ⟨?_, fun q => absurd (show K 62 = 1 from q) (by omega), fun q => absurd q n60, fun _ _ => ⟨by rw [← hG']; exact q9, e7⟩, fun q => absurd q n60, fun q => absurd q n60, fun q => absurd q n60⟩
  show Lx (adv K 1) G' ≤ K 29 + 1 + K 60
  omega
