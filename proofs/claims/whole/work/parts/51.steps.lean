/-! steps outside brackets, and a mark -/
theorem Rl_par {I N : Nat → Int} {F : Nat → Int → Int} {K : Nat → Int} {G : Nat → Int → Int} (h : Rl I N F K G) (h60 : K 60 = 0) (h61 : K 61 = 1) : Rl (uN I 8 1) N (uN F 3 (uI (F 3) ((N 3 - 1) * 9 + 3) 1)) (uN (uN (uN (adv K 1) 60 1) 63 1) 64 0) (uN G 7 (uI (G 7) (K 3 - 1) 1)) := by
  obtain ⟨⟨a1, a2, a3, a4, a5⟩, hs, hn, ⟨nt, en, bn, cB, fl, wd, r1, r2, r3, r4, r5, r6, w1, w2, w3, w4, w5, w6, w7, w8⟩, ht⟩ := h
  have eN : N 3 = K 3 := a1.2.2.2.2.2.1
  have z1 : I 11 = 0 := by have := a3.2.2.2.1; rw [if_neg (by omega)] at this; exact this
  have z2 : I 12 = 0 := by have := a3.2.2.2.2; rw [if_neg (by omega)] at this; exact this
  refine ⟨⟨a1, a2, ⟨rfl, a3.2.1, a3.2.2.1, z1, z2⟩, ⟨a4.1, ?_⟩, a5⟩, ?_, hn, ⟨nt, en, bn, cB, fl, wd, r1, r2, r3, r4, r5, r6, w1, w2, w3, w4, w5, w6, w7, fun _ => h61⟩, ht⟩
  · show N 2 ≤ K 29 + 1
    omega
  · intro s h0 h1
    have h1 : s < K 3 := h1
    obtain ⟨b1, b2, b3, b4, b5, b6, b7⟩ := hs s h0 h1
    have ne : ∀ d : Int, 0 ≤ d → d < 9 → d ≠ 3 → uI (F 3) ((N 3 - 1) * 9 + 3) 1 (s * 9 + d) = F 3 (s * 9 + d) := fun d q0 q1 q2 => uI_n (by omega)
    refine ⟨⟨(ne 0 (by decide) (by decide) (by decide)).trans b1.1, (ne 1 (by decide) (by decide) (by decide)).trans b1.2.1, (ne 2 (by decide) (by decide) (by decide)).trans b1.2.2.1, ?_⟩, ⟨(ne 4 (by decide) (by decide) (by decide)).trans b2.1, (ne 5 (by decide) (by decide) (by decide)).trans b2.2⟩, (ne 7 (by decide) (by decide) (by decide)).trans b3, ?_, ?_, ?_, ?_⟩
    · show uI (F 3) ((N 3 - 1) * 9 + 3) 1 (s * 9 + 3) = uI (G 7) (K 3 - 1) 1 s
      by_cases e : s = K 3 - 1
      · rw [eN, ← e, uI_s, uI_s]
      · rw [uI_n (by omega), uI_n e]
        exact b1.2.2.2
    · intro _
      exact (ne 8 (by decide) (by decide) (by decide)).trans (b4 (Or.inr h60))
    · have e6 := ne 6 (by decide) (by decide) (by decide)
      show 0 ≤ uI (F 3) ((N 3 - 1) * 9 + 3) 1 (s * 9 + 6) ∧ uI (F 3) ((N 3 - 1) * 9 + 3) 1 (s * 9 + 6) + G 5 s ≤ N 2 ∧ 0 ≤ G 5 s ∧ 0 ≤ G 4 s ∧ G 4 s + G 5 s ≤ K 29 + 1
      rw [e6]
      omega
    · intro i q0 q1
      show F 2 (uI (F 3) ((N 3 - 1) * 9 + 3) 1 (s * 9 + 6) + i) = _
      rw [ne 6 (by decide) (by decide) (by decide)]
      exact b6 i q0 q1
    · intro q
      exact absurd (show (1 : Int) = 0 from q.2.2) (by decide)
theorem Rl_let {I N : Nat → Int} {F : Nat → Int → Int} {K : Nat → Int} {G : Nat → Int → Int} {b : Int} (h : Rl I N F K G) (h60 : K 60 = 0) (h61 : K 61 = 1) (hb : b = G 2 (K 29)) : Rl I (uN N 2 (N 2 + 1)) (ltF N F b) (adv K 1) (uN (uN G 5 (uI (G 5) (K 3 - 1) (G 5 (K 3 - 1) + 1))) 6 (uI (G 6) (K 3 - 1) (if b = 39 then 1 else G 6 (K 3 - 1)))) := by
  obtain ⟨⟨a1, a2, a3, a4, a5⟩, hs, hn, hg, ht⟩ := h
  have eN : N 3 = K 3 := a1.2.2.2.2.2.1
  have f3 : ∀ s d : Int, 0 ≤ d → d < 9 → d ≠ 1 → d ≠ 2 → ltF N F b 3 (s * 9 + d) = F 3 (s * 9 + d) := by
    intro s d q0 q1 q2 q3
    show (if b = 39 then uI (uI (F 3) ((N 3 - 1) * 9 + 1) (F 3 ((N 3 - 1) * 9 + 1) + 1)) ((N 3 - 1) * 9 + 2) 1 else uI (F 3) ((N 3 - 1) * 9 + 1) (F 3 ((N 3 - 1) * 9 + 1) + 1)) (s * 9 + d) = _
    split
    · rw [uI_n (by omega), uI_n (by omega)]
    · rw [uI_n (by omega)]
  have f1 : ∀ s : Int, ltF N F b 3 (s * 9 + 1) = if s = K 3 - 1 then F 3 (s * 9 + 1) + 1 else F 3 (s * 9 + 1) := by
    intro s
    show (if b = 39 then uI (uI (F 3) ((N 3 - 1) * 9 + 1) (F 3 ((N 3 - 1) * 9 + 1) + 1)) ((N 3 - 1) * 9 + 2) 1 else uI (F 3) ((N 3 - 1) * 9 + 1) (F 3 ((N 3 - 1) * 9 + 1) + 1)) (s * 9 + 1) = _
    rw [eN]
    by_cases e : s = K 3 - 1
    · rw [if_pos e, ← e]
      split
      · rw [uI_n (by omega), uI_s]
      · rw [uI_s]
    · rw [if_neg e]
      split
      · rw [uI_n (by omega), uI_n (by omega)]
      · rw [uI_n (by omega)]
  have f2 : ∀ s : Int, ltF N F b 3 (s * 9 + 2) = if s = K 3 - 1 ∧ b = 39 then 1 else F 3 (s * 9 + 2) := by
    intro s
    show (if b = 39 then uI (uI (F 3) ((N 3 - 1) * 9 + 1) (F 3 ((N 3 - 1) * 9 + 1) + 1)) ((N 3 - 1) * 9 + 2) 1 else uI (F 3) ((N 3 - 1) * 9 + 1) (F 3 ((N 3 - 1) * 9 + 1) + 1)) (s * 9 + 2) = _
    rw [eN]
    by_cases c : b = 39
    · rw [if_pos c]
      by_cases e : s = K 3 - 1
      · rw [if_pos ⟨e, c⟩, ← e, uI_s]
      · rw [if_neg (fun q => e q.1), uI_n (by omega), uI_n (by omega)]
    · rw [if_neg c, if_neg (fun q => c q.2), uI_n (by omega)]
  refine ⟨⟨a1, a2, a3, ⟨?_, ?_⟩, a5⟩, ?_, hn, hg, ht⟩
  · show 0 ≤ N 2 + 1
    omega
  · show N 2 + 1 ≤ K 29 + 1
    omega
  · intro s h0 h1
    have h1 : s < K 3 := h1
    obtain ⟨b1, b2, b3, b4, b5, b6, b7⟩ := hs s h0 h1
    have g5 : uI (G 5) (K 3 - 1) (G 5 (K 3 - 1) + 1) s = if s = K 3 - 1 then G 5 s + 1 else G 5 s := by
      by_cases e : s = K 3 - 1
      · rw [if_pos e, ← e, uI_s]
      · rw [if_neg e, uI_n e]
    refine ⟨⟨(f3 s 0 (by decide) (by decide) (by decide) (by decide)).trans b1.1, ?_, ?_, (f3 s 3 (by decide) (by decide) (by decide) (by decide)).trans b1.2.2.2⟩, ⟨(f3 s 4 (by decide) (by decide) (by decide) (by decide)).trans b2.1, (f3 s 5 (by decide) (by decide) (by decide) (by decide)).trans b2.2⟩, (f3 s 7 (by decide) (by decide) (by decide) (by decide)).trans b3, ?_, ?_, ?_, ?_⟩
    · show ltF N F b 3 (s * 9 + 1) = uI (G 5) (K 3 - 1) (G 5 (K 3 - 1) + 1) s
      rw [f1, g5, b1.2.1]
    · show ltF N F b 3 (s * 9 + 2) = uI (G 6) (K 3 - 1) (if b = 39 then 1 else G 6 (K 3 - 1)) s
      rw [f2]
      by_cases e : s = K 3 - 1
      · rw [← e, uI_s, b1.2.2.1]
        by_cases c : b = 39
        · rw [if_pos ⟨rfl, c⟩, if_pos c]
        · rw [if_neg (fun q => c q.2), if_neg c]
      · rw [if_neg (fun q => e q.1), uI_n e]
        exact b1.2.2.1
    · intro _
      exact (f3 s 8 (by decide) (by decide) (by decide) (by decide)).trans (b4 (Or.inr h60))
    · have e6 := f3 s 6 (by decide) (by decide) (by decide) (by decide)
      show 0 ≤ ltF N F b 3 (s * 9 + 6) ∧ ltF N F b 3 (s * 9 + 6) + uI (G 5) (K 3 - 1) (G 5 (K 3 - 1) + 1) s ≤ N 2 + 1 ∧ 0 ≤ uI (G 5) (K 3 - 1) (G 5 (K 3 - 1) + 1) s ∧ 0 ≤ G 4 s ∧ G 4 s + uI (G 5) (K 3 - 1) (G 5 (K 3 - 1) + 1) s ≤ K 29 + 1
      rw [e6, g5]
      split <;> omega
    · intro i q0 q1
      have q1 : i < uI (G 5) (K 3 - 1) (G 5 (K 3 - 1) + 1) s := q1
      show uI (F 2) (N 2) b (ltF N F b 3 (s * 9 + 6) + i) = G 2 (G 4 s + i)
      rw [f3 s 6 (by decide) (by decide) (by decide) (by decide)]
      rw [g5] at q1
      by_cases e : s = K 3 - 1
      · rw [if_pos e] at q1
        have b7 := b7 ⟨e, h61, h60⟩
        by_cases c : i = G 5 s
        · rw [c, b7.1, b7.2, uI_s, hb]
        · rw [uI_n (by omega)]
          exact b6 i q0 (by omega)
      · rw [if_neg e] at q1
        rw [uI_n (by omega)]
        exact b6 i q0 q1
    · intro q
      have q1 : s = K 3 - 1 := q.1
      have b7 := b7 ⟨q1, h61, h60⟩
      show ltF N F b 3 (s * 9 + 6) + uI (G 5) (K 3 - 1) (G 5 (K 3 - 1) + 1) s = N 2 + 1 ∧ G 4 s + uI (G 5) (K 3 - 1) (G 5 (K 3 - 1) + 1) s = K 29 + 1
      rw [f3 s 6 (by decide) (by decide) (by decide) (by decide), g5, if_pos q1]
      omega
theorem Rl_bg {I I' N : Nat → Int} {F : Nat → Int → Int} {K : Nat → Int} {G : Nat → Int → Int} {w : Int} (h : Rl I N F K G) (hp : PI K) (h60 : K 60 = 0) (hi : ∀ k : Nat, k ≠ 1 → k ≠ 9 → k ≠ 10 → I' k = I k) (i1 : I' 1 = K 14 + K 62) (i9 : I' 9 = 1) (i10 : I' 10 = 1) (hw : w = K 14 + K 62 - 1) : Rl I' (uN N 3 (N 3 + 1)) (bgF N F w) (bgK K) (bgG K G) := by
  obtain ⟨⟨a1, a2, a3, a4, a5⟩, hs, hn, ⟨nt, en, bn, cB, fl, wd, r1, r2, r3, r4, r5, r6, w1, w2, w3, w4, w5, w6, w7, w8⟩, ht⟩ := h
  have eN : N 3 = K 3 := a1.2.2.2.2.2.1
  have eN8 : N 8 = K 10 := a1.2.2.2.2.2.2.2.2.2
  have p3 : 0 ≤ K 3 := hp.1.2.1.1
  have p14 := hp.2.2.2.2.2.2.1
  have p29 := hp.2.2.2.2.2.1
  have p10 : 0 ≤ K 10 := hp.1.2.2.1.1
  have p62 := hp.2.2.2.2.2.2.2.2.2.2.1
  have f3 : ∀ s d : Int, s ≠ K 3 → 0 ≤ d → d < 9 → bgF N F w 3 (s * 9 + d) = F 3 (s * 9 + d) := by
    intro s d e q0 q1
    show uI (uI (uI (adf (F 3) 9 (N 3) w) (N 3 * 9 + 5) (-100)) (N 3 * 9 + 6) (N 2)) (N 3 * 9 + 7) (N 8) (s * 9 + d) = _
    rw [uI_n (by omega), uI_n (by omega), uI_n (by omega), ad9_n (by omega) ⟨q0, q1⟩]
  have f3n : ∀ d : Int, 1 ≤ d → d < 9 → d ≠ 5 → d ≠ 6 → d ≠ 7 → bgF N F w 3 (K 3 * 9 + d) = 0 := by
    intro d q0 q1 q2 q3 q4
    show uI (uI (uI (adf (F 3) 9 (N 3) w) (N 3 * 9 + 5) (-100)) (N 3 * 9 + 6) (N 2)) (N 3 * 9 + 7) (N 8) (K 3 * 9 + d) = _
    rw [uI_n (by omega), uI_n (by omega), uI_n (by omega)]
    unfold adf
    rw [cl_0 (by omega)]
  have f30 : bgF N F w 3 (K 3 * 9 + 0) = w := by
    show uI (uI (uI (adf (F 3) 9 (N 3) w) (N 3 * 9 + 5) (-100)) (N 3 * 9 + 6) (N 2)) (N 3 * 9 + 7) (N 8) (K 3 * 9 + 0) = _
    rw [uI_n (by omega), uI_n (by omega), uI_n (by omega)]
    unfold adf
    rw [cl_c (by omega), eN, Int.add_zero, uI_s]
  have f35 : bgF N F w 3 (K 3 * 9 + 5) = -100 := by
    show uI (uI (uI (adf (F 3) 9 (N 3) w) (N 3 * 9 + 5) (-100)) (N 3 * 9 + 6) (N 2)) (N 3 * 9 + 7) (N 8) (K 3 * 9 + 5) = _
    rw [uI_n (by omega), uI_n (by omega), eN, uI_s]
  have f36 : bgF N F w 3 (K 3 * 9 + 6) = N 2 := by
    show uI (uI (uI (adf (F 3) 9 (N 3) w) (N 3 * 9 + 5) (-100)) (N 3 * 9 + 6) (N 2)) (N 3 * 9 + 7) (N 8) (K 3 * 9 + 6) = _
    rw [uI_n (by omega), eN, uI_s]
  have f37 : bgF N F w 3 (K 3 * 9 + 7) = N 8 := by
    show uI (uI (uI (adf (F 3) 9 (N 3) w) (N 3 * 9 + 5) (-100)) (N 3 * 9 + 6) (N 2)) (N 3 * 9 + 7) (N 8) (K 3 * 9 + 7) = _
    rw [eN, uI_s]
  have g9 : ∀ s : Int, s ≤ K 3 → bgG K G 9 s = G 9 s := by
    intro s q
    show uI (uI (G 9) (K 3) (K 10)) (K 3 + 1) (K 10) s = _
    rw [uI_n (by omega)]
    by_cases e : s = K 3
    · rw [e, uI_s, w4]
    · rw [uI_n e]
  have g9n : bgG K G 9 (K 3 + 1) = K 10 := by
    show uI (uI (G 9) (K 3) (K 10)) (K 3 + 1) (K 10) (K 3 + 1) = _
    rw [uI_s]
  have gx : ∀ (x : Int → Int) (v s : Int), s < K 3 → uI x (K 3) v s = x s := fun x v s q => uI_n (by omega)
  have g8 : ∀ s : Int, s < K 3 → bgG K G 8 s = G 8 s := fun s q => gx _ _ _ q
  have g8n : bgG K G 8 (K 3) = w := by
    show uI (G 8) (K 3) (K 14 + K 62 - 1) (K 3) = w
    rw [uI_s, hw]
  have pw : 0 ≤ w := by
    rcases p62 with e | e
    · have := w6 e
      have := (w1 (K 3 - 1) (by omega) (by omega)).2.1
      have := w5 (by omega)
      omega
    · omega
  refine ⟨⟨⟨(hi 3 (by decide) (by decide) (by decide)).trans a1.1, (hi 4 (by decide) (by decide) (by decide)).trans a1.2.1, a1.2.2.1, i1, (hi 2 (by decide) (by decide) (by decide)).trans a1.2.2.2.2.1, ?_, a1.2.2.2.2.2.2⟩, a2, ⟨(hi 8 (by decide) (by decide) (by decide)).trans a3.1, i9, ?_, (hi 11 (by decide) (by decide) (by decide)).trans a3.2.2.2.1, (hi 12 (by decide) (by decide) (by decide)).trans a3.2.2.2.2⟩, a4, a5⟩, ?_, ?_, ⟨nt, en, bn, cB, fl, wd, r1, r2, r3, r4, (hi 6 (by decide) (by decide) (by decide)).trans r5, ?_, ?_, ?_, ?_, ?_, ?_, ?_, ?_, ?_⟩, ht⟩
  · show N 3 + 1 = K 3 + 1
    rw [eN]
  · show I' 10 = 1 - 0
    rw [i10]; rfl
  · intro s h0 h1
    have h1 : s < K 3 + 1 := h1
    by_cases e : s = K 3
    · subst e
      have n0 : cnM (G 18) (K 3) (K 15).toNat = 0 := cnM_no _ (fun i q0 q1 => by have := (hn i q0 (by omega)).2.2.2.2; omega)
      refine ⟨⟨f30.trans g8n.symm, ?_, ?_, ?_⟩, ⟨(f3n 4 (by decide) (by decide) (by decide) (by decide) (by decide)).trans n0.symm, f35.trans (fsD_0 _ _ n0).symm⟩, ?_, ?_, ?_, ?_, ?_⟩
      · exact (f3n 1 (by decide) (by decide) (by decide) (by decide) (by decide)).trans (show 0 = uI (G 5) (K 3) 0 (K 3) by rw [uI_s])
      · exact (f3n 2 (by decide) (by decide) (by decide) (by decide) (by decide)).trans (show 0 = uI (G 6) (K 3) 0 (K 3) by rw [uI_s])
      · exact (f3n 3 (by decide) (by decide) (by decide) (by decide) (by decide)).trans (show 0 = uI (G 7) (K 3) 0 (K 3) by rw [uI_s])
      · rw [f37, eN8, g9 _ (Int.le_refl _), w4]
      · intro _
        rw [g9n, g9 _ (Int.le_refl _), w4, f3n 8 (by decide) (by decide) (by decide) (by decide) (by decide)]
        omega
      · rw [f36]
        show 0 ≤ N 2 ∧ N 2 + uI (G 5) (K 3) 0 (K 3) ≤ N 2 ∧ 0 ≤ uI (G 5) (K 3) 0 (K 3) ∧ 0 ≤ uI (G 4) (K 3) (K 29) (K 3) ∧ uI (G 4) (K 3) (K 29) (K 3) + uI (G 5) (K 3) 0 (K 3) ≤ K 29
        rw [uI_s, uI_s]
        omega
      · intro i q0 q1
        have q1 : i < uI (G 5) (K 3) 0 (K 3) := q1
        rw [uI_s] at q1
        omega
      · intro _
        rw [f36]
        show N 2 + uI (G 5) (K 3) 0 (K 3) = N 2 ∧ uI (G 4) (K 3) (K 29) (K 3) + uI (G 5) (K 3) 0 (K 3) = K 29
        rw [uI_s, uI_s]
        omega
    · have h2 : s < K 3 := by omega
      obtain ⟨b1, b2, b3, b4, b5, b6, b7⟩ := hs s h0 h2
      refine ⟨⟨(f3 s 0 e (by decide) (by decide)).trans (b1.1.trans (g8 s h2).symm), (f3 s 1 e (by decide) (by decide)).trans (b1.2.1.trans (gx _ _ s h2).symm), (f3 s 2 e (by decide) (by decide)).trans (b1.2.2.1.trans (gx _ _ s h2).symm), (f3 s 3 e (by decide) (by decide)).trans (b1.2.2.2.trans (gx _ _ s h2).symm)⟩, ⟨(f3 s 4 e (by decide) (by decide)).trans b2.1, (f3 s 5 e (by decide) (by decide)).trans b2.2⟩, ?_, ?_, ?_, ?_, ?_⟩
      · rw [f3 s 7 e (by decide) (by decide), g9 s (by omega)]
        exact b3
      · intro _
        rw [f3 s 8 e (by decide) (by decide), g9 s (by omega), g9 (s + 1) (by omega)]
        exact b4 (Or.inr h60)
      · rw [f3 s 6 e (by decide) (by decide)]
        show 0 ≤ F 3 (s * 9 + 6) ∧ F 3 (s * 9 + 6) + uI (G 5) (K 3) 0 s ≤ N 2 ∧ 0 ≤ uI (G 5) (K 3) 0 s ∧ 0 ≤ uI (G 4) (K 3) (K 29) s ∧ uI (G 4) (K 3) (K 29) s + uI (G 5) (K 3) 0 s ≤ K 29
        rw [gx _ _ s h2, gx _ _ s h2]
        exact b5
      · intro i q0 q1
        have q1 : i < uI (G 5) (K 3) 0 s := q1
        rw [gx _ _ s h2] at q1
        rw [f3 s 6 e (by decide) (by decide)]
        show F 2 _ = G 2 (uI (G 4) (K 3) (K 29) s + i)
        rw [gx _ _ s h2]
        exact b6 i q0 q1
      · intro q
        have q1 : s = K 3 + 1 - 1 := q.1
        omega
  · intro n q0 q1
    obtain ⟨c1, c2, c3, c4⟩ := hn n q0 q1
    exact ⟨c1, c2, c3, c4.1, show G 18 n < K 3 + 1 by omega⟩
  · intro h q0 q1
    show bnd (bsr (I' 7) h) 1 = if (0 : Int) = 1 then 0 else crM (bgG K G) fl wd (K 3 + 1 - 1) (K 10) h
    rw [if_neg (by decide), hi 7 (by decide) (by decide) (by decide), r6 h q0 q1, show K 3 + 1 - 1 = K 3 by omega]
    show (if K 62 = 1 then 0 else crM G fl wd (K 3 - 1) (K 10) h) = if 0 < K 10 ∧ wd (K 10 - 1) = bgG K G 8 (K 3) then faM G fl (K 10 - 1) h else 0
    rw [g8n]
    rcases p62 with e | e
    · have e3 := w6 e
      rw [if_neg (by omega)]
      unfold crM
      rw [w5 e3, show w = K 14 - 1 by omega]
    · rw [if_pos e, if_neg]
      intro q
      have := w2 (K 10 - 1) (by omega) (by omega)
      omega
  · intro s h0 h1
    have h1 : s < K 3 + 1 := h1
    by_cases e : s = K 3
    · subst e
      rw [g9n, g9 _ (Int.le_refl _), w4, g8n]
      refine ⟨by show 0 ≤ K 10 ∧ K 10 ≤ K 10 ∧ K 10 ≤ K 10; omega, by show 0 ≤ w ∧ w ≤ K 14 + K 62 - 1; omega, fun k q0 q1 => by omega, ?_⟩
      intro q
      rw [g8 (K 3 - 1) (by omega)]
      have := w5 q
      refine ⟨by omega, fun k q0 q1 => ?_⟩
      have := w2 k q0 q1
      omega
    · have h2 : s < K 3 := by omega
      obtain ⟨v1, v2, v3, v4⟩ := w1 s h0 h2
      rw [g9 s (by omega), g9 (s + 1) (by omega), g8 s h2, g8 (s - 1) (by omega)]
      exact ⟨v1, ⟨v2.1, by show G 8 s ≤ K 14 + K 62 - 1; omega⟩, v3, v4⟩
  · intro k q0 q1
    have := w2 k q0 q1
    show wd k ≤ K 14 + K 62 - 1
    omega
  · rw [g9 0 p3]; exact w3
  · exact g9n
  · intro _
    show bgG K G 8 (K 3 + 1 - 1) = K 14 + K 62 - 1
    rw [show K 3 + 1 - 1 = K 3 by omega, g8n, hw]
  · intro _
    show 0 < K 3 + 1
    omega
  · intro _; rfl
  · intro _; rfl
theorem Rl_mk {I N : Nat → Int} {F : Nat → Int → Int} {K : Nat → Int} {G : Nat → Int → Int} {b : Int} (h : Rl I N F K G) (hp : PI K) (h60 : K 60 = 1) (h64 : K 64 = 1) (hm : bnd (G 17 (K 15 - 1)) (mkOf b) = 0) : Rl I N (uN F 4 (uI (F 4) ((N 4 - 1) * 8 + 1) (F 4 ((N 4 - 1) * 8 + 1) + mkOf b))) (adv K 1) (mkG (mkOf b) K G) := by
  obtain ⟨⟨a1, a2, a3, a4, a5⟩, hs, hn, ⟨nt, en, bn, cB, fl, wd, r1, r2, r3, r4, r5, r6, w⟩, ht⟩ := h
  have eN : N 4 = K 15 := a1.2.2.2.2.2.2.1
  have p15 : 0 < K 15 := hp.2.2.2.2.2.2.2.2.2.2.2.2.2.2.2 ⟨h64, h60⟩
  refine ⟨⟨a1, a2, a3, ⟨a4.1, ?_⟩, a5⟩, ?_, ?_, ⟨nt, en, bn, cB, fl, wd, ?_, r2, r3, r4, r5, r6, w⟩, ht⟩
  · show N 2 ≤ K 29 + 1
    omega
  · intro s h0 h1
    obtain ⟨b1, b2, b3, b4, b5, b6, b7⟩ := hs s h0 h1
    refine ⟨b1, b2, b3, b4, ⟨b5.1, b5.2.1, b5.2.2.1, b5.2.2.2.1, ?_⟩, b6, ?_⟩
    · show G 4 s + G 5 s ≤ K 29 + 1
      omega
    · intro q
      exact absurd (show K 60 = 0 from q.2.2) (by omega)
  · intro n q0 q1
    have q1 : n < K 15 := q1
    obtain ⟨c1, c2, c3, c4⟩ := hn n q0 q1
    have ne : ∀ d : Int, 0 ≤ d → d < 8 → d ≠ 1 → uI (F 4) ((N 4 - 1) * 8 + 1) (F 4 ((N 4 - 1) * 8 + 1) + mkOf b) (n * 8 + d) = F 4 (n * 8 + d) := fun d z0 z1 z2 => uI_n (by omega)
    have e17 : ∀ x : Int, uI (F 4) ((N 4 - 1) * 8 + 1) (F 4 ((N 4 - 1) * 8 + 1) + mkOf b) (n * 8 + 1) = uI (G 17) (K 15 - 1) (bor (G 17 (K 15 - 1)) (mkOf b)) n ∧ (0 ≤ uI (G 17) (K 15 - 1) (bor (G 17 (K 15 - 1)) (mkOf b)) n ∧ uI (G 17) (K 15 - 1) (bor (G 17 (K 15 - 1)) (mkOf b)) n ≤ 31) := by
      intro _
      by_cases e : n = K 15 - 1
      · rw [eN, ← e, uI_s, uI_s, c1.2.1]
        rw [← e] at hm
        have m := mark_or c3 hm
        have mr : 0 ≤ mkOf b := by unfold mkOf; omega
        rw [m.1]
        omega
      · rw [uI_n (by omega), uI_n e]
        exact ⟨c1.2.1, c3⟩
    have e17 := e17 0
    exact ⟨⟨(ne 0 (by decide) (by decide) (by decide)).trans c1.1, e17.1, (ne 2 (by decide) (by decide) (by decide)).trans c1.2.2.1, (ne 3 (by decide) (by decide) (by decide)).trans c1.2.2.2⟩, c2, e17.2, c4⟩
  · intro k q0 q1
    obtain ⟨d1, d2, d3, d4, d5, d6, d7⟩ := r1 k q0 q1
    refine ⟨d1, d2, d3, ?_, d5, d6, d7⟩
    intro e
    have d4 := d4 e
    show G 16 (nt k) = G 12 k ∧ uI (F 4) ((N 4 - 1) * 8 + 1) (F 4 ((N 4 - 1) * 8 + 1) + mkOf b) (nt k * 8 + 5) = stM (G 12 k) (cB k) ∧ uI (F 4) ((N 4 - 1) * 8 + 1) (F 4 ((N 4 - 1) * 8 + 1) + mkOf b) (nt k * 8 + 6) = 12 * (uI (F 4) ((N 4 - 1) * 8 + 1) (F 4 ((N 4 - 1) * 8 + 1) + mkOf b) (nt k * 8 + 5) / 7) + scI (uI (F 4) ((N 4 - 1) * 8 + 1) (F 4 ((N 4 - 1) * 8 + 1) + mkOf b) (nt k * 8 + 5) % 7) - fl k (G 12 k)
    rw [uI_n (by omega), uI_n (by omega)]
    exact d4
