/-! the class beside the reference while a text is read -/
/-- the height at which step 0 stands by a clef -/
def zrM (c : Int) : Int := 2 * (c % 10) + 1 + (if 9 < c then 4 else 0)
/-- a sign's value in the class -/
def svl (k v n : Int) : Int := if k = 1 then n else if k = 4 then (if 9 < v then v - 6 else v) else v
def Row (F G : Nat → Int → Int) (nt en bn cB : Int → Int) (fl : Int → Int → Int) (wd : Int → Int) (k : Int) : Prop :=
  ((1 ≤ G 11 k ∧ G 11 k ≤ 6) ∧ (G 11 k ≤ 3 → G 12 k ≤ 12) ∧ (0 ≤ G 12 k ∧ G 12 k ≤ 14) ∧ (G 11 k = 4 → 1 ≤ G 12 k % 10 ∧ G 12 k % 10 ≤ 4) ∧ (G 11 k = 5 → 1 ≤ G 12 k ∧ G 12 k ≤ 4)) ∧
  (nt (k + 1) = nt k + (if G 11 k = 1 then 1 else 0) ∧ en (k + 1) = en k + (if G 11 k = 6 then 1 else 0) ∧ bn (k + 1) = bn k + (if G 11 k = 5 then 1 else 0) ∧ cB (k + 1) = (if G 11 k = 4 then G 12 k else cB k) ∧ G 13 k = nt k) ∧
  (F 8 (k * 2 + 0) = G 11 k - 1 ∧ F 8 (k * 2 + 1) = svl (G 11 k) (G 12 k) (nt k)) ∧
  (G 11 k = 1 → G 16 (nt k) = G 12 k ∧ F 4 (nt k * 8 + 5) = stM (G 12 k) (cB k) ∧ F 4 (nt k * 8 + 6) = 12 * (F 4 (nt k * 8 + 5) / 7) + scI (F 4 (nt k * 8 + 5) % 7) - fl k (G 12 k)) ∧
  (G 11 k = 5 → F 6 (bn k * 2 + 0) = G 12 k ∧ F 6 (bn k * 2 + 1) = nt k) ∧
  (G 11 k = 6 → F 7 (en k * 2 + 0) = nt k ∧ F 7 (en k * 2 + 1) = zrM (cB k)) ∧
  (∀ h : Int, 0 ≤ h → h ≤ 12 → fl k h = if 0 < k ∧ wd (k - 1) = wd k then faM G fl (k - 1) h else 0)
def Rng (K : Nat → Int) (nt en bn cB : Int → Int) (k : Int) : Prop := (0 ≤ nt k ∧ nt k ≤ K 15) ∧ (0 ≤ en k ∧ en k ≤ K 22) ∧ (0 ≤ bn k ∧ bn k ≤ K 21) ∧ (0 ≤ cB k ∧ cB k ≤ 14)
/-- syllables and words -/
def Wds (K : Nat → Int) (G : Nat → Int → Int) (wd : Int → Int) : Prop :=
  (∀ s : Int, 0 ≤ s → s < K 3 → (0 ≤ G 9 s ∧ G 9 s ≤ G 9 (s + 1) ∧ G 9 (s + 1) ≤ K 10) ∧ (0 ≤ G 8 s ∧ G 8 s ≤ K 14 - 1) ∧ (∀ k : Int, G 9 s ≤ k → k < G 9 (s + 1) → wd k = G 8 s) ∧ (0 < s → G 8 (s - 1) ≤ G 8 s ∧ ∀ k : Int, 0 ≤ k → k < G 9 s → wd k ≤ G 8 (s - 1))) ∧
  (∀ k : Int, 0 ≤ k → k < K 10 → wd k ≤ K 14 - 1) ∧ G 9 0 = 0 ∧ G 9 (K 3) = K 10 ∧ (0 < K 3 → G 8 (K 3 - 1) = K 14 - 1) ∧ (K 62 = 0 → 0 < K 3) ∧ (K 61 = 1 → K 62 = 0) ∧ (K 60 = 1 → K 61 = 1)
def Sgs (I : Nat → Int) (F : Nat → Int → Int) (K : Nat → Int) (G : Nat → Int → Int) : Prop :=
  ∃ (nt en bn cB : Int → Int) (fl : Int → Int → Int) (wd : Int → Int),
    (∀ k : Int, 0 ≤ k → k < K 10 → Row F G nt en bn cB fl wd k) ∧ (∀ k : Int, 0 ≤ k → k ≤ K 10 → Rng K nt en bn cB k) ∧
    (nt 0 = 0 ∧ en 0 = 0 ∧ bn 0 = 0 ∧ cB 0 = 4 ∧ nt (K 10) = K 15 ∧ en (K 10) = K 22 ∧ bn (K 10) = K 21) ∧ (∀ k h : Int, 0 ≤ fl k h ∧ fl k h ≤ 1) ∧
    I 6 = zrM (cB (K 10)) ∧ (∀ h : Int, 0 ≤ h → h ≤ 12 → bnd (bsr (I 7) h) 1 = if K 62 = 1 then 0 else crM G fl wd (K 3 - 1) (K 10) h) ∧ Wds K G wd
def Syl (N : Nat → Int) (F : Nat → Int → Int) (K : Nat → Int) (G : Nat → Int → Int) (s : Int) : Prop :=
  (F 3 (s * 9 + 0) = G 8 s ∧ F 3 (s * 9 + 1) = G 5 s ∧ F 3 (s * 9 + 2) = G 6 s ∧ F 3 (s * 9 + 3) = G 7 s) ∧
  (F 3 (s * 9 + 4) = cnM (G 18) s (K 15).toNat ∧ F 3 (s * 9 + 5) = fsD (G 18) s (K 15).toNat (-100)) ∧
  F 3 (s * 9 + 7) = G 9 s ∧ (s < K 3 - 1 ∨ K 60 = 0 → F 3 (s * 9 + 8) = G 9 (s + 1) - G 9 s) ∧
  (0 ≤ F 3 (s * 9 + 6) ∧ F 3 (s * 9 + 6) + G 5 s ≤ N 2 ∧ 0 ≤ G 5 s ∧ 0 ≤ G 4 s ∧ G 4 s + G 5 s ≤ K 29) ∧ (∀ i : Int, 0 ≤ i → i < G 5 s → F 2 (F 3 (s * 9 + 6) + i) = G 2 (G 4 s + i)) ∧
  (s = K 3 - 1 ∧ K 61 = 1 ∧ K 60 = 0 → F 3 (s * 9 + 6) + G 5 s = N 2 ∧ G 4 s + G 5 s = K 29)
def Nts (F : Nat → Int → Int) (K : Nat → Int) (G : Nat → Int → Int) : Prop := ∀ n : Int, 0 ≤ n → n < K 15 → (F 4 (n * 8 + 0) = G 16 n ∧ F 4 (n * 8 + 1) = G 17 n ∧ F 4 (n * 8 + 2) = G 18 n ∧ F 4 (n * 8 + 3) = G 19 n) ∧ (0 ≤ G 16 n ∧ G 16 n ≤ 12) ∧ (0 ≤ G 17 n ∧ G 17 n ≤ 31) ∧ (0 ≤ G 18 n ∧ G 18 n < K 3)
def Sca (I N : Nat → Int) (F : Nat → Int → Int) (K : Nat → Int) : Prop :=
  (I 3 = 0 ∧ I 4 = -100 ∧ N 9 = 6 ∧ I 1 = K 14 ∧ I 2 = K 20 ∧ N 3 = K 3 ∧ N 4 = K 15 ∧ N 6 = K 21 ∧ N 7 = K 22 ∧ N 8 = K 10) ∧
  (F 9 0 = K 15 ∧ F 9 1 = K 24 ∧ F 9 2 = K 25 ∧ F 9 3 = K 23 ∧ F 9 4 = K 21 ∧ F 9 5 = K 22) ∧
  (I 8 = K 60 ∧ I 9 = K 61 ∧ I 10 = 1 - K 62 ∧ I 11 = (if K 60 = 1 then 1 - K 63 else 0) ∧ I 12 = (if K 60 = 1 then K 64 else 0)) ∧ (0 ≤ N 2 ∧ N 2 ≤ K 29) ∧ N 5 = 0
def Tap (N : Nat → Int) (F : Nat → Int → Int) (K : Nat → Int) (G : Nat → Int → Int) : Prop := N 0 = K 28 ∧ ∀ i : Int, 0 ≤ i → i < K 28 → F 0 i = G 2 i
def Rl (I N : Nat → Int) (F : Nat → Int → Int) (K : Nat → Int) (G : Nat → Int → Int) : Prop :=
  Sca I N F K ∧ (∀ s : Int, 0 ≤ s → s < K 3 → Syl N F K G s) ∧ Nts F K G ∧ Sgs I F K G ∧ Tap N F K G
/-! cells of rows -/
theorem cl_c {g : Int → Int} {i k x : Int} (h : x < i ∨ k ≤ x) : clr g i k x = g x := by unfold clr; rw [if_neg (by omega)]
theorem cl_0 {g : Int → Int} {i k x : Int} (h : i ≤ x ∧ x < k) : clr g i k x = 0 := by unfold clr; rw [if_pos h]
theorem ad9_n {g : Int → Int} {a v s d : Int} (hs : s ≠ a) (hd : 0 ≤ d ∧ d < 9) : adf g 9 a v (s * 9 + d) = g (s * 9 + d) := by
  unfold adf
  rw [cl_c (by omega), uI_n (by omega)]
theorem ad8_n {g : Int → Int} {a v s d : Int} (hs : s ≠ a) (hd : 0 ≤ d ∧ d < 8) : adf g 8 a v (s * 8 + d) = g (s * 8 + d) := by
  unfold adf
  rw [cl_c (by omega), uI_n (by omega)]
theorem ad2_n {g : Int → Int} {a v s d : Int} (hs : s ≠ a) (hd : 0 ≤ d ∧ d < 2) : adf g 2 a v (s * 2 + d) = g (s * 2 + d) := by
  unfold adf
  rw [cl_c (by omega), uI_n (by omega)]
/-! counting -/
theorem cnM_c {g f : Int → Int} {s : Int} : ∀ n : Nat, (∀ i : Int, 0 ≤ i → i < n → g i = f i) → cnM g s n = cnM f s n := by
  intro n
  induction n with
  | zero => intro _; rfl
  | succ n ih =>
    intro h
    rw [cnM, cnM, ih (fun i a b => h i a (by omega)), h n (by omega) (by omega)]
theorem fsD_c {g f : Int → Int} {s : Int} : ∀ (n : Nat) (a : Int), (∀ i : Int, 0 ≤ i → i < n → g i = f i) → fsD g s n a = fsD f s n a := by
  intro n
  induction n with
  | zero => intro a _; rfl
  | succ n ih =>
    intro a h
    rw [fsD, fsD, h n (by omega) (by omega), ih _ (fun i a b => h i a (by omega))]
theorem cnM_no {g : Int → Int} {s : Int} : ∀ n : Nat, (∀ i : Int, 0 ≤ i → i < n → ¬ g i = s) → cnM g s n = 0 := by
  intro n
  induction n with
  | zero => intro _; rfl
  | succ n ih =>
    intro h
    rw [cnM, ih (fun i a b => h i a (by omega)), if_neg (h n (by omega) (by omega))]
    rfl
theorem fsD_0 {g : Int → Int} {s : Int} : ∀ (n : Nat) (a : Int), cnM g s n = 0 → fsD g s n a = a := by
  intro n
  induction n with
  | zero => intro a _; rfl
  | succ n ih =>
    intro a h
    have hr := cnM_r g s n
    rw [cnM] at h
    by_cases e : g n = s
    · rw [if_pos e] at h; omega
    · rw [if_neg e] at h
      rw [fsD, if_neg e, ih a (by omega)]
theorem fsD_1 {g : Int → Int} {s : Int} : ∀ (n : Nat) (a b : Int), ¬ cnM g s n = 0 → fsD g s n a = fsD g s n b := by
  intro n
  induction n with
  | zero => intro a b h; exact absurd rfl h
  | succ n ih =>
    intro a b h
    rw [cnM] at h
    by_cases e : g n = s
    · rw [fsD, fsD, if_pos e, if_pos e]
    · rw [if_neg e] at h
      rw [fsD, fsD, if_neg e, if_neg e]
      exact ih a b (by omega)
/-! steps that add no sign -/
theorem Rl_bl {I N : Nat → Int} {F : Nat → Int → Int} {K : Nat → Int} {G : Nat → Int → Int} (h : Rl I N F K G) (h60 : K 60 = 0) : Rl (uN (uN (uN (uN I 5 (K 29 + 1)) 9 0) 10 0) 7 0) N F (uN (uN (adv K 1) 61 0) 62 1) G := by
  obtain ⟨⟨a1, a2, a3, a4, a5⟩, hs, hn, ⟨nt, en, bn, cB, fl, wd, r1, r2, r3, r4, r5, r6, w1, w2, w3, w4, w5, w6, w7, w8⟩, ht⟩ := h
  refine ⟨⟨a1, a2, ⟨a3.1, rfl, rfl, a3.2.2.2.1, a3.2.2.2.2⟩, ⟨a4.1, ?_⟩, a5⟩, ?_, hn, ⟨nt, en, bn, cB, fl, wd, r1, r2, r3, r4, r5, ?_, w1, w2, w3, w4, w5, ?_, ?_, ?_⟩, ht⟩
  · show N 2 ≤ K 29 + 1
    omega
  · intro s h0 h1
    obtain ⟨b1, b2, b3, b4, b5, b6, b7⟩ := hs s h0 h1
    refine ⟨b1, b2, b3, b4, ⟨b5.1, b5.2.1, b5.2.2.1, b5.2.2.2.1, ?_⟩, b6, ?_⟩
    · show G 4 s + G 5 s ≤ K 29 + 1
      omega
    · intro q
      exact absurd (show (0 : Int) = 1 from q.2.1) (by decide)
  · intro h q0 q1
    show bnd (bsr 0 h) 1 = if (1 : Int) = 1 then 0 else _
    rw [if_pos rfl, bit_0 ⟨q0, q1⟩]
  · intro q
    exact absurd (show (1 : Int) = 0 from q) (by decide)
  · intro q
    exact absurd (show (0 : Int) = 1 from q) (by decide)
  · intro q
    exact absurd h60 (by have q : K 60 = 1 := q; omega)
theorem Rl_sp {I N : Nat → Int} {F : Nat → Int → Int} {K : Nat → Int} {G : Nat → Int → Int} (h : Rl I N F K G) (h60 : K 60 = 1) : Rl (uN (uN (uN I 5 (K 29 + 1)) 12 0) 11 0) N F (uN (uN (adv K 1) 63 1) 64 0) G := by
  obtain ⟨⟨a1, a2, a3, a4, a5⟩, hs, hn, hg, ht⟩ := h
  refine ⟨⟨a1, a2, ⟨a3.1, a3.2.1, a3.2.2.1, ?_, ?_⟩, ⟨a4.1, ?_⟩, a5⟩, ?_, hn, hg, ht⟩
  · show (0 : Int) = if K 60 = 1 then 1 - 1 else 0
    rw [if_pos h60]; rfl
  · show (0 : Int) = if K 60 = 1 then 0 else 0
    rw [if_pos h60]
  · show N 2 ≤ K 29 + 1
    omega
  · intro s h0 h1
    obtain ⟨b1, b2, b3, b4, b5, b6, b7⟩ := hs s h0 h1
    refine ⟨b1, b2, b3, b4, ⟨b5.1, b5.2.1, b5.2.2.1, b5.2.2.2.1, ?_⟩, b6, ?_⟩
    · show G 4 s + G 5 s ≤ K 29 + 1
      omega
    · intro q
      exact absurd (show K 60 = 0 from q.2.2) (by omega)
theorem Rl_cl {I N : Nat → Int} {F : Nat → Int → Int} {K : Nat → Int} {G : Nat → Int → Int} (h : Rl I N F K G) (h60 : K 60 = 1) : Rl (uN (uN (uN (uN (uN I 5 (K 29 + 1)) 12 0) 11 0) 8 0) 9 0) N (uN F 3 (uI (F 3) ((N 3 - 1) * 9 + 8) (N 8 - F 3 ((N 3 - 1) * 9 + 7)))) (uN (uN (adv K 1) 60 0) 61 0) G := by
  obtain ⟨⟨a1, a2, a3, a4, a5⟩, hs, hn, ⟨nt, en, bn, cB, fl, wd, r1, r2, r3, r4, r5, r6, w1, w2, w3, w4, w5, w6, w7, w8⟩, ht⟩ := h
  refine ⟨⟨a1, a2, ⟨rfl, rfl, a3.2.2.1, rfl, rfl⟩, ⟨a4.1, ?_⟩, a5⟩, ?_, hn, ⟨nt, en, bn, cB, fl, wd, r1, r2, r3, r4, r5, r6, w1, w2, w3, w4, w5, w6, ?_, ?_⟩, ht⟩
  · show N 2 ≤ K 29 + 1
    omega
  · intro s h0 h1
    have h1 : s < K 3 := h1
    obtain ⟨b1, b2, b3, b4, b5, b6, b7⟩ := hs s h0 h1
    have eN : N 3 = K 3 := a1.2.2.2.2.2.1
    have eN8 : N 8 = K 10 := a1.2.2.2.2.2.2.2.2.2
    have ne : ∀ d : Int, 0 ≤ d → d < 8 → uI (F 3) ((N 3 - 1) * 9 + 8) (N 8 - F 3 ((N 3 - 1) * 9 + 7)) (s * 9 + d) = F 3 (s * 9 + d) := fun d q0 q1 => uI_n (by omega)
    refine ⟨⟨(ne 0 (by decide) (by decide)).trans b1.1, (ne 1 (by decide) (by decide)).trans b1.2.1, (ne 2 (by decide) (by decide)).trans b1.2.2.1, (ne 3 (by decide) (by decide)).trans b1.2.2.2⟩, ⟨(ne 4 (by decide) (by decide)).trans b2.1, (ne 5 (by decide) (by decide)).trans b2.2⟩, (ne 7 (by decide) (by decide)).trans b3, ?_, ?_, ?_, ?_⟩
    · intro _
      show uI (F 3) ((N 3 - 1) * 9 + 8) (N 8 - F 3 ((N 3 - 1) * 9 + 7)) (s * 9 + 8) = _
      by_cases e : s = K 3 - 1
      · rw [eN, ← e, uI_s, b3, eN8, ← w4, show s + 1 = K 3 by omega]
      · rw [uI_n (by omega)]
        exact b4 (Or.inl (by omega))
    · have e6 := ne 6 (by decide) (by decide)
      show 0 ≤ uI (F 3) ((N 3 - 1) * 9 + 8) (N 8 - F 3 ((N 3 - 1) * 9 + 7)) (s * 9 + 6) ∧ uI (F 3) ((N 3 - 1) * 9 + 8) (N 8 - F 3 ((N 3 - 1) * 9 + 7)) (s * 9 + 6) + G 5 s ≤ N 2 ∧ 0 ≤ G 5 s ∧ 0 ≤ G 4 s ∧ G 4 s + G 5 s ≤ K 29 + 1
      rw [e6]
      omega
    · intro i q0 q1
      show F 2 (uI (F 3) ((N 3 - 1) * 9 + 8) (N 8 - F 3 ((N 3 - 1) * 9 + 7)) (s * 9 + 6) + i) = _
      rw [ne 6 (by decide) (by decide)]
      exact b6 i q0 q1
    · intro q
      exact absurd (show (0 : Int) = 1 from q.2.1) (by decide)
  · intro q
    exact absurd (show (0 : Int) = 1 from q) (by decide)
  · intro q
    exact absurd (show (0 : Int) = 1 from q) (by decide)
