/-! the class beside the reference between calls: the score -/
def gdx (F : Nat → Int → Int) (n a : Int) : Int := if (0 ≤ F 7 (a * 2 + 0) ∧ F 7 (a * 2 + 0) < n) ∧ 0 ≤ F 4 (F 7 (a * 2 + 0) * 8 + 5) + F 7 (a * 2 + 1) ∧ F 4 (F 7 (a * 2 + 0) * 8 + 5) + F 7 (a * 2 + 1) ≤ 12 then F 4 (F 7 (a * 2 + 0) * 8 + 5) + F 7 (a * 2 + 1) else -100
def RS (I N : Nat → Int) (F : Nat → Int → Int) (K : Nat → Int) (G : Nat → Int → Int) : Prop :=
  (I 1 = K 14 ∧ I 2 = K 20 ∧ N 3 = K 3 ∧ N 4 = K 15 ∧ N 5 = K 35 ∧ N 6 = K 21 ∧ N 7 = K 22) ∧
  (∀ s : Int, 0 ≤ s → s < K 3 → F 3 (s * 9 + 0) = G 8 s ∧ F 3 (s * 9 + 1) = G 5 s ∧ F 3 (s * 9 + 2) = G 6 s ∧ F 3 (s * 9 + 3) = G 7 s ∧ F 3 (s * 9 + 4) = cnM (G 18) s (K 15).toNat ∧ F 3 (s * 9 + 5) = fsD (G 18) s (K 15).toNat (-100)) ∧
  (∀ n : Int, 0 ≤ n → n < K 15 → F 4 (n * 8 + 0) = G 16 n ∧ F 4 (n * 8 + 1) = G 17 n ∧ F 4 (n * 8 + 2) = G 18 n ∧ F 4 (n * 8 + 3) = G 19 n ∧ F 4 (n * 8 + 4) = G 39 n ∧ F 4 (n * 8 + 5) = G 30 n ∧ F 4 (n * 8 + 6) = G 31 n ∧ F 4 (n * 8 + 7) = lnM K G n ∧ -100 ≤ G 30 n ∧ G 30 n ≤ 100) ∧
  (∀ i : Int, 0 ≤ i → i < K 35 → F 5 (i * 4 + 0) = G 36 i ∧ F 5 (i * 4 + 1) = G 37 i ∧ F 5 (i * 4 + 2) = G 38 i ∧ F 5 (i * 4 + 3) = (if bnd (G 17 (G 37 i + G 38 i - 1)) 16 = 0 then 0 else 1) ∧ 0 ≤ G 37 i + G 38 i - 1 ∧ G 37 i + G 38 i - 1 < 150) ∧
  (∀ a b : Int, 0 ≤ a → a < K 21 → 0 ≤ b → b ≤ 1 → F 6 (a * 2 + b) = (brS G a b (K 10).toNat).2) ∧
  (∀ a : Int, 0 ≤ a → a < K 22 → gdx F (K 15) a = G 32 a ∧ 0 ≤ F 7 (a * 2 + 1) ∧ F 7 (a * 2 + 1) ≤ 23)
theorem onto {f : Int → Int} {p : Int → Prop} [DecidablePred p] {M : Int} (h0 : f 0 = 0) (hs : ∀ k : Int, 0 ≤ k → k < M → f (k + 1) = f k + (if p k then 1 else 0)) : ∀ m : Nat, (m : Int) ≤ M → ∀ n : Int, 0 ≤ n → n < f m → ∃ k : Int, 0 ≤ k ∧ k < m ∧ p k ∧ f k = n := by
  intro m
  induction m with
  | zero =>
    intro _ n q0 q1
    rw [show ((0 : Nat) : Int) = 0 from rfl, h0] at q1
    omega
  | succ m ih =>
    intro hm n q0 q1
    have e := hs m (by omega) (by omega)
    rw [show ((m + 1 : Nat) : Int) = (m : Int) + 1 by omega, e] at q1
    by_cases c : n < f m
    · obtain ⟨k, a, b, d, e2⟩ := ih (by omega) n q0 c
      exact ⟨k, a, by omega, d, e2⟩
    · by_cases d : p m
      · rw [if_pos d] at q1
        exact ⟨m, by omega, by omega, d, by omega⟩
      · rw [if_neg d] at q1
        omega
theorem mono1 {f : Int → Int} {p : Int → Prop} [DecidablePred p] {M : Int} (hs : ∀ k : Int, 0 ≤ k → k < M → f (k + 1) = f k + (if p k then 1 else 0)) {a : Int} (ha : 0 ≤ a) : ∀ m : Nat, a + m ≤ M → f a ≤ f (a + m) := by
  intro m
  induction m with
  | zero => intro _; rw [show a + ((0 : Nat) : Int) = a by omega]; exact Int.le_refl _
  | succ m ih =>
    intro h
    have := ih (by omega)
    have e := hs (a + m) (by omega) (by omega)
    rw [show a + ((m + 1 : Nat) : Int) = a + m + 1 by omega, e]
    split <;> omega
def stF5 (F : Nat → Int → Int) (n : Int) : Int := F 4 (n * 8 + 5)
def smF6 (F : Nat → Int → Int) (n : Int) : Int := F 4 (n * 8 + 6)
theorem gdx_of {F : Nat → Int → Int} {n a v c : Int} (h0 : F 7 (a * 2 + 0) = v) (h1 : F 7 (a * 2 + 1) = zrM c) (hv : 0 ≤ v) : gdx F n a = (if v < n then gdM (stF5 F v) c else -100) := by
  unfold gdx gdM stF5
  rw [h0, h1]
  have e : F 4 (v * 8 + 5) + 2 * (c % 10) + 1 + (if 9 < c then 4 else 0) = F 4 (v * 8 + 5) + zrM c := by unfold zrM; omega
  rw [e]
  by_cases q : v < n
  · rw [if_pos q]
    by_cases r : 0 ≤ F 4 (v * 8 + 5) + zrM c ∧ F 4 (v * 8 + 5) + zrM c ≤ 12
    · rw [if_pos ⟨⟨hv, q⟩, r⟩, if_pos r]
    · rw [if_neg (fun z => r z.2), if_neg r]
  · rw [if_neg q, if_neg (fun z => q z.1.2)]
theorem wk_of {I N : Nat → Int} {F : Nat → Int → Int} {K : Nat → Int} {G : Nat → Int → Int} (h : Rl I N F K G) (hp : PI K) : ∃ (nt en cB : Int → Int) (fl : Int → Int → Int) (wd : Int → Int), WkP K G nt en cB fl wd (stF5 F) (smF6 F) (gdx F (K 15)) ∧ (∀ i : Int, 0 ≤ i → i < K 15 → -100 ≤ stF5 F i ∧ stF5 F i ≤ 100) := by
  obtain ⟨_, _, _, ⟨nt, en, bn, cB, fl, wd, r1, r2, r3, r4, r5, r6, w1, w2, w3, w4, w5, w6, w7, w8⟩, _⟩ := h
  have p10 : 0 ≤ K 10 := hp.1.2.2.1.1
  refine ⟨nt, en, cB, fl, wd, ⟨⟨w3, w4⟩, fun s q0 q1 => (w1 s q0 q1).1, ?_, ?_, ⟨r3.1, r3.2.1, r3.2.2.2.1, r3.2.2.2.2.1, r3.2.2.2.2.2.1⟩, ?_, ?_, r4⟩, ?_⟩
  · intro k q0 q1
    obtain ⟨d1, d2, d3, d4, d5, d6, d7⟩ := r1 k q0 q1
    refine ⟨d1.1, d1.2.1, d1.2.2.1, d2.1, d2.2.1, d2.2.2.2.2, d2.2.2.2.1, fun e => (d4 e).2, fun e => ?_⟩
    exact gdx_of (d6 e).1 (d6 e).2 (r2 k q0 (by omega)).1.1
  · intro k q0 q1
    have := r2 k q0 q1
    exact ⟨this.1, this.2.1, this.2.2.2⟩
  · intro s q0 q1 k z0 z1
    obtain ⟨v1, v2, v3, v4⟩ := w1 s q0 q1
    have ew := v3 k z0 z1
    refine ⟨ew, fun h y0 y1 => ?_⟩
    rw [(r1 k (by omega) (by omega)).2.2.2.2.2.2 h y0 y1, ew]
    rfl
  · intro s q0 q1 ne z0 e
    obtain ⟨v1, v2, v3, v4⟩ := w1 s (by omega) q1
    have a := (v4 q0).1
    have b := (v4 q0).2 (G 9 s - 1) (by omega) (by omega)
    omega
  · intro i q0 q1
    obtain ⟨k, a, b, c, d⟩ := onto (p := fun k => G 11 k = 1) (M := K 10) r3.1 (fun k z0 z1 => (r1 k z0 z1).2.1.1) (K 10).toNat (by omega) i q0 (by rw [Int.toNat_of_nonneg p10, r3.2.2.2.2.1]; exact q1)
    have rk := r1 k a (by omega)
    have e := (rk.2.2.2.1 c).2.1
    rw [d] at e
    have z := (r2 k a (by omega)).2.2.2
    have v := rk.1
    show -100 ≤ F 4 (i * 8 + 5) ∧ F 4 (i * 8 + 5) ≤ 100
    rw [e]
    have s1 : -100 ≤ G 12 k - (2 * (cB k % 10) + 1) - (if 9 < cB k then 4 else 0) ∧ G 12 k - (2 * (cB k % 10) + 1) - (if 9 < cB k then 4 else 0) ≤ 100 := by split <;> omega
    exact s1
/-! neumes -/
theorem same_of {I N : Nat → Int} {F : Nat → Int → Int} {K : Nat → Int} {G : Nat → Int → Int} (h4 : N 4 = K 15) (hn : Nts F K G) {n k : Int} (h0 : 0 ≤ n ∧ n < K 15) (hk : 0 ≤ k) : sameG N F n (n + k) ↔ (n + k < K 15 ∧ G 19 (n + k) = G 19 n) := by
  have a := (hn n h0.1 h0.2).1.2.2.2
  unfold sameG
  rw [h4, a]
  constructor
  · intro q
    have b := (hn (n + k) (by omega) q.2.1.2).1.2.2.2
    rw [b] at q
    exact ⟨q.2.1.2, q.2.2.symm⟩
  · intro q
    have b := (hn (n + k) (by omega) q.1).1.2.2.2
    rw [b]
    exact ⟨h0, ⟨by omega, q.1⟩, q.2.symm⟩
theorem wy_of {F : Nat → Int → Int} {K : Nat → Int} {G : Nat → Int → Int} (hn : Nts F K G) {n : Int} (h0 : 1 ≤ n ∧ n < K 15) : wyF F n = wyM G (n - 1) := by
  unfold wyF wyM
  rw [(hn n (by omega) h0.2).1.1, (hn (n - 1) (by omega) (by omega)).1.1, show n - 1 + 1 = n by omega]
  by_cases a : G 16 n = G 16 (n - 1)
  · rw [if_pos a, if_neg (by omega), if_neg (by omega)]
  · rw [if_neg a]
    by_cases b : G 16 (n - 1) < G 16 n
    · rw [if_pos b, if_pos b]
    · rw [if_neg b, if_neg b, if_pos (by omega)]
theorem nmL_of {I N : Nat → Int} {F : Nat → Int → Int} {K : Nat → Int} {G : Nat → Int → Int} (h4 : N 4 = K 15) (hn : Nts F K G) {n : Int} (h0 : 0 ≤ n ∧ n < K 15) : ∀ (m : Nat) (k kd tk wy : Int), 1 ≤ k → nmL N F n m k kd tk wy = nmM K G n m k kd tk wy := by
  intro m
  induction m with
  | zero => intro k kd tk wy _; rfl
  | succ m ih =>
    intro k kd tk wy hk
    rw [nmL, nmM]
    by_cases c : n + k < K 15 ∧ G 19 (n + k) = G 19 n
    · rw [if_pos ((same_of (I := I) h4 hn h0 (by omega)).mpr c), if_pos c, wy_of hn (show 1 ≤ n + k ∧ n + k < K 15 by omega)]
      split
      · exact ih _ _ _ _ (by omega)
      · exact ih _ _ _ _ (by omega)
    · rw [if_neg (fun q => c ((same_of (I := I) h4 hn h0 (by omega)).mp q)), if_neg c]
theorem nmK_of {N : Nat → Int} {F : Nat → Int → Int} {K : Nat → Int} {G : Nat → Int → Int} (h4 : N 4 = K 15) (hn : Nts F K G) {n : Int} (h0 : 0 ≤ n ∧ n < K 15) : nmK N F n = nm0 K G n := by
  unfold nmK nm0
  rw [(hn n h0.1 h0.2).1.2.1]
  exact nmL_of (I := N) h4 hn h0 _ _ _ _ _ (by decide)
theorem nsM_n {K : Nat → Int} {G : Nat → Int → Int} : ∀ i : Nat, (∀ k : Nat, k < i → nsM K G k < K 15) → 0 ≤ nsM K G i := by
  intro i
  induction i with
  | zero => intro _; exact Int.le_refl 0
  | succ i ih =>
    intro h
    have := ih (fun k q => h k (by omega))
    have r := nm0_r (K := K) (G := G) (h i (by omega))
    rw [nsM]
    omega
theorem nst_of {N : Nat → Int} {F : Nat → Int → Int} {K : Nat → Int} {G : Nat → Int → Int} (h4 : N 4 = K 15) (hn : Nts F K G) : ∀ i : Nat, (∀ k : Nat, k < i → nsM K G k < K 15) → nst N F i = nsM K G i := by
  intro i
  induction i with
  | zero => intro _; rfl
  | succ i ih =>
    intro h
    have e := ih (fun k q => h k (by omega))
    rw [nst, nsM, e, nmK_of h4 hn ⟨nsM_n i (fun k q => h k (by omega)), h i (by omega)⟩]
theorem nst_of' {N : Nat → Int} {F : Nat → Int → Int} {K : Nat → Int} {G : Nat → Int → Int} (h4 : N 4 = K 15) (hn : Nts F K G) : ∀ i : Nat, (∀ k : Nat, k < i → nst N F k < N 4) → (∀ k : Nat, k < i → nsM K G k < K 15) := by
  intro i
  induction i with
  | zero => intro _ k q; omega
  | succ i ih =>
    intro h k q
    have a := ih (fun k q => h k (by omega))
    by_cases e : k < i
    · exact a k e
    · have : k = i := by omega
      subst this
      rw [← nst_of h4 hn k a, ← h4]
      exact h k (by omega)
theorem cover {K : Nat → Int} {G : Nat → Int → Int} : ∀ (j : Nat) (k : Int), 0 ≤ k → k < nsM K G j → ∃ i : Nat, i < j ∧ nsM K G i ≤ k ∧ k < nsM K G (i + 1) := by
  intro j
  induction j with
  | zero => intro k q0 q1; rw [nsM] at q1; omega
  | succ j ih =>
    intro k q0 q1
    by_cases c : k < nsM K G j
    · obtain ⟨i, a, b, d⟩ := ih k q0 c
      exact ⟨i, by omega, b, d⟩
    · exact ⟨j, by omega, by omega, q1⟩
theorem ln_of {N : Nat → Int} {F : Nat → Int → Int} {K : Nat → Int} {G : Nat → Int → Int} (h4 : N 4 = K 15) (hn : Nts F K G) {n : Int} (h0 : 0 ≤ n ∧ n < K 15) : lnF N F n = lnM K G n := by
  have s := same_of (I := N) h4 hn h0 (k := 1) (by decide)
  have e : (if sameG N F n (n + 1) ∧ ¬ bnd (F 4 ((n + 1) * 8 + 1)) 8 = 0 then (1 : Int) else 0) = (if n + 1 < K 15 ∧ G 19 (n + 1) = G 19 n ∧ ¬ bnd (G 17 (n + 1)) 8 = 0 then 1 else 0) := by
    by_cases c : n + 1 < K 15 ∧ G 19 (n + 1) = G 19 n
    · rw [(hn (n + 1) (by omega) c.1).1.2.1]
      by_cases d : bnd (G 17 (n + 1)) 8 = 0
      · rw [if_neg (fun q => q.2 d), if_neg (fun q => q.2.2 d)]
      · rw [if_pos ⟨s.mpr c, d⟩, if_pos ⟨c.1, c.2, d⟩]
    · rw [if_neg (fun q => c (s.mp q.1)), if_neg (fun q => c ⟨q.1, q.2.1⟩)]
  unfold lnF lnM
  rw [(hn n h0.1 h0.2).1.2.1, e]
  omega
/-! bars -/
theorem brS_c {G G' : Nat → Int → Int} (h1 : G' 11 = G 11) (h2 : G' 12 = G 12) (h3 : G' 13 = G 13) (i wh : Int) : ∀ n : Nat, brS G' i wh n = brS G i wh n := by
  intro n
  induction n with
  | zero => rfl
  | succ n ih => rw [brS, brS, ih, h1, h2, h3]
theorem brS_of {G : Nat → Int → Int} {bn : Int → Int} {M : Int} (h0 : bn 0 = 0) (hs : ∀ k : Int, 0 ≤ k → k < M → bn (k + 1) = bn k + (if G 11 k = 5 then 1 else 0)) {i wh : Int} : ∀ m : Nat, (m : Int) ≤ M → (brS G i wh m).1 = bn m ∧ (∀ k : Int, 0 ≤ k → k < m → G 11 k = 5 → bn k = i → (brS G i wh m).2 = if wh = 0 then G 12 k else G 13 k) := by
  intro m
  induction m with
  | zero => intro _; exact ⟨h0.symm, fun k a b => by omega⟩
  | succ m ih =>
    intro hm
    obtain ⟨e1, e2⟩ := ih (by omega)
    have e := hs m (by omega) (by omega)
    rw [show ((m + 1 : Nat) : Int) = (m : Int) + 1 by omega, e]
    rw [brS]
    by_cases c : G 11 m = 5
    · rw [if_pos c, if_pos c]
      refine ⟨by show (brS G i wh m).1 + 1 = _; rw [e1], fun k a b d f => ?_⟩
      show (if (brS G i wh m).1 = i then (if wh = 0 then G 12 m else G 13 m) else (brS G i wh m).2) = _
      rw [e1]
      by_cases g : k = m
      · rw [g] at f
        rw [if_pos f, g]
      · have mo := mono1 (p := fun k => G 11 k = 5) hs (a := k + 1) (by omega) (m - (k + 1)).toNat (by omega)
        rw [show k + 1 + (((m : Int) - (k + 1)).toNat : Int) = m by omega, hs k a (by omega), if_pos d] at mo
        rw [if_neg (by omega)]
        exact e2 k a (by omega) d f
    · rw [if_neg c, if_neg c]
      refine ⟨by rw [e1]; omega, fun k a b d f => ?_⟩
      by_cases g : k = m
      · rw [g] at d
        exact absurd d c
      · exact e2 k a (by omega) d f
/-! the score as read leaves it -/
set_option maxHeartbeats 1000000 in
theorem RS_of {I N : Nat → Int} {F : Nat → Int → Int} {K : Nat → Int} {G : Nat → Int → Int} {j j' : Nat} {g5 g4 a b f g p q u d : Int → Int} (h : Rl I N F K G) (hp : PI K) (sh : ShP N F (N 4) j g5 g4) (ha : ∀ i : Int, 0 ≤ i → i < K 15 → a i = stF5 F i ∧ b i = smF6 F i) (hg : ∀ i : Int, 0 ≤ i → i < K 22 → g i = gdx F (K 15) i) (hm : NmP K G j' p q u d) (hj : nsM K G j' = K 15) : RS (uN I 0 (-100)) (uN (uN N 5 j) 0 0) (uN (uN F 5 g5) 4 g4) (uN K 35 j') (nmG (gdG G a b f g) p q u d) := by
  have wk := wk_of h hp
  obtain ⟨⟨a1, a2, a3, a4, a5⟩, hs, hn, ⟨nt, en, bn, cB, fl, wd, r1, r2, r3, r4, r5, r6, _⟩, _⟩ := h
  have p10 : 0 ≤ K 10 := hp.1.2.2.1.1
  have p15 : 0 ≤ K 15 ∧ K 15 ≤ 150 := hp.1.2.2.2.1
  have h4 : N 4 = K 15 := a1.2.2.2.2.2.2.1
  obtain ⟨s1, s2, s3, s4, s5, s6, s7, s8, s9, s10, s11, s12, s13⟩ := sh
  obtain ⟨m1, m2, m3, m4, m5, m6, m7, m8, m9⟩ := hm
  have lt := nst_of' h4 hn j s1
  have ej : j = j' := by
    have e := nst_of h4 hn j lt
    rcases Nat.lt_trichotomy j j' with c | c | c
    · have := m1 j c
      omega
    · exact c
    · have := lt j' c
      omega
  subst ej
  have es : ∀ i : Nat, i ≤ j → nst N F i = nsM K G i := fun i hi => nst_of h4 hn i (fun k q => lt k (by omega))
  have nn : ∀ i : Nat, i ≤ j → 0 ≤ nsM K G i := fun i hi => nsM_n i (fun k q => lt k (by omega))
  obtain ⟨_, _, _, _, _, _, wr⟩ := wk
  refine ⟨⟨a1.2.2.2.1, a1.2.2.2.2.1, a1.2.2.2.2.2.1, h4, rfl, a1.2.2.2.2.2.2.2.1, a1.2.2.2.2.2.2.2.2.1⟩, ?_, ?_, ?_, ?_, ?_⟩
  · intro s z0 z1
    obtain ⟨b1, b2, _⟩ := hs s z0 z1
    exact ⟨b1.1, b1.2.1, b1.2.2.1, b1.2.2.2, b2.1, b2.2⟩
  · intro n z0 z1
    have z1 : n < K 15 := z1
    obtain ⟨c1, c2, c3, c4⟩ := hn n z0 z1
    have y := ha n z0 z1
    have x := wr n z0 z1
    obtain ⟨i, i1, i2, i3⟩ := cover (K := K) (G := G) j n z0 (by omega)
    refine ⟨(s5 n 0 (by decide) (by decide) (by decide) (by decide)).trans c1.1, (s5 n 1 (by decide) (by decide) (by decide) (by decide)).trans c1.2.1, (s5 n 2 (by decide) (by decide) (by decide) (by decide)).trans c1.2.2.1, (s5 n 3 (by decide) (by decide) (by decide) (by decide)).trans c1.2.2.2, ?_, (s5 n 5 (by decide) (by decide) (by decide) (by decide)).trans y.1.symm, (s5 n 6 (by decide) (by decide) (by decide) (by decide)).trans y.2.symm, (s3 n z0 (by omega)).trans (ln_of h4 hn ⟨z0, z1⟩), ?_, ?_⟩
    · exact (s4 i i1 n (by rw [es i (by omega)]; exact i2) (by rw [es (i + 1) (by omega)]; exact i3) (by omega)).trans (m3 i i1 n i2 i3).symm
    · show -100 ≤ a n
      rw [y.1]; exact x.1
    · show a n ≤ 100
      rw [y.1]; exact x.2
  · intro i z0 z1
    have z1 : i < (j : Int) := z1
    have e : ((i.toNat : Nat) : Int) = i := Int.toNat_of_nonneg z0
    have zi : i.toNat < j := by omega
    have t := s2 i.toNat zi
    have v := m2 i.toNat zi
    rw [e] at t v
    have l := lt i.toNat zi
    have nz := nn i.toNat (by omega)
    have ek := nmK_of h4 hn ⟨nz, l⟩
    have rr := nm0_r (K := K) (G := G) l
    rw [es i.toNat (by omega), ek] at t
    show g5 (i * 4 + 0) = p i ∧ g5 (i * 4 + 1) = q i ∧ g5 (i * 4 + 2) = u i ∧ g5 (i * 4 + 3) = (if bnd (G 17 (q i + u i - 1)) 16 = 0 then 0 else 1) ∧ 0 ≤ q i + u i - 1 ∧ q i + u i - 1 < 150
    rw [v.1, v.2.1, v.2.2]
    refine ⟨t.1, t.2.1, t.2.2.1, ?_, by omega, by omega⟩
    rw [t.2.2.2]
    unfold lqF
    rw [(hn (nsM K G i.toNat + (nm0 K G (nsM K G i.toNat)).2 - 1) (by omega) (by omega)).1.2.1]
  · intro x y z0 z1 z2 z3
    have z1 : x < K 21 := z1
    rw [brS_c (G' := nmG (gdG G a b f g) p q u d) (G := G) rfl rfl rfl]
    show F 6 (x * 2 + y) = _
    have st := fun k (z0 : 0 ≤ k) z1 => (r1 k z0 z1).2.1.2.2.1
    obtain ⟨k, k1, k2, k3, k4⟩ := onto (p := fun k => G 11 k = 5) (M := K 10) r3.2.2.1 st (K 10).toNat (by omega) x z0 (by rw [Int.toNat_of_nonneg p10, r3.2.2.2.2.2.2]; exact z1)
    have v := (brS_of (wh := y) (i := x) r3.2.2.1 st (K 10).toNat (by omega)).2 k k1 k2 k3 k4
    show F 6 (x * 2 + y) = (brS G x y (K 10).toNat).2
    rw [v]
    have rk := r1 k k1 (by omega)
    have d5 := rk.2.2.2.2.1 k3
    rw [k4] at d5
    have cy : y = 0 ∨ y = 1 := by omega
    rcases cy with e | e <;> subst e
    · rw [if_pos rfl]; exact d5.1
    · rw [if_neg (by decide), rk.2.1.2.2.2.2]; exact d5.2
  · intro x z0 z1
    have z1 : x < K 22 := z1
    obtain ⟨k, k1, k2, k3, k4⟩ := onto (p := fun k => G 11 k = 6) (M := K 10) r3.2.1 (fun k z0 z1 => (r1 k z0 z1).2.1.2.1) (K 10).toNat (by omega) x z0 (by rw [Int.toNat_of_nonneg p10, r3.2.2.2.2.2.1]; exact z1)
    have d6 := (r1 k k1 (by omega)).2.2.2.2.2.1 k3
    rw [k4] at d6
    have zr := zrM_r (c := cB k)
    refine ⟨?_, show 0 ≤ F 7 (x * 2 + 1) ∧ F 7 (x * 2 + 1) ≤ 23 by rw [d6.2]; omega⟩
    show gdx (uN (uN F 5 g5) 4 g4) (K 15) x = g x
    rw [hg x z0 z1]
    have e : ∀ n : Int, g4 (n * 8 + 5) = F 4 (n * 8 + 5) := fun n => s5 n 5 (by decide) (by decide) (by decide) (by decide)
    show (if (0 ≤ F 7 (x * 2 + 0) ∧ F 7 (x * 2 + 0) < K 15) ∧ 0 ≤ g4 (F 7 (x * 2 + 0) * 8 + 5) + F 7 (x * 2 + 1) ∧ g4 (F 7 (x * 2 + 0) * 8 + 5) + F 7 (x * 2 + 1) ≤ 12 then g4 (F 7 (x * 2 + 0) * 8 + 5) + F 7 (x * 2 + 1) else -100) = _
    rw [e]
    rfl
