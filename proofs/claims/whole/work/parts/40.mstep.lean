/-! one byte of the text, as the reference takes it: K, G are its fields and rows; K 60 .. K 64 are not its own (in brackets, in a syllable, a new word, parted, behind a note) -/
def wrK (K : Nat → Int) (a : Int) : Nat → Int := uN (uN K 26 a) 27 (K 29)
def adv (K : Nat → Int) (n : Int) : Nat → Int := uN K 29 (K 29 + n)
def bgK (K : Nat → Int) : Nat → Int := uN (uN (uN (uN K 14 (K 14 + K 62)) 3 (K 3 + 1)) 61 1) 62 0
def bgG (K : Nat → Int) (G : Nat → Int → Int) : Nat → Int → Int := uN (uN (uN (uN (uN (uN G 8 (uI (G 8) (K 3) (K 14 + K 62 - 1))) 4 (uI (G 4) (K 3) (K 29))) 5 (uI (G 5) (K 3) 0)) 6 (uI (G 6) (K 3) 0)) 7 (uI (G 7) (K 3) 0)) 9 (uI (uI (G 9) (K 3) (K 10)) (K 3 + 1) (K 10))
def ptG (K : Nat → Int) (G : Nat → Int → Int) (k v : Int) : Nat → Int → Int := uN (uN (uN (uN G 11 (uI (G 11) (K 10) k)) 12 (uI (G 12) (K 10) v)) 13 (uI (G 13) (K 10) (K 15))) 9 (uI (G 9) (K 3) (K 10 + 1))
def ptK (K : Nat → Int) : Nat → Int := uN K 10 (K 10 + 1)
def tlK (c : Int) (K : Nat → Int) : Nat → Int := if c = 40 then uN (uN (uN (adv K 1) 60 1) 63 1) 64 0 else adv K 1
def tlG (c : Int) (K : Nat → Int) (G : Nat → Int → Int) : Nat → Int → Int := if c = 40 then uN G 7 (uI (G 7) (K 3 - 1) 1) else uN (uN G 5 (uI (G 5) (K 3 - 1) (G 5 (K 3 - 1) + 1))) 6 (uI (G 6) (K 3 - 1) (if c = 39 then 1 else G 6 (K 3 - 1)))

abbrev MP : Type := (Nat → Int) × (Nat → Int → Int)
def mOut (c : Int) (K : Nat → Int) (G : Nat → Int → Int) : MP :=
  if c = 32 ∨ c = 10 then (uN (uN (adv K 1) 61 0) 62 1, G)
  else if ((97 ≤ c ∧ c ≤ 122) ∨ (65 ≤ c ∧ c ≤ 90) ∨ c = 39) ∨ c = 40 then
    (if K 61 = 0 then (if K 3 = 60 then (wrK K 2, G) else (tlK c (bgK K), tlG c (bgK K) (bgG K G))) else (tlK c K, tlG c K G))
  else (wrK K 1, G)
def mkG (m : Int) (K : Nat → Int) (G : Nat → Int → Int) : Nat → Int → Int := uN G 17 (uI (G 17) (K 15 - 1) (bor (G 17 (K 15 - 1)) m))
def ntK (K : Nat → Int) : Nat → Int := uN (uN (uN (uN (uN (uN K 20 (K 20 + K 63)) 10 (K 10 + 1)) 15 (K 15 + 1)) 29 (K 29 + 1)) 63 0) 64 1
def ntG (h : Int) (K : Nat → Int) (G : Nat → Int → Int) : Nat → Int → Int := uN (uN (uN (uN (ptG K G 1 h) 16 (uI (G 16) (K 15) h)) 17 (uI (G 17) (K 15) 0)) 18 (uI (G 18) (K 15) (K 3 - 1))) 19 (uI (G 19) (K 15) (K 20 + K 63 - 1))
/-- a sign of two bytes: the count t goes up, the groups are parted (q = 1) or not -/
def sgK (t : Nat) (n q : Int) (K : Nat → Int) : Nat → Int := uN (uN (uN (uN (uN K t (K t + 1)) 10 (K 10 + 1)) 29 (K 29 + n)) 63 q) 64 0
def mHt (c d : Int) (K : Nat → Int) (G : Nat → Int → Int) : MP :=
  if (c = 99 ∨ c = 102) ∧ 49 ≤ d ∧ d ≤ 52 then (if K 23 = 20 then (wrK K 2, G) else (sgK 23 2 1 K, ptG K G 4 ((if c = 102 then 10 else 0) + d - 48)))
  else if d = 120 then (if K 24 = 20 then (wrK K 2, G) else (sgK 24 2 (K 63) K, ptG K G 2 (c - 97)))
  else if d = 121 then (if K 25 = 20 then (wrK K 2, G) else (sgK 25 2 (K 63) K, ptG K G 3 (c - 97)))
  else if K 15 = 150 then (wrK K 2, G) else (ntK K, ntG (c - 97) K G)
def brK (c d : Int) : Int := if c = 44 then 1 else if c = 59 then 2 else if d = 58 then 4 else 3
def mIn (c d : Int) (K : Nat → Int) (G : Nat → Int → Int) : MP :=
  if K 64 = 1 ∧ ¬ mkOf c = 0 then (if bnd (G 17 (K 15 - 1)) (mkOf c) = 0 then (adv K 1, mkG (mkOf c) K G) else (adv (wrK K 3) 1, mkG (mkOf c) K G))
  else if c = 41 then (uN (uN (adv K 1) 60 0) 61 0, G)
  else if 97 ≤ c ∧ c ≤ 109 then mHt c d K G
  else if c = 47 ∨ c = 32 ∨ c = 10 then (uN (uN (adv K 1) 63 1) 64 0, G)
  else if c = 44 ∨ c = 59 ∨ c = 58 then (if K 21 = 30 then (wrK K 2, G) else (sgK 21 (if brK c d = 4 then 2 else 1) 1 K, ptG K G 5 (brK c d)))
  else if c = 122 then (if K 22 = 20 then (wrK K 2, G) else (sgK 22 1 1 K, ptG K G 6 0))
  else (wrK K 1, G)
def mDone (K : Nat → Int) : Prop := ¬ K 26 = 0 ∨ (K 60 = 0 ∧ K 28 ≤ K 29)
def mstep (K : Nat → Int) (G : Nat → Int → Int) : MP :=
  if ¬ K 26 = 0 ∨ (K 60 = 0 ∧ K 28 ≤ K 29) then (K, G)
  else if K 60 = 0 then mOut (byB K G (K 29)) K G else mIn (byB K G (K 29)) (byB K G (K 29 + 1)) K G
def mitr : Nat → MP → MP
  | 0, p => p
  | n + 1, p => mitr n (mstep p.1 p.2)
def Rch (p q : MP) : Prop := ∃ n, mitr n p = q
theorem mitr_add (a b : Nat) (p : MP) : mitr (a + b) p = mitr b (mitr a p) := by
  induction a generalizing p with
  | zero => rw [Nat.zero_add]; rfl
  | succ a ih => rw [Nat.succ_add]; exact ih _
theorem Rch.refl (p : MP) : Rch p p := ⟨0, rfl⟩
theorem Rch.trans {p q r : MP} (h1 : Rch p q) (h2 : Rch q r) : Rch p r := by
  obtain ⟨a, ha⟩ := h1
  obtain ⟨b, hb⟩ := h2
  exact ⟨a + b, by rw [mitr_add, ha, hb]⟩
theorem Rch.step {K : Nat → Int} {G : Nat → Int → Int} {q : MP} (h : mstep K G = q) : Rch (K, G) q := ⟨1, h⟩
theorem mstep_done {K : Nat → Int} {G : Nat → Int → Int} (h : mDone K) : mstep K G = (K, G) := by unfold mDone at h; unfold mstep; rw [if_pos h]
theorem mitr_done {p : MP} (h : mDone p.1) (n : Nat) : mitr n p = p := by
  induction n with
  | zero => rfl
  | succ n ih =>
    show mitr n (mstep p.1 p.2) = p
    rw [mstep_done h]
    exact ih
/-- there is one end -/
theorem Rch.one {p q r : MP} (h1 : Rch p q) (h2 : Rch p r) (d1 : mDone q.1) (d2 : mDone r.1) : q = r := by
  obtain ⟨a, ha⟩ := h1
  obtain ⟨b, hb⟩ := h2
  rcases Nat.le_total a b with h | h
  · have e := mitr_add a (b - a) p
    rw [show a + (b - a) = b by omega, hb, ha, mitr_done d1] at e
    exact e.symm
  · have e := mitr_add b (a - b) p
    rw [show b + (a - b) = a by omega, ha, hb, mitr_done d2] at e
    exact e
theorem Rch.inv {P : MP → Prop} (hs : ∀ K G, P (K, G) → P (mstep K G)) {p q : MP} (h : Rch p q) (hp : P p) : P q := by
  obtain ⟨n, hn⟩ := h
  induction n generalizing p with
  | zero => exact hn ▸ hp
  | succ n ih => exact ih (hs p.1 p.2 hp) hn
/-- numbers of a reading -/
def PI (K : Nat → Int) : Prop := MR K ∧ (0 ≤ K 23 ∧ K 23 ≤ 20) ∧ (0 ≤ K 24 ∧ K 24 ≤ 20) ∧ (0 ≤ K 25 ∧ K 25 ≤ 20) ∧ K 10 = K 15 + K 21 + K 22 + K 23 + K 24 + K 25 ∧ (0 ≤ K 29 ∧ K 29 ≤ K 28 + 1 ∧ (K 26 = 0 → K 29 ≤ K 28)) ∧ (0 ≤ K 14 ∧ K 14 ≤ K 3) ∧ (0 ≤ K 20 ∧ K 20 ≤ K 15) ∧ (K 60 = 0 ∨ K 60 = 1) ∧ (K 61 = 0 ∨ K 61 = 1) ∧ (K 62 = 0 ∨ K 62 = 1) ∧ (K 63 = 0 ∨ K 63 = 1) ∧ (K 64 = 0 ∨ K 64 = 1) ∧ (0 ≤ K 26 ∧ K 26 ≤ 3) ∧ (K 60 = 1 ∨ K 61 = 1 → 0 < K 3) ∧ (K 64 = 1 ∧ K 60 = 1 → 0 < K 15)
def BY (K : Nat → Int) (G : Nat → Int → Int) : Prop := ∀ i : Int, 0 ≤ i → i < K 28 → 0 ≤ G 2 i ∧ G 2 i < 256
theorem byB_r {K : Nat → Int} {G : Nat → Int → Int} (h : BY K G) {k : Int} (hk : 0 ≤ k) : -1 ≤ byB K G k ∧ byB K G k < 256 ∧ (byB K G k = -1 ∨ k < K 28) ∧ (byB K G k ≠ -1 → byB K G k = G 2 k) := by
  unfold byB
  by_cases c : k < K 28
  · have := h k hk c
    rw [if_pos c]
    omega
  · rw [if_neg c]
    omega
theorem PI_wr {K : Nat → Int} (h : PI K) {a : Int} (ha : 1 ≤ a ∧ a ≤ 3) : PI (wrK K a) := by
  unfold PI MR at *
  simp (disch := decide) only [wrK, uN_s, uN_n]
  repeat' apply And.intro
  all_goals first | exact Or.inl trivial | exact Or.inr trivial | exact Or.inl rfl | exact Or.inr rfl | omega
theorem PI_bl {K : Nat → Int} (h : PI K) (hl : K 29 < K 28) : PI (uN (uN (adv K 1) 61 0) 62 1) := by
  unfold PI MR at *
  simp (disch := decide) only [adv, uN_s, uN_n]
  repeat' apply And.intro
  all_goals first | exact Or.inl trivial | exact Or.inr trivial | exact Or.inl rfl | exact Or.inr rfl | omega
theorem PI_bg {K : Nat → Int} (h : PI K) (h60 : K 60 = 0) (h3 : ¬ K 3 = 60) : PI (bgK K) := by
  unfold PI MR at *
  simp (disch := decide) only [bgK, uN_s, uN_n]
  repeat' apply And.intro
  all_goals first | exact Or.inl trivial | exact Or.inr trivial | exact Or.inl rfl | exact Or.inr rfl | omega
theorem PI_tp {K : Nat → Int} (h : PI K) (hl : K 29 < K 28) (h3 : 0 < K 3) : PI (uN (uN (uN (adv K 1) 60 1) 63 1) 64 0) := by
  unfold PI MR at *
  simp (disch := decide) only [adv, uN_s, uN_n]
  repeat' apply And.intro
  all_goals first | exact Or.inl trivial | exact Or.inr trivial | exact Or.inl rfl | exact Or.inr rfl | omega
theorem PI_mk {K : Nat → Int} (h : PI K) (hl : K 29 < K 28) : PI (adv K 1) := by
  unfold PI MR at *
  simp (disch := decide) only [adv, uN_s, uN_n]
  repeat' apply And.intro
  all_goals first | exact Or.inl trivial | exact Or.inr trivial | exact Or.inl rfl | exact Or.inr rfl | omega
theorem PI_m3 {K : Nat → Int} (h : PI K) (hl : K 29 < K 28) : PI (adv (wrK K 3) 1) := by
  unfold PI MR at *
  simp (disch := decide) only [adv, wrK, uN_s, uN_n]
  repeat' apply And.intro
  all_goals first | exact Or.inl trivial | exact Or.inr trivial | exact Or.inl rfl | exact Or.inr rfl | omega
theorem PI_cl {K : Nat → Int} (h : PI K) (hl : K 29 < K 28) : PI (uN (uN (adv K 1) 60 0) 61 0) := by
  unfold PI MR at *
  simp (disch := decide) only [adv, uN_s, uN_n]
  repeat' apply And.intro
  all_goals first | exact Or.inl trivial | exact Or.inr trivial | exact Or.inl rfl | exact Or.inr rfl | omega
theorem PI_sp {K : Nat → Int} (h : PI K) (hl : K 29 < K 28) : PI (uN (uN (adv K 1) 63 1) 64 0) := by
  unfold PI MR at *
  simp (disch := decide) only [adv, uN_s, uN_n]
  repeat' apply And.intro
  all_goals first | exact Or.inl trivial | exact Or.inr trivial | exact Or.inl rfl | exact Or.inr rfl | omega
theorem PI_s21 {K : Nat → Int} (h : PI K) {n q : Int} (hn : n = 1 ∨ n = 2) (hq : q = 0 ∨ q = 1) (hl : K 29 + n ≤ K 28) (hr : ¬ K 21 = 30) : PI (sgK 21 n q K) := by
  unfold PI MR at *
  simp (disch := decide) only [sgK, uN_s, uN_n]
  repeat' apply And.intro
  all_goals first | exact Or.inl trivial | exact Or.inr trivial | exact Or.inl rfl | exact Or.inr rfl | omega
theorem PI_s22 {K : Nat → Int} (h : PI K) {n q : Int} (hn : n = 1 ∨ n = 2) (hq : q = 0 ∨ q = 1) (hl : K 29 + n ≤ K 28) (hr : ¬ K 22 = 20) : PI (sgK 22 n q K) := by
  unfold PI MR at *
  simp (disch := decide) only [sgK, uN_s, uN_n]
  repeat' apply And.intro
  all_goals first | exact Or.inl trivial | exact Or.inr trivial | exact Or.inl rfl | exact Or.inr rfl | omega
theorem PI_s23 {K : Nat → Int} (h : PI K) {n q : Int} (hn : n = 1 ∨ n = 2) (hq : q = 0 ∨ q = 1) (hl : K 29 + n ≤ K 28) (hr : ¬ K 23 = 20) : PI (sgK 23 n q K) := by
  unfold PI MR at *
  simp (disch := decide) only [sgK, uN_s, uN_n]
  repeat' apply And.intro
  all_goals first | exact Or.inl trivial | exact Or.inr trivial | exact Or.inl rfl | exact Or.inr rfl | omega
theorem PI_s24 {K : Nat → Int} (h : PI K) {n q : Int} (hn : n = 1 ∨ n = 2) (hq : q = 0 ∨ q = 1) (hl : K 29 + n ≤ K 28) (hr : ¬ K 24 = 20) : PI (sgK 24 n q K) := by
  unfold PI MR at *
  simp (disch := decide) only [sgK, uN_s, uN_n]
  repeat' apply And.intro
  all_goals first | exact Or.inl trivial | exact Or.inr trivial | exact Or.inl rfl | exact Or.inr rfl | omega
theorem PI_s25 {K : Nat → Int} (h : PI K) {n q : Int} (hn : n = 1 ∨ n = 2) (hq : q = 0 ∨ q = 1) (hl : K 29 + n ≤ K 28) (hr : ¬ K 25 = 20) : PI (sgK 25 n q K) := by
  unfold PI MR at *
  simp (disch := decide) only [sgK, uN_s, uN_n]
  repeat' apply And.intro
  all_goals first | exact Or.inl trivial | exact Or.inr trivial | exact Or.inl rfl | exact Or.inr rfl | omega
theorem PI_nt {K : Nat → Int} (h : PI K) (hl : K 29 < K 28) (hr : ¬ K 15 = 150) : PI (ntK K) := by
  unfold PI MR at *
  simp (disch := decide) only [ntK, uN_s, uN_n]
  repeat' apply And.intro
  all_goals first | exact Or.inl trivial | exact Or.inr trivial | exact Or.inl rfl | exact Or.inr rfl | omega
theorem PI_tl {K : Nat → Int} {c : Int} (h : PI K) (hl : K 29 < K 28) (h3 : 0 < K 3) : PI (tlK c K) := by
  unfold tlK
  split
  · exact PI_tp h hl h3
  · exact PI_mk h hl
theorem PI_step {K : Nat → Int} {G : Nat → Int → Int} (h : PI K) (hb : BY K G) : PI (mstep K G).1 := by
  have hp := h.2.2.2.2.2.1
  have b1 := byB_r hb hp.1
  have b2 := byB_r hb (k := K 29 + 1) (by omega)
  have h63 := h.2.2.2.2.2.2.2.2.2.2.2.1
  have h60 := h.2.2.2.2.2.2.2.2.1
  have h61 := h.2.2.2.2.2.2.2.2.2.1
  have h3 := h.2.2.2.2.2.2.2.2.2.2.2.2.2.2.1
  unfold mstep
  split
  · exact h
  · rename_i hd
    have hp3 := hp.2.2
    split
    · rename_i h0
      have hl : K 29 < K 28 := by omega
      unfold mOut
      split
      · exact PI_bl h hl
      split
      · split
        · split
          · exact PI_wr h (by decide)
          · rename_i n60
            exact PI_tl (PI_bg h h0 n60) hl (by show 0 < K 3 + 1; have := h.1.2.1.1; omega)
        · exact PI_tl h hl (by omega)
      · exact PI_wr h (by decide)
    · have hl : ∀ e : Int, byB K G (K 29) = e → 0 ≤ e → K 29 < K 28 := by intro e he h0; have := byB_r hb hp.1; omega
      have b1 := byB_r hb hp.1
      unfold mIn
      split
      · rename_i hm
        have hl : K 29 < K 28 := by
          by_cases e : byB K G (K 29) = -1
          · rw [e] at hm; exact absurd rfl hm.2
          · omega
        split
        · exact PI_mk h hl
        · exact PI_m3 h hl
      split
      · exact PI_cl h (by omega)
      split
      · unfold mHt
        split
        · split
          · exact PI_wr h (by decide)
          · exact PI_s23 h (Or.inr rfl) (Or.inr rfl) (by omega) (by assumption)
        split
        · split
          · exact PI_wr h (by decide)
          · exact PI_s24 h (Or.inr rfl) h63 (by omega) (by assumption)
        split
        · split
          · exact PI_wr h (by decide)
          · exact PI_s25 h (Or.inr rfl) h63 (by omega) (by assumption)
        split
        · exact PI_wr h (by decide)
        · exact PI_nt h (by omega) (by assumption)
      split
      · exact PI_sp h (by omega)
      split
      · split
        · exact PI_wr h (by decide)
        · refine PI_s21 h (by split <;> omega) (Or.inr rfl) ?_ (by assumption)
          split
          · rename_i h4
            unfold brK at h4
            have : byB K G (K 29 + 1) = 58 := by
              by_cases x : byB K G (K 29 + 1) = 58
              · exact x
              · rw [if_neg x] at h4; split at h4 <;> (try split at h4) <;> omega
            omega
          · omega
      split
      · split
        · exact PI_wr h (by decide)
        · exact PI_s22 h (Or.inl rfl) (Or.inr rfl) (by omega) (by assumption)
      · exact PI_wr h (by decide)
