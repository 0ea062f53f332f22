/-! class and reference between calls -/
def SC (I N : Nat → Int) (F : Nat → Int → Int) (K : Nat → Int) (G : Nat → Int → Int) : Prop := RS I N F K G ∧ SgW F K G ∧ SyW N F K G ∧ N 8 = K 10 ∧ Lx K G ≤ 1500
def Tb (G : Nat → Int → Int) : Prop := T34 G ∧ T40 G ∧ T41 G ∧ T42 G ∧ T46 G ∧ T47 G
def PsR (I N : Nat → Int) (F : Nat → Int → Int) (K : Nat → Int) (G : Nat → Int → Int) : Prop := I 13 = K 43 ∧ N 10 = G 45 0 ∧ N 11 = G 45 1 ∧ eqT (F 10) (ptF G 0) (N 10) ∧ eqT (F 11) (ptF G 1) (N 11)
def TpR (N : Nat → Int) (F : Nat → Int → Int) (K : Nat → Int) (G : Nat → Int → Int) : Prop := N 0 = K 1 ∧ eqT (F 0) (G 0) (K 1) ∧ byT (G 0) (K 1)
def OuR (N : Nat → Int) (F : Nat → Int → Int) (K : Nat → Int) (G : Nat → Int → Int) : Prop := N 1 = K 55 ∧ eqT (F 1) (G 54) (K 55)
def Rgs (I N : Nat → Int) (F : Nat → Int → Int) (K : Nat → Int) (G : Nat → Int → Int) : Prop := FR F ∧ IR I ∧ NR N ∧ FR G ∧ IR K ∧ MR K
def GI (I N : Nat → Int) (F : Nat → Int → Int) (K : Nat → Int) (G : Nat → Int → Int) : Prop := Rgs I N F K G ∧ Tb G ∧ (I 0 = K 27 ∧ G 9 0 = 0) ∧ TpR N F K G ∧ OuR N F K G ∧ PsR I N F K G ∧ SC I N F K G
theorem RS_t {I N I' N' : Nat → Int} {F F' : Nat → Int → Int} {K K' : Nat → Int} {G G' : Nat → Int → Int} (h : RS I N F K G) (hI : ∀ k : Nat, 1 ≤ k → k ≤ 2 → I' k = I k) (hN : ∀ k : Nat, 2 ≤ k → k ≤ 9 → N' k = N k) (hF : ∀ t : Nat, 2 ≤ t → t ≤ 9 → F' t = F t) (hK : ∀ k : Nat, 3 ≤ k → k ≤ 42 → K' k = K k) (hG : ∀ t : Nat, 2 ≤ t → t ≤ 42 → G' t = G t) : RS I' N' F' K' G' := by
  have ln : ∀ n : Int, lnM K' G' n = lnM K G n := by
    intro n
    unfold lnM
    rw [hG 17 (by decide) (by decide), hG 19 (by decide) (by decide), hK 15 (by decide) (by decide)]
  have br : ∀ (a b : Int) (n : Nat), brS G' a b n = brS G a b n := fun a b n => brS_c (hG 11 (by decide) (by decide)) (hG 12 (by decide) (by decide)) (hG 13 (by decide) (by decide)) a b n
  have gd : ∀ n a : Int, gdx F' n a = gdx F n a := by
    intro n a
    unfold gdx
    rw [hF 4 (by decide) (by decide), hF 7 (by decide) (by decide)]
  unfold RS at h ⊢
  rw [hI 1 (by decide) (by decide), hI 2 (by decide) (by decide), hN 3 (by decide) (by decide), hN 4 (by decide) (by decide), hN 5 (by decide) (by decide), hN 6 (by decide) (by decide), hN 7 (by decide) (by decide), hF 3 (by decide) (by decide), hF 4 (by decide) (by decide), hF 5 (by decide) (by decide), hF 6 (by decide) (by decide), hF 7 (by decide) (by decide), hK 3 (by decide) (by decide), hK 10 (by decide) (by decide), hK 14 (by decide) (by decide), hK 15 (by decide) (by decide), hK 20 (by decide) (by decide), hK 21 (by decide) (by decide), hK 22 (by decide) (by decide), hK 35 (by decide) (by decide), hG 5 (by decide) (by decide), hG 6 (by decide) (by decide), hG 7 (by decide) (by decide), hG 8 (by decide) (by decide), hG 16 (by decide) (by decide), hG 17 (by decide) (by decide), hG 18 (by decide) (by decide), hG 19 (by decide) (by decide), hG 30 (by decide) (by decide), hG 31 (by decide) (by decide), hG 32 (by decide) (by decide), hG 36 (by decide) (by decide), hG 37 (by decide) (by decide), hG 38 (by decide) (by decide), hG 39 (by decide) (by decide)]
  simp only [ln, br, gd]
  exact h
theorem SC_t {I N I' N' : Nat → Int} {F F' : Nat → Int → Int} {K K' : Nat → Int} {G G' : Nat → Int → Int} (h : SC I N F K G) (hI : ∀ k : Nat, 1 ≤ k → k ≤ 2 → I' k = I k) (hN : ∀ k : Nat, 2 ≤ k → k ≤ 9 → N' k = N k) (hF : ∀ t : Nat, 2 ≤ t → t ≤ 9 → F' t = F t) (hK : ∀ k : Nat, 3 ≤ k → k ≤ 42 → K' k = K k) (hG : ∀ t : Nat, 2 ≤ t → t ≤ 42 → G' t = G t) : SC I' N' F' K' G' := by
  obtain ⟨h1, h2, h3, h4, h5⟩ := h
  refine ⟨RS_t h1 hI hN hF hK hG, ?_, ?_, ?_, ?_⟩
  · unfold SgW at h2 ⊢
    rw [hF 8 (by decide) (by decide), hK 10 (by decide) (by decide), hK 15 (by decide) (by decide), hG 11 (by decide) (by decide), hG 12 (by decide) (by decide), hG 13 (by decide) (by decide), hG 16 (by decide) (by decide)]
    exact h2
  · unfold SyW at h3 ⊢
    rw [hN 2 (by decide) (by decide), hF 2 (by decide) (by decide), hF 3 (by decide) (by decide), hK 3 (by decide) (by decide), hK 10 (by decide) (by decide), hG 2 (by decide) (by decide), hG 4 (by decide) (by decide), hG 5 (by decide) (by decide), hG 7 (by decide) (by decide), hG 8 (by decide) (by decide), hG 9 (by decide) (by decide)]
    exact h3
  · rw [hN 8 (by decide) (by decide), hK 10 (by decide) (by decide)]
    exact h4
  · have e : Lx K' G' = Lx K G := Lx_c (hK 3 (by decide) (by decide)) (fun i a b => by
      have w := h3 i a b
      refine mSy_c ⟨by rw [hG 8 (by decide) (by decide)], fun _ => by rw [hG 8 (by decide) (by decide)], by rw [hG 5 (by decide) (by decide)], by rw [hG 4 (by decide) (by decide)], by rw [hG 7 (by decide) (by decide)], by rw [hG 9 (by decide) (by decide)], by rw [hG 9 (by decide) (by decide)]⟩ (hG 2 (by decide) (by decide)) (fun k _ _ => ⟨by rw [hG 11 (by decide) (by decide)], by rw [hG 12 (by decide) (by decide)], by rw [hG 13 (by decide) (by decide)], fun _ => ⟨by rw [hG 17 (by decide) (by decide)], by rw [hG 19 (by decide) (by decide)]⟩⟩) ⟨w.2.2.2.1, w.2.2.2.2.1⟩)
    rw [e]
    exact h5
/-- two answers that are one -/
def Pr (R1 R2 : Room) (M1 M2 : MI) (As : List Value) (I N : Nat → Int) (F : Nat → Int → Int) (K : Nat → Int) (G : Nat → Int → Int) : Prop :=
  Sp R1 M1 (.ref 0 :: As) (W2 I N F K G) (fun w r => ∃ (I' N' : Nat → Int) (F' : Nat → Int → Int) (v : Int), w = W2 I' N' F' K G ∧ r = some (J v) ∧ (-2147483648 ≤ v ∧ v < 2147483648) ∧
    Sp R2 M2 (.ref 31 :: As) (W2 I' N' F' K G) (fun w2 r2 => r2 = some (J v) ∧ ∃ (K' : Nat → Int) (G' : Nat → Int → Int), w2 = W2 I' N' F' K' G' ∧ GI I' N' F' K' G'))
theorem pr_dd {R1 R2 : Room} {M1 M2 : MI} {As : List Value} {I N I' N' : Nat → Int} {F F' : Nat → Int → Int} {K K' : Nat → Int} {G G' : Nat → Int → Int} {v v' : Int} (h1 : Sd R1 M1 (.ref 0 :: As) (W2 I N F K G) (W2 I' N' F' K G) (some (J v))) (h2 : Sd R2 M2 (.ref 31 :: As) (W2 I' N' F' K G) (W2 I' N' F' K' G') (some (J v'))) (e : v = v') (hv : -2147483648 ≤ v' ∧ v' < 2147483648) (hg : GI I' N' F' K' G') : Pr R1 R2 M1 M2 As I N F K G := by
  subst e
  refine Sp.wk h1 (fun w r q => ?_)
  obtain ⟨rfl, rfl⟩ := q
  refine ⟨I', N', F', v, rfl, rfl, hv, Sp.wk h2 (fun w r q => ?_)⟩
  obtain ⟨rfl, rfl⟩ := q
  exact ⟨rfl, K', G', rfl, hg⟩
/-! calls that change nothing -/
theorem pr_place {I N : Nat → Int} {F : Nat → Int → Int} {K : Nat → Int} {G : Nat → Int → Int} (h : GI I N F K G) : Pr (rm 0 0 0 0) (rm 0 0 0 0) mX8_place mX9_place [] I N F K G := by
  obtain ⟨⟨hF, hI, hN, hG, hK, hM⟩, h2⟩ := id h
  exact pr_dd (x_place hF hI hN) (q_place hG hK hM) h2.2.1.1 (hK 27) h
theorem pr_at {I N : Nat → Int} {F : Nat → Int → Int} {K : Nat → Int} {G : Nat → Int → Int} (h : GI I N F K G) {a : Int} (ha : -2147483648 ≤ a ∧ a < 2147483648) : Pr (rm 1 23 0 0) (rm 1 22 0 0) mX8_at mX9_at [J a] I N F K G := by
  obtain ⟨⟨hF, hI, hN, hG, hK, hM⟩, h2⟩ := id h
  obtain ⟨e1, e2⟩ := h2.2.2.2.1
  refine pr_dd (x_at hF hI hN ha) (q_at hG hK hM ha) ?_ (by split <;> first | exact hG _ _ | decide) h
  rw [e1]
  by_cases c : 0 ≤ a ∧ a < K 55
  · rw [if_pos c, if_pos c]; exact e2 a c.1 c.2
  · rw [if_neg c, if_neg c]
theorem pr_guide {I N : Nat → Int} {F : Nat → Int → Int} {K : Nat → Int} {G : Nat → Int → Int} (h : GI I N F K G) {a : Int} (ha : -2147483648 ≤ a ∧ a < 2147483648) : Pr (rm 2 46 0 0) (rm 1 22 0 0) mX8_guide mX9_guide [J a] I N F K G := by
  obtain ⟨⟨hF, hI, hN, hG, hK, hM⟩, h2⟩ := id h
  obtain ⟨r0, r1, r2, r3, r4, r5⟩ := h2.2.2.2.2.2.1
  have e7 : N 7 = K 22 := r0.2.2.2.2.2.2
  have e4 : N 4 = K 15 := r0.2.2.2.1
  by_cases c : 0 ≤ a ∧ a < K 22
  · have g := r5 a c.1 c.2
    refine pr_dd (x_guide hF hI hN (by rw [e7]; exact c) ?_) (q_guide hG hK hM ha) ?_ (by split <;> first | exact hG _ _ | decide) h
    · intro q
      have n := r2 (F 7 (a * 2 + 0)) q.1 (by omega)
      rw [n.2.2.2.2.2.1]
      have := n.2.2.2.2.2.2.2.2
      omega
    · rw [if_pos c, ← g.1, e4]
      rfl
  · refine pr_dd (x_guide_un hF hI hN ha (by rw [e7]; exact c)) (q_guide hG hK hM ha) ?_ (by split <;> first | exact hG _ _ | decide) h
    rw [if_neg c]
theorem pr_syllable {I N : Nat → Int} {F : Nat → Int → Int} {K : Nat → Int} {G : Nat → Int → Int} (h : GI I N F K G) {a b : Int} (ha : -2147483648 ≤ a ∧ a < 2147483648) (hb : -2147483648 ≤ b ∧ b < 2147483648) : Pr (rm 2 46 0 0) (rm 1 23 0 0) mX8_syllable mX9_syllable [J a, J b] I N F K G := by
  obtain ⟨⟨hF, hI, hN, hG, hK, hM⟩, h2⟩ := id h
  obtain ⟨r0, r1, r2, r3, r4, r5⟩ := h2.2.2.2.2.2.1
  have e3 : N 3 = K 3 := r0.2.2.1
  by_cases c : 0 ≤ a ∧ a < K 3
  · have s := r1 a c.1 c.2
    by_cases d : 0 ≤ b ∧ b ≤ 5
    · have dj : b = 0 ∨ b = 1 ∨ b = 2 ∨ b = 3 ∨ b = 4 ∨ b = 5 := by omega
      have x := x_syllable (T := mdl K G) hF hI hN ha hb
      rw [e3, if_pos c, if_pos (by omega)] at x
      rcases dj with e | e | e | e | e | e <;> subst e
      · exact pr_dd x (q_syl0 hG hK hM c) s.1 (hG _ _) h
      · exact pr_dd x (q_syl1 hG hK hM c) s.2.1 (hG _ _) h
      · exact pr_dd x (q_syl2 hG hK hM c) s.2.2.1 (hG _ _) h
      · exact pr_dd x (q_syl3 hG hK hM c) s.2.2.2.1 (hG _ _) h
      · exact pr_dd x (q_syl4 hG hK hM c) s.2.2.2.2.1 (by rw [← s.2.2.2.2.1]; exact hF _ _) h
      · exact pr_dd x (q_syl5 hG hK hM c) s.2.2.2.2.2 (by rw [← s.2.2.2.2.2]; exact hF _ _) h
    · refine pr_dd (x_syllable hF hI hN ha hb) (q_syl_out hG hK hM hb c d) ?_ (by decide) h
      rw [e3, if_pos c, if_neg (by omega)]
  · refine pr_dd (x_syllable hF hI hN ha hb) (q_syl_un hG hK hM ha c) ?_ (by decide) h
    rw [e3, if_neg c]
theorem pr_note {I N : Nat → Int} {F : Nat → Int → Int} {K : Nat → Int} {G : Nat → Int → Int} (h : GI I N F K G) {a b : Int} (ha : -2147483648 ≤ a ∧ a < 2147483648) (hb : -2147483648 ≤ b ∧ b < 2147483648) : Pr (rm 2 46 0 0) (rm 1 22 0 0) mX8_note mX9_note [J a, J b] I N F K G := by
  obtain ⟨⟨hF, hI, hN, hG, hK, hM⟩, h2⟩ := id h
  obtain ⟨r0, r1, r2, r3, r4, r5⟩ := h2.2.2.2.2.2.1
  have e3 : N 4 = K 15 := r0.2.2.2.1
  by_cases c : 0 ≤ a ∧ a < K 15
  · have s := r2 a c.1 c.2
    by_cases d : 0 ≤ b ∧ b ≤ 7
    · have dj : b = 0 ∨ b = 1 ∨ b = 2 ∨ b = 3 ∨ b = 4 ∨ b = 5 ∨ b = 6 ∨ b = 7 := by omega
      have x := x_note (T := mdl K G) hF hI hN ha hb
      rw [e3, if_pos c, if_pos (by omega)] at x
      rcases dj with e | e | e | e | e | e | e | e <;> subst e
      · exact pr_dd x (q_note0 hG hK hM c) s.1 (hG _ _) h
      · exact pr_dd x (q_note1 hG hK hM c) s.2.1 (hG _ _) h
      · exact pr_dd x (q_note2 hG hK hM c) s.2.2.1 (hG _ _) h
      · exact pr_dd x (q_note3 hG hK hM c) s.2.2.2.1 (hG _ _) h
      · exact pr_dd x (q_note4 hG hK hM c) s.2.2.2.2.1 (hG _ _) h
      · exact pr_dd x (q_note5 hG hK hM c) s.2.2.2.2.2.1 (hG _ _) h
      · exact pr_dd x (q_note6 hG hK hM c) s.2.2.2.2.2.2.1 (hG _ _) h
      · exact pr_dd x (q_note7 hG hK hM c) s.2.2.2.2.2.2.2.1 (by rw [← s.2.2.2.2.2.2.2.1]; exact hF _ _) h
    · refine pr_dd (x_note hF hI hN ha hb) (q_note_out hG hK hM hb c d) ?_ (by decide) h
      rw [e3, if_pos c, if_neg (by omega)]
  · refine pr_dd (x_note hF hI hN ha hb) (q_note_un hG hK hM ha c) ?_ (by decide) h
    rw [e3, if_neg c]
theorem pr_neume {I N : Nat → Int} {F : Nat → Int → Int} {K : Nat → Int} {G : Nat → Int → Int} (h : GI I N F K G) {a b : Int} (ha : -2147483648 ≤ a ∧ a < 2147483648) (hb : -2147483648 ≤ b ∧ b < 2147483648) : Pr (rm 2 46 0 0) (rm 1 22 0 0) mX8_neume mX9_neume [J a, J b] I N F K G := by
  obtain ⟨⟨hF, hI, hN, hG, hK, hM⟩, h2⟩ := id h
  obtain ⟨r0, r1, r2, r3, r4, r5⟩ := h2.2.2.2.2.2.1
  have e3 : N 5 = K 35 := r0.2.2.2.2.1
  by_cases c : 0 ≤ a ∧ a < K 35
  · have s := r3 a c.1 c.2
    have hq := s.2.2.2.2
    by_cases d : 0 ≤ b ∧ b ≤ 3
    · have dj : b = 0 ∨ b = 1 ∨ b = 2 ∨ b = 3 := by omega
      have x := x_neume (T := mdl K G) hF hI hN ha hb
      rw [e3, if_pos c, if_pos (by omega)] at x
      rcases dj with e | e | e | e <;> subst e
      · exact pr_dd x (q_neume0 hG hK hM c hq) s.1 (hG _ _) h
      · exact pr_dd x (q_neume1 hG hK hM c hq) s.2.1 (hG _ _) h
      · exact pr_dd x (q_neume2 hG hK hM c hq) s.2.2.1 (hG _ _) h
      · exact pr_dd x (q_neume3 hG hK hM c hq) s.2.2.2.1 (by split <;> decide) h
    · refine pr_dd (x_neume hF hI hN ha hb) (q_neume_out hG hK hM hb c d) ?_ (by decide) h
      rw [e3, if_pos c, if_neg (by omega)]
  · refine pr_dd (x_neume hF hI hN ha hb) (q_neume_un hG hK hM ha c) ?_ (by decide) h
    rw [e3, if_neg c]
theorem pr_bar {I N : Nat → Int} {F : Nat → Int → Int} {K : Nat → Int} {G : Nat → Int → Int} (h : GI I N F K G) {a b : Int} (ha : -2147483648 ≤ a ∧ a < 2147483648) (hb : -2147483648 ≤ b ∧ b < 2147483648) : Pr (rm 2 46 0 0) (rm 1 22 0 0) mX8_bar mX9_bar [J a, J b] I N F K G := by
  obtain ⟨⟨hF, hI, hN, hG, hK, hM⟩, h2⟩ := id h
  obtain ⟨r0, r1, r2, r3, r4, r5⟩ := h2.2.2.2.2.2.1
  have e3 : N 6 = K 21 := r0.2.2.2.2.2.1
  by_cases c : 0 ≤ a ∧ a < K 21
  · by_cases d : 0 ≤ b ∧ b ≤ 1
    · have s := r4 a b c.1 c.2 d.1 d.2
      have x := x_bar (T := mdl K G) hF hI hN ha hb
      rw [e3, if_pos c, if_pos (by omega)] at x
      exact pr_dd x (q_bar hG hK hM c d) s (by rw [← s]; exact hF _ _) h
    · refine pr_dd (x_bar hF hI hN ha hb) (q_bar_out hG hK hM hb c d) ?_ (by decide) h
      rw [e3, if_pos c, if_neg (by omega)]
  · refine pr_dd (x_bar hF hI hN ha hb) (q_bar_un hG hK hM ha c) ?_ (by decide) h
    rw [e3, if_neg c]
theorem pr_mode {I N : Nat → Int} {F : Nat → Int → Int} {K : Nat → Int} {G : Nat → Int → Int} (h : GI I N F K G) {a : Int} (ha : -2147483648 ≤ a ∧ a < 2147483648) : Pr (rm 5 109 0 0) (rm 2 43 0 0) mX8_mode mX9_mode [J a] I N F K G := by
  obtain ⟨⟨hF, hI, hN, hG, hK, hM⟩, h2⟩ := id h
  have rs := h2.2.2.2.2.2.1
  obtain ⟨t34, t40, t41, t42, t46, t47⟩ := h2.1
  have e4 : N 4 = K 15 := rs.1.2.2.2.1
  have p15 : 0 ≤ K 15 := hM.2.2.2.1.1
  by_cases d : 0 ≤ a ∧ a ≤ 4
  · by_cases z : K 15 = 0
    · exact pr_dd (x_mode_state hF hI hN d (by omega)) (q_mode_state hG hK hM d z) rfl (by decide) h
    · have p : 0 < K 15 := by omega
      obtain ⟨m1, m2, m3, m4, m5, m6⟩ := mode_of rs t41 p
      have mt := MT_of t41
      have r := mdM_r (K := K) t41
      have l30 : ∀ k : Int, 0 ≤ k → k < K 15 → -1000 ≤ G 30 k ∧ G 30 k ≤ 1000 := m6
      have rl : -1000 ≤ lsM K G ∧ lsM K G ≤ 1000 := l30 _ (by omega) (by omega)
      have dj : a = 0 ∨ a = 1 ∨ a = 2 ∨ a = 3 ∨ a = 4 := by omega
      rcases dj with e | e | e | e | e <;> subst e
      · exact pr_dd (x_mode0 hF hI hN m5 (by omega)) (q_mode0 hG hK hM m6 mt p) m4 (by omega) h
      · exact pr_dd (x_mode1 hF hI hN m5 (by omega)) (q_mode1 hG hK hM m6 mt p) m1 (by omega) h
      · refine pr_dd (x_mode2 hF hI hN m5 (by omega)) (q_mode2 hG hK hM m6 mt p) (mode2_of m1 m4 t41 t42) ?_ h
        split
        · decide
        · rename_i q
          rw [t42 _ (by omega) r.2]
          have tr : ∀ n : Nat, n < 8 → 0 ≤ ([4, 2, 5, 3, 4, 2, 4, 3] : List Int).getD n 0 ∧ ([4, 2, 5, 3, 4, 2, 4, 3] : List Int).getD n 0 ≤ 5 := by decide
          have := tr (mdM K G - 1).toNat (by omega)
          have e : tenI (mdM K G - 1) = ([4, 2, 5, 3, 4, 2, 4, 3] : List Int).getD (mdM K G - 1).toNat 0 := rfl
          omega
      · refine pr_dd (x_mode3 hF hI hN m5 (by omega)) (q_mode3 hG hK hM m6 mt p) m2 ?_ h
        have := lwM_r (f := G 30) (x := -1000) (y := 1000) (K 15 - 1).toNat (fun k a b => l30 k a (by omega))
        unfold lowM
        omega
      · refine pr_dd (x_mode4 hF hI hN m5 (by omega)) (q_mode4 hG hK hM m6 mt p) m3 ?_ h
        have := hgM_r (f := G 30) (x := -1000) (y := 1000) (K 15 - 1).toNat (fun k a b => l30 k a (by omega))
        unfold hghM
        omega
  · exact pr_dd (x_mode_out hF hI hN ha d) (q_mode_out hG hK hM ha d) rfl (by decide) h
theorem nzM_r {K : Nat → Int} {G : Nat → Int → Int} : ∀ n : Nat, 0 ≤ nzM K G n ∧ nzM K G n ≤ n := by
  intro n
  induction n with
  | zero => exact ⟨Int.le_refl 0, Int.le_refl 0⟩
  | succ n ih =>
    rw [nzM]
    split <;> omega
theorem pr_count {I N : Nat → Int} {F : Nat → Int → Int} {K : Nat → Int} {G : Nat → Int → Int} (h : GI I N F K G) {a : Int} (ha : -2147483648 ≤ a ∧ a < 2147483648) : Pr (rm 2 45 0 0) (rm 1 23 0 0) mX8_count mX9_count [J a] I N F K G := by
  obtain ⟨⟨hF, hI, hN, hG, hK, hM⟩, h2⟩ := id h
  obtain ⟨r0, r1, r2, r3, r4, r5⟩ := h2.2.2.2.2.2.1
  by_cases d : 0 ≤ a ∧ a ≤ 8
  · have dj : a = 0 ∨ a = 1 ∨ a = 2 ∨ a = 3 ∨ a = 4 ∨ a = 5 ∨ a = 6 ∨ a = 7 ∨ a = 8 := by omega
    rcases dj with e | e | e | e | e | e | e | e | e <;> subst e
    · exact pr_dd (x_count0 hF hI hN) (q_count0 hG hK hM) r0.2.2.1 (hK _) h
    · exact pr_dd (x_count1 hF hI hN) (q_count1 hG hK hM) r0.2.2.2.1 (hK _) h
    · exact pr_dd (x_count2 hF hI hN) (q_count2 hG hK hM) r0.2.1 (hK _) h
    · exact pr_dd (x_count3 hF hI hN) (q_count3 hG hK hM) r0.2.2.2.2.1 (hK _) h
    · exact pr_dd (x_count4 hF hI hN) (q_count4 hG hK hM) r0.2.2.2.2.2.1 (hK _) h
    · exact pr_dd (x_count5 hF hI hN) (q_count5 hG hK hM) r0.2.2.2.2.2.2 (hK _) h
    · exact pr_dd (x_count6 hF hI hN) (q_count6 hG hK hM) r0.1 (hK _) h
    · exact pr_dd (x_count7 hF hI hN) (q_count7 hG hK hM) h2.2.2.1.1 (hK _) h
    · refine pr_dd (x_count8 hF hI hN) (q_count8 hG hK hM) ?_ ?_ h
      · rw [r0.2.2.1]
        exact cnt_of _ (fun s z0 z1 => (r1 s z0 (by omega)).2.2.2.2.1)
      · have := nzM_r (K := K) (G := G) (K 3).toNat
        have := hM.2.1
        omega
  · exact pr_dd (x_count_out hF hI hN ha d) (q_count_out hG hK hM ha d) rfl (by decide) h
