/-! calls that change something, but read -/
theorem k1 {α : Type} {f : Nat → α} {j : Nat} {v : α} {a b : Nat} (h : j < a ∨ b < j) : ∀ k : Nat, a ≤ k → k ≤ b → uN f j v k = f k := fun k x y => uN_n (by omega)
theorem k2 {α : Type} {f g : Nat → α} {j : Nat} {v : α} {a b : Nat} (h : j < a ∨ b < j) (hg : ∀ k : Nat, a ≤ k → k ≤ b → g k = f k) : ∀ k : Nat, a ≤ k → k ≤ b → uN g j v k = f k := fun k x y => by rw [uN_n (by omega)]; exact hg k x y
theorem k0 {α : Type} {f : Nat → α} {a b : Nat} : ∀ k : Nat, a ≤ k → k ≤ b → f k = f k := fun _ _ _ => rfl
theorem MR_1 {K : Nat → Int} (h : MR K) {a : Int} (ha : 0 ≤ a ∧ a ≤ 1500) : MR (uN K 1 a) := by
  unfold MR at *
  simp (disch := decide) only [uN_s, uN_n]
  omega
theorem MR_43 {K : Nat → Int} (h : MR K) {a : Int} (ha : 1 ≤ a ∧ a ≤ 8) : MR (uN K 43 a) := by
  unfold MR at *
  simp (disch := decide) only [uN_s, uN_n]
  omega
theorem NR_10 {N : Nat → Int} (h : NR N) {a : Int} (ha : 0 ≤ a ∧ a ≤ 40) : NR (uN N 10 a) := by
  unfold NR at *
  simp (disch := decide) only [uN_s, uN_n]
  omega
theorem NR_11 {N : Nat → Int} (h : NR N) {a : Int} (ha : 0 ≤ a ∧ a ≤ 40) : NR (uN N 11 a) := by
  unfold NR at *
  simp (disch := decide) only [uN_s, uN_n]
  omega
theorem fdM_r {g : Int → Int} (hg : ∀ i, -2147483648 ≤ g i ∧ g i < 2147483648) (n a1 a2 a3 a4 a5 : Int) : ∀ i, -2147483648 ≤ fdM g n a1 a2 a3 a4 a5 i ∧ fdM g n a1 a2 a3 a4 a5 i < 2147483648 := by
  unfold fdM
  repeat (first | exact hg | refine uI_r ?_ (bnd_r _ _))
theorem pr_feed {I N : Nat → Int} {F : Nat → Int → Int} {K : Nat → Int} {G : Nat → Int → Int} (h : GI I N F K G) {a1 a2 a3 a4 a5 : Int} : Pr (rm 2 45 0 0) (rm 0 0 0 0) mX8_feed mX9_feed [J a1, J a2, J a3, J a4, J a5] I N F K G := by
  obtain ⟨⟨hF, hI, hN, hG, hK, hM⟩, hT, hP, ⟨t1, t2, t3⟩, hO, hS, hC⟩ := id h
  have n0 := hN.1
  by_cases c : N 0 + 20 ≤ 1500
  · refine pr_dd (x_feed hF hI hN c) (q_feed hG hK hM (by omega)) (by rw [t1]) (by omega) ⟨⟨hF.up (fdF_r (fdF_r (fdF_r (fdF_r (fdF_r (hF 0)))))), hI, NR0 hN (by omega), hG.up (fdM_r (hG 0) _ _ _ _ _ _), hK.up (by omega), MR_1 hM (by omega)⟩, hT, hP, ⟨by show N 0 + 1 + 1 + 1 + 1 + 1 + 1 + 1 + 1 + 1 + 1 + 1 + 1 + 1 + 1 + 1 + 1 + 1 + 1 + 1 + 1 = K 1 + 1 + 1 + 1 + 1 + 1 + 1 + 1 + 1 + 1 + 1 + 1 + 1 + 1 + 1 + 1 + 1 + 1 + 1 + 1 + 1; rw [t1], ?_, feed_by t3 a1 a2 a3 a4 a5⟩, hO, hS, SC_t hC k0 (k1 (by decide)) (k1 (by decide)) (k1 (by decide)) (k1 (by decide))⟩
    rw [t1]
    exact feed_eq t2 a1 a2 a3 a4 a5
  · exact pr_dd (x_feed_full hF hI hN c) (q_feed_full hG hK hM (by omega)) rfl (by decide) h
theorem pr_end {I N : Nat → Int} {F : Nat → Int → Int} {K : Nat → Int} {G : Nat → Int → Int} (h : GI I N F K G) {a : Int} (ha : -2147483648 ≤ a ∧ a < 2147483648) : Pr (rm 1 21 0 0) (rm 1 22 0 0) mX8_end mX9_end [J a] I N F K G := by
  obtain ⟨⟨hF, hI, hN, hG, hK, hM⟩, hT, hP, ⟨t1, t2, t3⟩, hO, hS, hC⟩ := id h
  have n0 := hN.1
  by_cases c : 0 ≤ a ∧ a ≤ N 0
  · exact pr_dd (x_end_ok hF hI hN c) (q_end_ok hG hK hM (by omega)) rfl (by omega) ⟨⟨hF, hI, NR0 hN (by omega), hG, hK.up (by omega), MR_1 hM (by omega)⟩, hT, hP, ⟨rfl, fun i x y => t2 i x (by have y : i < a := y; omega), fun i x y => t3 i x (by have y : i < a := y; omega)⟩, hO, hS, SC_t hC k0 (k1 (by decide)) k0 (k1 (by decide)) k0⟩
  · exact pr_dd (x_end_out hF hI hN ha c) (q_end_out hG hK hM ha (by omega)) rfl (by decide) h
theorem pr_tone {I N : Nat → Int} {F : Nat → Int → Int} {K : Nat → Int} {G : Nat → Int → Int} (h : GI I N F K G) {a : Int} (ha : -2147483648 ≤ a ∧ a < 2147483648) : Pr (rm 1 22 0 0) (rm 1 22 0 0) mX8_tone mX9_tone [J a] I N F K G := by
  obtain ⟨⟨hF, hI, hN, hG, hK, hM⟩, hT, hP, hB, hO, ⟨s1, s2, s3, s4, s5⟩, hC⟩ := id h
  by_cases c : 1 ≤ a ∧ a ≤ 8
  · exact pr_dd (x_tone_ok hF hI hN c) (q_tone_ok hG hK hM c) s1 (hK _) ⟨⟨hF, hI.up (by omega), hN, hG, hK.up (by omega), MR_43 hM c⟩, hT, hP, hB, hO, ⟨rfl, s2, s3, s4, s5⟩, SC_t hC (k1 (by decide)) k0 k0 (k1 (by decide)) k0⟩
  · exact pr_dd (x_tone_out hF hI hN ha c) (q_tone_out hG hK hM ha c) rfl (by decide) h
theorem pr_point {I N : Nat → Int} {F : Nat → Int → Int} {K : Nat → Int} {G : Nat → Int → Int} (h : GI I N F K G) {a b : Int} (ha : -2147483648 ≤ a ∧ a < 2147483648) (hb : b = 0 ∨ b = 1) : Pr (rm 2 46 0 0) (rm 1 22 0 0) mX8_point mX9_point [J a, J b] I N F K G := by
  obtain ⟨⟨hF, hI, hN, hG, hK, hM⟩, hT, hP, hB, hO, ⟨s1, s2, s3, s4, s5⟩, hC⟩ := id h
  have n10 : 0 ≤ N 10 ∧ N 10 ≤ 40 := hN.2.2.2.2.2.2.2.2.2.2.1
  have n11 : 0 ≤ N 11 ∧ N 11 ≤ 40 := hN.2.2.2.2.2.2.2.2.2.2.2.1
  by_cases c0 : a = 0
  · by_cases f : N 10 < 40
    · have x := x_point0 (T := mdl K G) hF hI hN hb c0 f
      have y := fun (I' N' : Nat → Int) (F' : Nat → Int → Int) => q_point (I := I') (N := N') (F := F') hG hK hM (a := a) (b := b) (Or.inl c0) hb (by rw [c0]; omega) (by rw [c0]; omega)
      subst c0
      refine pr_dd x (y _ _ _) (by rw [s2]) (by omega) ⟨⟨hF.up (uI_r (hF 10) (by omega)), hI, NR_10 hN (by omega), (hG.up (uI_r (hG 44) (by omega))).up (uI_r (hG 45) (by omega)), hK, hM⟩, hT, hP, hB, hO, ⟨s1, ?_, ?_, ?_, ?_⟩, SC_t hC k0 (k1 (by decide)) (k1 (by decide)) k0 (k2 (by decide) (k1 (by decide)))⟩
      · show N 10 + 1 = uI (G 45) 0 (G 45 0 + 1) 0
        rw [uI_s, s2]
      · show N 11 = uI (G 45) 0 (G 45 0 + 1) 1
        rw [uI_n (by decide)]; exact s3
      · intro i z0 z1
        have z1 : i < N 10 + 1 := z1
        show uI (F 10) (N 10) b i = uI (G 44) (40 * 0 + G 45 0) b (40 * 0 + i)
        by_cases e : i = N 10
        · rw [e, uI_s, show 40 * 0 + G 45 0 = 40 * 0 + N 10 by omega, uI_s]
        · rw [uI_n e, uI_n (by omega)]
          exact s4 i z0 (by omega)
      · intro i z0 z1
        have z1 : i < N 11 := z1
        show F 11 i = uI (G 44) (40 * 0 + G 45 0) b (40 * 1 + i)
        rw [uI_n (by omega)]
        exact s5 i z0 z1
    · have x := x_point0_full (T := mdl K G) hF hI hN hb c0 (by omega)
      have y := q_point_full (I := I) (N := N) (F := F) hG hK hM (a := a) (b := b) (Or.inl c0) (by rw [c0]; omega)
      exact pr_dd x y rfl (by decide) h
  · by_cases c1 : a = 1
    · by_cases f : N 11 < 40
      · have x := x_point1 (T := mdl K G) hF hI hN hb c1 f
        have y := fun (I' N' : Nat → Int) (F' : Nat → Int → Int) => q_point (I := I') (N := N') (F := F') hG hK hM (a := a) (b := b) (Or.inr c1) hb (by rw [c1]; omega) (by rw [c1]; omega)
        subst c1
        refine pr_dd x (y _ _ _) (by rw [s3]) (by omega) ⟨⟨hF.up (uI_r (hF 11) (by omega)), hI, NR_11 hN (by omega), (hG.up (uI_r (hG 44) (by omega))).up (uI_r (hG 45) (by omega)), hK, hM⟩, hT, hP, hB, hO, ⟨s1, ?_, ?_, ?_, ?_⟩, SC_t hC k0 (k1 (by decide)) (k1 (by decide)) k0 (k2 (by decide) (k1 (by decide)))⟩
        · show N 10 = uI (G 45) 1 (G 45 1 + 1) 0
          rw [uI_n (by decide)]; exact s2
        · show N 11 + 1 = uI (G 45) 1 (G 45 1 + 1) 1
          rw [uI_s, s3]
        · intro i z0 z1
          have z1 : i < N 10 := z1
          show F 10 i = uI (G 44) (40 * 1 + G 45 1) b (40 * 0 + i)
          rw [uI_n (by omega)]
          exact s4 i z0 z1
        · intro i z0 z1
          have z1 : i < N 11 + 1 := z1
          show uI (F 11) (N 11) b i = uI (G 44) (40 * 1 + G 45 1) b (40 * 1 + i)
          by_cases e : i = N 11
          · rw [e, uI_s, show 40 * 1 + G 45 1 = 40 * 1 + N 11 by omega, uI_s]
          · rw [uI_n e, uI_n (by omega)]
            exact s5 i z0 (by omega)
      · have x := x_point1_full (T := mdl K G) hF hI hN hb c1 (by omega)
        have y := q_point_full (I := I) (N := N) (F := F) hG hK hM (a := a) (b := b) (Or.inr c1) (by rw [c1]; omega)
        exact pr_dd x y rfl (by decide) h
    · exact pr_dd (x_point_out hF hI hN ha (by omega)) (q_point_out hG hK hM ha (by omega)) rfl (by decide) h
theorem pr_fresh {I N : Nat → Int} {F : Nat → Int → Int} {K : Nat → Int} {G : Nat → Int → Int} (h : GI I N F K G) : Pr (rm 2 42 0 0) (rm 0 0 0 0) mX8_fresh mX9_fresh [] I N F K G := by
  obtain ⟨⟨hF, hI, hN, hG, hK, hM⟩, hT, hP, hB, hO, ⟨s1, s2, s3, s4, s5⟩, hC⟩ := id h
  have n10 : 0 ≤ N 10 ∧ N 10 ≤ 40 := hN.2.2.2.2.2.2.2.2.2.2.1
  have n11 : 0 ≤ N 11 ∧ N 11 ≤ 40 := hN.2.2.2.2.2.2.2.2.2.2.2.1
  refine pr_dd (x_fresh hF hI hN) (q_fresh hG hK hM) (by rw [s2, s3]) (by omega) ⟨⟨hF, hI, NR_11 (NR_10 hN (by decide)) (by decide), hG.up (uI_r (uI_r (hG 45) (by decide)) (by decide)), hK, hM⟩, hT, hP, hB, hO, ⟨s1, ?_, ?_, ?_, ?_⟩, SC_t hC k0 (k2 (by decide) (k1 (by decide))) k0 k0 (k1 (by decide))⟩
  · show 0 = uI (uI (G 45) 0 0) 1 0 0
    rw [uI_n (by decide), uI_s]
  · show 0 = uI (uI (G 45) 0 0) 1 0 1
    rw [uI_s]
  · intro i z0 z1
    have z1 : i < 0 := z1
    omega
  · intro i z0 z1
    have z1 : i < 0 := z1
    omega
/-! half, sung -/
theorem fitI_n {I : Nat → Int} {f : Int → Int} {n t h : Int} {k : Nat} (hk : k < 14) : fitI I f n t h k = I k := by
  have e0 : ft0 I t h k = I k := by unfold ft0; rw [uN_n (by omega), uN_n (by omega), uN_n (by omega), uN_n (by omega), uN_n (by omega)]
  have e1 : plI (ft0 I t h) f n k = I k := by rw [plI_e (by omega) (by omega)]; exact e0
  unfold fitI
  split
  · unfold chI
    split
    · rw [uN_n (by omega), uN_n (by omega), uN_n (by omega), uN_n (by omega)]; exact e1
    · rw [uN_n (by omega), uN_n (by omega), uN_n (by omega)]; exact e1
  · exact e0
theorem fitI_r {I : Nat → Int} {f : Int → Int} {n t h : Int} (hI : IR I) (hn : 0 ≤ n ∧ n ≤ 40) (ht : 1 ≤ t ∧ t ≤ 8) (hh : 0 ≤ h ∧ h ≤ 1) : IR (fitI I f n t h) := by
  have h0 : IR (ft0 I t h) := ((((hI.up (by omega)).up (by omega)).up (by decide)).up (by decide)).up (by decide)
  by_cases c : 0 < n
  · have lr := lastP_r (f := f) c
    have fr : -100 ≤ firstP f (lastP f n) ∧ firstP f (lastP f n) ≤ 40 := by
      have := accB_r f (lastP f n).toNat
      unfold firstP
      split
      · split <;> omega
      · omega
    have h1 : IR (plI (ft0 I t h) f n) := by unfold plI; split; exact ((h0.up (by omega)).up (by omega)); exact h0.up (by omega)
    have e : fitI I f n t h = chI (plI (ft0 I t h) f n) := by funext k; unfold fitI; rw [if_pos c]
    rw [e]
    by_cases s : shr (plI (ft0 I t h) f n)
    · rw [chI_s s]
      exact (((h1.up (by decide)).up (by decide)).up (by decide)).up (by decide)
    · rw [chI_l s]
      have o := opn_r (plI (ft0 I t h) f n 18)
      have q := cc_r (plI (ft0 I t h) f n 17) (plI (ft0 I t h) f n 18) 0
      exact ((h1.up (by decide)).up (by omega)).up (by omega)
  · have e : fitI I f n t h = ft0 I t h := by funext k; unfold fitI; rw [if_neg c]
    rw [e]
    exact h0
theorem fitK_n {K : Nat → Int} {G : Nat → Int → Int} {h : Int} {k : Nat} (hk : k < 48 ∨ 51 < k) : fitK K G h k = K k := by
  unfold fitK
  split
  · unfold k0M
    rw [uN_n (by omega), uN_n (by omega), uN_n (by omega), uN_n (by omega)]
  · unfold fkM k0M
    rw [uN_n (by omega), uN_n (by omega), uN_n (by omega), uN_n (by omega), uN_n (by omega), uN_n (by omega), uN_n (by omega), uN_n (by omega)]
theorem fitK_M {K : Nat → Int} {G : Nat → Int → Int} {h : Int} (hM : MR K) (h45 : 0 ≤ G 45 h ∧ G 45 h ≤ 40) : MR (fitK K G h) := by
  have r := fitK_51 (K := K) h45
  unfold MR at *
  rw [fitK_n (k := 1) (by decide), fitK_n (k := 3) (by decide), fitK_n (k := 10) (by decide), fitK_n (k := 15) (by decide), fitK_n (k := 35) (by decide), fitK_n (k := 21) (by decide), fitK_n (k := 22) (by decide), fitK_n (k := 28) (by decide), fitK_n (k := 55) (by decide), fitK_n (k := 43) (by decide)]
  omega
theorem pr_fit {R1 R2 : Room} {M1 M2 : MI} {As : List Value} {I N : Nat → Int} {F : Nat → Int → Int} {K : Nat → Int} {G : Nat → Int → Int} {n x : Int} {f : Int → Int} {v : Int → (Int → Int) → Int} {v' : (Int → Int) → (Int → Int) → Int} (h : GI I N F K G) (hx : 0 ≤ x ∧ x ≤ 1) (hn : n = G 45 x) (hr : 0 ≤ n ∧ n ≤ 40) (hf : eqT f (ptF G x) n)
    (h1 : Sp R1 M1 (.ref 0 :: As) (W2 I N F K G) (fun w r => ∃ (m : Int) (g : Int → Int), r = some (J (v m g)) ∧ m = (if 0 < n then fitM (fitI I f n (I 13) x) n else 0) ∧ w = cls (fitI I f n (I 13) x) (uN N 12 m) (uN F 12 g) ++ mdl K G ∧ (rowsOK (fitI I f n (I 13) x) n m g ∧ (∀ i, -2147483648 ≤ g i ∧ g i < 2147483648))))
    (h2 : ∀ (I' N' : Nat → Int) (F' : Nat → Int → Int), Sp R2 M2 (.ref 31 :: As) (W2 I' N' F' K G) (fun w r => ∃ on by1 : Int → Int, r = some (J (v' on by1)) ∧ w = W2 I' N' F' (fitK K G x) (uN (uN G 52 on) 53 by1) ∧ fitR K G x on by1))
    (hv : ∀ (m : Int) (g on by1 : Int → Int), m = fitK K G x 51 → rowsOK (fitI I f n (I 13) x) n m g → (∀ i, -2147483648 ≤ g i ∧ g i < 2147483648) → (∀ i : Int, 0 ≤ i → i < m → on i = g (i * 2 + 0) ∧ by1 i = g (i * 2 + 1)) → v m g = v' on by1) (hvr : ∀ (m : Int) (g : Int → Int), (0 ≤ m ∧ m ≤ 41) → (∀ i, -2147483648 ≤ g i ∧ g i < 2147483648) → -2147483648 ≤ v m g ∧ v m g < 2147483648) : Pr R1 R2 M1 M2 As I N F K G := by
  obtain ⟨⟨hF, hI, hN, hG, hK, hM⟩, ⟨t34, t40, t41, t42, t46, t47⟩, hP, hB, hO, ⟨s1, s2, s3, s4, s5⟩, hC⟩ := id h
  have hk : 1 ≤ K 43 ∧ K 43 ≤ 8 := hM.2.2.2.2.2.2.2.2.2.2
  have ft := fit_of (I := I) (f := f) (n := n) (t := I 13) t47 t46 hk hx hn hr.1 s1 hf
  have h51 := fitK_51 (K := K) (G := G) (h := x) (by omega)
  refine Sp.wk h1 (fun w r q => ?_)
  obtain ⟨m, g, rfl, em, rfl, ro, gr⟩ := q
  have em2 : m = fitK K G x 51 := em.trans ft.1
  refine ⟨_, _, _, v m g, rfl, rfl, hvr m g (by omega) gr, Sp.wk (h2 _ _ _) (fun w r q => ?_)⟩
  obtain ⟨on, by1, rfl, rfl, fr, onr, byr⟩ := q
  have eqs : ∀ i : Int, 0 ≤ i → i < m → on i = g (i * 2 + 0) ∧ by1 i = g (i * 2 + 1) := by
    intro i a b
    have r1 := ro i a b
    have r2 := fr i a (by omega)
    rw [r1.1, r1.2, r2.1, r2.2, ← hn]
    exact ⟨rfl, (ft.2.2.2.2 i a (by omega)).symm⟩
  refine ⟨by rw [hv m g on by1 em2 ro gr eqs], fitK K G x, _, rfl, ⟨hF.up gr, fitI_r hI hr (by omega) hx, NR12 hN (by omega), (hG.up onr).up byr, fitK_r hK (by omega), fitK_M hM (by omega)⟩, ⟨t34, t40, t41, t42, t46, t47⟩, ⟨?_, hP.2⟩, ⟨?_, ?_, ?_⟩, ⟨?_, ?_⟩, ⟨?_, s2, s3, s4, s5⟩, SC_t hC (fun k a b => fitI_n (by omega)) (k1 (by decide)) (k1 (by decide)) (fun k a b => fitK_n (by omega)) (k2 (by decide) (k1 (by decide)))⟩
  · rw [fitI_n (by decide), fitK_n (by decide)]; exact hP.1
  · show N 0 = _
    rw [fitK_n (by decide)]; exact hB.1
  · rw [fitK_n (by decide)]; exact hB.2.1
  · rw [fitK_n (by decide)]; exact hB.2.2
  · show N 1 = _
    rw [fitK_n (by decide)]; exact hO.1
  · rw [fitK_n (by decide)]; exact hO.2
  · rw [fitI_n (by decide), fitK_n (by decide)]; exact s1
