/-! read: class and reference -/
theorem keepK_step {K : Nat → Int} {G : Nat → Int → Int} {k : Nat} (hk : k = 1 ∨ k = 28 ∨ (30 ≤ k ∧ k < 60)) : (mstep K G).1 k = K k := by
  have wr : ∀ a : Int, wrK K a k = K k := fun a => by unfold wrK; rw [uN_n (by omega), uN_n (by omega)]
  have ad : ∀ n : Int, adv K n k = K k := fun n => by unfold adv; rw [uN_n (by omega)]
  have bg : bgK K k = K k := by unfold bgK; rw [uN_n (by omega), uN_n (by omega), uN_n (by omega), uN_n (by omega)]
  have tl : ∀ {K1 : Nat → Int} (c : Int), K1 k = K k → tlK c K1 k = K k := by
    intro K1 c e
    unfold tlK adv
    split
    · rw [uN_n (by omega), uN_n (by omega), uN_n (by omega), uN_n (by omega)]; exact e
    · rw [uN_n (by omega)]; exact e
  have sg : ∀ (t : Nat) (n q : Int), (21 ≤ t ∧ t ≤ 25) → sgK t n q K k = K k := fun t n q ht => by unfold sgK; rw [uN_n (by omega), uN_n (by omega), uN_n (by omega), uN_n (by omega), uN_n (by omega)]
  have nt : ntK K k = K k := by unfold ntK; rw [uN_n (by omega), uN_n (by omega), uN_n (by omega), uN_n (by omega), uN_n (by omega), uN_n (by omega)]
  unfold mstep
  split
  · rfl
  · split
    · unfold mOut
      split
      · show uN (uN (adv K 1) 61 0) 62 1 k = K k
        rw [uN_n (by omega), uN_n (by omega)]; exact ad 1
      split
      · split
        · split
          · exact wr 2
          · exact tl _ bg
        · exact tl _ rfl
      · exact wr 1
    · unfold mIn mHt
      split
      · split
        · exact ad 1
        · show adv (wrK K 3) 1 k = K k
          unfold adv
          rw [uN_n (by omega)]; exact wr 3
      split
      · show uN (uN (adv K 1) 60 0) 61 0 k = K k
        rw [uN_n (by omega), uN_n (by omega)]; exact ad 1
      split
      · split
        · split
          · exact wr 2
          · exact sg 23 2 1 (by decide)
        split
        · split
          · exact wr 2
          · exact sg 24 2 (K 63) (by decide)
        split
        · split
          · exact wr 2
          · exact sg 25 2 (K 63) (by decide)
        split
        · exact wr 2
        · exact nt
      split
      · show uN (uN (adv K 1) 63 1) 64 0 k = K k
        rw [uN_n (by omega), uN_n (by omega)]; exact ad 1
      split
      · split
        · exact wr 2
        · exact sg 21 _ 1 (by decide)
      split
      · split
        · exact wr 2
        · exact sg 22 1 1 (by decide)
      · exact wr 1
theorem keepK {K0 K : Nat → Int} {G0 G : Nat → Int → Int} (h : Rch (K0, G0) (K, G)) {k : Nat} (hk : k = 1 ∨ k = 28 ∨ (30 ≤ k ∧ k < 60)) : K k = K0 k :=
  Rch.inv (P := fun p => p.1 k = K0 k) (fun K G h => (keepK_step hk).trans h) h rfl
theorem k27_step {K : Nat → Int} {G : Nat → Int → Int} (h : K 26 = 0 → K 27 = -100) : (mstep K G).1 26 = 0 → (mstep K G).1 27 = -100 := by
  have bad : ∀ {K1 : Nat → Int} {a : Int}, K1 26 = a → ¬ a = 0 → K1 26 = 0 → K1 27 = -100 := fun e1 e2 e3 => absurd (e1.symm.trans e3) e2
  have tl : ∀ {K1 : Nat → Int} (c : Int), K1 26 = K 26 → K1 27 = K 27 → tlK c K1 26 = 0 → tlK c K1 27 = -100 := by
    intro K1 c e1 e2
    unfold tlK adv
    split
    · intro q
      exact e2.trans (h (e1.symm.trans q))
    · intro q
      exact e2.trans (h (e1.symm.trans q))
  unfold mstep
  split
  · exact h
  · split
    · unfold mOut
      split
      · exact h
      split
      · split
        · split
          · exact bad (a := 2) rfl (by decide)
          · exact tl _ rfl rfl
        · exact tl _ rfl rfl
      · exact bad (a := 1) rfl (by decide)
    · unfold mIn mHt
      repeat' split
      all_goals first | exact h | exact bad (a := 1) rfl (by decide) | exact bad (a := 2) rfl (by decide) | exact bad (a := 3) rfl (by decide)
theorem g9_step {K : Nat → Int} {G : Nat → Int → Int} (q : ¬ (mstep K G).1 26 = 0) (h : K 26 = 0) : (mstep K G).2 9 = G 9 := by
  have tl : ∀ {K1 : Nat → Int} {G1 : Nat → Int → Int} (c : Int), K1 26 = K 26 → ¬ tlK c K1 26 = 0 → tlG c K1 G1 9 = G 9 := by
    intro K1 G1 c e1 z
    exfalso
    apply z
    unfold tlK adv
    split <;> exact e1.trans h
  have ok : ∀ {K1 : Nat → Int} {G1 : Nat → Int → Int}, K1 26 = K 26 → ¬ K1 26 = 0 → G1 9 = G 9 := fun e1 z => absurd (e1.trans h) z
  revert q
  unfold mstep
  split
  · intro _; rfl
  · split
    · unfold mOut
      split
      · intro _; rfl
      split
      · split
        · split
          · intro _; rfl
          · exact tl _ rfl
        · exact tl _ rfl
      · intro _; rfl
    · unfold mIn mHt
      repeat' split
      all_goals first | exact fun _ => rfl | exact ok rfl
theorem rch_all {K0 K : Nat → Int} {G0 G : Nat → Int → Int} (h : Rch (K0, G0) (K, G)) (hV : Iv K0 G0) (h0 : RG K0 G0) (h27 : K0 27 = -100) (h9 : G0 9 0 = 0) : (K 26 = 0 → RG K G ∧ K 27 = -100) ∧ G 9 0 = 0 := by
  have r := Rch.inv (P := fun p => Iv p.1 p.2 ∧ (p.1 26 = 0 → RG p.1 p.2) ∧ (p.1 26 = 0 → p.1 27 = -100) ∧ p.2 9 0 = 0) (fun K G h => ⟨Iv_step h.1, RG_step h.1 h.2.1, k27_step h.2.2.1, by
    by_cases q : (mstep K G).1 26 = 0
    · obtain ⟨I, N, F, _, _, _, hR, _⟩ := RG_step h.1 h.2.1 q
      obtain ⟨_, _, _, ⟨_, _, _, _, _, _, _, _, _, _, _, _, w1, w2, w3, _⟩, _⟩ := hR
      exact w3
    · by_cases z : K 26 = 0
      · show (mstep K G).2 9 0 = 0
        rw [g9_step q z]; exact h.2.2.2
      · have e : mstep K G = (K, G) := mstep_done (Or.inl z)
        show (mstep K G).2 9 0 = 0
        rw [e]; exact h.2.2.2⟩) h ⟨hV, fun _ => h0, fun _ => h27, h9⟩
  exact ⟨fun q => ⟨r.2.1 q, r.2.2.1 q⟩, r.2.2.2⟩
theorem SgW_of {I N : Nat → Int} {F : Nat → Int → Int} {K : Nat → Int} {G : Nat → Int → Int} (h : Rl I N F K G) : SgW F K G := by
  obtain ⟨_, hs, hn, ⟨nt, en, bn, cB, fl, wd, r1, r2, r3, r4, r5, r6, _⟩, _⟩ := h
  intro k a b
  obtain ⟨d1, d2, d3, d4, d5, d6, d7⟩ := r1 k a b
  have e13 : G 13 k = nt k := d2.2.2.2.2
  refine ⟨⟨d3.1, by rw [e13]; exact d3.2⟩, d1.1, d1.2.2.1, d1.2.2.2.1, d1.2.2.2.2, fun e => ?_⟩
  have x := d2.1
  rw [if_pos e] at x
  have y := (r2 (k + 1) (by omega) (by omega)).1
  have z := (r2 k a (by omega)).1
  rw [e13]
  exact ⟨z.1, by omega, (d4 e).1⟩
theorem SyW_of {I N : Nat → Int} {F : Nat → Int → Int} {K : Nat → Int} {G : Nat → Int → Int} (h : Rl I N F K G) (hp : PI K) (h26 : K 26 = 0) (h60 : K 60 = 0) : SyW N F K G := by
  obtain ⟨_, hs, hn, ⟨nt, en, bn, cB, fl, wd, r1, r2, r3, r4, r5, r6, w1, _⟩, _⟩ := h
  intro s a b
  obtain ⟨b1, b2, b3, b4, b5, b6, b7⟩ := hs s a b
  have p29 := hp.2.2.2.2.2.1
  have p28 := hp.1.2.2.2.2.2.2.2.1
  exact ⟨⟨b1.1, b1.2.1, b1.2.2.2, b3, b4 (Or.inr h60)⟩, ⟨b5.1, b5.2.1, b5.2.2.1, b5.2.2.2.1, by have := p29.2.2 h26; omega⟩, b6, (w1 s a b).1⟩
theorem MR_no {K : Nat → Int} (h : MR K) : MR (noK K) := by
  unfold MR noK at *
  simp (disch := decide) only [uN_s, uN_n]
  omega
theorem IR_no {K : Nat → Int} (h : IR K) : IR (noK K) := by
  unfold noK
  repeat (first | exact h | refine IR.up ?_ (by decide))
theorem MR_35 {K : Nat → Int} (h : MR K) {a : Int} (ha : 0 ≤ a ∧ a ≤ 150) : MR (uN K 35 a) := by
  unfold MR at *
  simp (disch := decide) only [uN_s, uN_n]
  omega
theorem NR_c {N : Nat → Int} (h : NR N) : NR (uN (uN (uN (uN (uN (uN (uN (uN N 2 0) 3 0) 4 0) 5 0) 6 0) 7 0) 8 0) 0 0) := by
  unfold NR at *
  simp (disch := decide) only [uN_s, uN_n]
  omega
theorem NR_5 {N : Nat → Int} (h : NR N) {a : Int} (ha : 0 ≤ a ∧ a ≤ 150) : NR (uN (uN N 5 a) 0 0) := by
  unfold NR at *
  simp (disch := decide) only [uN_s, uN_n]
  omega
theorem Tb_t {G G' : Nat → Int → Int} (h : Tb G) (hg : ∀ t : Nat, t = 34 ∨ t = 40 ∨ t = 41 ∨ t = 42 ∨ t = 46 ∨ t = 47 → G' t = G t) : Tb G' := by
  unfold Tb T34 T40 T41 T42 T46 T47 at *
  rw [hg 34 (by decide), hg 40 (by decide), hg 41 (by decide), hg 42 (by decide), hg 46 (by decide), hg 47 (by decide)]
  exact h
set_option maxHeartbeats 1000000 in
theorem pr_read {I N : Nat → Int} {F : Nat → Int → Int} {K : Nat → Int} {G : Nat → Int → Int} (h : GI I N F K G) : Pr (rm 6 146 0 0) (rm 5 114 0 0) mX8_read mX9_read [] I N F K G := by
  obtain ⟨⟨hF, hI, hN, hG, hK, hM⟩, hT, ⟨_, h9⟩, ⟨t1, t2, t3⟩, ⟨o1, o2⟩, ⟨s1, s2, s3, s4, s5⟩, hC⟩ := id h
  have hV : Iv (rdK (rbK K)) (rbG K G) := rd_Iv hG hK hM t3
  have hR0 : Rl (stI I) (stN N) (stF F) (rdK (rbK K)) (rbG K G) := Rl_0 t1 t2 h9
  have hRG : RG (rdK (rbK K)) (rbG K G) := ⟨_, _, _, stF_r hF, stI_r hI, stN_r hN, hR0, LI_0⟩
  refine Sp.wk (x_read hF hI hN hR0 rfl rfl hV) (fun w r q => ?_)
  obtain ⟨K1, G1, I1, N1, F1, rc, dn, f1, i1, n1, kp, q⟩ := q
  have V1 := Iv_rch rc hV
  have p26 : 0 ≤ K1 26 ∧ K1 26 ≤ 3 := V1.1.2.2.2.2.2.2.2.2.2.2.2.2.2.1
  obtain ⟨ra, r9⟩ := rch_all rc hV hRG rfl h9
  have tb : ∀ t : Nat, 30 ≤ t → G1 t = G t := fun t ht => (tab_rch ht rc).trans (uN_n (show t ≠ 2 by omega))
  have Tb1 : Tb G1 := Tb_t hT (fun t ht => tb t (by omega))
  have kk1 : K1 1 = 0 := keepK rc (by decide)
  have kk43 : K1 43 = K 43 := keepK rc (by decide)
  have kk55 : K1 55 = K 55 := keepK rc (by decide)
  have kk28 : K1 28 ≤ 1500 := V1.1.1.2.2.2.2.2.2.2.1.2
  have one : ∀ {K2 : Nat → Int} {G2 : Nat → Int → Int}, Rch (rdK (rbK K), rbG K G) (K2, G2) → mDone K2 → K2 = K1 ∧ G2 = G1 := by
    intro K2 G2 a b
    have e := Rch.one a rc b dn
    exact ⟨congrArg Prod.fst e, congrArg Prod.snd e⟩
  have Ps : ∀ {N' : Nat → Int} {F' : Nat → Int → Int} {I' K' : Nat → Int} {G' : Nat → Int → Int}, I' 13 = I1 13 → N' 10 = N1 10 → N' 11 = N1 11 → F' 10 = F1 10 → F' 11 = F1 11 → K' 43 = K1 43 → G' 44 = G1 44 → G' 45 = G1 45 → PsR I' N' F' K' G' := by
    intro N' F' I' K' G' a b c d e f g i
    unfold PsR ptF
    rw [a, b, c, d, e, f, g, i, kp.1 13 (by decide), kp.2.1 10 (by decide), kp.2.1 11 (by decide), kp.2.2 10 (by decide), kp.2.2 11 (by decide), kk43, tb 44 (by decide), tb 45 (by decide)]
    exact ⟨s1, s2, s3, s4, s5⟩
  have Ou : ∀ {N' : Nat → Int} {F' : Nat → Int → Int} {K' : Nat → Int} {G' : Nat → Int → Int}, N' 1 = N1 1 → F' 1 = F1 1 → K' 55 = K1 55 → G' 54 = G1 54 → OuR N' F' K' G' := by
    intro N' F' K' G' a b c d
    unfold OuR
    rw [a, b, c, d, kp.2.1 1 (by decide), kp.2.2 1 (by decide), kk55, tb 54 (by decide)]
    exact ⟨o1, o2⟩
  have Tp : ∀ {N' : Nat → Int} {F' : Nat → Int → Int} {K' : Nat → Int} {G' : Nat → Int → Int}, N' 0 = 0 → K' 1 = K1 1 → TpR N' F' K' G' := by
    intro N' F' K' G' a b
    unfold TpR
    rw [a, b, kk1]
    exact ⟨rfl, fun i x y => by omega, fun i x y => by omega⟩
  rcases q with ⟨q0, q1, q2, rfl, j, g5, g4, sh, rfl⟩ | ⟨q0, rfl, rfl⟩
  · -- read to the end
    obtain ⟨rg, e27⟩ := ra q0
    obtain ⟨nt, en, cB, fl, wd, wk, sr⟩ := wk_of q1 V1.1
    have p15 : 0 ≤ K1 15 ∧ K1 15 ≤ 150 := V1.1.1.2.2.2.1
    refine ⟨_, _, _, K1 15, rfl, rfl, by omega, Sp.wk (q_read (Ps := fun K2 G2 st sm gd => st = stF5 F1 ∧ sm = smF6 F1 ∧ gd = gdx F1 (K1 15)) hG hK hM hT.1 hT.2.1 t3 (fun K2 G2 a b c => ?_)) (fun w r q => ?_)⟩
    · obtain ⟨rfl, rfl⟩ := one a b
      exact ⟨nt, en, cB, fl, wd, stF5 F1, smF6 F1, gdx F1 (K2 15), wk, fun i x y => by have := sr i x y; omega, rfl, rfl, rfl⟩
    · obtain ⟨K2, G2, a, b, q⟩ := q
      obtain ⟨rfl, rfl⟩ := one a b
      rcases q with ⟨c, _⟩ | ⟨c, a, b, f, g, p, q, u, d, j', st, sm, gd, rfl, rfl, v1, v2, v3, v4, v5, rfl, rfl, rfl⟩
      · exact absurd q0 c
      · have jr : (j : Int) ≤ 150 := by
          obtain ⟨z1, z2, z3, z4, z5, z6, z7, z8, z9, z10, z11, z12, z13⟩ := sh
          have : N1 4 = K2 15 := q1.1.1.2.2.2.2.2.2.1
          omega
        have jr' : (j' : Int) ≤ 150 := by
          have := v3.2.2.2.2.2.2.2.2
          omega
        refine ⟨rfl, _, _, rfl, ⟨(f1.up sh.2.2.2.2.2.1).up sh.2.2.2.2.2.2.1, i1.up (by decide), NR_5 n1 (by omega), v5, V1.2.1.up (by omega), MR_35 V1.1.1 (by omega)⟩, Tb_t Tb1 (fun t ht => ?_), ⟨e27.symm, r9⟩, Tp rfl rfl, Ou rfl rfl rfl rfl, Ps rfl rfl rfl rfl rfl rfl rfl rfl, RS_of q1 V1.1 sh v1 v2 v3 v4, ?_, ?_, ?_, ?_⟩
        · rw [nmG_n (by omega), gdG_n (by omega)]
        · have w := SgW_of q1
          exact w
        · have w := SyW_of q1 V1.1 q0 q2
          exact w
        · exact q1.1.1.2.2.2.2.2.2.2.2.2
        · have e : Lx (uN K2 35 (j' : Int)) (nmG (gdG G2 a b f g) p q u d) = Lx K2 G2 := Lx_c rfl (fun i x y => by
            have w := (SyW_of q1 V1.1 q0 q2) i x y
            exact mSy_c ⟨rfl, fun _ => rfl, rfl, rfl, rfl, rfl, rfl⟩ rfl (fun k _ _ => ⟨rfl, rfl, rfl, fun _ => ⟨rfl, rfl⟩⟩) ⟨w.2.2.2.1, w.2.2.2.2.1⟩)
          rw [e]
          have s := short rg V1.1 q2
          have p29 := V1.1.2.2.2.2.2.1
          show ((mTx K2 G2).length : Int) ≤ 1500
          have := p29.2.2 q0
          omega
  · -- a fault
    refine ⟨_, _, _, -10 - K1 26, rfl, rfl, by omega, Sp.wk (q_read (Ps := fun _ _ _ _ _ => True) hG hK hM hT.1 hT.2.1 t3 (fun K2 G2 a b c => ?_)) (fun w r q => ?_)⟩
    · obtain ⟨rfl, rfl⟩ := one a b
      exact absurd c q0
    · obtain ⟨K2, G2, a, b, q⟩ := q
      obtain ⟨rfl, rfl⟩ := one a b
      rcases q with ⟨c, rfl, rfl⟩ | ⟨c, _⟩
      · refine ⟨rfl, _, _, rfl, ⟨f1, ((i1.up (by decide)).up (by decide)).up (V1.2.1 27), NR_c n1, V1.2.2.1, IR_no V1.2.1, MR_no V1.1.1⟩, Tb1, ⟨rfl, r9⟩, Tp rfl rfl, Ou rfl rfl rfl rfl, Ps rfl rfl rfl rfl rfl rfl rfl rfl, ⟨⟨rfl, rfl, rfl, rfl, rfl, rfl, rfl⟩, ?_, ?_, ?_, ?_, ?_⟩, ?_, ?_, rfl, ?_⟩
        · intro s x y
          have y : s < 0 := y
          omega
        · intro s x y
          have y : s < 0 := y
          omega
        · intro s x y
          have y : s < 0 := y
          omega
        · intro s z x y
          have y : s < 0 := y
          omega
        · intro s x y
          have y : s < 0 := y
          omega
        · intro s x y
          have y : s < 0 := y
          omega
        · intro s x y
          have y : s < 0 := y
          omega
        · show ((mTx (noK K2) G2).length : Int) ≤ 1500
          have e : mTx (noK K2) G2 = [] := rfl
          rw [e]
          decide
      · exact absurd c q0
