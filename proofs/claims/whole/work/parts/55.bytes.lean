/-! one byte in the class and in the reference -/
theorem mk_ne {b : Int} (h : ¬ mkOf b = 0) : b = 46 ∨ b = 95 ∨ b = 118 ∨ b = 119 ∨ b = 126 := by unfold mkOf at h; omega
theorem IR2 {I : Nat → Int} (h : IR I) {a p : Int} (ha : 1 ≤ a ∧ a ≤ 3) (hp : 0 ≤ p ∧ p ≤ 5000) : IR (uN (uN I 3 a) 4 p) := (h.up (by omega)).up (by omega)
theorem finO {I N I' N' : Nat → Int} {F F' : Nat → Int → Int} {K : Nat → Int} {G : Nat → Int → Int} {p c : Int} (hs : ∀ T : XW, Sd (rm 2 46 0 0) mX2_takeOutside [.ref 20, J p, J c] (cls I N F ++ T) (cls I' N' F' ++ T) none) (h : SP I N F K G I' N' F') : ∃ (I' N' : Nat → Int) (F' : Nat → Int → Int), SP I N F K G I' N' F' ∧ ∀ T : XW, Sd (rm 2 46 0 0) mX2_takeOutside [.ref 20, J p, J c] (cls I N F ++ T) (cls I' N' F' ++ T) none := ⟨I', N', F', h, hs⟩
theorem finI {I N I' N' : Nat → Int} {F F' : Nat → Int → Int} {K : Nat → Int} {G : Nat → Int → Int} {p c d : Int} (hs : ∀ T : XW, Sd (rm 4 98 0 0) mX2_takeInside [.ref 20, J p, J c, J d] (cls I N F ++ T) (cls I' N' F' ++ T) none) (h : SP I N F K G I' N' F') : ∃ (I' N' : Nat → Int) (F' : Nat → Int → Int), SP I N F K G I' N' F' ∧ ∀ T : XW, Sd (rm 4 98 0 0) mX2_takeInside [.ref 20, J p, J c, J d] (cls I N F ++ T) (cls I' N' F' ++ T) none := ⟨I', N', F', h, hs⟩
/-- the plain numbers of a reading -/
theorem rl_fac {I N : Nat → Int} {F : Nat → Int → Int} {K : Nat → Int} {G : Nat → Int → Int} (hR : Rl I N F K G) (hp : PI K) : (0 ≤ K 29 ∧ K 28 ≤ 1500 ∧ 0 ≤ K 28) ∧ (N 3 = K 3 ∧ 0 ≤ K 3 ∧ K 3 ≤ 60) ∧ (N 4 = K 15 ∧ 0 ≤ K 15 ∧ K 15 ≤ 150) ∧ (N 6 = K 21 ∧ 0 ≤ K 21 ∧ K 21 ≤ 30) ∧ (N 7 = K 22 ∧ 0 ≤ K 22 ∧ K 22 ≤ 20) ∧ (N 8 = K 10 ∧ K 10 = K 15 + K 21 + K 22 + K 23 + K 24 + K 25) ∧ N 9 = 6 ∧ (I 1 = K 14 ∧ 0 ≤ K 14 ∧ K 14 ≤ 60) ∧ (I 2 = K 20 ∧ 0 ≤ K 20 ∧ K 20 ≤ 150) ∧ (F 9 0 = K 15 ∧ F 9 1 = K 24 ∧ F 9 2 = K 25 ∧ F 9 3 = K 23 ∧ F 9 4 = K 21 ∧ F 9 5 = K 22) ∧ (0 ≤ K 23 ∧ K 23 ≤ 20) ∧ (0 ≤ K 24 ∧ K 24 ≤ 20) ∧ (0 ≤ K 25 ∧ K 25 ≤ 20) ∧ (0 ≤ N 2 ∧ N 2 ≤ K 29) ∧ N 0 = K 28 := by
  obtain ⟨⟨a1, a2, a3, a4, a5⟩, hs, hn, hg, ht⟩ := hR
  have t := ht.1
  unfold PI MR at hp
  refine ⟨by omega, ⟨a1.2.2.2.2.2.1, by omega, by omega⟩, ⟨a1.2.2.2.2.2.2.1, by omega, by omega⟩, ⟨a1.2.2.2.2.2.2.2.1, by omega, by omega⟩, ⟨a1.2.2.2.2.2.2.2.2.1, by omega, by omega⟩, ⟨a1.2.2.2.2.2.2.2.2.2, by omega⟩, a1.2.2.1, ⟨a1.2.2.2.1, by omega, by omega⟩, ⟨a1.2.2.2.2.1, by omega, by omega⟩, a2, by omega, by omega, by omega, a4, t⟩
set_option maxHeartbeats 4000000 in
theorem k_stepOut {I N : Nat → Int} {F : Nat → Int → Int} {K : Nat → Int} {G : Nat → Int → Int} (hF : FR F) (hI : IR I) (hN : NR N) (hR : Rl I N F K G) (hV : Iv K G) (h26 : K 26 = 0) (h60 : K 60 = 0) (hl : K 29 < K 28) (h5 : I 5 = K 29 + 1) : ∃ (I' N' : Nat → Int) (F' : Nat → Int → Int), SP I N F K G I' N' F' ∧ ∀ T : XW, Sd (rm 2 46 0 0) mX2_takeOutside [.ref 20, J (K 29), J (byB K G (K 29))] (cls I N F ++ T) (cls I' N' F' ++ T) none := by
  have hp' := hV.1
  have p29 := hp'.2.2.2.2.2.1.1
  have eb : byB K G (K 29) = G 2 (K 29) := by unfold byB; rw [if_pos hl]
  have eb0 := hV.2.2.2.1 (K 29) (by omega) hl
  have hb : 0 ≤ byB K G (K 29) ∧ byB K G (K 29) < 256 := by omega
  have fac := rl_fac hR hp'
  have a39 : I 9 = K 61 := hR.1.2.2.1.2.1
  have a310 : I 10 = 1 - K 62 := hR.1.2.2.1.2.2.1
  have h61 : K 61 = 0 ∨ K 61 = 1 := hp'.2.2.2.2.2.2.2.2.2.1
  have h62 : K 62 = 0 ∨ K 62 = 1 := hp'.2.2.2.2.2.2.2.2.2.2.1
  have h3p : K 61 = 1 → 0 < K 3 := fun q => hp'.2.2.2.2.2.2.2.2.2.2.2.2.2.2.1 (Or.inr q)
  have em : mstep K G = mOut (byB K G (K 29)) K G := by unfold mstep; rw [if_neg (by omega), if_pos h60]
  generalize byB K G (K 29) = c at *
  have kI : ∀ k : Nat, k = 0 ∨ 13 ≤ k → I k = I k := fun _ _ => rfl
  have kN : ∀ k : Nat, k ≤ 1 ∨ 10 ≤ k → N k = N k := fun _ _ => rfl
  have kF : ∀ k : Nat, k ≤ 1 ∨ 10 ≤ k → F k = F k := fun _ _ => rfl
  unfold mOut at em
  split at em
  · rename_i hc
    exact finO (fun T => k_out_blank hF hI hN hb hc) (SP_ok em hV h26 hI hN hF (by show -2147483648 ≤ (0 : Int) ∧ (0 : Int) < 2147483648; decide) ⟨kI_w (by decide) (kI_w (by decide) (kI_w (by decide) kI)), kN, kF⟩ (Rl_bl hR h60) h5)
  split at em
  · rename_i hnb hc
    split at em
    · rename_i h61
      have i9 : I 9 = 0 := by rw [a39, h61]
      split at em
      · rename_i h3
        exact finO (fun T => k_out_full hF hI hN hb (by omega) i9 (by omega)) (SP_no em (by show ¬ (2 : Int) = 0; decide) hF hN (IR2 hI (a := 2) (p := K 29) (by decide) (by omega)) (kI_w (by decide) (kI_w (by decide) kI)) rfl rfl)
      · rename_i h3
        have hN3 : N 3 < 60 := by omega
        have hw : -1000 ≤ I 1 ∧ I 1 ≤ 1000 := by omega
        -- the syllable begun
        have go : ∀ (I1 : Nat → Int) (w : Int), (∀ k : Nat, k ≠ 1 → k ≠ 9 → k ≠ 10 → I1 k = I k) → I1 1 = K 14 + K 62 → I1 9 = 1 → I1 10 = 1 → w = K 14 + K 62 - 1 →
            (c = 40 → SP I N F K G (uN I1 8 1) (uN N 3 (N 3 + 1)) (uN (bgF N F w) 3 (uI ((bgF N F w) 3) (((uN N 3 (N 3 + 1)) 3 - 1) * 9 + 3) 1))) ∧
            (¬ c = 40 → SP I N F K G I1 (uN (uN N 3 (N 3 + 1)) 2 ((uN N 3 (N 3 + 1)) 2 + 1)) (ltF (uN N 3 (N 3 + 1)) (bgF N F w) c)) := by
          intro I1 w y0 y1 y9 y10 hw2
          have R1 := Rl_bg hR hp' h60 y0 y1 y9 y10 hw2
          have F1 : FR (bgF N F w) := bgF_r hF (by omega) (by unfold NR at hN; exact hN)
          have kI1 : ∀ k : Nat, k = 0 ∨ 13 ≤ k → I1 k = I k := fun k q => y0 k (by omega) (by omega) (by omega)
          have kF1 : ∀ k : Nat, k ≤ 1 ∨ 10 ≤ k → bgF N F w k = F k := kF_w (by decide) kF
          have kN1 : ∀ k : Nat, k ≤ 1 ∨ 10 ≤ k → uN N 3 (N 3 + 1) k = N k := kN_w (by decide) kN
          have y5 : I1 5 = K 29 + 1 := (y0 5 (by decide) (by decide) (by decide)).trans h5
          have y7 : -2147483648 ≤ I1 7 ∧ I1 7 < 2147483648 := by rw [y0 7 (by decide) (by decide) (by decide)]; exact hI 7
          refine ⟨fun e => ?_, fun e => ?_⟩
          · unfold tlK tlG at em
            rw [if_pos e, if_pos e] at em
            exact SP_ok em hV h26 hI hN (F1.up (uI_r (F1 3) (by decide))) y7 ⟨kI_w (by decide) kI1, kN1, kF_w (by decide) kF1⟩ (Rl_par R1 h60 rfl) y5
          · unfold tlK tlG at em
            rw [if_neg e, if_neg e] at em
            refine SP_ok em hV h26 hI hN (ltF_r F1 (by omega) ?_) y7 ⟨kI1, kN_w (by decide) kN1, kF_w (by decide) (kF_w (by decide) kF1)⟩ (Rl_let R1 h60 rfl eb) y5
            have s := (R1.2.1 (K 3) (by omega) (by show K 3 < K 3 + 1; omega)).1.2.1
            rw [show bgG K G 5 (K 3) = 0 from by show uI (G 5) (K 3) 0 (K 3) = 0; rw [uI_s]] at s
            have e3 : (uN N 3 (N 3 + 1) 3 - 1) = K 3 := by show N 3 + 1 - 1 = K 3; omega
            rw [e3, s]
            decide
        by_cases h62 : K 62 = 0
        · have i10 : ¬ I 10 = 0 := by omega
          obtain ⟨g1, g2⟩ := go (uN I 9 1) (I 1 - 1) (fun k _ q _ => uN_n q) (by show I 1 = _; omega) rfl (by show I 10 = 1; omega) (by omega)
          by_cases e : c = 40
          · exact finO (fun T => k_out_par_old hF hI hN hb e i9 i10 hN3 hw) (g1 e)
          · exact finO (fun T => k_out_let_old hF hI hN hb (by omega) (by omega) i9 i10 hN3 hw) (g2 e)
        · have i10 : I 10 = 0 := by omega
          obtain ⟨g1, g2⟩ := go (uN (uN (uN I 10 1) 1 (I 1 + 1)) 9 1) (I 1 + 1 - 1) (fun k q1 q2 q3 => by rw [uN_n q2, uN_n q1, uN_n q3]) (by show I 1 + 1 = _; omega) rfl rfl (by omega)
          by_cases e : c = 40
          · exact finO (fun T => k_out_par_new hF hI hN hb e i9 i10 hN3 hw) (g1 e)
          · exact finO (fun T => k_out_let_new hF hI hN hb (by omega) (by omega) i9 i10 hN3 hw) (g2 e)
    · rename_i h61n
      have h61 : K 61 = 1 := by omega
      have i9 : ¬ I 9 = 0 := by rw [a39, h61]; decide
      have h3 : 0 < N 3 := by have := h3p h61; omega
      unfold tlK tlG at em
      by_cases e : c = 40
      · rw [if_pos e, if_pos e] at em
        exact finO (fun T => k_out_par_in hF hI hN hb e i9 h3) (SP_ok em hV h26 hI hN (hF.up (uI_r (hF 3) (by decide))) (hI 7) ⟨kI_w (by decide) kI, kN, kF_w (by decide) kF⟩ (Rl_par hR h60 h61) h5)
      · rw [if_neg e, if_neg e] at em
        refine finO (fun T => k_out_let_in hF hI hN hb (by omega) (by omega) i9 h3) (SP_ok em hV h26 hI hN (ltF_r hF (by omega) ?_) (hI 7) ⟨kI, kN_w (by decide) kN, kF_w (by decide) (kF_w (by decide) kF)⟩ (Rl_let hR h60 h61 eb) h5)
        have s := hR.2.1 (K 3 - 1) (by omega) (by omega)
        rw [show N 3 - 1 = K 3 - 1 by omega, s.1.2.1]
        have := s.2.2.2.2.1
        omega
  · rename_i hnb hc
    exact finO (fun T => k_out_strange hF hI hN hb ⟨hnb, by omega, by omega⟩) (SP_no em (by show ¬ (1 : Int) = 0; decide) hF hN (IR2 hI (a := 1) (p := K 29) (by decide) (by omega)) (kI_w (by decide) (kI_w (by decide) kI)) rfl rfl)
set_option maxHeartbeats 4000000 in
theorem k_stepIn {I N : Nat → Int} {F : Nat → Int → Int} {K : Nat → Int} {G : Nat → Int → Int} (hF : FR F) (hI : IR I) (hN : NR N) (hR : Rl I N F K G) (hV : Iv K G) (h26 : K 26 = 0) (h60 : K 60 = 1) (hl : K 29 < K 28) (h5 : I 5 = K 29 + 1) : ∃ (I' N' : Nat → Int) (F' : Nat → Int → Int), SP I N F K G I' N' F' ∧ ∀ T : XW, Sd (rm 4 98 0 0) mX2_takeInside [.ref 20, J (K 29), J (byB K G (K 29)), J (byB K G (K 29 + 1))] (cls I N F ++ T) (cls I' N' F' ++ T) none := by
  have hp' := hV.1
  have p29 := hp'.2.2.2.2.2.1.1
  have eb : byB K G (K 29) = G 2 (K 29) := by unfold byB; rw [if_pos hl]
  have eb0 := hV.2.2.2.1 (K 29) (by omega) hl
  have hb : 0 ≤ byB K G (K 29) ∧ byB K G (K 29) < 256 := by omega
  have hq : -1 ≤ byB K G (K 29 + 1) ∧ byB K G (K 29 + 1) < 256 := ⟨(byB_r hV.2.2.2.1 (k := K 29 + 1) (by omega)).1, (byB_r hV.2.2.2.1 (k := K 29 + 1) (by omega)).2.1⟩
  have fac := rl_fac hR hp'
  have i11 : I 11 = 1 - K 63 := by have := hR.1.2.2.1.2.2.2.1; rw [if_pos h60] at this; exact this
  have i12 : I 12 = K 64 := by have := hR.1.2.2.1.2.2.2.2; rw [if_pos h60] at this; exact this
  have h63 : K 63 = 0 ∨ K 63 = 1 := hp'.2.2.2.2.2.2.2.2.2.2.2.1
  have h64 : K 64 = 0 ∨ K 64 = 1 := hp'.2.2.2.2.2.2.2.2.2.2.2.2.1
  have h3p : 0 < K 3 := hp'.2.2.2.2.2.2.2.2.2.2.2.2.2.2.1 (Or.inl h60)
  have h6 : -100 ≤ I 6 ∧ I 6 ≤ 100 := by
    obtain ⟨_, _, _, ⟨nt, en, bn, cB, fl, wd, r1, r2, r3, r4, r5, _⟩, _⟩ := hR
    have := zrM_r (c := cB (K 10))
    omega
  have em : mstep K G = mIn (byB K G (K 29)) (byB K G (K 29 + 1)) K G := by unfold mstep; rw [if_neg (by omega), if_neg (by omega)]
  generalize byB K G (K 29) = c at *
  generalize byB K G (K 29 + 1) = d at *
  have kI : ∀ k : Nat, k = 0 ∨ 13 ≤ k → I k = I k := fun _ _ => rfl
  have kN : ∀ k : Nat, k ≤ 1 ∨ 10 ≤ k → N k = N k := fun _ _ => rfl
  have kF : ∀ k : Nat, k ≤ 1 ∨ 10 ≤ k → F k = F k := fun _ _ => rfl
  have I2r : ∀ a : Int, 1 ≤ a ∧ a ≤ 3 → ∀ {I1 : Nat → Int}, IR I1 → IR (uN (uN I1 3 a) 4 (K 29)) := fun a ha I1 h1 => IR2 h1 ha (by omega)
  have J0 : IR (uN I 12 0) := hI.up (by decide)
  have J1 : IR (uN (uN I 12 0) 11 0) := J0.up (by decide)
  have kJ0 : ∀ k : Nat, k = 0 ∨ 13 ≤ k → uN I 12 0 k = I k := kI_w (by decide) kI
  have kJ1 : ∀ k : Nat, k = 0 ∨ 13 ≤ k → uN (uN I 12 0) 11 0 k = I k := kI_w (by decide) kJ0
  unfold mIn at em
  split at em
  · -- a mark behind a note
    rename_i hm
    have h12 : ¬ I 12 = 0 := by omega
    have p15 : 0 < K 15 := hp'.2.2.2.2.2.2.2.2.2.2.2.2.2.2.2 ⟨hm.1, h60⟩
    have h4 : 0 < N 4 := by omega
    have mr := mkOf_r c
    have e17 : F 4 ((N 4 - 1) * 8 + 1) = G 17 (K 15 - 1) := by rw [show N 4 - 1 = K 15 - 1 by omega]; exact (hR.2.2.1 (K 15 - 1) (by omega) (by omega)).1.2.1
    have r17 := (hR.2.2.1 (K 15 - 1) (by omega) (by omega)).2.2.1
    split at em
    · rename_i hz
      exact finI (fun T => k_in_mark hb hq hm.2 (k_mark_ok hF hI hN (by omega) h12 h4 (by rw [e17]; exact hz))) (SP_ok em hV h26 hI hN (hF.up (uI_r (hF 4) (by omega))) (hI 7) ⟨kI, kN, kF_w (by decide) kF⟩ (Rl_mk hR hp' h60 hm.1 hz) h5)
    · rename_i hz
      exact finI (fun T => k_in_mark hb hq hm.2 (k_mark_twice hF hI hN (by omega) h12 h4 (by rw [e17]; exact hz))) (SP_no em (by show ¬ (3 : Int) = 0; decide) hF hN (I2r 3 (by decide) hI) (kI_w (by decide) (kI_w (by decide) kI)) rfl rfl)
  split at em
  · -- the bracket closes
    rename_i hm hc
    subst hc
    exact finI (fun T => k_in_close hq (k_endSyl hF J1 hN (by omega))) (SP_ok em hV h26 hI hN (hF.up (uI_r (hF 3) (by have := hF 3 ((N 3 - 1) * 9 + 7); have s := hR.2.1 (K 3 - 1) (by omega) (by omega); have w := hR.2.2.2.1; obtain ⟨_, _, _, _, _, _, _, _, _, _, _, _, w1, _⟩ := w; have w1 := w1 (K 3 - 1) (by omega) (by omega); rw [show N 3 - 1 = K 3 - 1 by omega, s.2.2.1]; omega))) (hI 7) ⟨kI_w (by decide) (kI_w (by decide) kJ1), kN, kF_w (by decide) kF⟩ (Rl_cl hR h60) h5)
  split at em
  · -- a height
    rename_i hm hnc hc
    have hh : 0 ≤ c - 97 ∧ c - 97 ≤ 12 := by omega
    unfold mHt at em
    split at em
    · rename_i hcl
      have ec : (c - 97 = 2 ∨ c - 97 = 5) ∧ 49 ≤ d ∧ d ≤ 52 := by omega
      split at em
      · rename_i h20
        by_cases e5 : c - 97 = 5
        · exact finI (fun T => k_in_height hb hq hc (k_h_clef hh hq ec (k_clef_f_full hF J0 hN (by omega) hh (by omega) e5 (by omega) (by omega)))) (SP_no em (by show ¬ (2 : Int) = 0; decide) hF hN (I2r 2 (by decide) ((J0.up (k := 5) (v := K 29 + 2) (by omega)).up (k := 11) (v := 0) (by decide))) (kI_w (by decide) (kI_w (by decide) (kI_w (by decide) (kI_w (by decide) kJ0)))) rfl rfl)
        · exact finI (fun T => k_in_height hb hq hc (k_h_clef hh hq ec (k_clef_c_full hF J0 hN (by omega) hh (by omega) e5 (by omega) (by omega)))) (SP_no em (by show ¬ (2 : Int) = 0; decide) hF hN (I2r 2 (by decide) ((J0.up (k := 5) (v := K 29 + 2) (by omega)).up (k := 11) (v := 0) (by decide))) (kI_w (by decide) (kI_w (by decide) (kI_w (by decide) (kI_w (by decide) kJ0)))) rfl rfl)
      · rename_i h20
        by_cases e5 : c - 97 = 5
        · have ev : (if c = 102 then 10 else 0) + d - 48 = 10 + (d - 48) := by rw [if_pos (by omega)]; omega
          rw [ev] at em
          refine finI (fun T => k_in_height hb hq hc (k_h_clef hh hq ec (k_clef_f hF J0 hN (by omega) hh (by omega) e5 (by omega) (by omega) (by omega)))) (SP_ok em hV h26 hI hN (sgF_r hF (by omega) (by decide) (by omega)) (by show -2147483648 ≤ (0 : Int) ∧ (0 : Int) < 2147483648; decide) (Kpt_sg (kI_w (by decide) (kI_w (by decide) (kI_w (by decide) (kI_w (by decide) kJ0)))) (kN_w (by decide) kN)) (Rl_cf (v := 10 + (d - 48)) (x := d - 48 + 4) hR hp' h60 (by omega) (by omega) (by rw [if_pos (by omega)]; omega) (fun k q1 q2 q3 q4 q5 => by rw [uN_n q4, uN_n q5, uN_n q3, uN_n q1, uN_n q2]) rfl rfl rfl (by show 2 * (d - 48) + 1 + 4 = zrM (10 + (d - 48)); unfold zrM; omega)) rfl)
        · have ev : (if c = 102 then 10 else 0) + d - 48 = d - 48 := by rw [if_neg (by omega)]; omega
          rw [ev] at em
          refine finI (fun T => k_in_height hb hq hc (k_h_clef hh hq ec (k_clef_c hF J0 hN (by omega) hh (by omega) e5 (by omega) (by omega) (by omega)))) (SP_ok em hV h26 hI hN (sgF_r hF (by omega) (by decide) (by omega)) (by show -2147483648 ≤ (0 : Int) ∧ (0 : Int) < 2147483648; decide) (Kpt_sg (kI_w (by decide) (kI_w (by decide) (kI_w (by decide) (kI_w (by decide) kJ0)))) (kN_w (by decide) kN)) (Rl_cf (v := d - 48) (x := d - 48) hR hp' h60 (by omega) (by omega) (by rw [if_neg (by omega)]) (fun k q1 q2 q3 q4 q5 => by rw [uN_n q4, uN_n q5, uN_n q3, uN_n q1, uN_n q2]) rfl rfl rfl (by show 2 * (d - 48) + 1 + 0 = zrM (d - 48); unfold zrM; omega)) rfl)
    split at em
    · rename_i hncl hd
      split at em
      · rename_i h20
        exact finI (fun T => k_in_height hb hq hc (k_h_flat hh hq hd (k_acc_full hF J0 hN (by omega) hh (Or.inl rfl) (by omega) (by show ¬ F 9 1 < 20; omega)))) (SP_no em (by show ¬ (2 : Int) = 0; decide) hF hN (I2r 2 (by decide) (J0.up (k := 5) (v := K 29 + 2) (by omega))) (kI_w (by decide) (kI_w (by decide) (kI_w (by decide) kJ0))) rfl rfl)
      · rename_i h20
        exact finI (fun T => k_in_height hb hq hc (k_h_flat hh hq hd (k_flat hF J0 hN (by omega) hh rfl (by omega) (by omega) (by show F 9 1 < 20; omega)))) (SP_ok em hV h26 hI hN (sgF_r hF (by omega) (by decide) (by omega)) (bor_r _ _) (Kpt_sg (kI_w (by decide) (kI_w (by decide) kJ0)) (kN_w (by decide) kN)) (Rl_fl hR hp' h60 hh (fun k q1 q2 q3 => by rw [uN_n q3, uN_n q1, uN_n q2]) rfl rfl) rfl)
    split at em
    · rename_i hncl hnd hd
      split at em
      · rename_i h20
        exact finI (fun T => k_in_height hb hq hc (k_h_nat hh hq hd (k_acc_full hF J0 hN (by omega) hh (Or.inr rfl) (by omega) (by show ¬ F 9 2 < 20; omega)))) (SP_no em (by show ¬ (2 : Int) = 0; decide) hF hN (I2r 2 (by decide) (J0.up (k := 5) (v := K 29 + 2) (by omega))) (kI_w (by decide) (kI_w (by decide) (kI_w (by decide) kJ0))) rfl rfl)
      · rename_i h20
        exact finI (fun T => k_in_height hb hq hc (k_h_nat hh hq hd (k_nat hF J0 hN (by omega) hh rfl (by omega) (by omega) (by show F 9 2 < 20; omega)))) (SP_ok em hV h26 hI hN (sgF_r hF (by omega) (by decide) (by omega)) (bnd_r _ _) (Kpt_sg (kI_w (by decide) (kI_w (by decide) kJ0)) (kN_w (by decide) kN)) (Rl_na hR hp' h60 hh (fun k q1 q2 q3 => by rw [uN_n q3, uN_n q1, uN_n q2]) rfl rfl) rfl)
    · rename_i hncl hnd hnd2
      have ed : d ≠ 120 ∧ d ≠ 121 ∧ ¬ ((c - 97 = 2 ∨ c - 97 = 5) ∧ 49 ≤ d ∧ d ≤ 52) := by omega
      split at em
      · rename_i h20
        exact finI (fun T => k_in_height hb hq hc (k_h_note hh hq ed (k_note_full hF J0 hN hh (by omega) (by omega)))) (SP_no em (by show ¬ (2 : Int) = 0; decide) hF hN (I2r 2 (by decide) J0) (kI_w (by decide) (kI_w (by decide) kJ0)) rfl rfl)
      · rename_i h20
        have hcn : -1000 ≤ F 3 ((N 3 - 1) * 9 + 4) ∧ F 3 ((N 3 - 1) * 9 + 4) ≤ 1000 := by
          have s := hR.2.1 (K 3 - 1) (by omega) (by omega)
          rw [show N 3 - 1 = K 3 - 1 by omega, s.2.1.1]
          have := cnM_r (G 18) (K 3 - 1) (K 15).toNat
          omega
        by_cases e11 : K 63 = 0
        · have z11 : ¬ I 11 = 0 := by omega
          exact finI (fun T => k_in_height hb hq hc (k_h_note hh hq ed (k_note_old hF J0 hN hh z11 (by omega) (by omega) (by omega) (by omega) (by omega) h6))) (SP_ok em hV h26 hI hN (ntF_r (I := uN I 12 0) (g := I 2) hF hh (by omega) (by omega) (by omega) (by omega) h6 hcn) (hI 7) ⟨kI_w (by decide) kJ0, kN_w (by decide) (kN_w (by decide) kN), kF_w (by decide) (kF_w (by decide) (kF_w (by decide) (kF_w (by decide) kF)))⟩ (show Rl _ _ (ntF I N F (c - 97) (I 2)) _ _ from Rl_nt (g := I 2) hR hp' h60 hh (fun k q1 q2 q3 q4 => by rw [uN_n q2, uN_n q2]) rfl (show I 11 = 1 by omega) (show I 2 = K 20 + K 63 by omega) (by omega)) h5)
        · have z11 : I 11 = 0 := by omega
          exact finI (fun T => k_in_height hb hq hc (k_h_note hh hq ed (k_note_new hF J0 hN hh z11 (by omega) (by omega) (by omega) (by omega) (by omega) h6))) (SP_ok em hV h26 hI hN (ntF_r (I := uN I 12 0) (g := I 2 + 1) hF hh (by omega) (by omega) (by omega) (by omega) h6 hcn) (hI 7) ⟨kI_w (by decide) (kI_w (by decide) (kI_w (by decide) kJ0)), kN_w (by decide) (kN_w (by decide) kN), kF_w (by decide) (kF_w (by decide) (kF_w (by decide) (kF_w (by decide) kF)))⟩ (show Rl _ _ (ntF I N F (c - 97) (I 2 + 1)) _ _ from Rl_nt (g := I 2 + 1) hR hp' h60 hh (fun k q1 q2 q3 q4 => by rw [uN_n q2, uN_n q4, uN_n q3, uN_n q2]) rfl rfl (show I 2 + 1 = K 20 + K 63 by omega) (by omega)) h5)
  split at em
  · -- a separator
    rename_i hm hnc hnh hc
    have r : SP I N F K G (uN (uN I 12 0) 11 0) N F := SP_ok em hV h26 hI hN hF (hI 7) ⟨kJ1, kN, kF⟩ (Rl_sp hR h60) h5
    rcases hc with e | e | e <;> subst e
    · exact finI (fun T => k_in_sep47 hq) (r)
    · exact finI (fun T => k_in_sep32 hq) (r)
    · exact finI (fun T => k_in_sep10 hq) (r)
  split at em
  · -- a bar
    rename_i hm hnc hnh hns hc
    have bad : ∀ {I1 : Nat → Int}, K 21 = 30 → IR I1 → (∀ k : Nat, k = 0 ∨ 13 ≤ k → I1 k = I k) → SP I N F K G (uN (uN I1 3 2) 4 (K 29)) N F := by
      intro I1 q y1 y2
      rw [if_pos q] at em
      exact SP_no em (by show ¬ (2 : Int) = 0; decide) hF hN (I2r 2 (by decide) y1) (kI_w (by decide) (kI_w (by decide) y2)) rfl rfl
    have ok : ∀ {I1 : Nat → Int}, ¬ K 21 = 30 → (∀ k : Nat, k ≠ 5 → k ≠ 12 → k ≠ 11 → k ≠ 7 → I1 k = I k) → I1 12 = 0 → I1 11 = 0 → I1 7 = 0 → I1 5 = K 29 + (if brK c d = 4 then 2 else 1) → SP I N F K G I1 (uN (uN N 8 (N 8 + 1)) 6 (N 6 + 1)) (uN (sgF N F 4 (brK c d)) 6 (uI (adf (F 6) 2 (N 6) (brK c d)) (N 6 * 2 + 1) (N 4))) := by
      intro I1 q y0 y12 y11 y7 y5
      have br := brK_r c d
      rw [if_neg q] at em
      refine SP_ok em hV h26 hI hN ((sgF_r hF (by omega) (by decide) (by omega)).up (uI_r (adf_r (hF 6) (by omega)) (by omega))) (by rw [y7]; decide) ⟨fun k z => y0 k (by omega) (by omega) (by omega) (by omega), kN_w (by decide) (kN_w (by decide) kN), kF_w (by decide) (kF_w (by decide) (kF_w (by decide) kF))⟩ (Rl_br hR hp' h60 br (by split <;> decide) y0 y12 y11 y7) y5
    by_cases h30 : K 21 = 30
    · rcases hc with e | e | e
      · subst e
        exact finI (fun T => k_in_comma hq (k_bar1_full hF J1 hN (by omega) (by decide) (by decide) (by omega) (by omega))) (bad h30 J1 kJ1)
      · subst e
        exact finI (fun T => k_in_semi hq (k_bar1_full hF J1 hN (by omega) (by decide) (by decide) (by omega) (by omega))) (bad h30 J1 kJ1)
      · subst e
        by_cases ed : d = 58
        · exact finI (fun T => k_in_colon2 hq ed (k_bar2_full hF J1 hN (by omega) (by decide) rfl (by omega) (by omega))) (bad h30 (J1.up (k := 5) (v := K 29 + 2) (by omega)) (kI_w (by decide) kJ1))
        · exact finI (fun T => k_in_colon1 hq ed (k_bar1_full hF J1 hN (by omega) (by decide) (by decide) (by omega) (by omega))) (bad h30 J1 kJ1)
    · rcases hc with e | e | e
      · subst e
        have eb : brK 44 d = 1 := rfl
        rw [eb] at ok
        exact finI (fun T => k_in_comma hq (k_bar1 hF J1 hN (by omega) (by decide) (by decide) (by omega) (by omega) (by omega) (by omega))) (ok (I1 := uN (uN (uN I 12 0) 11 0) 7 0) h30 (fun k q1 q2 q3 q4 => by rw [uN_n q4, uN_n q3, uN_n q2]) rfl rfl rfl h5)
      · subst e
        have eb : brK 59 d = 2 := rfl
        rw [eb] at ok
        exact finI (fun T => k_in_semi hq (k_bar1 hF J1 hN (by omega) (by decide) (by decide) (by omega) (by omega) (by omega) (by omega))) (ok (I1 := uN (uN (uN I 12 0) 11 0) 7 0) h30 (fun k q1 q2 q3 q4 => by rw [uN_n q4, uN_n q3, uN_n q2]) rfl rfl rfl h5)
      · subst e
        by_cases ed : d = 58
        · have eb : brK 58 d = 4 := by rw [ed]; rfl
          rw [eb] at ok
          exact finI (fun T => k_in_colon2 hq ed (k_bar2 hF J1 hN (by omega) (by decide) rfl (by omega) (by omega) (by omega) (by omega))) (ok (I1 := uN (uN (uN (uN I 12 0) 11 0) 5 (K 29 + 2)) 7 0) h30 (fun k q1 q2 q3 q4 => by rw [uN_n q4, uN_n q1, uN_n q3, uN_n q2]) rfl rfl rfl rfl)
        · have eb : brK 58 d = 3 := by unfold brK; rw [if_neg (by decide), if_neg (by decide), if_neg ed]
          rw [eb] at ok
          exact finI (fun T => k_in_colon1 hq ed (k_bar1 hF J1 hN (by omega) (by decide) (by decide) (by omega) (by omega) (by omega) (by omega))) (ok (I1 := uN (uN (uN I 12 0) 11 0) 7 0) h30 (fun k q1 q2 q3 q4 => by rw [uN_n q4, uN_n q3, uN_n q2]) rfl rfl rfl h5)
  split at em
  · -- the end of a line
    rename_i hm hnc hnh hns hnb hc
    subst hc
    split at em
    · rename_i h20
      exact finI (fun T => k_in_z hq (k_end_full hF J1 hN (by omega) (by omega))) (SP_no em (by show ¬ (2 : Int) = 0; decide) hF hN (I2r 2 (by decide) J1) (kI_w (by decide) (kI_w (by decide) kJ1)) rfl rfl)
    · rename_i h20
      exact finI (fun T => k_in_z hq (k_end hF J1 hN (by omega) (by omega) (by omega) (by omega))) (SP_ok em hV h26 hI hN ((sgF_r hF (by omega) (by decide) (by decide)).up (uI_r (adf_r (hF 7) (by omega)) (hI 6))) (hI 7) ⟨kJ1, kN_w (by decide) (kN_w (by decide) kN), kF_w (by decide) (kF_w (by decide) (kF_w (by decide) kF))⟩ (show Rl _ _ (uN (sgF N F 5 0) 7 (uI (adf (F 7) 2 (N 7) (N 4)) (N 7 * 2 + 1) (I 6))) _ _ from Rl_le hR hp' h60 (fun k q1 q2 q3 => by rw [uN_n q3, uN_n q2]) rfl rfl) h5)
  · -- nothing known
    rename_i hm hnc hnh hns hnb hnz
    by_cases e0 : mkOf c = 0
    · exact finI (fun T => k_in_strange hb hq e0 hnh (by omega) (by omega) hnc (by omega) (by omega) (by omega) (by omega) hnz) (SP_no em (by show ¬ (1 : Int) = 0; decide) hF hN (I2r 1 (by decide) J1) (kI_w (by decide) (kI_w (by decide) kJ1)) rfl rfl)
    · have z12 : I 12 = 0 := by
        by_cases q : K 64 = 1
        · exact absurd ⟨q, e0⟩ hm
        · omega
      have mr := mkOf_r c
      exact finI (fun T => k_in_mark hb hq e0 (k_mark_strange hF hI hN (by omega) z12)) (SP_no em (by show ¬ (1 : Int) = 0; decide) hF hN (I2r 1 (by decide) hI) (kI_w (by decide) (kI_w (by decide) kI)) rfl rfl)
