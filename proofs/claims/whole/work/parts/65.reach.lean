/-! what holds wherever a reading comes without a fault -/
theorem LI_tl {K : Nat → Int} {G : Nat → Int → Int} {c : Int} (h : LI K G) (hf : Rf K G) (h60 : K 60 = 0) (h61 : K 61 = 1) : LI (tlK c K) (tlG c K G) := by
  unfold tlK tlG
  by_cases e : c = 40
  · rw [if_pos e, if_pos e]
    exact LI_par h hf h60 h61
  · rw [if_neg e, if_neg e]
    exact LI_let h hf h60 h61
set_option maxHeartbeats 1000000 in
theorem LI_step {I N : Nat → Int} {F : Nat → Int → Int} {K : Nat → Int} {G : Nat → Int → Int} (hR : Rl I N F K G) (hV : Iv K G) (h : LI K G) (hd : ¬ mDone K) (q : (mstep K G).1 26 = 0) : LI (mstep K G).1 (mstep K G).2 := by
  have hp := hV.1
  have hf := rf_of hR
  have p60 : K 60 = 0 ∨ K 60 = 1 := hp.2.2.2.2.2.2.2.2.1
  have p61 : K 61 = 0 ∨ K 61 = 1 := hp.2.2.2.2.2.2.2.2.2.1
  have p62 : K 62 = 0 ∨ K 62 = 1 := hp.2.2.2.2.2.2.2.2.2.2.1
  unfold mDone at hd
  have bad : ∀ {K1 : Nat → Int} {G1 : Nat → Int → Int} {a : Int}, mstep K G = (K1, G1) → K1 26 = a → ¬ a = 0 → LI (mstep K G).1 (mstep K G).2 := by
    intro K1 G1 a e e1 e2
    rw [e] at q
    exact absurd (e1.symm.trans q) e2
  by_cases h60 : K 60 = 0
  · have em : mstep K G = mOut (byB K G (K 29)) K G := by unfold mstep; rw [if_neg hd, if_pos h60]
    unfold mOut at em
    split at em
    · rw [em]; exact LI_bl h h60
    split at em
    · split at em
      · split at em
        · first | exact bad (a := 1) em rfl (by decide) | exact bad (a := 2) em rfl (by decide) | exact bad (a := 3) em rfl (by decide)
        · rename_i c1 c2 c3
          rw [em]
          have w : (bgK K) 14 - 1 = K 14 + K 62 - 1 := rfl
          have R1 := Rl_bg (I' := uN (uN (uN I 10 1) 1 (K 14 + K 62)) 9 1) (w := K 14 + K 62 - 1) hR hp h60 (fun k a b c => by rw [uN_n b, uN_n a, uN_n c]) rfl rfl rfl rfl
          exact LI_tl (LI_bg h hf hp h60) (rf_of R1) h60 rfl
      · rw [em]; exact LI_tl h hf h60 (by omega)
    · first | exact bad (a := 1) em rfl (by decide) | exact bad (a := 2) em rfl (by decide) | exact bad (a := 3) em rfl (by decide)
  · have h60 : K 60 = 1 := by omega
    have em : mstep K G = mIn (byB K G (K 29)) (byB K G (K 29 + 1)) K G := by unfold mstep; rw [if_neg hd, if_neg (by omega)]
    unfold mIn at em
    split at em
    · rename_i hm
      split at em
      · rename_i hz
        rw [em]; exact LI_mk h hf hp h60 hm.1 hm.2 hz
      · first | exact bad (a := 1) em rfl (by decide) | exact bad (a := 2) em rfl (by decide) | exact bad (a := 3) em rfl (by decide)
    split at em
    · rw [em]; exact LI_cl h hf h60
    split at em
    · unfold mHt at em
      split at em
      · split at em
        · first | exact bad (a := 1) em rfl (by decide) | exact bad (a := 2) em rfl (by decide) | exact bad (a := 3) em rfl (by decide)
        · rw [em]
          exact LI_sg (n := 2) (q := 1) h hf hp h60 (by decide) (fun z => absurd z (by decide)) rfl (fun z => absurd z (by decide)) (fun z => absurd z (by decide)) (fun z => absurd z (by decide)) ⟨rfl, rfl, rfl, rfl, rfl, rfl, rfl, rfl, rfl, rfl⟩
      split at em
      · split at em
        · first | exact bad (a := 1) em rfl (by decide) | exact bad (a := 2) em rfl (by decide) | exact bad (a := 3) em rfl (by decide)
        · rw [em]
          exact LI_sg (n := 2) (q := K 63) h hf hp h60 (by decide) (fun z => absurd z (by decide)) rfl (fun _ => rfl) (fun z => absurd z (by decide)) (fun z => absurd z (by decide)) ⟨rfl, rfl, rfl, rfl, rfl, rfl, rfl, rfl, rfl, rfl⟩
      split at em
      · split at em
        · first | exact bad (a := 1) em rfl (by decide) | exact bad (a := 2) em rfl (by decide) | exact bad (a := 3) em rfl (by decide)
        · rw [em]
          exact LI_sg (n := 2) (q := K 63) h hf hp h60 (by decide) (fun z => absurd z (by decide)) rfl (fun _ => rfl) (fun z => absurd z (by decide)) (fun z => absurd z (by decide)) ⟨rfl, rfl, rfl, rfl, rfl, rfl, rfl, rfl, rfl, rfl⟩
      split at em
      · first | exact bad (a := 1) em rfl (by decide) | exact bad (a := 2) em rfl (by decide) | exact bad (a := 3) em rfl (by decide)
      · rw [em]; exact LI_nt h hf hp h60
    split at em
    · rw [em]; exact LI_sp h hf h60
    split at em
    · rename_i hc
      split at em
      · first | exact bad (a := 1) em rfl (by decide) | exact bad (a := 2) em rfl (by decide) | exact bad (a := 3) em rfl (by decide)
      · rw [em]
        have br := brK_r (byB K G (K 29)) (byB K G (K 29 + 1))
        refine LI_sg (kd := 5) (v := brK (byB K G (K 29)) (byB K G (K 29 + 1))) (n := if brK (byB K G (K 29)) (byB K G (K 29 + 1)) = 4 then 2 else 1) (q := 1) h hf hp h60 (by decide) (fun _ => br) ?_ (fun z => absurd z (by decide)) (fun _ z => ?_) (fun _ z => ?_) ⟨rfl, rfl, rfl, rfl, rfl, rfl, rfl, rfl, rfl, rfl⟩
        · by_cases z : brK (byB K G (K 29)) (byB K G (K 29 + 1)) = 4
          · rw [if_pos z, if_pos (Or.inr ⟨rfl, z⟩)]
          · rw [if_neg z, if_neg (by intro y; rcases y with y | y; exact absurd y (by decide); exact z y.2)]
        · rcases hc with c | c | c
          · rw [c] at z; exact absurd (show (3 : Int) ≤ 1 from z) (by decide)
          · rw [c] at z; exact absurd (show (3 : Int) ≤ 2 from z) (by decide)
          · exact c
        · rw [if_neg (by omega)]
          rcases hc with c | c | c
          · rw [c] at z; exact absurd (show (1 : Int) = 3 from z) (by decide)
          · rw [c] at z; exact absurd (show (2 : Int) = 3 from z) (by decide)
          · intro y
            rw [c, y] at z
            exact absurd (show (4 : Int) = 3 from z) (by decide)
    split at em
    · split at em
      · first | exact bad (a := 1) em rfl (by decide) | exact bad (a := 2) em rfl (by decide) | exact bad (a := 3) em rfl (by decide)
      · rw [em]
        exact LI_sg (kd := 6) (v := 0) (n := 1) (q := 1) h hf hp h60 (by decide) (fun z => absurd z (by decide)) rfl (fun z => absurd z (by decide)) (fun z => absurd z (by decide)) (fun z => absurd z (by decide)) ⟨rfl, rfl, rfl, rfl, rfl, rfl, rfl, rfl, rfl, rfl⟩
    · first | exact bad (a := 1) em rfl (by decide) | exact bad (a := 2) em rfl (by decide) | exact bad (a := 3) em rfl (by decide)
def RG (K : Nat → Int) (G : Nat → Int → Int) : Prop := ∃ (I N : Nat → Int) (F : Nat → Int → Int), FR F ∧ IR I ∧ NR N ∧ Rl I N F K G ∧ LI K G
theorem RG_step {K : Nat → Int} {G : Nat → Int → Int} (hV : Iv K G) (h : K 26 = 0 → RG K G) : (mstep K G).1 26 = 0 → RG (mstep K G).1 (mstep K G).2 := by
  intro q
  by_cases hd : mDone K
  · rw [mstep_done hd] at q ⊢
    exact h q
  · have h26 : K 26 = 0 := by unfold mDone at hd; omega
    obtain ⟨I, N, F, hF, hI, hN, hR, hL⟩ := h h26
    have L := LI_step hR hV hL hd q
    have p60 : K 60 = 0 ∨ K 60 = 1 := hV.1.2.2.2.2.2.2.2.2.1
    have p29 := hV.1.2.2.2.2.2.1
    have p28 : K 28 ≤ 1500 := hV.1.1.2.2.2.2.2.2.2.1.2
    have hl : K 29 < K 28 := by
      by_cases c : K 29 < K 28
      · exact c
      · exfalso
        have e60 : K 60 = 1 := by unfold mDone at hd; omega
        have eb : byB K G (K 29) = -1 := by unfold byB; rw [if_neg c]
        have em : mstep K G = (wrK K 1, G) := by
          unfold mstep
          rw [if_neg (by unfold mDone at hd; exact hd), if_neg (by omega), eb]
          unfold mIn
          rw [if_neg (fun q => q.2 rfl), if_neg (by decide), if_neg (by decide), if_neg (by decide), if_neg (by decide), if_neg (by decide)]
        rw [em] at q
        exact absurd (show (1 : Int) = 0 from q) (by decide)
    have I5 : IR (uN I 5 (K 29 + 1)) := hI.up (by omega)
    have R5 : Rl (uN I 5 (K 29 + 1)) N F K G := hR
    rcases p60 with e | e
    · obtain ⟨I', N', F', sp, _⟩ := k_stepOut hF I5 hN R5 hV h26 e hl uN_s
      exact ⟨I', N', F', sp.1, sp.2.1, sp.2.2.1, (sp.2.2.2.2.1 q).1, L⟩
    · obtain ⟨I', N', F', sp, _⟩ := k_stepIn hF I5 hN R5 hV h26 e hl uN_s
      exact ⟨I', N', F', sp.1, sp.2.1, sp.2.2.1, (sp.2.2.2.2.1 q).1, L⟩
theorem RG_rch {K0 K : Nat → Int} {G0 G : Nat → Int → Int} (h : Rch (K0, G0) (K, G)) (hV : Iv K0 G0) (h0 : RG K0 G0) (q : K 26 = 0) : RG K G :=
  (Rch.inv (P := fun p => Iv p.1 p.2 ∧ (p.1 26 = 0 → RG p.1 p.2)) (fun K G h => ⟨Iv_step h.1, RG_step h.1 h.2⟩) h ⟨hV, fun _ => h0⟩).2 q
/-- the length of the text written anew -/
theorem short {K : Nat → Int} {G : Nat → Int → Int} (h : RG K G) (hp : PI K) (h60 : K 60 = 0) : ((mTx K G).length : Int) ≤ K 29 := by
  obtain ⟨I, N, F, _, _, _, _, hL⟩ := h
  have := hL.1
  unfold Lx at this
  omega
theorem LI_0 {K : Nat → Int} {G : Nat → Int → Int} : LI (rdK (rbK K)) (rbG K G) := by
  have n60 : ¬ rdK (rbK K) 60 = 1 := by show ¬ (0 : Int) = 1; decide
  have e : Lx (rdK (rbK K)) (rbG K G) = 0 := rfl
  refine ⟨?_, fun _ q => absurd (show (0 : Int) < 0 from q) (by decide), fun q => absurd q n60, fun q => absurd (show (0 : Int) = 1 from q) (by decide), fun q => absurd q n60, fun q => absurd q n60, fun q => absurd q n60⟩
  rw [e]
  show (0 : Int) ≤ 0 + 0
  decide
