/-! what one byte does to the class: ranges, and what stays -/
def Kpt (I N : Nat → Int) (F : Nat → Int → Int) (I' N' : Nat → Int) (F' : Nat → Int → Int) : Prop := (∀ k : Nat, k = 0 ∨ 13 ≤ k → I' k = I k) ∧ (∀ k : Nat, k ≤ 1 ∨ 10 ≤ k → N' k = N k) ∧ (∀ t : Nat, t ≤ 1 ∨ 10 ≤ t → F' t = F t)
def SP (I N : Nat → Int) (F : Nat → Int → Int) (K : Nat → Int) (G : Nat → Int → Int) (I' N' : Nat → Int) (F' : Nat → Int → Int) : Prop :=
  FR F' ∧ IR I' ∧ NR N' ∧ Kpt I N F I' N' F' ∧ ((mstep K G).1 26 = 0 → Rl I' N' F' (mstep K G).1 (mstep K G).2 ∧ I' 5 = (mstep K G).1 29) ∧ (¬ (mstep K G).1 26 = 0 → I' 3 = (mstep K G).1 26 ∧ I' 4 = (mstep K G).1 27)
theorem zrM_r {c : Int} : 1 ≤ zrM c ∧ zrM c ≤ 23 := by unfold zrM; omega
theorem NR_of {I N N0 : Nat → Int} {F : Nat → Int → Int} {K : Nat → Int} {G : Nat → Int → Int} (h : Rl I N F K G) (hp : PI K) (h26 : K 26 = 0) (h0 : NR N0) (hk : ∀ k : Nat, k ≤ 1 ∨ 10 ≤ k → N k = N0 k) : NR N := by
  obtain ⟨⟨a1, a2, a3, a4, a5⟩, _⟩ := h
  unfold PI MR at hp
  unfold NR at h0 ⊢
  have e0 := hk 0 (by decide)
  have e1 := hk 1 (by decide)
  have e10 := hk 10 (by decide)
  have e11 := hk 11 (by decide)
  have e12 := hk 12 (by decide)
  omega
theorem IR_of {I N I0 : Nat → Int} {F : Nat → Int → Int} {K : Nat → Int} {G : Nat → Int → Int} (h : Rl I N F K G) (hp : PI K) (h5 : I 5 = K 29) (h7 : -2147483648 ≤ I 7 ∧ I 7 < 2147483648) (h0 : IR I0) (hk : ∀ k : Nat, k = 0 ∨ 13 ≤ k → I k = I0 k) : IR I := by
  obtain ⟨⟨a1, a2, a3, a4, a5⟩, _, _, ⟨nt, en, bn, cB, fl, wd, r1, r2, r3, r4, r5, _⟩, _⟩ := h
  have z := zrM_r (c := cB (K 10))
  unfold PI MR at hp
  intro k
  by_cases e : k = 0 ∨ 13 ≤ k
  · rw [hk k e]
    exact h0 k
  · have d : k = 1 ∨ k = 2 ∨ k = 3 ∨ k = 4 ∨ k = 5 ∨ k = 6 ∨ k = 7 ∨ k = 8 ∨ k = 9 ∨ k = 10 ∨ k = 11 ∨ k = 12 := by omega
    rcases d with d | d | d | d | d | d | d | d | d | d | d | d <;> subst d
    · rw [a1.2.2.2.1]; omega
    · rw [a1.2.2.2.2.1]; omega
    · rw [a1.1]; omega
    · rw [a1.2.1]; omega
    · rw [h5]; omega
    · rw [r5]; omega
    · exact h7
    · rw [a3.1]; omega
    · rw [a3.2.1]; omega
    · rw [a3.2.2.1]; omega
    · rw [a3.2.2.2.1]; split <;> omega
    · rw [a3.2.2.2.2]; split <;> omega
theorem SP_ok {I N I' N' : Nat → Int} {F F' : Nat → Int → Int} {K K' : Nat → Int} {G G' : Nat → Int → Int} (hm : mstep K G = (K', G')) (hV : Iv K G) (h26 : K' 26 = 0) (hI : IR I) (hN : NR N) (hF' : FR F') (h7 : -2147483648 ≤ I' 7 ∧ I' 7 < 2147483648) (hk : Kpt I N F I' N' F') (hR : Rl I' N' F' K' G') (h5 : I' 5 = K' 29) : SP I N F K G I' N' F' := by
  have v := Iv_step hV
  rw [hm] at v
  unfold SP
  rw [hm]
  exact ⟨hF', IR_of hR v.1 h5 h7 hI hk.1, NR_of hR v.1 h26 hN hk.2.1, hk, fun _ => ⟨hR, h5⟩, fun q => absurd h26 q⟩
theorem SP_no {I N I' : Nat → Int} {F : Nat → Int → Int} {K K' : Nat → Int} {G G' : Nat → Int → Int} (hm : mstep K G = (K', G')) (h26 : ¬ K' 26 = 0) (hF : FR F) (hN : NR N) (hI' : IR I') (hk : ∀ k : Nat, k = 0 ∨ 13 ≤ k → I' k = I k) (h3 : I' 3 = K' 26) (h4 : I' 4 = K' 27) : SP I N F K G I' N F := by
  unfold SP
  rw [hm]
  exact ⟨hF, hI', hN, ⟨hk, fun _ _ => rfl, fun _ _ => rfl⟩, fun q => absurd q h26, fun _ => ⟨h3, h4⟩⟩
theorem kI_w {I : Nat → Int} {j : Nat} {v : Int} (hj : 1 ≤ j ∧ j ≤ 12) {I0 : Nat → Int} (h : ∀ k : Nat, k = 0 ∨ 13 ≤ k → I0 k = I k) : ∀ k : Nat, k = 0 ∨ 13 ≤ k → uN I0 j v k = I k := fun k hk => by rw [uN_n (by omega)]; exact h k hk
theorem kN_w {I : Nat → Int} {j : Nat} {v : Int} (hj : 2 ≤ j ∧ j ≤ 9) {I0 : Nat → Int} (h : ∀ k : Nat, k ≤ 1 ∨ 10 ≤ k → I0 k = I k) : ∀ k : Nat, k ≤ 1 ∨ 10 ≤ k → uN I0 j v k = I k := fun k hk => by rw [uN_n (by omega)]; exact h k hk
theorem kF_w {F : Nat → Int → Int} {j : Nat} {v : Int → Int} (hj : 2 ≤ j ∧ j ≤ 9) {F0 : Nat → Int → Int} (h : ∀ k : Nat, k ≤ 1 ∨ 10 ≤ k → F0 k = F k) : ∀ k : Nat, k ≤ 1 ∨ 10 ≤ k → uN F0 j v k = F k := fun k hk => by rw [uN_n (by omega)]; exact h k hk
theorem sgF_r {N : Nat → Int} {F : Nat → Int → Int} (hF : FR F) {k v : Int} (h9 : -1000 ≤ F 9 k ∧ F 9 k ≤ 1000) (hk : -1000 ≤ k ∧ k ≤ 1000) (hv : -1000 ≤ v ∧ v ≤ 1000) : FR (sgF N F k v) :=
  (hF.up (uI_r (hF 9) (by omega))).up (uI_r (adf_r (hF 8) (by omega)) (by omega))
theorem ltF_r {N : Nat → Int} {F : Nat → Int → Int} (hF : FR F) {b : Int} (hb : -1 ≤ b ∧ b < 256) (h1 : -1000 ≤ F 3 ((N 3 - 1) * 9 + 1) ∧ F 3 ((N 3 - 1) * 9 + 1) ≤ 5000) : FR (ltF N F b) := by
  refine (hF.up (uI_r (hF 2) (by omega))).up ?_
  intro i
  by_cases c : b = 39
  · rw [if_pos c]
    exact uI_r (uI_r (hF 3) (by omega)) (by omega) i
  · rw [if_neg c]
    exact uI_r (hF 3) (by omega) i
theorem bit_r {a h : Int} (hh : 0 ≤ h ∧ h ≤ 12) : 0 ≤ bnd (bsr a h) 1 ∧ bnd (bsr a h) 1 ≤ 1 := by
  rw [bit_at hh]
  split <;> omega
theorem ntF_r {I N : Nat → Int} {F : Nat → Int → Int} (hF : FR F) {v g : Int} (hv : 0 ≤ v ∧ v ≤ 12) (hg : -1000 ≤ g ∧ g ≤ 1000) (h9 : -1000 ≤ F 9 0 ∧ F 9 0 ≤ 1000) (h4 : 0 ≤ N 4 ∧ N 4 ≤ 150) (h3 : 0 ≤ N 3 ∧ N 3 ≤ 60) (h6 : -100 ≤ I 6 ∧ I 6 ≤ 100) (hc : -1000 ≤ F 3 ((N 3 - 1) * 9 + 4) ∧ F 3 ((N 3 - 1) * 9 + 4) ≤ 1000) : FR (ntF I N F v g) := by
  have b := bit_r (a := I 7) hv
  have s := scI_r (i := (v - I 6) % 7) (by omega)
  refine ((sgF_r hF h9 (by decide) (by omega)).up ?_).up ?_
  · exact uI_r (uI_r (uI_r (uI_r (adf_r (hF 4) (by omega)) (by omega)) (by omega)) (by omega)) (by omega)
  · intro i
    by_cases c : F 3 ((N 3 - 1) * 9 + 4) = 0
    · rw [if_pos c]
      exact uI_r (uI_r (hF 3) (by omega)) (by omega) i
    · rw [if_neg c]
      exact uI_r (hF 3) (by omega) i
theorem Kpt_sg {I N I' N' : Nat → Int} {F : Nat → Int → Int} {k v : Int} (h1 : ∀ k : Nat, k = 0 ∨ 13 ≤ k → I' k = I k) (h2 : ∀ k : Nat, k ≤ 1 ∨ 10 ≤ k → N' k = N k) : Kpt I N F I' N' (sgF N F k v) := ⟨h1, h2, kF_w (by decide) (kF_w (by decide) (fun _ _ => rfl))⟩
