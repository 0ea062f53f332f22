/-! what holds all through a reading -/
def LtI (K : Nat → Int) (G : Nat → Int → Int) : Prop := K 61 = 1 → 0 ≤ G 5 (K 3 - 1) ∧ G 5 (K 3 - 1) ≤ K 29
def Iv (K : Nat → Int) (G : Nat → Int → Int) : Prop := PI K ∧ IR K ∧ FR G ∧ BY K G ∧ LtI K G
set_option maxHeartbeats 4000000 in
theorem IR_step {K : Nat → Int} {G : Nat → Int → Int} (h : PI K) (hK : IR K) : IR (mstep K G).1 := by
  unfold PI MR at h
  have wr : ∀ {K : Nat → Int}, IR K → ∀ a : Int, 1 ≤ a ∧ a ≤ 3 → IR (wrK K a) := fun hK a ha => ((hK.up (by omega)).up (hK 29))
  have ad : IR (adv K 1) := hK.up (by omega)
  have sg : ∀ (t : Nat) (n q : Int), (0 ≤ n ∧ n ≤ 2) → (q = 0 ∨ q = 1) → (0 ≤ K t ∧ K t ≤ 100) → IR (sgK t n q K) := fun t n q hn hq ht => ((((hK.up (by omega)).up (by omega)).up (by omega)).up (by omega)).up (by omega)
  have tl : ∀ {K : Nat → Int} (c : Int), IR K → (0 ≤ K 29 ∧ K 29 ≤ 5000) → IR (tlK c K) := by
    intro K c hK h29
    unfold tlK
    split
    · exact (((IR.up hK (by omega)).up (by omega)).up (by omega)).up (by omega)
    · exact IR.up hK (by omega)
  have bg : IR (bgK K) := (((hK.up (by omega)).up (by omega)).up (by omega)).up (by omega)
  unfold mstep
  split
  · exact hK
  · split
    · unfold mOut
      split
      · exact (ad.up (by omega)).up (by omega)
      split
      · split
        · split
          · exact wr hK _ (by decide)
          · exact tl _ bg (show 0 ≤ K 29 ∧ K 29 ≤ 5000 by omega)
        · exact tl _ hK (by omega)
      · exact wr hK _ (by decide)
    · unfold mIn mHt
      split
      · split
        · exact ad
        · exact IR.up (wr hK 3 (by decide)) (show -2147483648 ≤ K 29 + 1 ∧ K 29 + 1 < 2147483648 by omega)
      split
      · exact (ad.up (by omega)).up (by omega)
      split
      · split
        · split
          · exact wr hK _ (by decide)
          · exact sg _ _ _ (by omega) (by omega) (by omega)
        split
        · split
          · exact wr hK _ (by decide)
          · exact sg _ _ _ (by omega) (by omega) (by omega)
        split
        · split
          · exact wr hK _ (by decide)
          · exact sg _ _ _ (by omega) (by omega) (by omega)
        split
        · exact wr hK _ (by decide)
        · exact (((((hK.up (by omega)).up (by omega)).up (by omega)).up (by omega)).up (by omega)).up (by omega)
      split
      · exact (ad.up (by omega)).up (by omega)
      split
      · split
        · exact wr hK _ (by decide)
        · exact sg _ _ _ (by split <;> omega) (by omega) (by omega)
      split
      · split
        · exact wr hK _ (by decide)
        · exact sg _ _ _ (by omega) (by omega) (by omega)
      · exact wr hK _ (by decide)
theorem FR_tl {K : Nat → Int} {G : Nat → Int → Int} {c : Int} (hG : FR G) (h5 : 0 ≤ G 5 (K 3 - 1) ∧ G 5 (K 3 - 1) ≤ 5000) : FR (tlG c K G) := by
  unfold tlG
  split
  · exact hG.up (uI_r (hG 7) (by omega))
  · exact (hG.up (uI_r (hG 5) (by omega))).up (uI_r (hG 6) (by have := hG 6 (K 3 - 1); split <;> omega))
theorem FR_bg {K : Nat → Int} {G : Nat → Int → Int} (h : PI K) (hG : FR G) : FR (bgG K G) := by
  unfold PI MR at h
  exact (((((hG.up (uI_r (hG 8) (by omega))).up (uI_r (hG 4) (by omega))).up (uI_r (hG 5) (by omega))).up (uI_r (hG 6) (by omega))).up (uI_r (hG 7) (by omega))).up (uI_r (uI_r (hG 9) (by omega)) (by omega))
theorem FR_pt {K : Nat → Int} {G : Nat → Int → Int} {k v : Int} (h : PI K) (hG : FR G) (hk : -1000 ≤ k ∧ k ≤ 1000) (hv : -1000 ≤ v ∧ v ≤ 1000) : FR (ptG K G k v) := by
  unfold PI MR at h
  exact (((hG.up (uI_r (hG 11) (by omega))).up (uI_r (hG 12) (by omega))).up (uI_r (hG 13) (by omega))).up (uI_r (hG 9) (by omega))
theorem FR_nt {K : Nat → Int} {G : Nat → Int → Int} {v : Int} (h : PI K) (hG : FR G) (hv : -1000 ≤ v ∧ v ≤ 1000) : FR (ntG v K G) := by
  have hp := FR_pt (k := 1) h hG (by decide) hv
  unfold PI MR at h
  exact (((hp.up (uI_r (hG 16) (by omega))).up (uI_r (hG 17) (by omega))).up (uI_r (hG 18) (by omega))).up (uI_r (hG 19) (by omega))
theorem FR_mk {K : Nat → Int} {G : Nat → Int → Int} {m : Int} (hG : FR G) : FR (mkG m K G) := hG.up (uI_r (hG 17) (bor_r _ _))
theorem brK_r (c d : Int) : 1 ≤ brK c d ∧ brK c d ≤ 4 := by
  unfold brK
  split
  · omega
  split
  · omega
  split <;> omega
theorem FR_step {K : Nat → Int} {G : Nat → Int → Int} (h : PI K) (hG : FR G) (hb : BY K G) (hl : LtI K G) : FR (mstep K G).2 := by
  have h29 := h.2.2.2.2.2.1
  have h28 : K 28 ≤ 1500 := h.1.2.2.2.2.2.2.2.1.2
  have h61 := h.2.2.2.2.2.2.2.2.2.1
  have b1 := byB_r hb h29.1
  have b2 := byB_r hb (k := K 29 + 1) (by omega)
  have b3 := brK_r (byB K G (K 29)) (byB K G (K 29 + 1))
  unfold mstep
  split
  · exact hG
  · split
    · unfold mOut
      split
      · exact hG
      split
      · split
        · split
          · exact hG
          · refine FR_tl (FR_bg h hG) ?_
            have e : bgG K G 5 (bgK K 3 - 1) = 0 := by
              show uI (G 5) (K 3) 0 (K 3 + 1 - 1) = 0
              rw [show K 3 + 1 - 1 = K 3 by omega, uI_s]
            omega
        · exact FR_tl hG (by unfold LtI at hl; omega)
      · exact hG
    · unfold mIn mHt
      split
      · split <;> exact FR_mk hG
      split
      · exact hG
      split
      · split
        · split
          · exact hG
          · exact FR_pt h hG (by decide) (by split <;> omega)
        split
        · split
          · exact hG
          · exact FR_pt h hG (by decide) (by omega)
        split
        · split
          · exact hG
          · exact FR_pt h hG (by decide) (by omega)
        split
        · exact hG
        · exact FR_nt h hG (by omega)
      split
      · exact hG
      split
      · split
        · exact hG
        · exact FR_pt h hG (by decide) (by omega)
      split
      · split
        · exact hG
        · exact FR_pt h hG (by decide) (by decide)
      · exact hG
/-- what no step changes -/
theorem keep_step {K : Nat → Int} {G : Nat → Int → Int} : (mstep K G).1 28 = K 28 ∧ (mstep K G).2 2 = G 2 := by
  unfold mstep
  split
  · exact ⟨rfl, rfl⟩
  · split
    · unfold mOut
      split
      · exact ⟨rfl, rfl⟩
      split
      · split
        · split
          · exact ⟨rfl, rfl⟩
          · unfold tlK tlG; split <;> exact ⟨rfl, rfl⟩
        · unfold tlK tlG; split <;> exact ⟨rfl, rfl⟩
      · exact ⟨rfl, rfl⟩
    · unfold mIn mHt
      repeat' split
      all_goals exact ⟨rfl, rfl⟩
theorem BY_step {K : Nat → Int} {G : Nat → Int → Int} (hb : BY K G) : BY (mstep K G).1 (mstep K G).2 := by
  obtain ⟨e1, e2⟩ := keep_step (K := K) (G := G)
  unfold BY
  rw [e1, e2]
  exact hb
theorem LT_step {K : Nat → Int} {G : Nat → Int → Int} (h : PI K) (hl : LtI K G) : LtI (mstep K G).1 (mstep K G).2 := by
  have h29 := h.2.2.2.2.2.1
  have h61 := h.2.2.2.2.2.2.2.2.2.1
  have tl : ∀ {K : Nat → Int} {G : Nat → Int → Int} (c : Int), 0 ≤ G 5 (K 3 - 1) ∧ G 5 (K 3 - 1) ≤ K 29 → LtI (tlK c K) (tlG c K G) := by
    intro K G c h5
    unfold tlK tlG
    split
    · intro _
      show 0 ≤ G 5 (K 3 - 1) ∧ G 5 (K 3 - 1) ≤ K 29 + 1
      omega
    · intro _
      show 0 ≤ uI (G 5) (K 3 - 1) (G 5 (K 3 - 1) + 1) (K 3 - 1) ∧ uI (G 5) (K 3 - 1) (G 5 (K 3 - 1) + 1) (K 3 - 1) ≤ K 29 + 1
      rw [uI_s]
      omega
  unfold mstep
  split
  · exact hl
  · split
    · unfold mOut
      split
      · intro q; exact absurd (show (0 : Int) = 1 from q) (by decide)
      split
      · split
        · split
          · exact hl
          · refine tl _ ?_
            have e : bgG K G 5 (bgK K 3 - 1) = 0 := by
              show uI (G 5) (K 3) 0 (K 3 + 1 - 1) = 0
              rw [show K 3 + 1 - 1 = K 3 by omega, uI_s]
            have e2 : bgK K 29 = K 29 := rfl
            omega
        · exact tl _ (hl (by omega))
      · exact hl
    · have hx : ∀ {K' : Nat → Int} {G' : Nat → Int → Int}, K' 61 = K 61 → K' 3 = K 3 → G' 5 = G 5 → K 29 ≤ K' 29 → LtI K' G' := by
        intro K' G' e1 e2 e3 e4 q
        rw [e1] at q
        rw [e2, e3]
        have := hl q
        omega
      unfold mIn mHt
      repeat' split
      all_goals first | exact hl | exact hx rfl rfl rfl (show K 29 ≤ K 29 + 1 by omega) | exact hx rfl rfl rfl (show K 29 ≤ K 29 + 2 by omega) | (intro q; exact absurd (show (0 : Int) = 1 from q) (by decide)) | exact hx rfl rfl rfl (show K 29 ≤ K 29 + (if brK (byB K G (K 29)) (byB K G (K 29 + 1)) = 4 then 2 else 1) by split <;> omega)
theorem Iv_step {K : Nat → Int} {G : Nat → Int → Int} (h : Iv K G) : Iv (mstep K G).1 (mstep K G).2 := by
  obtain ⟨h1, h2, h3, h4, h5⟩ := h
  exact ⟨PI_step h1 h4, IR_step h1 h2, FR_step h1 h3 h4 h5, BY_step h4, LT_step h1 h5⟩
theorem Iv_rch {K K' : Nat → Int} {G G' : Nat → Int → Int} (h : Rch (K, G) (K', G')) (hI : Iv K G) : Iv K' G' := Rch.inv (P := fun p => Iv p.1 p.2) (fun K G h => Iv_step h) h hI
