/-! a sign more -/
theorem crM_r {G : Nat → Int → Int} {fl : Int → Int → Int} {wd : Int → Int} (r4 : ∀ k h : Int, 0 ≤ fl k h ∧ fl k h ≤ 1) (s k h : Int) : 0 ≤ crM G fl wd s k h ∧ crM G fl wd s k h ≤ 1 := by
  have := r4 (k - 1) h
  unfold crM faM
  split
  · split
    · split <;> omega
    split
    · split <;> omega
    split <;> omega
  · omega
def fxV (kd v b h : Int) : Int := if kd = 2 then (if h = v then 1 else b) else if kd = 3 then (if h = v then 0 else b) else if kd = 4 ∨ kd = 5 then 0 else b
set_option maxHeartbeats 1000000 in
theorem Sgs_app {I I' : Nat → Int} {F F' : Nat → Int → Int} {K K' : Nat → Int} {G G' : Nat → Int → Int} {kd v : Int} (h : Sgs I F K G) (hp : PI K) (h60 : K 60 = 1)
    (hk : 1 ≤ kd ∧ kd ≤ 6) (hv : 0 ≤ v ∧ v ≤ 14) (hv1 : kd ≤ 3 → v ≤ 12) (hv2 : kd = 4 → 1 ≤ v % 10 ∧ v % 10 ≤ 4) (hv3 : kd = 5 → 1 ≤ v ∧ v ≤ 4)
    (g11 : G' 11 = uI (G 11) (K 10) kd) (g12 : G' 12 = uI (G 12) (K 10) v) (g13 : G' 13 = uI (G 13) (K 10) (K 15)) (g9 : G' 9 = uI (G 9) (K 3) (K 10 + 1)) (g8 : G' 8 = G 8)
    (g16 : ∀ n : Int, 0 ≤ n → n < K 15 → G' 16 n = G 16 n)
    (f8 : ∀ k : Int, k ≠ K 10 → F' 8 (k * 2 + 0) = F 8 (k * 2 + 0) ∧ F' 8 (k * 2 + 1) = F 8 (k * 2 + 1)) (f8n : F' 8 (K 10 * 2 + 0) = kd - 1 ∧ F' 8 (K 10 * 2 + 1) = svl kd v (K 15))
    (f4 : ∀ n : Int, 0 ≤ n → n < K 15 → F' 4 (n * 8 + 5) = F 4 (n * 8 + 5) ∧ F' 4 (n * 8 + 6) = F 4 (n * 8 + 6))
    (f6 : ∀ n : Int, 0 ≤ n → n < K 21 → F' 6 (n * 2 + 0) = F 6 (n * 2 + 0) ∧ F' 6 (n * 2 + 1) = F 6 (n * 2 + 1))
    (f7 : ∀ n : Int, 0 ≤ n → n < K 22 → F' 7 (n * 2 + 0) = F 7 (n * 2 + 0) ∧ F' 7 (n * 2 + 1) = F 7 (n * 2 + 1))
    (e1 : kd = 1 → G' 16 (K 15) = v ∧ F' 4 (K 15 * 8 + 5) = v - I 6 ∧ F' 4 (K 15 * 8 + 6) = 12 * ((v - I 6) / 7) + scI ((v - I 6) % 7) - bnd (bsr (I 7) v) 1)
    (e5 : kd = 5 → F' 6 (K 21 * 2 + 0) = v ∧ F' 6 (K 21 * 2 + 1) = K 15)
    (e6 : kd = 6 → F' 7 (K 22 * 2 + 0) = K 15 ∧ F' 7 (K 22 * 2 + 1) = I 6)
    (k10 : K' 10 = K 10 + 1) (k15 : K' 15 = K 15 + (if kd = 1 then 1 else 0)) (k22 : K' 22 = K 22 + (if kd = 6 then 1 else 0)) (k21 : K' 21 = K 21 + (if kd = 5 then 1 else 0)) (k3 : K' 3 = K 3) (k14 : K' 14 = K 14) (k60 : K' 60 = K 60) (k61 : K' 61 = K 61) (k62 : K' 62 = K 62)
    (i6 : I' 6 = if kd = 4 then zrM v else I 6) (i7 : ∀ h : Int, 0 ≤ h → h ≤ 12 → bnd (bsr (I' 7) h) 1 = fxV kd v (bnd (bsr (I 7) h) 1) h) : Sgs I' F' K' G' := by
  obtain ⟨nt, en, bn, cB, fl, wd, r1, r2, r3, r4, r5, r6, w1, w2, w3, w4, w5, w6, w7, w8⟩ := h
  have p10 : 0 ≤ K 10 := hp.1.2.2.1.1
  have p61 := w8 h60
  have p62 := w7 p61
  have p3 := w6 p62
  have q5 := w5 p3
  have q1 := w1 (K 3 - 1) (by omega) (by omega)
  have rK := r2 (K 10) p10 (Int.le_refl _)
  have nb : ∀ h : Int, 0 ≤ h → h ≤ 12 → bnd (bsr (I 7) h) 1 = crM G fl wd (K 3 - 1) (K 10) h := by
    intro h z0 z1
    rw [r6 h z0 z1, if_neg (by omega)]
  have u1 : ∀ (x : Int → Int) (y k : Int), k ≤ K 10 → uI x (K 10 + 1) y k = x k := fun x y k q => uI_n (by omega)
  have u2 : ∀ (x : Int → Int) (y k : Int), k < K 10 → uI x (K 10) y k = x k := fun x y k q => uI_n (by omega)
  refine ⟨uI nt (K 10 + 1) (K 15 + (if kd = 1 then 1 else 0)), uI en (K 10 + 1) (K 22 + (if kd = 6 then 1 else 0)), uI bn (K 10 + 1) (K 21 + (if kd = 5 then 1 else 0)), uI cB (K 10 + 1) (if kd = 4 then v else cB (K 10)), (fun k h => if k = K 10 then crM G fl wd (K 3 - 1) (K 10) h else fl k h), uI wd (K 10) (G 8 (K 3 - 1)), ?_, ?_, ?_, ?_, ?_, ?_, ?_, ?_, ?_, ?_, ?_, ?_, ?_, ?_⟩
  · intro k z0 z1
    rw [k10] at z1
    by_cases e : k = K 10
    · subst e
      unfold Row
      rw [g11, g12, g13, uI_s, uI_s, uI_s, uI_s, uI_s, uI_s, uI_s, u1 _ _ _ (Int.le_refl _), u1 _ _ _ (Int.le_refl _), u1 _ _ _ (Int.le_refl _), u1 _ _ _ (Int.le_refl _), uI_s, r3.2.2.2.2.1, r3.2.2.2.2.2.1, r3.2.2.2.2.2.2]
      refine ⟨⟨hk, hv1, hv, hv2, hv3⟩, ⟨rfl, rfl, rfl, rfl, rfl⟩, f8n, ?_, e5, ?_, ?_⟩
      · intro c
        have e1 := e1 c
        have st : v - I 6 = stM v (cB (K 10)) := by
          rw [r5]
          show v - zrM (cB (K 10)) = v - (2 * (cB (K 10) % 10) + 1) - (if 9 < cB (K 10) then 4 else 0)
          unfold zrM
          omega
        rw [e1.2.1, e1.2.2, nb v hv.1 (hv1 (by omega))]
        refine ⟨e1.1, st, ?_⟩
        show _ = 12 * ((v - I 6) / 7) + scI ((v - I 6) % 7) - (if K 10 = K 10 then crM G fl wd (K 3 - 1) (K 10) v else fl (K 10) v)
        rw [if_pos rfl]
      · intro c
        rw [← r5]
        exact e6 c
      · intro h z2 z3
        show (if K 10 = K 10 then crM G fl wd (K 3 - 1) (K 10) h else fl (K 10) h) = _
        rw [if_pos rfl, u2 _ _ _ (by omega)]
        unfold crM
        by_cases c : 0 < K 10 ∧ wd (K 10 - 1) = G 8 (K 3 - 1)
        · rw [if_pos c, if_pos c]
          unfold faM
          rw [g11, g12, u2 _ _ _ (by omega), u2 _ _ _ (by omega)]
          dsimp only
          rw [if_neg (show ¬ K 10 - 1 = K 10 by omega)]
        · rw [if_neg c, if_neg c]
    · have z2 : k < K 10 := by omega
      obtain ⟨d1, d2, d3, d4, d5, d6, d7⟩ := r1 k z0 z2
      have rk := r2 k z0 (by omega)
      have rk1 := r2 (k + 1) (by omega) (by omega)
      unfold Row
      rw [g11, g12, g13, u2 _ _ _ z2, u2 _ _ _ z2, u2 _ _ _ z2, u1 nt _ _ (by omega), u1 en _ _ (by omega), u1 bn _ _ (by omega), u1 cB _ _ (by omega), u1 nt _ _ (by omega), u1 en _ _ (by omega), u1 bn _ _ (by omega), u1 cB _ _ (by omega), u2 wd _ _ z2, u2 wd _ _ (by omega)]
      refine ⟨d1, d2, ⟨(f8 k e).1.trans d3.1, (f8 k e).2.trans d3.2⟩, ?_, ?_, ?_, ?_⟩
      · intro c
        have hn : nt k < K 15 := by have := d2.1; rw [if_pos c] at this; have := rk1.1; omega
        have d4 := d4 c
        rw [g16 _ rk.1.1 hn, (f4 _ rk.1.1 hn).1, (f4 _ rk.1.1 hn).2]
        refine ⟨d4.1, d4.2.1, ?_⟩
        show _ = _ - (if k = K 10 then crM G fl wd (K 3 - 1) (K 10) (G 12 k) else fl k (G 12 k))
        rw [if_neg e]
        exact d4.2.2
      · intro c
        have hn : bn k < K 21 := by have := d2.2.2.1; rw [if_pos c] at this; have := rk1.2.2.1; omega
        rw [(f6 _ rk.2.2.1.1 hn).1, (f6 _ rk.2.2.1.1 hn).2]
        exact d5 c
      · intro c
        have hn : en k < K 22 := by have := d2.2.1; rw [if_pos c] at this; have := rk1.2.1; omega
        rw [(f7 _ rk.2.1.1 hn).1, (f7 _ rk.2.1.1 hn).2]
        exact d6 c
      · intro h z3 z4
        show (if k = K 10 then crM G fl wd (K 3 - 1) (K 10) h else fl k h) = _
        rw [if_neg e, d7 h z3 z4]
        by_cases c : 0 < k ∧ wd (k - 1) = wd k
        · rw [if_pos c, if_pos c]
          unfold faM
          rw [g11, g12, u2 _ _ _ (by omega), u2 _ _ _ (by omega)]
          dsimp only
          rw [if_neg (show ¬ k - 1 = K 10 by omega)]
        · rw [if_neg c, if_neg c]
  · intro k z0 z1
    rw [k10] at z1
    unfold Rng
    rw [k15, k22, k21]
    by_cases e : k = K 10 + 1
    · subst e
      rw [uI_s, uI_s, uI_s, uI_s]
      unfold Rng at rK
      refine ⟨?_, ?_, ?_, ?_⟩
      · split <;> omega
      · split <;> omega
      · split <;> omega
      · split <;> omega
    · have rk := r2 k z0 (by omega)
      unfold Rng at rk
      rw [u1 _ _ _ (by omega), u1 _ _ _ (by omega), u1 _ _ _ (by omega), u1 _ _ _ (by omega)]
      refine ⟨?_, ?_, ?_, rk.2.2.2⟩
      · split <;> omega
      · split <;> omega
      · split <;> omega
  · rw [k10, k15, k22, k21, uI_s, uI_s, uI_s, u1 _ _ _ p10, u1 _ _ _ p10, u1 _ _ _ p10, u1 _ _ _ p10]
    exact ⟨r3.1, r3.2.1, r3.2.2.1, r3.2.2.2.1, rfl, rfl, rfl⟩
  · intro k h
    show 0 ≤ (if k = K 10 then crM G fl wd (K 3 - 1) (K 10) h else fl k h) ∧ (if k = K 10 then crM G fl wd (K 3 - 1) (K 10) h else fl k h) ≤ 1
    have a := crM_r r4 (G := G) (wd := wd) (K 3 - 1) (K 10) h
    have b := r4 k h
    split
    · exact a
    · exact b
  · rw [k10, uI_s, i6, r5]
    split <;> rfl
  · intro h z0 z1
    rw [k62, if_neg (by omega), i7 h z0 z1, k3, k10, nb h z0 z1]
    rw [show crM G' (fun k h => if k = K 10 then crM G fl wd (K 3 - 1) (K 10) h else fl k h) (uI wd (K 10) (G 8 (K 3 - 1))) (K 3 - 1) (K 10 + 1) h = faM G' (fun k h => if k = K 10 then crM G fl wd (K 3 - 1) (K 10) h else fl k h) (K 10) h by
      unfold crM
      rw [show K 10 + 1 - 1 = K 10 by omega, uI_s, g8, if_pos ⟨by omega, rfl⟩]]
    unfold faM fxV
    rw [g11, g12, uI_s, uI_s]
    dsimp only
    rw [if_pos rfl]
  · intro s z0 z1
    rw [k3] at z1
    rw [k10, k14, g8, g9]
    obtain ⟨v1, v2, v3, v4⟩ := w1 s z0 z1
    rw [uI_n (show s ≠ K 3 by omega)]
    refine ⟨?_, v2, ?_, ?_⟩
    · by_cases e : s + 1 = K 3
      · rw [e, uI_s]; omega
      · rw [uI_n e]; omega
    · intro k z2 z3
      by_cases e : s + 1 = K 3
      · rw [e, uI_s] at z3
        by_cases c : k = K 10
        · rw [c, uI_s, show K 3 - 1 = s by omega]
        · rw [uI_n c]
          exact v3 k z2 (by rw [e, w4]; omega)
      · rw [uI_n e] at z3
        rw [uI_n (by omega)]
        exact v3 k z2 z3
    · intro z2
      refine ⟨(v4 z2).1, fun k z3 z4 => ?_⟩
      rw [uI_n (by omega)]
      exact (v4 z2).2 k z3 z4
  · intro k z0 z1
    rw [k10] at z1
    rw [k14]
    by_cases c : k = K 10
    · rw [c, uI_s]; omega
    · rw [uI_n c]
      exact w2 k z0 (by omega)
  · rw [g9, uI_n (by omega)]; exact w3
  · rw [g9, k3, k10, uI_s]
  · rw [k3, k14, g8]; exact w5
  · rw [k62, k3]; exact w6
  · rw [k61, k62]; exact w7
  · rw [k60, k61]; exact w8
