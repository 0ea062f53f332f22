/-! the signs, one by one -/
theorem sg8 {N : Nat → Int} {F : Nat → Int → Int} {k v a : Int} (e : N 8 = a) : (∀ j : Int, j ≠ a → sgF N F k v 8 (j * 2 + 0) = F 8 (j * 2 + 0) ∧ sgF N F k v 8 (j * 2 + 1) = F 8 (j * 2 + 1)) ∧ sgF N F k v 8 (a * 2 + 0) = k ∧ sgF N F k v 8 (a * 2 + 1) = v := by
  subst e
  refine ⟨fun j hj => ⟨?_, ?_⟩, ?_, ?_⟩
  · show uI (adf (F 8) 2 (N 8) k) (N 8 * 2 + 1) v (j * 2 + 0) = _
    rw [uI_n (by omega), ad2_n hj (by decide)]
  · show uI (adf (F 8) 2 (N 8) k) (N 8 * 2 + 1) v (j * 2 + 1) = _
    rw [uI_n (by omega), ad2_n hj (by decide)]
  · show uI (adf (F 8) 2 (N 8) k) (N 8 * 2 + 1) v (N 8 * 2 + 0) = _
    rw [uI_n (by omega)]
    unfold adf
    rw [cl_c (by omega), Int.add_zero, uI_s]
  · show uI (adf (F 8) 2 (N 8) k) (N 8 * 2 + 1) v (N 8 * 2 + 1) = _
    rw [uI_s]
theorem tb2 {f : Int → Int} {a x y : Int} : (∀ j : Int, j ≠ a → uI (adf f 2 a x) (a * 2 + 1) y (j * 2 + 0) = f (j * 2 + 0) ∧ uI (adf f 2 a x) (a * 2 + 1) y (j * 2 + 1) = f (j * 2 + 1)) ∧ uI (adf f 2 a x) (a * 2 + 1) y (a * 2 + 0) = x ∧ uI (adf f 2 a x) (a * 2 + 1) y (a * 2 + 1) = y := by
  refine ⟨fun j hj => ⟨?_, ?_⟩, ?_, ?_⟩
  · rw [uI_n (by omega), ad2_n hj (by decide)]
  · rw [uI_n (by omega), ad2_n hj (by decide)]
  · rw [uI_n (by omega)]
    unfold adf
    rw [cl_c (by omega), Int.add_zero, uI_s]
  · rw [uI_s]
set_option maxHeartbeats 1000000 in
theorem Rl_sg {I I' N N' : Nat → Int} {F F' : Nat → Int → Int} {K K' : Nat → Int} {G : Nat → Int → Int} {kd v q : Int} (h : Rl I N F K G) (hp : PI K) (h60 : K 60 = 1)
    (hk : 2 ≤ kd ∧ kd ≤ 6) (hv : 0 ≤ v ∧ v ≤ 14) (hv1 : kd ≤ 3 → v ≤ 12) (hv2 : kd = 4 → 1 ≤ v % 10 ∧ v % 10 ≤ 4) (hv3 : kd = 5 → 1 ≤ v ∧ v ≤ 4)
    (hi : I' 1 = I 1 ∧ I' 2 = I 2 ∧ I' 3 = I 3 ∧ I' 4 = I 4 ∧ I' 8 = I 8 ∧ I' 9 = I 9 ∧ I' 10 = I 10 ∧ I' 11 = 1 - q ∧ I' 12 = 0)
    (hN : N' 0 = N 0 ∧ N' 2 = N 2 ∧ N' 3 = N 3 ∧ N' 4 = N 4 ∧ N' 5 = N 5 ∧ N' 6 = N 6 + (if kd = 5 then 1 else 0) ∧ N' 7 = N 7 + (if kd = 6 then 1 else 0) ∧ N' 8 = N 8 + 1 ∧ N' 9 = N 9)
    (hF : F' 0 = F 0 ∧ F' 2 = F 2 ∧ F' 3 = F 3 ∧ F' 4 = F 4) (hF9 : ∀ j : Int, F' 9 j = F 9 j + (if j = kd - 1 then 1 else 0))
    (f8 : ∀ k : Int, k ≠ K 10 → F' 8 (k * 2 + 0) = F 8 (k * 2 + 0) ∧ F' 8 (k * 2 + 1) = F 8 (k * 2 + 1)) (f8n : F' 8 (K 10 * 2 + 0) = kd - 1 ∧ F' 8 (K 10 * 2 + 1) = svl kd v (K 15))
    (f6 : ∀ n : Int, 0 ≤ n → n < K 21 → F' 6 (n * 2 + 0) = F 6 (n * 2 + 0) ∧ F' 6 (n * 2 + 1) = F 6 (n * 2 + 1))
    (f7 : ∀ n : Int, 0 ≤ n → n < K 22 → F' 7 (n * 2 + 0) = F 7 (n * 2 + 0) ∧ F' 7 (n * 2 + 1) = F 7 (n * 2 + 1))
    (e5 : kd = 5 → F' 6 (K 21 * 2 + 0) = v ∧ F' 6 (K 21 * 2 + 1) = K 15)
    (e6 : kd = 6 → F' 7 (K 22 * 2 + 0) = K 15 ∧ F' 7 (K 22 * 2 + 1) = I 6)
    (hK : K' 3 = K 3 ∧ K' 10 = K 10 + 1 ∧ K' 14 = K 14 ∧ K' 15 = K 15 ∧ K' 20 = K 20 ∧ K' 21 = K 21 + (if kd = 5 then 1 else 0) ∧ K' 22 = K 22 + (if kd = 6 then 1 else 0) ∧ K' 23 = K 23 + (if kd = 4 then 1 else 0) ∧ K' 24 = K 24 + (if kd = 2 then 1 else 0) ∧ K' 25 = K 25 + (if kd = 3 then 1 else 0) ∧ K' 28 = K 28 ∧ K 29 ≤ K' 29 ∧ K' 60 = K 60 ∧ K' 61 = K 61 ∧ K' 62 = K 62 ∧ K' 63 = q ∧ K' 64 = 0)
    (i6 : I' 6 = if kd = 4 then zrM v else I 6) (i7 : ∀ h : Int, 0 ≤ h → h ≤ 12 → bnd (bsr (I' 7) h) 1 = fxV kd v (bnd (bsr (I 7) h) 1) h) : Rl I' N' F' K' (ptG K G kd v) := by
  obtain ⟨⟨a1, a2, a3, a4, a5⟩, hs, hn, hg, ht⟩ := h
  obtain ⟨y1, y2, y3, y4, y8, y9, y10, y11, y12⟩ := hi
  obtain ⟨n0, n2, n3, n4, n5, n6, n7, n8, n9⟩ := hN
  obtain ⟨k3, k10, k14, k15, k20, k21, k22, k23, k24, k25, k28, k29, k60, k61, k62, k63, k64⟩ := hK
  obtain ⟨x0, x2, x3, x4⟩ := hF
  refine ⟨⟨⟨by rw [y3]; exact a1.1, by rw [y4]; exact a1.2.1, by rw [n9]; exact a1.2.2.1, by rw [y1, k14]; exact a1.2.2.2.1, by rw [y2, k20]; exact a1.2.2.2.2.1, by rw [n3, k3]; exact a1.2.2.2.2.2.1, by rw [n4, k15]; exact a1.2.2.2.2.2.2.1, by rw [n6, k21, a1.2.2.2.2.2.2.2.1], by rw [n7, k22, a1.2.2.2.2.2.2.2.2.1], by rw [n8, k10, a1.2.2.2.2.2.2.2.2.2]⟩, ⟨?_, ?_, ?_, ?_, ?_, ?_⟩, ⟨by rw [y8, k60]; exact a3.1, by rw [y9, k61]; exact a3.2.1, by rw [y10, k62]; exact a3.2.2.1, by rw [y11, k60, k63, if_pos h60], by rw [y12, k60, k64, if_pos h60]⟩, by rw [n2]; exact ⟨a4.1, by omega⟩, by rw [n5]; exact a5⟩, ?_, ?_, ?_, ?_⟩
  · rw [hF9, a2.1, k15]; split <;> omega
  · rw [hF9, a2.2.1, k24]; split <;> split <;> omega
  · rw [hF9, a2.2.2.1, k25]; split <;> split <;> omega
  · rw [hF9, a2.2.2.2.1, k23]; split <;> split <;> omega
  · rw [hF9, a2.2.2.2.2.1, k21]; split <;> split <;> omega
  · rw [hF9, a2.2.2.2.2.2, k22]; split <;> split <;> omega
  · intro s h0 h1
    rw [k3] at h1
    obtain ⟨b1, b2, b3, b4, b5, b6, b7⟩ := hs s h0 h1
    unfold Syl
    rw [x3, x2, n2, k15, k60, k3]
    have g9 : ∀ j : Int, j < K 3 → ptG K G kd v 9 j = G 9 j := fun j hj => uI_n (show j ≠ K 3 by omega)
    refine ⟨b1, b2, ?_, ?_, ⟨b5.1, b5.2.1, b5.2.2.1, b5.2.2.2.1, ?_⟩, b6, ?_⟩
    · rw [g9 s h1]; exact b3
    · intro z
      rw [g9 s h1, g9 (s + 1) (by omega)]
      exact b4 (Or.inl (by omega))
    · show G 4 s + G 5 s ≤ K' 29
      omega
    · intro z
      exact absurd z.2.2 (by omega)
  · intro n z0 z1
    rw [k15] at z1
    rw [x4, k3]
    exact hn n z0 z1
  · exact Sgs_app hg hp h60 (by omega) hv hv1 hv2 hv3 rfl rfl rfl rfl rfl (fun _ _ _ => rfl) f8 f8n (fun _ _ _ => by rw [x4]; exact ⟨rfl, rfl⟩) f6 f7 (fun z => by omega) e5 e6 k10 (by rw [k15, if_neg (by omega)]; omega) k22 k21 k3 k14 k60 k61 k62 i6 i7
  · unfold Tap
    rw [n0, k28, x0]
    exact ht
theorem Rl_fl {I I' N : Nat → Int} {F : Nat → Int → Int} {K : Nat → Int} {G : Nat → Int → Int} {v : Int} (h : Rl I N F K G) (hp : PI K) (h60 : K 60 = 1) (hv : 0 ≤ v ∧ v ≤ 12) (hi : ∀ k : Nat, k ≠ 5 → k ≠ 12 → k ≠ 7 → I' k = I k) (i12 : I' 12 = 0) (i7 : I' 7 = bor (I 7) (bsl 1 v)) : Rl I' (uN N 8 (N 8 + 1)) (sgF N F 1 v) (sgK 24 2 (K 63) K) (ptG K G 2 v) := by
  obtain ⟨s1, s2, s3⟩ := sg8 (F := F) (k := 1) (v := v) h.1.1.2.2.2.2.2.2.2.2.2
  have e11 := h.1.2.2.1.2.2.2.1
  rw [if_pos h60] at e11
  refine Rl_sg (q := K 63) h hp h60 (by decide) (by omega) (by omega) (by omega) (by omega) ⟨hi 1 (by decide) (by decide) (by decide), hi 2 (by decide) (by decide) (by decide), hi 3 (by decide) (by decide) (by decide), hi 4 (by decide) (by decide) (by decide), hi 8 (by decide) (by decide) (by decide), hi 9 (by decide) (by decide) (by decide), hi 10 (by decide) (by decide) (by decide), (hi 11 (by decide) (by decide) (by decide)).trans e11, i12⟩ ⟨rfl, rfl, rfl, rfl, rfl, by simp [uN], by simp [uN], rfl, rfl⟩ ⟨rfl, rfl, rfl, rfl⟩ ?_ s1 ⟨s2, s3⟩ (fun _ _ _ => ⟨rfl, rfl⟩) (fun _ _ _ => ⟨rfl, rfl⟩) (by omega) (by omega) ⟨rfl, rfl, rfl, rfl, rfl, by simp [sgK, uN], by simp [sgK, uN], by simp [sgK, uN], by simp [sgK, uN], by simp [sgK, uN], rfl, by simp [sgK, uN]; omega, rfl, rfl, rfl, rfl, rfl⟩ ((hi 6 (by decide) (by decide) (by decide)).trans (by rw [if_neg (by decide)])) ?_
  · intro j
    show uI (F 9) 1 (F 9 1 + 1) j = F 9 j + (if j = 2 - 1 then 1 else 0)
    by_cases e : j = 1
    · rw [e, uI_s]; rfl
    · rw [uI_n e, if_neg (by omega)]; omega
  · intro h z0 z1
    rw [i7, bit_or hv ⟨z0, z1⟩]
    rfl
theorem Rl_na {I I' N : Nat → Int} {F : Nat → Int → Int} {K : Nat → Int} {G : Nat → Int → Int} {v : Int} (h : Rl I N F K G) (hp : PI K) (h60 : K 60 = 1) (hv : 0 ≤ v ∧ v ≤ 12) (hi : ∀ k : Nat, k ≠ 5 → k ≠ 12 → k ≠ 7 → I' k = I k) (i12 : I' 12 = 0) (i7 : I' 7 = bnd (I 7) (bxr (bsl 1 v) (-1))) : Rl I' (uN N 8 (N 8 + 1)) (sgF N F 2 v) (sgK 25 2 (K 63) K) (ptG K G 3 v) := by
  obtain ⟨s1, s2, s3⟩ := sg8 (F := F) (k := 2) (v := v) h.1.1.2.2.2.2.2.2.2.2.2
  have e11 := h.1.2.2.1.2.2.2.1
  rw [if_pos h60] at e11
  refine Rl_sg (q := K 63) h hp h60 (by decide) (by omega) (by omega) (by omega) (by omega) ⟨hi 1 (by decide) (by decide) (by decide), hi 2 (by decide) (by decide) (by decide), hi 3 (by decide) (by decide) (by decide), hi 4 (by decide) (by decide) (by decide), hi 8 (by decide) (by decide) (by decide), hi 9 (by decide) (by decide) (by decide), hi 10 (by decide) (by decide) (by decide), (hi 11 (by decide) (by decide) (by decide)).trans e11, i12⟩ ⟨rfl, rfl, rfl, rfl, rfl, by simp [uN], by simp [uN], rfl, rfl⟩ ⟨rfl, rfl, rfl, rfl⟩ ?_ s1 ⟨s2, s3⟩ (fun _ _ _ => ⟨rfl, rfl⟩) (fun _ _ _ => ⟨rfl, rfl⟩) (by omega) (by omega) ⟨rfl, rfl, rfl, rfl, rfl, by simp [sgK, uN], by simp [sgK, uN], by simp [sgK, uN], by simp [sgK, uN], by simp [sgK, uN], rfl, by simp [sgK, uN]; omega, rfl, rfl, rfl, rfl, rfl⟩ ((hi 6 (by decide) (by decide) (by decide)).trans (by rw [if_neg (by decide)])) ?_
  · intro j
    show uI (F 9) 2 (F 9 2 + 1) j = F 9 j + (if j = 3 - 1 then 1 else 0)
    by_cases e : j = 2
    · rw [e, uI_s]; rfl
    · rw [uI_n e, if_neg (by omega)]; omega
  · intro h z0 z1
    rw [i7, bit_an hv ⟨z0, z1⟩]
    rfl
theorem Rl_cf {I I' N : Nat → Int} {F : Nat → Int → Int} {K : Nat → Int} {G : Nat → Int → Int} {v x : Int} (h : Rl I N F K G) (hp : PI K) (h60 : K 60 = 1) (hv : 0 ≤ v ∧ v ≤ 14) (hv2 : 1 ≤ v % 10 ∧ v % 10 ≤ 4) (hx : x = if 9 < v then v - 6 else v) (hi : ∀ k : Nat, k ≠ 5 → k ≠ 12 → k ≠ 11 → k ≠ 7 → k ≠ 6 → I' k = I k) (i12 : I' 12 = 0) (i11 : I' 11 = 0) (i7 : I' 7 = 0) (i6 : I' 6 = zrM v) : Rl I' (uN N 8 (N 8 + 1)) (sgF N F 3 x) (sgK 23 2 1 K) (ptG K G 4 v) := by
  obtain ⟨s1, s2, s3⟩ := sg8 (F := F) (k := 3) (v := x) h.1.1.2.2.2.2.2.2.2.2.2
  refine Rl_sg (q := 1) h hp h60 (by decide) (by omega) (by omega) (by omega) (by omega) ⟨hi 1 (by decide) (by decide) (by decide) (by decide) (by decide), hi 2 (by decide) (by decide) (by decide) (by decide) (by decide), hi 3 (by decide) (by decide) (by decide) (by decide) (by decide), hi 4 (by decide) (by decide) (by decide) (by decide) (by decide), hi 8 (by decide) (by decide) (by decide) (by decide) (by decide), hi 9 (by decide) (by decide) (by decide) (by decide) (by decide), hi 10 (by decide) (by decide) (by decide) (by decide) (by decide), i11, i12⟩ ⟨rfl, rfl, rfl, rfl, rfl, by simp [uN], by simp [uN], rfl, rfl⟩ ⟨rfl, rfl, rfl, rfl⟩ ?_ s1 ⟨s2, s3.trans hx⟩ (fun _ _ _ => ⟨rfl, rfl⟩) (fun _ _ _ => ⟨rfl, rfl⟩) (by omega) (by omega) ⟨rfl, rfl, rfl, rfl, rfl, by simp [sgK, uN], by simp [sgK, uN], by simp [sgK, uN], by simp [sgK, uN], by simp [sgK, uN], rfl, by simp [sgK, uN]; omega, rfl, rfl, rfl, rfl, rfl⟩ (i6.trans (by rw [if_pos rfl])) ?_
  · intro j
    show uI (F 9) 3 (F 9 3 + 1) j = F 9 j + (if j = 4 - 1 then 1 else 0)
    by_cases e : j = 3
    · rw [e, uI_s]; rfl
    · rw [uI_n e, if_neg (by omega)]; omega
  · intro h z0 z1
    rw [i7, bit_0 ⟨z0, z1⟩]
    rfl
theorem Rl_br {I I' N : Nat → Int} {F : Nat → Int → Int} {K : Nat → Int} {G : Nat → Int → Int} {v n : Int} (h : Rl I N F K G) (hp : PI K) (h60 : K 60 = 1) (hv : 1 ≤ v ∧ v ≤ 4) (hn : 0 ≤ n) (hi : ∀ k : Nat, k ≠ 5 → k ≠ 12 → k ≠ 11 → k ≠ 7 → I' k = I k) (i12 : I' 12 = 0) (i11 : I' 11 = 0) (i7 : I' 7 = 0) : Rl I' (uN (uN N 8 (N 8 + 1)) 6 (N 6 + 1)) (uN (sgF N F 4 v) 6 (uI (adf (F 6) 2 (N 6) v) (N 6 * 2 + 1) (N 4))) (sgK 21 n 1 K) (ptG K G 5 v) := by
  obtain ⟨s1, s2, s3⟩ := sg8 (F := F) (k := 4) (v := v) h.1.1.2.2.2.2.2.2.2.2.2
  have eN : N 6 = K 21 := h.1.1.2.2.2.2.2.2.2.1
  have eN4 : N 4 = K 15 := h.1.1.2.2.2.2.2.2.1
  obtain ⟨t1, t2, t3⟩ := tb2 (f := F 6) (a := K 21) (x := v) (y := K 15)
  rw [eN, eN4]
  refine Rl_sg (q := 1) h hp h60 (by decide) (by omega) (by omega) (by omega) (by omega) ⟨hi 1 (by decide) (by decide) (by decide) (by decide), hi 2 (by decide) (by decide) (by decide) (by decide), hi 3 (by decide) (by decide) (by decide) (by decide), hi 4 (by decide) (by decide) (by decide) (by decide), hi 8 (by decide) (by decide) (by decide) (by decide), hi 9 (by decide) (by decide) (by decide) (by decide), hi 10 (by decide) (by decide) (by decide) (by decide), i11, i12⟩ ⟨rfl, rfl, rfl, rfl, rfl, by simp [uN, eN], by simp [uN], rfl, rfl⟩ ⟨rfl, rfl, rfl, rfl⟩ ?_ s1 ⟨s2, s3⟩ (fun j z0 z1 => t1 j (by omega)) (fun _ _ _ => ⟨rfl, rfl⟩) (fun _ => ⟨t2, t3⟩) (by omega) ⟨rfl, rfl, rfl, rfl, rfl, by simp [sgK, uN], by simp [sgK, uN], by simp [sgK, uN], by simp [sgK, uN], by simp [sgK, uN], rfl, by simp [sgK, uN]; omega, rfl, rfl, rfl, rfl, rfl⟩ ((hi 6 (by decide) (by decide) (by decide) (by decide)).trans (by rw [if_neg (by decide)])) ?_
  · intro j
    show uI (F 9) 4 (F 9 4 + 1) j = F 9 j + (if j = 5 - 1 then 1 else 0)
    by_cases e : j = 4
    · rw [e, uI_s]; rfl
    · rw [uI_n e, if_neg (by omega)]; omega
  · intro h z0 z1
    rw [i7, bit_0 ⟨z0, z1⟩]
    rfl
theorem Rl_le {I I' N : Nat → Int} {F : Nat → Int → Int} {K : Nat → Int} {G : Nat → Int → Int} (h : Rl I N F K G) (hp : PI K) (h60 : K 60 = 1) (hi : ∀ k : Nat, k ≠ 5 → k ≠ 12 → k ≠ 11 → I' k = I k) (i12 : I' 12 = 0) (i11 : I' 11 = 0) : Rl I' (uN (uN N 8 (N 8 + 1)) 7 (N 7 + 1)) (uN (sgF N F 5 0) 7 (uI (adf (F 7) 2 (N 7) (N 4)) (N 7 * 2 + 1) (I 6))) (sgK 22 1 1 K) (ptG K G 6 0) := by
  obtain ⟨s1, s2, s3⟩ := sg8 (F := F) (k := 5) (v := 0) h.1.1.2.2.2.2.2.2.2.2.2
  have eN : N 7 = K 22 := h.1.1.2.2.2.2.2.2.2.2.1
  have eN4 : N 4 = K 15 := h.1.1.2.2.2.2.2.2.1
  obtain ⟨t1, t2, t3⟩ := tb2 (f := F 7) (a := K 22) (x := K 15) (y := I 6)
  rw [eN, eN4]
  refine Rl_sg (q := 1) h hp h60 (by decide) (by omega) (by omega) (by omega) (by omega) ⟨hi 1 (by decide) (by decide) (by decide), hi 2 (by decide) (by decide) (by decide), hi 3 (by decide) (by decide) (by decide), hi 4 (by decide) (by decide) (by decide), hi 8 (by decide) (by decide) (by decide), hi 9 (by decide) (by decide) (by decide), hi 10 (by decide) (by decide) (by decide), i11, i12⟩ ⟨rfl, rfl, rfl, rfl, rfl, by simp [uN], by simp [uN, eN], rfl, rfl⟩ ⟨rfl, rfl, rfl, rfl⟩ ?_ s1 ⟨s2, s3⟩ (fun _ _ _ => ⟨rfl, rfl⟩) (fun j z0 z1 => t1 j (by omega)) (by omega) (fun _ => ⟨t2, t3⟩) ⟨rfl, rfl, rfl, rfl, rfl, by simp [sgK, uN], by simp [sgK, uN], by simp [sgK, uN], by simp [sgK, uN], by simp [sgK, uN], rfl, by simp [sgK, uN]; omega, rfl, rfl, rfl, rfl, rfl⟩ ((hi 6 (by decide) (by decide) (by decide)).trans (by rw [if_neg (by decide)])) ?_
  · intro j
    show uI (F 9) 5 (F 9 5 + 1) j = F 9 j + (if j = 6 - 1 then 1 else 0)
    by_cases e : j = 5
    · rw [e, uI_s]; rfl
    · rw [uI_n e, if_neg (by omega)]; omega
  · intro h z0 z1
    rw [hi 7 (by decide) (by decide) (by decide)]
    rfl
set_option maxHeartbeats 1000000 in
theorem Rl_nt {I I' N : Nat → Int} {F : Nat → Int → Int} {K : Nat → Int} {G : Nat → Int → Int} {v g : Int} (h : Rl I N F K G) (hp : PI K) (h60 : K 60 = 1) (hv : 0 ≤ v ∧ v ≤ 12) (hi : ∀ k : Nat, k ≠ 5 → k ≠ 12 → k ≠ 11 → k ≠ 2 → I' k = I k) (i12 : I' 12 = 1) (i11 : I' 11 = 1) (i2 : I' 2 = K 20 + K 63) (hg : g = K 20 + K 63) : Rl I' (uN (uN N 8 (N 8 + 1)) 4 (N 4 + 1)) (ntF I N F v g) (ntK K) (ntG v K G) := by
  obtain ⟨s1, s2, s3⟩ := sg8 (F := F) (k := 0) (v := N 4) h.1.1.2.2.2.2.2.2.2.2.2
  obtain ⟨⟨a1, a2, a3, a4, a5⟩, hs, hn, hsg, ht⟩ := h
  have eN3 : N 3 = K 3 := a1.2.2.2.2.2.1
  have eN4 : N 4 = K 15 := a1.2.2.2.2.2.2.1
  have p15 : 0 ≤ K 15 := hp.1.2.2.2.1.1
  have p3 : 0 < K 3 := hp.2.2.2.2.2.2.2.2.2.2.2.2.2.2.1 (Or.inl h60)
  have f4 : ∀ n d : Int, n ≠ K 15 → 0 ≤ d → d < 8 → ntF I N F v g 4 (n * 8 + d) = F 4 (n * 8 + d) := by
    intro n d e z0 z1
    show uI (uI (uI (uI (adf (F 4) 8 (N 4) v) (N 4 * 8 + 2) (N 3 - 1)) (N 4 * 8 + 3) (g - 1)) (N 4 * 8 + 5) (v - I 6)) (N 4 * 8 + 6) _ (n * 8 + d) = _
    rw [uI_n (by omega), uI_n (by omega), uI_n (by omega), uI_n (by omega), ad8_n (by omega) ⟨z0, z1⟩]
  have f40 : ntF I N F v g 4 (K 15 * 8 + 0) = v := by
    show uI (uI (uI (uI (adf (F 4) 8 (N 4) v) (N 4 * 8 + 2) (N 3 - 1)) (N 4 * 8 + 3) (g - 1)) (N 4 * 8 + 5) (v - I 6)) (N 4 * 8 + 6) _ (K 15 * 8 + 0) = _
    rw [uI_n (by omega), uI_n (by omega), uI_n (by omega), uI_n (by omega)]
    unfold adf
    rw [cl_c (by omega), eN4, Int.add_zero, uI_s]
  have f41 : ntF I N F v g 4 (K 15 * 8 + 1) = 0 := by
    show uI (uI (uI (uI (adf (F 4) 8 (N 4) v) (N 4 * 8 + 2) (N 3 - 1)) (N 4 * 8 + 3) (g - 1)) (N 4 * 8 + 5) (v - I 6)) (N 4 * 8 + 6) _ (K 15 * 8 + 1) = _
    rw [uI_n (by omega), uI_n (by omega), uI_n (by omega), uI_n (by omega)]
    unfold adf
    rw [cl_0 (by omega)]
  have f42 : ntF I N F v g 4 (K 15 * 8 + 2) = K 3 - 1 := by
    show uI (uI (uI (uI (adf (F 4) 8 (N 4) v) (N 4 * 8 + 2) (N 3 - 1)) (N 4 * 8 + 3) (g - 1)) (N 4 * 8 + 5) (v - I 6)) (N 4 * 8 + 6) _ (K 15 * 8 + 2) = _
    rw [uI_n (by omega), uI_n (by omega), uI_n (by omega), eN4, uI_s, eN3]
  have f43 : ntF I N F v g 4 (K 15 * 8 + 3) = g - 1 := by
    show uI (uI (uI (uI (adf (F 4) 8 (N 4) v) (N 4 * 8 + 2) (N 3 - 1)) (N 4 * 8 + 3) (g - 1)) (N 4 * 8 + 5) (v - I 6)) (N 4 * 8 + 6) _ (K 15 * 8 + 3) = _
    rw [uI_n (by omega), uI_n (by omega), eN4, uI_s]
  have f45 : ntF I N F v g 4 (K 15 * 8 + 5) = v - I 6 := by
    show uI (uI (uI (uI (adf (F 4) 8 (N 4) v) (N 4 * 8 + 2) (N 3 - 1)) (N 4 * 8 + 3) (g - 1)) (N 4 * 8 + 5) (v - I 6)) (N 4 * 8 + 6) _ (K 15 * 8 + 5) = _
    rw [uI_n (by omega), eN4, uI_s]
  have f46 : ntF I N F v g 4 (K 15 * 8 + 6) = 12 * ((v - I 6) / 7) + scI ((v - I 6) % 7) - bnd (bsr (I 7) v) 1 := by
    show uI (uI (uI (uI (adf (F 4) 8 (N 4) v) (N 4 * 8 + 2) (N 3 - 1)) (N 4 * 8 + 3) (g - 1)) (N 4 * 8 + 5) (v - I 6)) (N 4 * 8 + 6) _ (K 15 * 8 + 6) = _
    rw [eN4, uI_s]
  have sK := hs (K 3 - 1) (by omega) (by omega)
  have f3 : ∀ s d : Int, 0 ≤ d → d < 9 → d ≠ 4 → d ≠ 5 → ntF I N F v g 3 (s * 9 + d) = F 3 (s * 9 + d) := by
    intro s d z0 z1 z2 z3
    show (if F 3 ((N 3 - 1) * 9 + 4) = 0 then uI (uI (F 3) ((N 3 - 1) * 9 + 5) (N 4)) ((N 3 - 1) * 9 + 4) (F 3 ((N 3 - 1) * 9 + 4) + 1) else uI (F 3) ((N 3 - 1) * 9 + 4) (F 3 ((N 3 - 1) * 9 + 4) + 1)) (s * 9 + d) = _
    split
    · rw [uI_n (by omega), uI_n (by omega)]
    · rw [uI_n (by omega)]
  have f34 : ∀ s : Int, ntF I N F v g 3 (s * 9 + 4) = F 3 (s * 9 + 4) + (if K 3 - 1 = s then 1 else 0) := by
    intro s
    show (if F 3 ((N 3 - 1) * 9 + 4) = 0 then uI (uI (F 3) ((N 3 - 1) * 9 + 5) (N 4)) ((N 3 - 1) * 9 + 4) (F 3 ((N 3 - 1) * 9 + 4) + 1) else uI (F 3) ((N 3 - 1) * 9 + 4) (F 3 ((N 3 - 1) * 9 + 4) + 1)) (s * 9 + 4) = _
    rw [eN3]
    by_cases e : K 3 - 1 = s
    · rw [if_pos e, e]
      split <;> rw [uI_s]
    · rw [if_neg e, Int.add_zero]
      split
      · rw [uI_n (by omega), uI_n (by omega)]
      · rw [uI_n (by omega)]
  have f35 : ∀ s : Int, ntF I N F v g 3 (s * 9 + 5) = if K 3 - 1 = s ∧ F 3 ((K 3 - 1) * 9 + 4) = 0 then K 15 else F 3 (s * 9 + 5) := by
    intro s
    show (if F 3 ((N 3 - 1) * 9 + 4) = 0 then uI (uI (F 3) ((N 3 - 1) * 9 + 5) (N 4)) ((N 3 - 1) * 9 + 4) (F 3 ((N 3 - 1) * 9 + 4) + 1) else uI (F 3) ((N 3 - 1) * 9 + 4) (F 3 ((N 3 - 1) * 9 + 4) + 1)) (s * 9 + 5) = _
    rw [eN3, eN4]
    by_cases c : F 3 ((K 3 - 1) * 9 + 4) = 0
    · rw [if_pos c]
      by_cases e : K 3 - 1 = s
      · rw [if_pos ⟨e, c⟩, uI_n (by omega), e, uI_s]
      · rw [if_neg (fun q => e q.1), uI_n (by omega), uI_n (by omega)]
    · rw [if_neg c, if_neg (fun q => c q.2), uI_n (by omega)]
  have tn : (K 15 + 1).toNat = (K 15).toNat + 1 := by omega
  have g18 : ∀ i : Int, 0 ≤ i → i < (K 15).toNat → uI (G 18) (K 15) (K 3 - 1) i = G 18 i := fun i z0 z1 => uI_n (by omega)
  refine ⟨⟨⟨(hi 3 (by decide) (by decide) (by decide) (by decide)).trans a1.1, (hi 4 (by decide) (by decide) (by decide) (by decide)).trans a1.2.1, a1.2.2.1, (hi 1 (by decide) (by decide) (by decide) (by decide)).trans a1.2.2.2.1, i2, eN3, ?_, a1.2.2.2.2.2.2.2.1, a1.2.2.2.2.2.2.2.2.1, ?_⟩, ⟨?_, ?_, ?_, ?_, ?_, ?_⟩, ⟨(hi 8 (by decide) (by decide) (by decide) (by decide)).trans a3.1, (hi 9 (by decide) (by decide) (by decide) (by decide)).trans a3.2.1, (hi 10 (by decide) (by decide) (by decide) (by decide)).trans a3.2.2.1, ?_, ?_⟩, ⟨a4.1, ?_⟩, a5⟩, ?_, ?_, ?_, ht⟩
  · show N 4 + 1 = K 15 + 1
    rw [eN4]
  · show N 8 + 1 = K 10 + 1
    rw [a1.2.2.2.2.2.2.2.2.2]
  · show uI (F 9) 0 (F 9 0 + 1) 0 = K 15 + 1
    rw [uI_s, a2.1]
  · show uI (F 9) 0 (F 9 0 + 1) 1 = K 24
    rw [uI_n (by decide)]; exact a2.2.1
  · show uI (F 9) 0 (F 9 0 + 1) 2 = K 25
    rw [uI_n (by decide)]; exact a2.2.2.1
  · show uI (F 9) 0 (F 9 0 + 1) 3 = K 23
    rw [uI_n (by decide)]; exact a2.2.2.2.1
  · show uI (F 9) 0 (F 9 0 + 1) 4 = K 21
    rw [uI_n (by decide)]; exact a2.2.2.2.2.1
  · show uI (F 9) 0 (F 9 0 + 1) 5 = K 22
    rw [uI_n (by decide)]; exact a2.2.2.2.2.2
  · show I' 11 = if K 60 = 1 then 1 - 0 else 0
    rw [if_pos h60, i11]; rfl
  · show I' 12 = if K 60 = 1 then 1 else 0
    rw [if_pos h60, i12]
  · show N 2 ≤ K 29 + 1
    omega
  · intro s h0 h1
    have h1 : s < K 3 := h1
    obtain ⟨b1, b2, b3, b4, b5, b6, b7⟩ := hs s h0 h1
    have g9 : ∀ j : Int, j < K 3 → uI (G 9) (K 3) (K 10 + 1) j = G 9 j := fun j hj => uI_n (by omega)
    refine ⟨⟨(f3 s 0 (by decide) (by decide) (by decide) (by decide)).trans b1.1, (f3 s 1 (by decide) (by decide) (by decide) (by decide)).trans b1.2.1, (f3 s 2 (by decide) (by decide) (by decide) (by decide)).trans b1.2.2.1, (f3 s 3 (by decide) (by decide) (by decide) (by decide)).trans b1.2.2.2⟩, ⟨?_, ?_⟩, (f3 s 7 (by decide) (by decide) (by decide) (by decide)).trans (b3.trans (g9 s h1).symm), ?_, ?_, ?_, ?_⟩
    · show ntF I N F v g 3 (s * 9 + 4) = cnM (uI (G 18) (K 15) (K 3 - 1)) s (K 15 + 1).toNat
      rw [f34, tn, cnM, cnM_c _ g18, b2.1, Int.toNat_of_nonneg p15, uI_s]
    · show ntF I N F v g 3 (s * 9 + 5) = fsD (uI (G 18) (K 15) (K 3 - 1)) s (K 15 + 1).toNat (-100)
      rw [f35, tn, fsD, fsD_c _ _ g18, Int.toNat_of_nonneg p15, uI_s]
      by_cases e : K 3 - 1 = s
      · rw [if_pos e, sK.2.1.1, e]
        by_cases c : cnM (G 18) s (K 15).toNat = 0
        · rw [if_pos ⟨rfl, c⟩, fsD_0 _ _ c]
        · rw [if_neg (fun q => c q.2), b2.2]
          exact fsD_1 _ _ _ c
      · rw [if_neg e, if_neg (fun q => e q.1)]
        exact b2.2
    · intro z
      have z : s < K 3 - 1 ∨ K 60 = 0 := z
      show ntF I N F v g 3 (s * 9 + 8) = uI (G 9) (K 3) (K 10 + 1) (s + 1) - uI (G 9) (K 3) (K 10 + 1) s
      rw [f3 s 8 (by decide) (by decide) (by decide) (by decide), g9 s h1, g9 (s + 1) (by omega)]
      exact b4 z
    · rw [f3 s 6 (by decide) (by decide) (by decide) (by decide)]
      show 0 ≤ F 3 (s * 9 + 6) ∧ F 3 (s * 9 + 6) + G 5 s ≤ N 2 ∧ 0 ≤ G 5 s ∧ 0 ≤ G 4 s ∧ G 4 s + G 5 s ≤ K 29 + 1
      omega
    · intro i z0 z1
      rw [f3 s 6 (by decide) (by decide) (by decide) (by decide)]
      exact b6 i z0 z1
    · intro z
      exact absurd (show K 60 = 0 from z.2.2) (by omega)
  · intro n z0 z1
    have z1 : n < K 15 + 1 := z1
    show (_ = uI (G 16) (K 15) v n ∧ _ = uI (G 17) (K 15) 0 n ∧ _ = uI (G 18) (K 15) (K 3 - 1) n ∧ _ = uI (G 19) (K 15) (K 20 + K 63 - 1) n) ∧ (0 ≤ uI (G 16) (K 15) v n ∧ uI (G 16) (K 15) v n ≤ 12) ∧ (0 ≤ uI (G 17) (K 15) 0 n ∧ uI (G 17) (K 15) 0 n ≤ 31) ∧ (0 ≤ uI (G 18) (K 15) (K 3 - 1) n ∧ uI (G 18) (K 15) (K 3 - 1) n < K 3)
    by_cases e : n = K 15
    · subst e
      rw [uI_s, uI_s, uI_s, uI_s, f40, f41, f42, f43, hg]
      refine ⟨⟨rfl, rfl, rfl, rfl⟩, hv, by decide, ?_⟩
      omega
    · rw [uI_n e, uI_n e, uI_n e, uI_n e, f4 n 0 e (by decide) (by decide), f4 n 1 e (by decide) (by decide), f4 n 2 e (by decide) (by decide), f4 n 3 e (by decide) (by decide)]
      exact hn n z0 (by omega)
  · exact Sgs_app (kd := 1) (v := v) hsg hp h60 (by decide) (by omega) (by omega) (by omega) (by omega) rfl rfl rfl rfl rfl (fun n z0 z1 => uI_n (show n ≠ K 15 by omega)) s1 ⟨s2, s3.trans eN4⟩ (fun n z0 z1 => ⟨f4 n 5 (by omega) (by decide) (by decide), f4 n 6 (by omega) (by decide) (by decide)⟩) (fun _ _ _ => ⟨rfl, rfl⟩) (fun _ _ _ => ⟨rfl, rfl⟩) (fun _ => ⟨show uI (G 16) (K 15) v (K 15) = v by rw [uI_s], f45, f46⟩) (by omega) (by omega) rfl (by simp [ntK, uN]) (by simp [ntK, uN]) (by simp [ntK, uN]) rfl rfl rfl rfl rfl ((hi 6 (by decide) (by decide) (by decide) (by decide)).trans (by rw [if_neg (by decide)])) (fun h z0 z1 => by rw [hi 7 (by decide) (by decide) (by decide) (by decide)]; rfl)
