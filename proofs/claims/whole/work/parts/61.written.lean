/-! the text written anew: class and reference -/
def SgW (F : Nat → Int → Int) (K : Nat → Int) (G : Nat → Int → Int) : Prop :=
  ∀ k : Int, 0 ≤ k → k < K 10 → (F 8 (k * 2 + 0) = G 11 k - 1 ∧ F 8 (k * 2 + 1) = svl (G 11 k) (G 12 k) (G 13 k)) ∧ (1 ≤ G 11 k ∧ G 11 k ≤ 6) ∧ (0 ≤ G 12 k ∧ G 12 k ≤ 14) ∧ (G 11 k = 4 → 1 ≤ G 12 k % 10 ∧ G 12 k % 10 ≤ 4) ∧ (G 11 k = 5 → 1 ≤ G 12 k ∧ G 12 k ≤ 4) ∧ (G 11 k = 1 → 0 ≤ G 13 k ∧ G 13 k < K 15 ∧ G 16 (G 13 k) = G 12 k)
def NtW (F : Nat → Int → Int) (K : Nat → Int) (G : Nat → Int → Int) : Prop := ∀ n : Int, 0 ≤ n → n < K 15 → F 4 (n * 8 + 0) = G 16 n ∧ F 4 (n * 8 + 1) = G 17 n ∧ F 4 (n * 8 + 3) = G 19 n
theorem gf_of {N : Nat → Int} {F : Nat → Int → Int} {K : Nat → Int} {G : Nat → Int → Int} (h4 : N 4 = K 15) (hs : SgW F K G) (hn : NtW F K G) {k : Int} (hk : 0 ≤ k ∧ k < K 10) (h1 : G 11 k = 1) : ∀ (m : Nat) (i : Int), 0 ≤ i → i + m ≤ K 10 → gfL N F (G 13 k) m i = ipL G k m i := by
  have v := (hs k hk.1 hk.2).2.2.2.2.2 h1
  intro m
  induction m with
  | zero => intro i _ _; rfl
  | succ m ih =>
    intro i h0 hm
    obtain ⟨s1, s2, s3, s4, s5, s6⟩ := hs i h0 (by omega)
    rw [gfL, ipL, s1.1]
    by_cases c : G 11 i = 1
    · have w := s6 c
      rw [if_pos (by omega), if_pos c, s1.2]
      have e : svl (G 11 i) (G 12 i) (G 13 i) = G 13 i := by unfold svl; rw [if_pos c]
      rw [e]
      have n1 := (hn _ v.1 v.2.1).2.2
      have n2 := (hn _ w.1 w.2.1).2.2
      by_cases d : G 19 (G 13 i) = G 19 (G 13 k)
      · rw [if_pos d, if_pos]
        unfold sameG
        rw [h4, n1, n2]
        exact ⟨⟨v.1, v.2.1⟩, ⟨w.1, w.2.1⟩, d.symm⟩
      · rw [if_neg d, if_neg]
        unfold sameG
        rw [n1, n2]
        exact fun q => d q.2.2.symm
    · rw [if_neg (by omega), if_neg c]
      by_cases d : 4 ≤ G 11 i
      · rw [if_pos d, if_neg (by omega)]
      · rw [if_neg d, if_pos (by omega)]
        exact ih (i + 1) (by omega) (by omega)
theorem sgn_of {N : Nat → Int} {F : Nat → Int → Int} {K : Nat → Int} {G : Nat → Int → Int} (h4 : N 4 = K 15) (hs : SgW F K G) (hn : NtW F K G) {k e : Int} (hk : 0 ≤ k ∧ k < e) (he : e ≤ K 10) : wSgn F k ++ wSl N F k e = mSgn G k e := by
  obtain ⟨s1, s2, s3, s4, s5, s6⟩ := hs k hk.1 (by omega)
  have dj : G 11 k = 1 ∨ G 11 k = 2 ∨ G 11 k = 3 ∨ G 11 k = 4 ∨ G 11 k = 5 ∨ G 11 k = 6 := by omega
  unfold wSgn wSl ndS mSgn
  rw [s1.1]
  rcases dj with c | c | c | c | c | c
  · have w := s6 c
    have e1 : F 8 (k * 2 + 1) = G 13 k := by rw [s1.2]; unfold svl; rw [if_pos c]
    have n1 := hn _ w.1 w.2.1
    rw [c]
    show ([97 + F 4 (F 8 (k * 2 + 1) * 8 + 0)] ++ wMks (F 4 (F 8 (k * 2 + 1) * 8 + 1))) ++ (if gfL N F (F 8 (k * 2 + 1)) (e - (k + 1)).toNat (k + 1) = 0 then [] else [47]) = (if ipL G k (e - (k + 1)).toNat (k + 1) = 0 then mNt G k else mNt G k ++ [47])
    rw [e1, n1.1, n1.2.1, w.2.2, gf_of h4 hs hn ⟨hk.1, by omega⟩ c _ _ (by omega) (by omega)]
    unfold wMks mNt
    by_cases d : ipL G k (e - (k + 1)).toNat (k + 1) = 0
    · rw [if_pos d, if_pos d]
      simp only [List.append_assoc, List.append_nil]
    · rw [if_neg d, if_neg d]
      simp only [List.append_assoc]
  · have e1 : F 8 (k * 2 + 1) = G 12 k := by rw [s1.2]; unfold svl; rw [if_neg (by omega), if_neg (by omega)]
    rw [c, e1]
    rfl
  · have e1 : F 8 (k * 2 + 1) = G 12 k := by rw [s1.2]; unfold svl; rw [if_neg (by omega), if_neg (by omega)]
    rw [c, e1]
    rfl
  · have q := s4 c
    rw [c, s1.2, c]
    show (if 4 < svl 4 (G 12 k) (G 13 k) then [102, 48 + (svl 4 (G 12 k) (G 13 k) - 4)] else [99, 48 + svl 4 (G 12 k) (G 13 k)]) ++ [] = (if 9 < G 12 k then [102] ++ [48 + G 12 k % 10] else [99] ++ [48 + G 12 k % 10])
    have e1 : svl 4 (G 12 k) (G 13 k) = if 9 < G 12 k then G 12 k - 6 else G 12 k := rfl
    rw [e1]
    by_cases d : 9 < G 12 k
    · rw [if_pos d, if_pos d, if_pos (by omega), show 48 + (G 12 k - 6 - 4) = 48 + G 12 k % 10 by omega]
      rfl
    · rw [if_neg d, if_neg d, if_neg (by omega), show 48 + G 12 k % 10 = 48 + G 12 k by omega]
      rfl
  · have q := s5 c
    have e1 : F 8 (k * 2 + 1) = G 12 k := by rw [s1.2]; unfold svl; rw [if_neg (by omega), if_neg (by omega)]
    rw [c, e1]
    show wBar (G 12 k) ++ (if (if (5 - 1 : Int) = 4 ∧ G 12 k = 3 ∧ k + 1 < e ∧ F 8 ((k + 1) * 2 + 0) = 4 ∧ 3 ≤ F 8 ((k + 1) * 2 + 1) then (1 : Int) else 0) = 0 then [] else [47]) = (if (G 12 k = 3 ∧ k + 1 < e ∧ G 11 (k + 1) = 5 ∧ 3 ≤ G 12 (k + 1)) then [58] ++ wMk (G 12 k) 58 4 ++ [47] else [if G 12 k = 1 then 44 else if G 12 k = 2 then 59 else 58] ++ wMk (G 12 k) 58 4)
    have bars : wBar (G 12 k) = [if G 12 k = 1 then 44 else if G 12 k = 2 then 59 else 58] ++ wMk (G 12 k) 58 4 := by
      have dv : G 12 k = 1 ∨ G 12 k = 2 ∨ G 12 k = 3 ∨ G 12 k = 4 := by omega
      rcases dv with d | d | d | d <;> rw [d] <;> decide
    by_cases d : G 12 k = 3 ∧ k + 1 < e ∧ G 11 (k + 1) = 5 ∧ 3 ≤ G 12 (k + 1)
    · obtain ⟨t1, t2, t3, t4, t5, t6⟩ := hs (k + 1) (by omega) (by omega)
      have e2 : F 8 ((k + 1) * 2 + 1) = G 12 (k + 1) := by rw [t1.2]; unfold svl; rw [if_neg (by omega), if_neg (by omega)]
      have x : (if (5 - 1 : Int) = 4 ∧ G 12 k = 3 ∧ k + 1 < e ∧ F 8 ((k + 1) * 2 + 0) = 4 ∧ 3 ≤ F 8 ((k + 1) * 2 + 1) then (1 : Int) else 0) = 1 := if_pos ⟨by decide, d.1, d.2.1, by rw [t1.1]; omega, by rw [e2]; exact d.2.2.2⟩
      rw [x, if_pos d, bars, d.1]
      decide
    · have x : (if (5 - 1 : Int) = 4 ∧ G 12 k = 3 ∧ k + 1 < e ∧ F 8 ((k + 1) * 2 + 0) = 4 ∧ 3 ≤ F 8 ((k + 1) * 2 + 1) then (1 : Int) else 0) = 0 := by
        refine if_neg ?_
        intro z
        obtain ⟨t1, t2, t3, t4, t5, t6⟩ := hs (k + 1) (by omega) (by omega)
        have z5 : G 11 (k + 1) = 5 := by have := z.2.2.2.1; rw [t1.1] at this; omega
        have e2 : F 8 ((k + 1) * 2 + 1) = G 12 (k + 1) := by rw [t1.2]; unfold svl; rw [if_neg (by omega), if_neg (by omega)]
        exact d ⟨z.2.1, z.2.2.1, z5, by have := z.2.2.2.2; rw [e2] at this; exact this⟩
      rw [x, if_neg d, bars]
      exact List.append_nil _
  · rw [c]
    rfl
theorem sgs_of {N : Nat → Int} {F : Nat → Int → Int} {K : Nat → Int} {G : Nat → Int → Int} (h4 : N 4 = K 15) (hs : SgW F K G) (hn : NtW F K G) {e : Int} (he : e ≤ K 10) : ∀ (m : Nat) (j : Int), 0 ≤ j → j + m = e → wSgs N F e m j = mSgs G e m j := by
  intro m
  induction m with
  | zero => intro j _ _; rfl
  | succ m ih =>
    intro j h0 h1
    rw [wSgs, mSgs, ← List.append_assoc, sgn_of h4 hs hn ⟨h0, by omega⟩ he, ih (j + 1) (by omega) (by omega)]
theorem let_of {F : Nat → Int → Int} {G : Nat → Int → Int} {s a : Int} : ∀ (m : Nat) (i : Int), (∀ k : Int, i ≤ k → k < i + m → F 2 (a + k) = G 2 (G 4 s + k)) → wLet F m (a + i) = mLet G s m i := by
  intro m
  induction m with
  | zero => intro i _; rfl
  | succ m ih =>
    intro i h
    rw [wLet, mLet, h i (by omega) (by omega), show a + i + 1 = a + (i + 1) by omega, ih (i + 1) (fun k q0 q1 => h k (by omega) (by omega))]
    rfl
def SyW (N : Nat → Int) (F : Nat → Int → Int) (K : Nat → Int) (G : Nat → Int → Int) : Prop :=
  ∀ s : Int, 0 ≤ s → s < K 3 → (F 3 (s * 9 + 0) = G 8 s ∧ F 3 (s * 9 + 1) = G 5 s ∧ F 3 (s * 9 + 3) = G 7 s ∧ F 3 (s * 9 + 7) = G 9 s ∧ F 3 (s * 9 + 8) = G 9 (s + 1) - G 9 s) ∧ (0 ≤ F 3 (s * 9 + 6) ∧ F 3 (s * 9 + 6) + G 5 s ≤ N 2 ∧ 0 ≤ G 5 s ∧ 0 ≤ G 4 s ∧ G 4 s + G 5 s ≤ 1500) ∧ (∀ i : Int, 0 ≤ i → i < G 5 s → F 2 (F 3 (s * 9 + 6) + i) = G 2 (G 4 s + i)) ∧ (0 ≤ G 9 s ∧ G 9 s ≤ G 9 (s + 1) ∧ G 9 (s + 1) ≤ K 10)
theorem sy_of {N : Nat → Int} {F : Nat → Int → Int} {K : Nat → Int} {G : Nat → Int → Int} (h4 : N 4 = K 15) (hs : SgW F K G) (hn : NtW F K G) (hy : SyW N F K G) {s : Int} (h0 : 0 ≤ s ∧ s < K 3) : wSy N F s = mSy G s := by
  obtain ⟨a, b, c, d⟩ := hy s h0.1 h0.2
  unfold wSy mSy
  have e1 : wBl F s = mBl G s := by
    unfold wBl mBl
    by_cases q : 0 < s
    · have a' := (hy (s - 1) (by omega) (by omega)).1.1
      rw [a.1, a']
      by_cases r : G 8 s = G 8 (s - 1)
      · rw [if_neg (fun z => z.2 r.symm), if_neg (fun z => z.2 r)]
      · rw [if_pos ⟨q, fun z => r z.symm⟩, if_pos ⟨q, r⟩]
    · rw [if_neg (fun z => q z.1), if_neg (fun z => q z.1)]
  have e2 : wLs F s = mLs G s := by
    unfold wLs mLs
    rw [a.2.1]
    have := let_of (F := F) (G := G) (s := s) (a := F 3 (s * 9 + 6)) (G 5 s).toNat 0 (fun k z0 z1 => c k z0 (by omega))
    rw [Int.add_zero] at this
    exact this
  have e3 : wBk N F s = mBk G s := by
    unfold wBk mBk
    rw [a.2.2.1]
    by_cases q : G 7 s = 1
    · rw [if_pos q, if_pos q]
      unfold wSs mSs
      rw [a.2.2.2.1, a.2.2.2.2, show G 9 s + (G 9 (s + 1) - G 9 s) = G 9 (s + 1) by omega, sgs_of h4 hs hn d.2.2 _ _ d.1 (by omega)]
    · rw [if_neg q, if_neg q]
  rw [e1, e2, e3]
theorem sc_of {N : Nat → Int} {F : Nat → Int → Int} {K : Nat → Int} {G : Nat → Int → Int} (h4 : N 4 = K 15) (hs : SgW F K G) (hn : NtW F K G) (hy : SyW N F K G) : ∀ (m : Nat) (s : Int), 0 ≤ s → s + m ≤ K 3 → wSc N F m s = mSc G m s := by
  intro m
  induction m with
  | zero => intro s _ _; rfl
  | succ m ih =>
    intro s h0 h1
    rw [wSc, mSc, sy_of h4 hs hn hy ⟨h0, by omega⟩, ih (s + 1) (by omega) (by omega)]
theorem tx_of {N : Nat → Int} {F : Nat → Int → Int} {K : Nat → Int} {G : Nat → Int → Int} (h3 : N 3 = K 3) (p3 : 0 ≤ K 3) (h4 : N 4 = K 15) (hs : SgW F K G) (hn : NtW F K G) (hy : SyW N F K G) : wTx N F = mTx K G := by
  unfold wTx mTx
  rw [h3]
  exact sc_of h4 hs hn hy _ _ (Int.le_refl 0) (by omega)
theorem sylOK_of {N : Nat → Int} {F : Nat → Int → Int} {K : Nat → Int} {G : Nat → Int → Int} (h4 : N 4 = K 15) (h8 : N 8 = K 10) (hs : SgW F K G) (hy : SyW N F K G) {s : Int} (h0 : 0 ≤ s ∧ s < K 3) : sylOK N F s := by
  obtain ⟨a, b, c, d⟩ := hy s h0.1 h0.2
  unfold sylOK
  rw [a.2.1, a.2.2.2.1, a.2.2.2.2, h8]
  refine ⟨b.1, b.2.2.1, b.2.1, fun _ => ⟨d.1, by omega, by omega, fun i z0 z1 => ?_⟩⟩
  obtain ⟨s1, s2, s3, s4, s5, s6⟩ := hs i (by omega) (by omega)
  unfold sgnOK
  rw [s1.1, s1.2]
  have dj : G 11 i = 1 ∨ G 11 i = 2 ∨ G 11 i = 3 ∨ G 11 i = 4 ∨ G 11 i = 5 ∨ G 11 i = 6 := by omega
  rcases dj with q | q | q | q | q | q
  · have w := s6 q
    refine Or.inl ⟨by omega, ?_⟩
    unfold svl
    rw [if_pos q, h4]
    exact ⟨w.1, w.2.1⟩
  · exact Or.inr (Or.inl (by omega))
  · exact Or.inr (Or.inr (Or.inl (by omega)))
  · exact Or.inr (Or.inr (Or.inr (Or.inl (by omega))))
  · refine Or.inr (Or.inr (Or.inr (Or.inr (Or.inl ⟨by omega, ?_⟩))))
    unfold svl
    rw [if_neg (by omega), if_neg (by omega)]
    exact s5 q
  · exact Or.inr (Or.inr (Or.inr (Or.inr (Or.inr (by omega)))))
theorem syR_of {N : Nat → Int} {F : Nat → Int → Int} {K : Nat → Int} {G : Nat → Int → Int} (p15 : K 15 ≤ 150) (p10 : K 10 ≤ 300) (hs : SgW F K G) (hy : SyW N F K G) {s : Int} (h0 : 0 ≤ s ∧ s < K 3) : syR G s := by
  obtain ⟨a, b, c, d⟩ := hy s h0.1 h0.2
  refine ⟨b.2.2.2.1, b.2.2.1, b.2.2.2.2, d.1, d.2.1, by omega, fun j z0 z1 => ?_⟩
  obtain ⟨s1, s2, s3, s4, s5, s6⟩ := hs j z0 (by omega)
  exact ⟨fun q => ⟨(s6 q).1, by have := (s6 q).2.1; omega⟩, fun q => ⟨s3.1, by omega⟩, s5, s2.1, s2.2⟩
