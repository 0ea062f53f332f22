/-! the length of the text written anew, sign by sign -/
def Ag (G G' : Nat → Int → Int) (e : Int) : Prop := ∀ k : Int, 0 ≤ k → k < e → G' 11 k = G 11 k ∧ G' 12 k = G 12 k ∧ G' 13 k = G 13 k ∧ (G 11 k = 1 → G' 17 (G 13 k) = G 17 (G 13 k) ∧ G' 19 (G 13 k) = G 19 (G 13 k))
theorem ip_c {G G' : Nat → Int → Int} {e k : Int} (h : Ag G G' e) (hk : 0 ≤ k ∧ k < e) (h1 : G 11 k = 1) : ∀ (m : Nat) (j : Int), 0 ≤ j → j + m ≤ e → ipL G' k m j = ipL G k m j := by
  have a := h k hk.1 hk.2
  intro m
  induction m with
  | zero => intro j _ _; rfl
  | succ m ih =>
    intro j h0 hm
    have b := h j h0 (by omega)
    rw [ipL, ipL, b.1, b.2.2.1, a.2.2.1, ih (j + 1) (by omega) (by omega), (a.2.2.2 h1).2]
    by_cases c : G 11 j = 1
    · rw [if_pos c, if_pos c, (b.2.2.2 c).2]
    · rw [if_neg c, if_neg c]
theorem nt_c {G G' : Nat → Int → Int} {e k : Int} (h : Ag G G' e) (hk : 0 ≤ k ∧ k < e) (h1 : G 11 k = 1) : mNt G' k = mNt G k := by
  have a := h k hk.1 hk.2
  unfold mNt
  rw [a.2.1, a.2.2.1, (a.2.2.2 h1).1]
theorem sgn_c {G G' : Nat → Int → Int} {e k : Int} (h : Ag G G' e) (hk : 0 ≤ k ∧ k < e) : mSgn G' k e = mSgn G k e := by
  have a := h k hk.1 hk.2
  unfold mSgn
  rw [a.1]
  by_cases c : G 11 k = 1
  · rw [if_pos c, if_pos c, ip_c h hk c _ _ (by omega) (by omega), nt_c h hk c]
  · rw [if_neg c, if_neg c, a.2.1]
    by_cases d : k + 1 < e
    · have b := h (k + 1) (by omega) d
      rw [b.1, b.2.1]
    · have x : ∀ (p r : Prop), (G 12 k = 3 ∧ k + 1 < e ∧ p ∧ r) = False := fun p r => propext ⟨fun q => d q.2.1, False.elim⟩
      simp only [x]
theorem sgs_c {G G' : Nat → Int → Int} {e : Int} (h : Ag G G' e) : ∀ (m : Nat) (j : Int), 0 ≤ j → j + m ≤ e → mSgs G' e m j = mSgs G e m j := by
  intro m
  induction m with
  | zero => intro j _ _; rfl
  | succ m ih =>
    intro j h0 hm
    rw [mSgs, mSgs, sgn_c h ⟨h0, by omega⟩, ih (j + 1) (by omega) (by omega)]
theorem mLet_c {G G' : Nat → Int → Int} {s : Int} (h2 : G' 2 = G 2) (h4 : G' 4 s = G 4 s) : ∀ (m : Nat) (i : Int), mLet G' s m i = mLet G s m i := by
  intro m
  induction m with
  | zero => intro i; rfl
  | succ m ih => intro i; rw [mLet, mLet, ih, h2, h4]
theorem mLet_l {G : Nat → Int → Int} {s : Int} : ∀ (m : Nat) (i : Int), (mLet G s m i).length = m := by
  intro m
  induction m with
  | zero => intro i; rfl
  | succ m ih => intro i; rw [mLet, List.length_append, ih]; show 1 + m = m + 1; omega
def AgS (G G' : Nat → Int → Int) (s : Int) : Prop := G' 8 s = G 8 s ∧ (0 < s → G' 8 (s - 1) = G 8 (s - 1)) ∧ G' 5 s = G 5 s ∧ G' 4 s = G 4 s ∧ G' 7 s = G 7 s ∧ G' 9 s = G 9 s ∧ G' 9 (s + 1) = G 9 (s + 1)
theorem mBl_c {G G' : Nat → Int → Int} {s : Int} (h : AgS G G' s) : mBl G' s = mBl G s := by
  unfold mBl
  by_cases q : 0 < s
  · rw [h.1, h.2.1 q]
  · rw [if_neg (fun z => q z.1), if_neg (fun z => q z.1)]
theorem mSy_c {G G' : Nat → Int → Int} {s : Int} (h : AgS G G' s) (h2 : G' 2 = G 2) (ha : Ag G G' (G 9 (s + 1))) (h0 : 0 ≤ G 9 s ∧ G 9 s ≤ G 9 (s + 1)) : mSy G' s = mSy G s := by
  unfold mSy
  rw [mBl_c h]
  have e2 : mLs G' s = mLs G s := by unfold mLs; rw [h.2.2.1, mLet_c h2 h.2.2.2.1]
  have e3 : mBk G' s = mBk G s := by
    unfold mBk
    rw [h.2.2.2.2.1]
    unfold mSs
    rw [h.2.2.2.2.2.1, h.2.2.2.2.2.2, sgs_c ha _ _ h0.1 (by omega)]
  rw [e2, e3]
theorem mSc_s {G : Nat → Int → Int} : ∀ (m : Nat) (s : Int), mSc G (m + 1) s = mSc G m s ++ mSy G (s + m) := by
  intro m
  induction m with
  | zero => intro s; rw [mSc, mSc, mSc, show s + ((0 : Nat) : Int) = s by omega]; exact List.append_nil _
  | succ m ih =>
    intro s
    rw [mSc, ih (s + 1), ← List.append_assoc]
    rw [show s + 1 + (m : Int) = s + ((m + 1 : Nat) : Int) by omega]
    rfl
theorem mSc_c {G G' : Nat → Int → Int} : ∀ (m : Nat) (s : Int), (∀ i : Int, s ≤ i → i < s + m → mSy G' i = mSy G i) → mSc G' m s = mSc G m s := by
  intro m
  induction m with
  | zero => intro s _; rfl
  | succ m ih =>
    intro s h
    rw [mSc, mSc, h s (by omega) (by omega), ih (s + 1) (fun i a b => h i (by omega) (by omega))]
/-- the length but for the last syllable, and the last syllable -/
theorem tx_last {K : Nat → Int} {G : Nat → Int → Int} (h3 : 0 < K 3) : ((mTx K G).length : Int) = (mSc G (K 3 - 1).toNat 0).length + (mSy G (K 3 - 1)).length := by
  unfold mTx
  rw [show (K 3).toNat = (K 3 - 1).toNat + 1 by omega, mSc_s, List.length_append, show (0 : Int) + ((K 3 - 1).toNat : Int) = K 3 - 1 by omega]
  omega
theorem sy_len {G : Nat → Int → Int} {s : Int} (h5 : 0 ≤ G 5 s) : ((mSy G s).length : Int) = (mBl G s).length + G 5 s + (mBk G s).length := by
  unfold mSy
  rw [List.length_append, List.length_append]
  unfold mLs
  rw [mLet_l]
  omega
theorem bk_1 {G : Nat → Int → Int} {s : Int} (h7 : G 7 s = 1) : ((mBk G s).length : Int) = 2 + (mSs G s).length := by
  unfold mBk
  rw [if_pos h7, List.length_append, List.length_append]
  show ((1 + ((mSs G s).length + 1) : Nat) : Int) = _
  omega
theorem bk_0 {G : Nat → Int → Int} {s : Int} (h7 : ¬ G 7 s = 1) : (mBk G s).length = 0 := by
  unfold mBk
  rw [if_neg h7]
  rfl
theorem bl_r {G : Nat → Int → Int} {s : Int} : ((mBl G s).length : Int) = if 0 < s ∧ ¬ G 8 s = G 8 (s - 1) then 1 else 0 := by
  unfold mBl
  split <;> rfl
/-! a sign appended -/
def AllA (G : Nat → Int → Int) (a b : Int) : Prop := ∀ i : Int, a ≤ i → i < b → G 11 i = 2 ∨ G 11 i = 3
theorem ip_end {G : Nat → Int → Int} {k : Int} : ∀ (m : Nat) (j : Int), AllA G j (j + m) → ipL G k m j = 0 := by
  intro m
  induction m with
  | zero => intro j _; rfl
  | succ m ih =>
    intro j h
    have a := h j (by omega) (by omega)
    rw [ipL, if_neg (by omega), if_neg (by omega)]
    exact ih (j + 1) (fun i b c => h i (by omega) (by omega))
theorem ip_app {G : Nat → Int → Int} {k : Int} : ∀ (m : Nat) (j : Int), AllA G j (j + m) → ipL G k (m + 1) j = ipL G k 1 (j + m) := by
  intro m
  induction m with
  | zero => intro j _; rw [show j + ((0 : Nat) : Int) = j by omega]
  | succ m ih =>
    intro j h
    have a := h j (by omega) (by omega)
    rw [ipL, if_neg (by omega), if_neg (by omega), ih (j + 1) (fun i b c => h i (by omega) (by omega)), show j + 1 + (m : Int) = j + ((m + 1 : Nat) : Int) by omega]
theorem ip_stop {G : Nat → Int → Int} {k : Int} : ∀ (m : Nat) (j : Int), ¬ AllA G j (j + m) → (∀ i : Int, j ≤ i → i < j + m → 1 ≤ G 11 i) → ipL G k (m + 1) j = ipL G k m j := by
  intro m
  induction m with
  | zero => intro j h _; exact absurd (fun i a b => by omega) h
  | succ m ih =>
    intro j h hr
    have u : ∀ m : Nat, ipL G k (m + 1) j = if G 11 j = 1 then (if G 19 (G 13 j) = G 19 (G 13 k) then 0 else 1) else if 4 ≤ G 11 j then 0 else ipL G k m (j + 1) := fun _ => rfl
    rw [u (m + 1), u m]
    by_cases c : G 11 j = 1
    · rw [if_pos c, if_pos c]
    · rw [if_neg c, if_neg c]
      by_cases d : 4 ≤ G 11 j
      · rw [if_pos d, if_pos d]
      · rw [if_neg d, if_neg d]
        have r := hr j (by omega) (by omega)
        refine ih (j + 1) (fun q => h (fun i a b => ?_)) (fun i a b => hr i (by omega) (by omega))
        by_cases z : i = j
        · rw [z]; omega
        · exact q i (by omega) (by omega)
theorem sgn_app {G G' : Nat → Int → Int} {e k X : Int} (h : Ag G G' e) (hk : 0 ≤ k ∧ k < e) (hr : ∀ i : Int, 0 ≤ i → i < e → 1 ≤ G 11 i) (hX0 : 0 ≤ X)
    (hX : AllA G (k + 1) e → ((G 11 k = 1 ∧ G' 11 e = 1 ∧ ¬ G' 19 (G' 13 e) = G 19 (G 13 k)) ∨ (G 11 k = 5 ∧ G 12 k = 3 ∧ k + 1 = e ∧ G' 11 e = 5 ∧ 3 ≤ G' 12 e)) → 1 ≤ X) :
    ((mSgn G' k (e + 1)).length : Int) ≤ (mSgn G k e).length + X ∧ ((¬ AllA G (k + 1) e ∨ G 11 k = 2 ∨ G 11 k = 3) → ((mSgn G' k (e + 1)).length : Int) ≤ (mSgn G k e).length) := by
  have a := h k hk.1 hk.2
  have em : (e + 1 - (k + 1)).toNat = (e - (k + 1)).toNat + 1 := by omega
  have ej : k + 1 + ((e - (k + 1)).toNat : Int) = e := by omega
  by_cases c1 : G 11 k = 1
  · -- a note
    have L1 : mSgn G' k (e + 1) = if ipL G' k ((e - (k + 1)).toNat + 1) (k + 1) = 0 then mNt G k else mNt G k ++ [47] := by
      unfold mSgn
      rw [a.1, if_pos c1, em, nt_c h hk c1]
    have L0 : mSgn G k e = if ipL G k (e - (k + 1)).toNat (k + 1) = 0 then mNt G k else mNt G k ++ [47] := by
      unfold mSgn
      rw [if_pos c1]
    have AA : AllA G' (k + 1) e ↔ AllA G (k + 1) e := by
      constructor
      · intro q i b d
        have := q i b d
        rw [(h i (by omega) d).1] at this
        exact this
      · intro q i b d
        rw [(h i (by omega) d).1]
        exact q i b d
    by_cases A : AllA G (k + 1) e
    · have i0 : ipL G k (e - (k + 1)).toNat (k + 1) = 0 := ip_end _ _ (by rw [ej]; exact A)
      have i1 : ipL G' k ((e - (k + 1)).toNat + 1) (k + 1) = ipL G' k 1 e := by rw [ip_app _ _ (by rw [ej]; exact AA.mpr A), ej]
      rw [L1, L0, i0, if_pos rfl, i1]
      refine ⟨?_, fun q => ?_⟩
      · by_cases z : ipL G' k 1 e = 0
        · rw [if_pos z]; omega
        · rw [if_neg z, List.length_append]
          have : 1 ≤ X := by
            refine hX A (Or.inl ?_)
            rw [ipL] at z
            by_cases y : G' 11 e = 1
            · rw [if_pos y] at z
              refine ⟨c1, y, fun w => z ?_⟩
              rw [if_pos (by rw [w, a.2.2.1, (a.2.2.2 c1).2])]
            · rw [if_neg y] at z
              by_cases x : 4 ≤ G' 11 e
              · rw [if_pos x] at z; exact absurd rfl z
              · rw [if_neg x, ipL] at z; exact absurd rfl z
          show (((mNt G k).length + 1 : Nat) : Int) ≤ _
          omega
      · rcases q with q | q | q
        · exact absurd A q
        · omega
        · omega
    · have i1 : ipL G' k ((e - (k + 1)).toNat + 1) (k + 1) = ipL G' k (e - (k + 1)).toNat (k + 1) := ip_stop _ _ (by rw [ej]; exact fun q => A (AA.mp q)) (fun i b d => by rw [(h i (by omega) (by omega)).1]; exact hr i (by omega) (by omega))
      rw [L1, L0, i1, ip_c h hk c1 _ _ (by omega) (by omega)]
      exact ⟨by omega, fun _ => by omega⟩
  · by_cases c5 : G 11 k = 5
    · have L1 : mSgn G' k (e + 1) = if (G 12 k = 3 ∧ k + 1 < e + 1 ∧ G' 11 (k + 1) = 5 ∧ 3 ≤ G' 12 (k + 1)) then [58] ++ wMk (G 12 k) 58 4 ++ [47] else [if G 12 k = 1 then 44 else if G 12 k = 2 then 59 else 58] ++ wMk (G 12 k) 58 4 := by
        unfold mSgn
        rw [a.1, a.2.1, if_neg c1, if_neg (by omega), if_neg (by omega), if_neg (by omega), if_pos c5]
      have L0 : mSgn G k e = if (G 12 k = 3 ∧ k + 1 < e ∧ G 11 (k + 1) = 5 ∧ 3 ≤ G 12 (k + 1)) then [58] ++ wMk (G 12 k) 58 4 ++ [47] else [if G 12 k = 1 then 44 else if G 12 k = 2 then 59 else 58] ++ wMk (G 12 k) 58 4 := by
        unfold mSgn
        rw [if_neg c1, if_neg (by omega), if_neg (by omega), if_neg (by omega), if_pos c5]
      by_cases d : k + 1 < e
      · have b := h (k + 1) (by omega) d
        have : (G 12 k = 3 ∧ k + 1 < e + 1 ∧ G' 11 (k + 1) = 5 ∧ 3 ≤ G' 12 (k + 1)) ↔ (G 12 k = 3 ∧ k + 1 < e ∧ G 11 (k + 1) = 5 ∧ 3 ≤ G 12 (k + 1)) := by rw [b.1, b.2.1]; omega
        rw [L1, L0]
        by_cases y : G 12 k = 3 ∧ k + 1 < e ∧ G 11 (k + 1) = 5 ∧ 3 ≤ G 12 (k + 1)
        · rw [if_pos (this.mpr y), if_pos y]
          exact ⟨by omega, fun _ => by omega⟩
        · rw [if_neg (fun q => y (this.mp q)), if_neg y]
          exact ⟨by omega, fun _ => by omega⟩
      · have ek : k + 1 = e := by omega
        have L0' : mSgn G k e = [if G 12 k = 1 then 44 else if G 12 k = 2 then 59 else 58] ++ wMk (G 12 k) 58 4 := by rw [L0, if_neg (fun q => d q.2.1)]
        rw [L1, L0', ek]
        by_cases z : G 12 k = 3 ∧ e < e + 1 ∧ G' 11 e = 5 ∧ 3 ≤ G' 12 e
        · have x1 : 1 ≤ X := hX (fun i b d => by omega) (Or.inr ⟨c5, z.1, ek, z.2.2.1, z.2.2.2⟩)
          rw [if_pos z]
          refine ⟨?_, fun q => ?_⟩
          · simp only [List.length_append, List.length_cons, List.length_nil]
            omega
          · rcases q with q | q | q
            · exact absurd (fun i b d => by omega) q
            · omega
            · omega
        · rw [if_neg z]
          exact ⟨by omega, fun _ => by omega⟩
    · have e1 : mSgn G' k (e + 1) = mSgn G k e := by
        unfold mSgn
        rw [a.1, a.2.1, if_neg c1, if_neg c1]
        by_cases c2 : G 11 k = 2
        · rw [if_pos c2, if_pos c2]
        · rw [if_neg c2, if_neg c2]
          by_cases c3 : G 11 k = 3
          · rw [if_pos c3, if_pos c3]
          · rw [if_neg c3, if_neg c3]
            by_cases c4 : G 11 k = 4
            · rw [if_pos c4, if_pos c4]
            · rw [if_neg c4, if_neg c4, if_neg c5, if_neg c5]
      rw [e1]
      exact ⟨by omega, fun _ => by omega⟩
theorem sgs_app {G G' : Nat → Int → Int} {e X : Int} (h : Ag G G' e) (hr : ∀ i : Int, 0 ≤ i → i < e → 1 ≤ G 11 i) (hX0 : 0 ≤ X) {a : Int} (ha : 0 ≤ a)
    (hX : ∀ k : Int, a ≤ k → k < e → AllA G (k + 1) e → ((G 11 k = 1 ∧ G' 11 e = 1 ∧ ¬ G' 19 (G' 13 e) = G 19 (G 13 k)) ∨ (G 11 k = 5 ∧ G 12 k = 3 ∧ k + 1 = e ∧ G' 11 e = 5 ∧ 3 ≤ G' 12 e)) → 1 ≤ X) :
    ∀ (m : Nat) (j : Int), a ≤ j → j + m = e → ((mSgs G' (e + 1) m j).length : Int) ≤ (mSgs G e m j).length + X ∧ (AllA G j e → ((mSgs G' (e + 1) m j).length : Int) ≤ (mSgs G e m j).length) := by
  intro m
  induction m with
  | zero => intro j _ _; exact ⟨by show (0 : Int) ≤ 0 + X; omega, fun _ => Int.le_refl _⟩
  | succ m ih =>
    intro j h0 hm
    obtain ⟨t1, t2⟩ := ih (j + 1) (by omega) (by omega)
    obtain ⟨s1, s2⟩ := sgn_app h ⟨by omega, by omega⟩ hr hX0 (hX j h0 (by omega))
    rw [mSgs, mSgs, List.length_append, List.length_append]
    refine ⟨?_, fun A => ?_⟩
    · by_cases A : AllA G (j + 1) e
      · have := t2 A
        omega
      · have := s2 (Or.inl A)
        omega
    · have := t2 (fun i b c => A i (by omega) c)
      have := s2 (Or.inr (A j (by omega) (by omega)))
      omega
theorem sgs_snoc {G : Nat → Int → Int} {e : Int} : ∀ (m : Nat) (j : Int), mSgs G e (m + 1) j = mSgs G e m j ++ mSgn G (j + m) e := by
  intro m
  induction m with
  | zero => intro j; rw [mSgs, mSgs, mSgs, show j + ((0 : Nat) : Int) = j by omega]; exact List.append_nil _
  | succ m ih =>
    intro j
    rw [mSgs, ih (j + 1), ← List.append_assoc, show j + 1 + (m : Int) = j + ((m + 1 : Nat) : Int) by omega]
    rfl
