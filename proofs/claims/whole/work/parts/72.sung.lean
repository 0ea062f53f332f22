/-! half, sung, write -/
theorem hpr_of {K : Nat → Int} {G : Nat → Int → Int} (h7 : T47 G) (hk : 1 ≤ K 43 ∧ K 43 ≤ 8) {h : Int} (hh : 0 ≤ h ∧ h ≤ 1) : 0 ≤ clM K G h 0 ∧ clM K G h 0 ≤ 2 := by
  rw [cl_of h7 hk hh (by decide)]
  have key : ∀ t : Nat, t < 8 → ∀ x : Nat, x < 2 → 0 ≤ tabC.getD (t * 20 + (2 + x * 9 + 0)) 0 ∧ tabC.getD (t * 20 + (2 + x * 9 + 0)) 0 ≤ 2 := by decide +kernel
  have k := key (K 43 - 1).toNat (by omega) h.toNat (by omega)
  have e : cc (K 43) h 0 = tabC.getD ((K 43 - 1).toNat * 20 + (2 + h.toNat * 9 + 0)) 0 := by
    show tabC.getD ((K 43 - 1) * 20 + (2 + h * 9 + 0)).toNat 0 = _
    rw [show ((K 43 - 1) * 20 + (2 + h * 9 + 0)).toNat = (K 43 - 1).toNat * 20 + (2 + h.toNat * 9 + 0) by omega]
  rw [e]
  exact k
theorem pr_half {I N : Nat → Int} {F : Nat → Int → Int} {K : Nat → Int} {G : Nat → Int → Int} (h : GI I N F K G) {a b : Int} (ha : -2147483648 ≤ a ∧ a < 2147483648) (hb : -2147483648 ≤ b ∧ b < 2147483648) : Pr (rm 6 134 0 0) (rm 2 53 0 0) mX8_half mX9_half [J a, J b] I N F K G := by
  obtain ⟨⟨hF, hI, hN, hG, hK, hM⟩, ⟨t34, t40, t41, t42, t46, t47⟩, hP, hB, hO, ⟨s1, s2, s3, s4, s5⟩, hC⟩ := id h
  have n10 : 0 ≤ N 10 ∧ N 10 ≤ 40 := hN.2.2.2.2.2.2.2.2.2.2.1
  have n11 : 0 ≤ N 11 ∧ N 11 ≤ 40 := hN.2.2.2.2.2.2.2.2.2.2.2.1
  have hk : 1 ≤ K 43 ∧ K 43 ≤ 8 := hM.2.2.2.2.2.2.2.2.2.2
  have hT : 1 ≤ I 13 ∧ I 13 ≤ 8 := by omega
  by_cases c : (a = 0 ∨ a = 1) ∧ 0 ≤ b ∧ b ≤ 3
  · have dj : b = 0 ∨ b = 1 ∨ b = 2 ∨ b = 3 := by omega
    rcases c.1 with c0 | c1
    · subst c0
      have ft := fit_of (I := I) (f := F 10) (n := N 10) (t := I 13) (h := 0) t47 t46 hk (by decide) s2 n10.1 s1 s4
      have hp := hpr_of (K := K) (h := 0) t47 hk (by decide)
      have fr := fitI_r (I := I) (f := F 10) (n := N 10) (t := I 13) (h := 0) hI n10 hT (by decide)
      rcases dj with e | e | e | e <;> subst e
      · exact pr_fit (f := F 10) h (by decide) s2 n10 s4 (x_half0_0 hF hI hN hT) (fun _ _ _ => q_half0_0 hG hK hM (by omega) hp) (fun m g on by1 e _ _ _ => e) (fun m g q _ => by omega)
      · exact pr_fit (f := F 10) h (by decide) s2 n10 s4 (x_half0_1 hF hI hN hT) (fun _ _ _ => q_half0_1 hG hK hM (by omega) hp) (fun m g on by1 e _ _ _ => ft.2.1) (fun m g q _ => by split <;> decide)
      · exact pr_fit (f := F 10) h (by decide) s2 n10 s4 (x_half0_2 hF hI hN hT) (fun _ _ _ => q_half0_2 hG hK hM (by omega) hp) (fun m g on by1 e _ _ _ => ft.2.2.1) (fun m g q _ => fr 15)
      · exact pr_fit (f := F 10) h (by decide) s2 n10 s4 (x_half0_3 hF hI hN hT) (fun _ _ _ => q_half0_3 hG hK hM (by omega) hp) (fun m g on by1 e _ _ _ => ft.2.2.2.1) (fun m g q _ => fr 16)
    · subst c1
      have ft := fit_of (I := I) (f := F 11) (n := N 11) (t := I 13) (h := 1) t47 t46 hk (by decide) s3 n11.1 s1 s5
      have hp := hpr_of (K := K) (h := 1) t47 hk (by decide)
      have fr := fitI_r (I := I) (f := F 11) (n := N 11) (t := I 13) (h := 1) hI n11 hT (by decide)
      rcases dj with e | e | e | e <;> subst e
      · exact pr_fit (f := F 11) h (by decide) s3 n11 s5 (x_half1_0 hF hI hN hT) (fun _ _ _ => q_half1_0 hG hK hM (by omega) hp) (fun m g on by1 e _ _ _ => e) (fun m g q _ => by omega)
      · exact pr_fit (f := F 11) h (by decide) s3 n11 s5 (x_half1_1 hF hI hN hT) (fun _ _ _ => q_half1_1 hG hK hM (by omega) hp) (fun m g on by1 e _ _ _ => ft.2.1) (fun m g q _ => by split <;> decide)
      · exact pr_fit (f := F 11) h (by decide) s3 n11 s5 (x_half1_2 hF hI hN hT) (fun _ _ _ => q_half1_2 hG hK hM (by omega) hp) (fun m g on by1 e _ _ _ => ft.2.2.1) (fun m g q _ => fr 15)
      · exact pr_fit (f := F 11) h (by decide) s3 n11 s5 (x_half1_3 hF hI hN hT) (fun _ _ _ => q_half1_3 hG hK hM (by omega) hp) (fun m g on by1 e _ _ _ => ft.2.2.2.1) (fun m g q _ => fr 16)
  · exact pr_dd (x_half_out hF hI hN ha hb c) (q_half_out hG hK hM ha hb c) rfl (by decide) h
theorem pr_sung {I N : Nat → Int} {F : Nat → Int → Int} {K : Nat → Int} {G : Nat → Int → Int} (h : GI I N F K G) {a k b : Int} (ha : -2147483648 ≤ a ∧ a < 2147483648) (hk0 : -2147483648 ≤ k ∧ k < 2147483648) (hb : -2147483648 ≤ b ∧ b < 2147483648) : Pr (rm 6 134 0 0) (rm 2 53 0 0) mX8_sung mX9_sung [J a, J k, J b] I N F K G := by
  obtain ⟨⟨hF, hI, hN, hG, hK, hM⟩, ⟨t34, t40, t41, t42, t46, t47⟩, hP, hB, hO, ⟨s1, s2, s3, s4, s5⟩, hC⟩ := id h
  have n10 : 0 ≤ N 10 ∧ N 10 ≤ 40 := hN.2.2.2.2.2.2.2.2.2.2.1
  have n11 : 0 ≤ N 11 ∧ N 11 ≤ 40 := hN.2.2.2.2.2.2.2.2.2.2.2.1
  have hk : 1 ≤ K 43 ∧ K 43 ≤ 8 := hM.2.2.2.2.2.2.2.2.2.2
  have hT : 1 ≤ I 13 ∧ I 13 ≤ 8 := by omega
  have v0 : ∀ {x : Int} (m : Int) (g on by1 : Int → Int), m = fitK K G x 51 → (∀ i : Int, 0 ≤ i → i < m → on i = g (i * 2 + 0) ∧ by1 i = g (i * 2 + 1)) → (if 0 ≤ k ∧ k < m then g (k * 2 + 0) else -100) = (if 0 ≤ k ∧ k < fitK K G x 51 then on k else -100) := by
    intro x m g on by1 e q
    rw [← e]
    by_cases z : 0 ≤ k ∧ k < m
    · rw [if_pos z, if_pos z, (q k z.1 z.2).1]
    · rw [if_neg z, if_neg z]
  have v1 : ∀ {x : Int} (m : Int) (g on by1 : Int → Int), m = fitK K G x 51 → (∀ i : Int, 0 ≤ i → i < m → on i = g (i * 2 + 0) ∧ by1 i = g (i * 2 + 1)) → (if 0 ≤ k ∧ k < m then g (k * 2 + 1) else -100) = (if 0 ≤ k ∧ k < fitK K G x 51 then by1 k else -100) := by
    intro x m g on by1 e q
    rw [← e]
    by_cases z : 0 ≤ k ∧ k < m
    · rw [if_pos z, if_pos z, (q k z.1 z.2).2]
    · rw [if_neg z, if_neg z]
  by_cases c : (a = 0 ∨ a = 1) ∧ 0 ≤ b ∧ b ≤ 1
  · have dj : b = 0 ∨ b = 1 := by omega
    rcases c.1 with c0 | c1
    · subst c0
      have hp := hpr_of (K := K) (h := 0) t47 hk (by decide)
      rcases dj with e | e <;> subst e
      · exact pr_fit (f := F 10) h (by decide) s2 n10 s4 (x_sung0_0 hF hI hN hT hk0) (fun _ _ _ => q_sung0_0 hG hK hM (by omega) hp hk0) (fun m g on by1 e _ _ q => v0 m g on by1 e q) (fun m g _ q => by split <;> first | exact q _ | decide)
      · exact pr_fit (f := F 10) h (by decide) s2 n10 s4 (x_sung0_1 hF hI hN hT hk0) (fun _ _ _ => q_sung0_1 hG hK hM (by omega) hp hk0) (fun m g on by1 e _ _ q => v1 m g on by1 e q) (fun m g _ q => by split <;> first | exact q _ | decide)
    · subst c1
      have hp := hpr_of (K := K) (h := 1) t47 hk (by decide)
      rcases dj with e | e <;> subst e
      · exact pr_fit (f := F 11) h (by decide) s3 n11 s5 (x_sung1_0 hF hI hN hT hk0) (fun _ _ _ => q_sung1_0 hG hK hM (by omega) hp hk0) (fun m g on by1 e _ _ q => v0 m g on by1 e q) (fun m g _ q => by split <;> first | exact q _ | decide)
      · exact pr_fit (f := F 11) h (by decide) s3 n11 s5 (x_sung1_1 hF hI hN hT hk0) (fun _ _ _ => q_sung1_1 hG hK hM (by omega) hp hk0) (fun m g on by1 e _ _ q => v1 m g on by1 e q) (fun m g _ q => by split <;> first | exact q _ | decide)
  · exact pr_dd (x_sung_out hF hI hN ha hb c) (q_sung_out hG hK hM ha hb c) rfl (by decide) h
/-! write -/
def inR (a : Int) : Prop := -2147483648 ≤ a ∧ a < 2147483648
def allR (l : List Int) : Prop := ∀ a ∈ l, -2147483648 ≤ a ∧ a < 2147483648
theorem allR_n : allR [] := fun a h => absurd h List.not_mem_nil
theorem allR_1 {x : Int} (h : -2147483648 ≤ x ∧ x < 2147483648) : allR [x] := fun a q => by rw [List.mem_singleton.mp q]; exact h
theorem allR_a {l m : List Int} (h1 : allR l) (h2 : allR m) : allR (l ++ m) := fun a q => by
  rcases List.mem_append.mp q with q | q
  · exact h1 a q
  · exact h2 a q
theorem wMk_R {m c b : Int} (h : -2147483648 ≤ c ∧ c < 2147483648) : allR (wMk m c b) := by
  unfold wMk
  split
  · exact allR_n
  · exact allR_1 h
theorem mNt_R {G : Nat → Int → Int} {k : Int} (h : 0 ≤ G 12 k ∧ G 12 k ≤ 14) : allR (mNt G k) := by
  unfold mNt
  exact allR_a (allR_a (allR_a (allR_a (allR_a (allR_1 (by omega)) (wMk_R (by decide))) (wMk_R (by decide))) (wMk_R (by decide))) (wMk_R (by decide))) (wMk_R (by decide))
theorem mSgn_R {G : Nat → Int → Int} {k e : Int} (h : 0 ≤ G 12 k ∧ G 12 k ≤ 14) : allR (mSgn G k e) := by
  unfold mSgn
  split
  · split
    · exact mNt_R h
    · exact allR_a (mNt_R h) (allR_1 (by decide))
  split
  · exact allR_a (allR_1 (by omega)) (allR_1 (by decide))
  split
  · exact allR_a (allR_1 (by omega)) (allR_1 (by decide))
  split
  · split
    · exact allR_a (allR_1 (by decide)) (allR_1 (by omega))
    · exact allR_a (allR_1 (by decide)) (allR_1 (by omega))
  split
  · split
    · exact allR_a (allR_a (allR_1 (by decide)) (wMk_R (by decide))) (allR_1 (by decide))
    · refine allR_a (allR_1 ?_) (wMk_R (by decide))
      split
      · decide
      split <;> decide
  · exact allR_1 (by decide)
theorem mSgs_R {G : Nat → Int → Int} {e : Int} : ∀ (m : Nat) (j : Int), (∀ k : Int, j ≤ k → k < j + m → 0 ≤ G 12 k ∧ G 12 k ≤ 14) → allR (mSgs G e m j) := by
  intro m
  induction m with
  | zero => intro j _; exact allR_n
  | succ m ih =>
    intro j h
    rw [mSgs]
    exact allR_a (mSgn_R (h j (by omega) (by omega))) (ih (j + 1) (fun k a b => h k (by omega) (by omega)))
theorem mLet_R {G : Nat → Int → Int} (hG : FR G) {s : Int} : ∀ (m : Nat) (i : Int), allR (mLet G s m i) := by
  intro m
  induction m with
  | zero => intro i; exact allR_n
  | succ m ih => intro i; rw [mLet]; exact allR_a (allR_1 (hG _ _)) (ih (i + 1))
theorem mSc_R {N : Nat → Int} {F : Nat → Int → Int} {K : Nat → Int} {G : Nat → Int → Int} (hG : FR G) (hs : SgW F K G) (hy : SyW N F K G) : ∀ (m : Nat) (s : Int), 0 ≤ s → s + m ≤ K 3 → allR (mSc G m s) := by
  intro m
  induction m with
  | zero => intro s _ _; exact allR_n
  | succ m ih =>
    intro s h0 h1
    obtain ⟨a, b, c, d⟩ := hy s h0 (by omega)
    rw [mSc]
    refine allR_a ?_ (ih (s + 1) (by omega) (by omega))
    unfold mSy
    refine allR_a ?_ (allR_a (mLet_R hG _ _) ?_)
    · unfold mBl
      split
      · exact allR_1 (by decide)
      · exact allR_n
    · unfold mBk
      split
      · refine allR_a (allR_1 (by decide)) (allR_a (mSgs_R _ _ (fun k x y => (hs k (by omega) (by omega)).2.2.1)) (allR_1 (by decide)))
      · exact allR_n
theorem eqT_w {f g : Int → Int} : ∀ (l : List Int) (f g : Int → Int) (n : Int), eqT f g n → eqT (wr f n l) (wr g n l) (n + l.length) := by
  intro l
  induction l with
  | nil => intro f g n h; rw [wr, wr]; show eqT f g (n + ((0 : Nat) : Int)); rw [show n + ((0 : Nat) : Int) = n by omega]; exact h
  | cons a l ih =>
    intro f g n h
    have := ih _ _ (n + 1) (eqT_u (v := a) (w := a) h rfl)
    rw [wr, wr, List.length_cons, show n + ((l.length + 1 : Nat) : Int) = n + 1 + l.length by omega]
    exact this
theorem MR_55 {K : Nat → Int} (h : MR K) {a : Int} (ha : 0 ≤ a ∧ a ≤ 1700) : MR (uN K 55 a) := by
  unfold MR at *
  simp (disch := decide) only [uN_s, uN_n]
  omega
theorem pr_write {I N : Nat → Int} {F : Nat → Int → Int} {K : Nat → Int} {G : Nat → Int → Int} (h : GI I N F K G) : Pr (rm 6 141 0 0) (rm 3 68 0 0) mX8_write mX9_write [] I N F K G := by
  obtain ⟨⟨hF, hI, hN, hG, hK, hM⟩, hT, hP, hB, hO, hS, hC⟩ := id h
  obtain ⟨rs, sg, sy, e8, le⟩ := hC
  obtain ⟨r0, r1, r2, r3, r4, r5⟩ := rs
  have e3 : N 3 = K 3 := r0.2.2.1
  have e4 : N 4 = K 15 := r0.2.2.2.1
  have p3 : 0 ≤ K 3 := hM.2.1.1
  have nt : NtW F K G := fun n a b => ⟨(r2 n a b).1, (r2 n a b).2.1, (r2 n a b).2.2.2.1⟩
  have tx : wTx N F = mTx K G := tx_of e3 p3 e4 sg nt sy
  have al : allR (mTx K G) := by unfold mTx; exact mSc_R hG sg sy _ _ (Int.le_refl 0) (by omega)
  have len : ((mTx K G).length : Int) ≤ 1500 := le
  have x := x_write (T := mdl K G) hF hI hN (fun i a b => sylOK_of e4 e8 sg sy ⟨a, by omega⟩) (by rw [tx]; exact len) (by rw [tx]; exact al)
  rw [tx] at x
  have y := fun (I' N' : Nat → Int) (F' : Nat → Int → Int) => q_write (I := I') (N := N') (F := F') hG hK hM (fun i a b => syR_of hM.2.2.2.1.2 hM.2.2.1.2 sg sy ⟨a, b⟩) (by omega) al
  refine pr_dd x (y _ _ _) rfl (by omega) ⟨⟨FRap hF al, hI, NRap (NR1 hN (by decide)) (by show (0 : Int) + _ ≤ 1500; omega), FRmo hG al, IRmo (hK.up (by decide)) (MR_55 hM (by decide)) (by show (0 : Int) + _ ≤ 1700; omega), MRmo (MR_55 hM (by decide)) (by show (0 : Int) + _ ≤ 1700; omega)⟩, hT, hP, hB, ⟨rfl, ?_⟩, hS, SC_t ⟨⟨r0, r1, r2, r3, r4, r5⟩, sg, sy, e8, le⟩ k0 (k2 (by decide) (k1 (by decide))) (k1 (by decide)) (k2 (by decide) (k1 (by decide))) (k1 (by decide))⟩
  exact eqT_w (f := F 1) (g := G 54) (mTx K G) (F 1) (G 54) 0 (fun i a b => by omega)
