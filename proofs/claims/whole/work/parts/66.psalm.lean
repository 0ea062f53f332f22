/-! a verse fitted: class and reference -/
def T47 (G : Nat → Int → Int) : Prop := ∀ t h i : Int, 1 ≤ t → t ≤ 8 → 0 ≤ h → h ≤ 1 → 0 ≤ i → i ≤ 8 → G 47 (18 * (t - 1) + 9 * h + i) = cc t h i
def T46 (G : Nat → Int → Int) : Prop := ∀ t k : Int, 1 ≤ t → t ≤ 8 → 0 ≤ k → k ≤ 1 → G 46 (2 * (t - 1) + k) = cel ((t - 1) * 20 + k)
theorem acc_of {f g : Int → Int} : ∀ m : Nat, (∀ i : Int, 0 ≤ i → i < m → f i = g i) → accB f m = if 0 ≤ accU g m then accU g m else -100 := by
  intro m
  induction m with
  | zero => intro _; rfl
  | succ m ih =>
    intro h
    have e := ih (fun i a b => h i a (by omega))
    rw [accB, accU, h m (by omega) (by omega)]
    by_cases c : g m = 1
    · rw [if_pos c, if_pos c, if_pos (by omega)]
    · rw [if_neg c, if_neg c, e]
theorem cl_of {K : Nat → Int} {G : Nat → Int → Int} (h7 : T47 G) (hk : 1 ≤ K 43 ∧ K 43 ≤ 8) {h i : Int} (hh : 0 ≤ h ∧ h ≤ 1) (hi : 0 ≤ i ∧ i ≤ 8) : clM K G h i = cc (K 43) h i := h7 _ _ _ hk.1 hk.2 hh.1 hh.2 hi.1 hi.2
theorem last_of {f g : Int → Int} {n : Int} (hn : 0 < n) (h : ∀ i : Int, 0 ≤ i → i < n → f i = g i) : lastP f n = lsP g n := by
  unfold lastP lsP
  rw [acc_of n.toNat (fun i a b => h i a (by omega))]
  have r := accU_r g n.toNat
  by_cases c : 0 ≤ accU g n.toNat
  · rw [if_pos c, if_neg (by omega), if_pos c]
  · rw [if_neg c, if_neg c, if_pos rfl]
    by_cases d : n = 1
    · rw [if_pos d, if_pos (by omega)]
    · rw [if_neg d, if_neg (by omega)]
theorem first_of {f g : Int → Int} {l : Int} (h : ∀ i : Int, 0 ≤ i → i < l → f i = g i) : firstP f l = if 0 ≤ onM g 1 l then onM g 1 l else -100 := by
  have o1 : onM g 1 l = if 0 ≤ accU g l.toNat then accU g l.toNat else l - 2 := by unfold onM; rw [if_neg (show ¬ (1 : Int) = 0 by decide)]
  unfold firstP
  rw [acc_of l.toNat (fun i a b => h i a (by omega)), o1]
  have r := accU_r g l.toNat
  by_cases c : 0 ≤ accU g l.toNat
  · rw [if_pos c, if_neg (by omega), if_pos c, if_pos c]
  · rw [if_neg c, if_pos rfl, if_neg c]
    by_cases d : 2 ≤ l
    · rw [if_pos d, if_pos (by omega)]
    · rw [if_neg d, if_neg (by omega)]
set_option maxHeartbeats 2000000 in
theorem fit_of {I : Nat → Int} {f : Int → Int} {K : Nat → Int} {G : Nat → Int → Int} {n t h : Int} (h7 : T47 G) (h6 : T46 G) (hk : 1 ≤ K 43 ∧ K 43 ≤ 8) (hh : 0 ≤ h ∧ h ≤ 1) (hn : n = G 45 h) (n0 : 0 ≤ n) (ht : t = K 43) (hf : ∀ i : Int, 0 ≤ i → i < n → f i = ptF G h i) :
    (if 0 < n then fitM (fitI I f n t h) n else 0) = fitK K G h 51 ∧ (if fitI I f n t h 14 = 0 then (0 : Int) else 1) = (if fitK K G h 50 = 0 then 0 else 1) ∧ fitI I f n t h 15 = fitK K G h 48 ∧ fitI I f n t h 16 = fitK K G h 49 ∧
    (∀ k : Int, 0 ≤ k → k < fitK K G h 51 → byP (fitI I f n t h) n k = byN (fitK K G h) G h n (opn h) (clM K G h 0) (fmM h (clM K G h 0) (oM K G h) (lM G h)) k) := by
  by_cases z : n = 0
  · have e45 : G 45 h = 0 := by omega
    have eK : fitK K G h = k0M K := by funext k; unfold fitK; rw [if_pos e45]
    have eI : fitI I f n t h = ft0 I t h := by funext k; unfold fitI; rw [if_neg (by omega)]
    rw [eK, eI, if_neg (by omega)]
    refine ⟨rfl, rfl, rfl, rfl, fun k a b => ?_⟩
    have b : k < 0 := b
    omega
  · have np : 0 < n := by omega
    have e45 : ¬ G 45 h = 0 := by omega
    have el : lastP f n = lM G h := by rw [last_of np hf]; unfold lM; rw [hn]
    have lr := lastP_r (f := f) np
    have c0 := cl_of h7 hk hh (i := 0) (by decide)
    have c3 := cl_of h7 hk hh (i := 3) (by decide)
    have c4 := cl_of h7 hk hh (i := 4) (by decide)
    have c5 := cl_of h7 hk hh (i := 5) (by decide)
    have c6 := cl_of h7 hk hh (i := 6) (by decide)
    have c7 := cl_of h7 hk hh (i := 7) (by decide)
    have c8 := cl_of h7 hk hh (i := 8) (by decide)
    have r0 := cc_r (K 43) h 0
    have or := opn_r h
    generalize hl : lM G h = l at *
    generalize hpr : cc (K 43) h 0 = pr at *
    -- the reference
    have K51 : fitK K G h 51 = if l = n - 1 then n + 1 else n := by unfold fitK; rw [if_neg e45, hl, ← hn]; rfl
    have K50 : fitK K G h 50 = shM h pr (oM K G h) := by unfold fitK; rw [if_neg e45, c0]; rfl
    have K48 : fitK K G h 48 = fiM h pr (twM K G h) (oM K G h) := by unfold fitK; rw [if_neg e45, c0]; rfl
    have K49 : fitK K G h 49 = l := by unfold fitK; rw [if_neg e45, hl]; rfl
    have K43 : fitK K G h 43 = K 43 := by unfold fitK; rw [if_neg e45]; rfl
    have clK : ∀ i : Int, clM (fitK K G h) G h i = clM K G h i := by intro i; unfold clM; rw [K43]
    have o46 : ∀ k : Int, 0 ≤ k → k ≤ 1 → G 46 (2 * (fitK K G h 43 - 1) + k) = cel ((K 43 - 1) * 20 + k) := by intro k a b; rw [K43]; exact h6 _ _ hk.1 hk.2 a b
    have otw : oM K G h = onM (ptF G h) (twM K G h) l := by unfold oM; rw [hl]
    -- the class
    have eI : fitI I f n t h = chI (plI (ft0 I t h) f n) := by funext k; unfold fitI; rw [if_pos np]
    have P17 : plI (ft0 I t h) f n 17 = K 43 := by rw [plI_e (by decide) (by decide), ← ht]; rfl
    have P18 : plI (ft0 I t h) f n 18 = h := by rw [plI_e (by decide) (by decide)]; rfl
    have P16 : plI (ft0 I t h) f n 16 = l := by unfold plI; split <;> exact el
    have two : cc (K 43) h 3 = 2 ↔ twM K G h = 1 := by unfold twM; rw [c3]; split <;> omega
    have P15 : plI (ft0 I t h) f n 15 = if cc (K 43) h 3 = 2 then firstP f l else -100 := by
      have e1 : cc (ft0 I t h 17) (ft0 I t h 18) 3 = cc (K 43) h 3 := by rw [← ht]; rfl
      unfold plI
      rw [e1]
      by_cases q : cc (K 43) h 3 = 2
      · rw [if_pos q, if_pos q, el]; rfl
      · rw [if_neg q, if_neg q]; rfl
    have fo := first_of (f := f) (g := ptF G h) (l := l) (fun i a b => hf i a (by omega))
    generalize hP : plI (ft0 I t h) f n = P at *
    generalize ho : oM K G h = o at *
    -- short or not
    have sh : shr P ↔ shM h pr o = 1 := by
      unfold shr frs shM
      rw [P15, P16, P17, P18, hpr]
      by_cases q : cc (K 43) h 3 = 2
      · have tw1 := two.mp q
        rw [tw1] at otw
        rw [if_pos q, fo, ← otw]
        by_cases y : 0 ≤ o
        · rw [if_pos y, if_neg (by omega)]
          by_cases x : o < opn h + pr + 1
          · rw [if_pos (Or.inr x)]; exact ⟨fun _ => rfl, fun _ => Or.inr x⟩
          · rw [if_neg (by omega)]; exact ⟨fun w => by omega, fun w => absurd w (by decide)⟩
        · rw [if_neg y, if_pos (Or.inl (by omega))]; exact ⟨fun _ => rfl, fun _ => Or.inl ⟨q, rfl⟩⟩
      · have tw0 : twM K G h = 0 := by unfold twM; rw [c3, if_neg q]
        have ol : o = l := by rw [otw, tw0]; unfold onM; rw [if_pos rfl]
        rw [if_neg q, if_pos rfl, ol]
        by_cases x : l < opn h + pr + 1
        · rw [if_pos (Or.inr x)]; exact ⟨fun _ => rfl, fun _ => Or.inr x⟩
        · rw [if_neg (by omega)]; exact ⟨fun w => by omega, fun w => absurd w (by decide)⟩
    have sr : shM h pr o = 0 ∨ shM h pr o = 1 := by unfold shM; split <;> omega
    by_cases s : shM h pr o = 1
    · -- short
      have eC : chI P = uN (uN (uN (uN P 14 1) 15 (-100)) 19 0) 20 0 := chI_s (sh.mpr s)
      have fi : fiM h pr (twM K G h) o = -100 := by unfold fiM; rw [if_neg (by omega)]
      have fm : fmM h (clM K G h 0) o l = l := by rw [c0]; unfold fmM; rw [if_neg (by omega)]
      rw [eI, eC, if_pos np, K51, K50, K48, K49, s, fi, fm]
      refine ⟨?_, rfl, rfl, P16, ?_⟩
      · unfold fitM
        show (if P 16 = n - 1 then n + 1 else n) = _
        rw [P16]
      · intro k a b
        unfold byP byN
        rw [K49, clK, c8]
        show (if k < n - 1 ∨ (k = n - 1 ∧ P 16 = n - 1) then stp (uN (uN (uN (uN P 14 1) 15 (-100)) 19 0) 20 0) k else cc (P 17) (P 18) 8) = _
        rw [P16, P17, P18]
        by_cases x : k < n - 1 ∨ (k = n - 1 ∧ l = n - 1)
        · rw [if_pos x, if_neg (by omega)]
          unfold stp byM frs
          show (if k = P 16 then cc (P 17) (P 18) 6 else if P 16 < k then cc (P 17) (P 18) 7 else if k = (if (-100 : Int) = -100 then P 16 else -100) then cc (P 17) (P 18) 4 else if (if (-100 : Int) = -100 then P 16 else -100) < k then cc (P 17) (P 18) 5 else if (if (-100 : Int) = -100 then P 16 else -100) - 0 ≤ k then cc (P 17) (P 18) (1 + (k - ((if (-100 : Int) = -100 then P 16 else -100) - 0))) else if k < 0 then cel ((P 17 - 1) * 20 + k) else 0) = _
          rw [P16, P17, P18, K49, K48, K50, clK, clK, clK, clK, clK, c6, c7, c4, c5, fi, s, if_pos rfl]
          by_cases y1 : k = l
          · simp only [if_pos y1]
          simp only [if_neg y1]
          by_cases y2 : l < k
          · simp only [if_pos y2]
          simp only [if_neg y2]
          rw [if_neg (by omega), if_neg (by omega), if_neg (show ¬ k = -100 by omega), if_neg (fun w => absurd w.1 (by decide)), if_neg (fun w => absurd w.1 (by decide))]
        · rw [if_neg x, if_pos (by omega)]
    · -- long
      have s0 : shM h pr o = 0 := by omega
      have eC : chI P = uN (uN (uN P 14 0) 19 (opn (P 18))) 20 (cc (P 17) (P 18) 0) := chI_l (fun w => s (sh.mp w))
      have fm : fmM h (clM K G h 0) o l = o := by rw [c0]; unfold fmM; rw [if_pos s0]
      have og : 0 ≤ o ∧ opn h + pr + 1 ≤ o := by unfold shM at s0; omega
      have e15 : P 15 = fiM h pr (twM K G h) o := by
        rw [P15]
        unfold fiM
        by_cases q : cc (K 43) h 3 = 2
        · have tw1 := two.mp q
          rw [tw1] at otw ⊢
          rw [if_pos q, fo, ← otw, if_pos og.1, if_pos ⟨by decide, s0⟩]
        · have tw0 : twM K G h = 0 := by unfold twM; rw [c3, if_neg q]
          rw [if_neg q, if_neg (fun w => w.1 tw0)]
      have efr : (if P 15 = -100 then P 16 else P 15) = o := by
        rw [e15, P16]
        by_cases q : twM K G h = 0
        · have e1 : fiM h pr (twM K G h) o = -100 := by unfold fiM; rw [if_neg (fun w => w.1 q)]
          rw [e1, if_pos rfl, otw, q]; unfold onM; rw [if_pos rfl]
        · have e1 : fiM h pr (twM K G h) o = o := by unfold fiM; rw [if_pos ⟨q, s0⟩]
          rw [e1, if_neg (by omega)]
      rw [eI, eC, if_pos np, K51, K50, K48, K49, s0, fm]
      refine ⟨?_, rfl, e15, P16, ?_⟩
      · unfold fitM
        show (if P 16 = n - 1 then n + 1 else n) = _
        rw [P16]
      · intro k a b
        unfold byP byN
        rw [K49, clK, c8]
        show (if k < n - 1 ∨ (k = n - 1 ∧ P 16 = n - 1) then stp (uN (uN (uN P 14 0) 19 (opn (P 18))) 20 (cc (P 17) (P 18) 0)) k else cc (P 17) (P 18) 8) = _
        rw [P16, P17, P18]
        by_cases x : k < n - 1 ∨ (k = n - 1 ∧ l = n - 1)
        · rw [if_pos x, if_neg (by omega)]
          unfold stp byM frs
          show (if k = P 16 then cc (P 17) (P 18) 6 else if P 16 < k then cc (P 17) (P 18) 7 else if k = (if P 15 = -100 then P 16 else P 15) then cc (P 17) (P 18) 4 else if (if P 15 = -100 then P 16 else P 15) < k then cc (P 17) (P 18) 5 else if (if P 15 = -100 then P 16 else P 15) - cc (K 43) h 0 ≤ k then cc (P 17) (P 18) (1 + (k - ((if P 15 = -100 then P 16 else P 15) - cc (K 43) h 0))) else if k < opn h then cel ((P 17 - 1) * 20 + k) else 0) = _
          rw [efr, P16, P17, P18, K49, K48, K50, clK, clK, clK, clK, clK, c6, c7, c4, c5, c0, hpr, s0]
          by_cases y1 : k = l
          · rw [if_pos y1, if_pos y1]
          rw [if_neg y1, if_neg y1]
          by_cases y2 : l < k
          · rw [if_pos y2, if_pos y2]
          rw [if_neg y2, if_neg y2]
          have fi48 : k = fiM h pr (twM K G h) o ↔ k = o := by
            unfold fiM
            by_cases q : twM K G h = 0
            · have ol : o = l := by rw [otw, q]; unfold onM; rw [if_pos rfl]
              rw [if_neg (fun w => w.1 q)]; omega
            · rw [if_pos ⟨q, s0⟩]
          by_cases y3 : k = o
          · rw [if_pos y3, if_pos (fi48.mpr y3)]
          rw [if_neg y3, if_neg (fun w => y3 (fi48.mp w))]
          by_cases y4 : o < k
          · rw [if_pos y4, if_pos y4]
          rw [if_neg y4, if_neg y4]
          by_cases y5 : o - pr ≤ k
          · rw [if_pos y5, if_pos ⟨rfl, y5⟩, cl_of h7 hk hh (i := 1 + k - (o - pr)) (by omega), show 1 + (k - (o - pr)) = 1 + k - (o - pr) by omega]
          rw [if_neg y5, if_neg (show ¬ ((0 : Int) = 0 ∧ o - pr ≤ k) from fun w => y5 w.2)]
          by_cases y6 : k < opn h
          · rw [if_pos y6, if_pos ⟨rfl, y6⟩, o46 k a (by omega)]
          · rw [if_neg y6, if_neg (fun w => y6 w.2)]
        · rw [if_neg x, if_pos (by omega)]
