/-! the reference: workOut (printed by wip/tools/gen_m14.py) -/
/-- the flats behind sign k -/
def faM (G : Nat → Int → Int) (fl : Int → Int → Int) (k h : Int) : Int := if G 11 k = 2 then (if h = G 12 k then 1 else fl k h) else if G 11 k = 3 then (if h = G 12 k then 0 else fl k h) else if G 11 k = 4 ∨ G 11 k = 5 then 0 else fl k h
/-- the flats as syllable s stands at sign k -/
def crM (G : Nat → Int → Int) (fl : Int → Int → Int) (wd : Int → Int) (s k h : Int) : Int := if 0 < k ∧ wd (k - 1) = G 8 s then faM G fl (k - 1) h else 0
def stM (v c : Int) : Int := v - (2 * (c % 10) + 1) - (if 9 < c then 4 else 0)
def gdM (a c : Int) : Int := if 0 ≤ a + 2 * (c % 10) + 1 + (if 9 < c then 4 else 0) ∧ a + 2 * (c % 10) + 1 + (if 9 < c then 4 else 0) ≤ 12 then a + 2 * (c % 10) + 1 + (if 9 < c then 4 else 0) else -100
def T34 (G : Nat → Int → Int) : Prop := ∀ i : Int, 0 ≤ i → i < 7 → G 34 i = scI i
theorem scI_r {i : Int} (h : 0 ≤ i ∧ i < 7) : 0 ≤ scI i ∧ scI i ≤ 11 := by
  have key : ∀ n : Nat, n < 7 → 0 ≤ ([0, 2, 4, 5, 7, 9, 11] : List Int).getD n 0 ∧ ([0, 2, 4, 5, 7, 9, 11] : List Int).getD n 0 ≤ 11 := by decide
  exact key i.toNat (by omega)
def WkK (K : Nat → Int) (G : Nat → Int → Int) (nt en cB : Int → Int) (fl : Int → Int → Int) (st sm gd : Int → Int) (k : Int) : Prop :=
  (1 ≤ G 11 k ∧ G 11 k ≤ 6) ∧ (G 11 k ≤ 3 → G 12 k ≤ 12) ∧ (0 ≤ G 12 k ∧ G 12 k ≤ 14) ∧ nt (k + 1) = nt k + (if G 11 k = 1 then 1 else 0) ∧ en (k + 1) = en k + (if G 11 k = 6 then 1 else 0) ∧ G 13 k = nt k ∧ cB (k + 1) = (if G 11 k = 4 then G 12 k else cB k) ∧
  (G 11 k = 1 → st (nt k) = stM (G 12 k) (cB k) ∧ sm (nt k) = 12 * (st (nt k) / 7) + scI (st (nt k) % 7) - fl k (G 12 k)) ∧
  (G 11 k = 6 → gd (en k) = (if nt k < K 15 then gdM (st (nt k)) (cB k) else -100))
def WkR (K : Nat → Int) (nt en cB : Int → Int) (k : Int) : Prop := (0 ≤ nt k ∧ nt k ≤ K 15) ∧ (0 ≤ en k ∧ en k ≤ K 22) ∧ (0 ≤ cB k ∧ cB k ≤ 14)
def WkP (K : Nat → Int) (G : Nat → Int → Int) (nt en cB : Int → Int) (fl : Int → Int → Int) (wd st sm gd : Int → Int) : Prop :=
  (G 9 0 = 0 ∧ G 9 (K 3) = K 10) ∧
  (∀ s : Int, 0 ≤ s → s < K 3 → 0 ≤ G 9 s ∧ G 9 s ≤ G 9 (s + 1) ∧ G 9 (s + 1) ≤ K 10) ∧
  (∀ k : Int, 0 ≤ k → k < K 10 → WkK K G nt en cB fl st sm gd k) ∧
  (∀ k : Int, 0 ≤ k → k ≤ K 10 → WkR K nt en cB k) ∧
  (nt 0 = 0 ∧ en 0 = 0 ∧ cB 0 = 4 ∧ nt (K 10) = K 15 ∧ en (K 10) = K 22) ∧
  (∀ s : Int, 0 ≤ s → s < K 3 → ∀ k : Int, G 9 s ≤ k → k < G 9 (s + 1) → wd k = G 8 s ∧ ∀ h : Int, 0 ≤ h → h ≤ 12 → fl k h = crM G fl wd s k h) ∧
  (∀ s : Int, 0 < s → s < K 3 → ¬ G 8 s = G 8 (s - 1) → 0 < G 9 s → ¬ wd (G 9 s - 1) = G 8 s) ∧
  (∀ k h : Int, 0 ≤ fl k h ∧ fl k h ≤ 1)
def wkG (G : Nat → Int → Int) (a b f : Int → Int) : Nat → Int → Int := uN (uN (uN G 30 a) 31 b) 33 f
theorem wkG_n {G : Nat → Int → Int} {a b f : Int → Int} {t : Nat} (h : t ≠ 30 ∧ t ≠ 31 ∧ t ≠ 33) : wkG G a b f t = G t := by unfold wkG; rw [uN_n h.2.2, uN_n h.2.1, uN_n h.1]
theorem wkG_30 {G : Nat → Int → Int} {a b f : Int → Int} : wkG G a b f 30 = a := rfl
theorem wkG_31 {G : Nat → Int → Int} {a b f : Int → Int} : wkG G a b f 31 = b := rfl
theorem wkG_33 {G : Nat → Int → Int} {a b f : Int → Int} : wkG G a b f 33 = f := rfl
theorem wkG_r {G : Nat → Int → Int} (hG : FR G) {a b f : Int → Int} (h1 : ∀ i, -2147483648 ≤ a i ∧ a i < 2147483648) (h2 : ∀ i, -2147483648 ≤ b i ∧ b i < 2147483648) (h3 : ∀ i, -2147483648 ≤ f i ∧ f i < 2147483648) : FR (wkG G a b f) := ((hG.up h1).up h2).up h3
/-- the state of the first pass, at sign k of syllable s -/
def W1 (G : Nat → Int → Int) (nt : Int → Int) (st sm : Int → Int) (k : Int) (fv : Int → Int) (a b f : Int → Int) : Prop :=
  (∀ i : Int, 0 ≤ i → i < nt k → a i = st i ∧ b i = sm i) ∧ (∀ h : Int, 0 ≤ h → h ≤ 12 → f h = fv h) ∧ (∀ i, -2147483648 ≤ a i ∧ a i < 2147483648) ∧ (∀ i, -2147483648 ≤ b i ∧ b i < 2147483648) ∧ (∀ i, -2147483648 ≤ f i ∧ f i < 2147483648)
set_option maxRecDepth 100000 in
set_option maxHeartbeats 8000000 in
theorem q_w1_in {I N : Nat → Int} {F : Nat → Int → Int} {K : Nat → Int} {G : Nat → Int → Int} (hG : FR G) (hK : IR K) (hM : MR K) {n0 : Nat} {Z : XW → Option Value → Prop} {nt en cB : Int → Int} {fl : Int → Int → Int} {wd st sm gd : Int → Int} (hW : WkP K G nt en cB fl wd st sm gd) (h34 : T34 G) {s : Int} (hs : 0 ≤ s ∧ s < K 3) (hz : ∀ (a b f : Int → Int), W1 G nt st sm (G 9 (s + 1)) (crM G fl wd s (G 9 (s + 1))) a b f → Vd (rm 2 47 0 0) [] mX9_workOut n0 Z 0 0 247 [some (.ref 31), some (J (cB (G 9 (s + 1)))), some (J (nt (G 9 (s + 1)))), some (J (s)), some (J (G 9 (s + 1)))] [] (W2 I N F K (wkG G a b f))) : ∀ (m : Nat) (k : Int) (a b f : Int → Int), G 9 s ≤ k → k + m = G 9 (s + 1) → W1 G nt st sm k (crM G fl wd s k) a b f → Vd (rm 2 47 0 0) [] mX9_workOut n0 Z 0 0 51 [some (.ref 31), some (J (cB k)), some (J (nt k)), some (J (s)), some (J (k))] [] (W2 I N F K (wkG G a b f)) := by
  have hM0 := hM
  unfold MR at hM
  obtain ⟨w1, w2, w3, w4, w5, w6, w7, w8⟩ := hW
  have g9 := w2 s hs.1 hs.2
  intro m
  induction m with
  | zero =>
    intro k a b f h1 h2 hP
    obtain rfl : k = G 9 (s + 1) := by omega
    refine v_iload (dec_of DX9_workOut 32 rfl) rfl ?_
    refine v_aload_n (dec_of DX9_workOut 33 rfl) rfl ?_
    refine v_get fX9_31 (dec_of DX9_workOut 34 rfl) rfl rfl ?_
    try simp (disch := decide) only [uN_s, uN_n, wkG_n, wkG_30, wkG_31, wkG_33]
    refine v_iload_n (dec_of DX9_workOut 35 rfl) rfl ?_
    refine vi_const (dec_of DX9_workOut 36 rfl) ?_
    refine vi_add (dec_of DX9_workOut 37 rfl) ?_
    refine vi_aload (dec_of DX9_workOut 38 rfl) rfl (by first | omega | exact bnd_r _ _ | exact hG _ _ | exact hK _ | (simp (disch := decide) only [uN_s, uN_n]; omega)) (by decide) ?_
    try simp (disch := decide) only [uN_s, uN_n, wkG_n, wkG_30, wkG_31, wkG_33]
    refine vi_icmp_ge (tgt := 247) (dec_of DX9_workOut 39 rfl) (by decide) (by first | omega | exact bnd_r _ _ | exact hG _ _ | exact hK _ | (simp (disch := decide) only [uN_s, uN_n]; omega)) (by first | omega | exact bnd_r _ _ | exact hG _ _ | exact hK _ | (simp (disch := decide) only [uN_s, uN_n]; omega)) (fun c61 => ?_) (fun c61 => absurd c61 (by omega))
    exact hz a b f hP
  | succ m ih =>
    intro k a b f h1 h2 hP
    have hk := w3 k (by omega) (by omega)
    have hr := w4 k (by omega) (by omega)
    have hr1 := w4 (k + 1) (by omega) (by omega)
    obtain ⟨ew, ef⟩ := w6 s hs.1 hs.2 k h1 (by omega)
    unfold WkR at hr hr1
    obtain ⟨k1, k2, k3, k4, k5, k6, k7, k8, k9⟩ := hk
    obtain ⟨p1, p2, p3, p4, p5⟩ := hP
    have hG1 : FR (wkG G a b f) := wkG_r hG p3 p4 p5
    have cr : ∀ h : Int, crM G fl wd s (k + 1) h = faM G fl k h := fun h => by unfold crM; rw [show k + 1 - 1 = k by omega, if_pos ⟨by omega, ew⟩]
    by_cases c1 : G 11 k = 1
    case pos =>
      have eN : nt (k + 1) = nt k + 1 := by rw [k4, if_pos c1]
      have eC : cB (k + 1) = cB k := by rw [k7, if_neg (by omega)]
      obtain ⟨es, em⟩ := k8 c1
      have hv := k2 (by omega)
      have e8 := w8 k (G 12 k)
      have ef2 : f (G 12 k) = fl k (G 12 k) := by rw [p2 _ (by omega) hv, ef _ (by omega) hv]
      have hst : -100 ≤ stM (G 12 k) (cB k) ∧ stM (G 12 k) (cB k) ≤ 100 := by unfold stM; omega
      have hsc := scI_r (i := stM (G 12 k) (cB k) % 7) (by omega)
      have e34 := h34 (stM (G 12 k) (cB k) % 7) (by omega) (by omega)
      refine v_iload (dec_of DX9_workOut 32 rfl) rfl ?_
      refine v_aload_n (dec_of DX9_workOut 33 rfl) rfl ?_
      refine v_get fX9_31 (dec_of DX9_workOut 34 rfl) rfl rfl ?_
      try simp (disch := decide) only [uN_s, uN_n, wkG_n, wkG_30, wkG_31, wkG_33]
      refine v_iload_n (dec_of DX9_workOut 35 rfl) rfl ?_
      refine vi_const (dec_of DX9_workOut 36 rfl) ?_
      refine vi_add (dec_of DX9_workOut 37 rfl) ?_
      refine vi_aload (dec_of DX9_workOut 38 rfl) rfl (by first | omega | exact bnd_r _ _ | exact hG _ _ | exact hK _ | (simp (disch := decide) only [uN_s, uN_n]; omega)) (by decide) ?_
      try simp (disch := decide) only [uN_s, uN_n, wkG_n, wkG_30, wkG_31, wkG_33]
      refine vi_icmp_ge (tgt := 247) (dec_of DX9_workOut 39 rfl) (by decide) (by first | omega | exact bnd_r _ _ | exact hG _ _ | exact hK _ | (simp (disch := decide) only [uN_s, uN_n]; omega)) (by first | omega | exact bnd_r _ _ | exact hG _ _ | exact hK _ | (simp (disch := decide) only [uN_s, uN_n]; omega)) (fun c61 => absurd c61 (by omega)) (fun c61 => ?_)
      refine v_aload_n (dec_of DX9_workOut 40 rfl) rfl ?_
      refine v_get fX9_34 (dec_of DX9_workOut 41 rfl) rfl rfl ?_
      try simp (disch := decide) only [uN_s, uN_n, wkG_n, wkG_30, wkG_31, wkG_33]
      refine v_iload (dec_of DX9_workOut 42 rfl) rfl ?_
      refine vi_aload (dec_of DX9_workOut 43 rfl) rfl (by first | omega | exact bnd_r _ _ | exact hG _ _ | exact hK _ | (simp (disch := decide) only [uN_s, uN_n]; omega)) (by decide) ?_
      try simp (disch := decide) only [uN_s, uN_n, wkG_n, wkG_30, wkG_31, wkG_33]
      refine vi_const (dec_of DX9_workOut 44 rfl) ?_
      refine vi_icmp_ne (tgt := 148) (dec_of DX9_workOut 45 rfl) (by decide) (by first | omega | exact bnd_r _ _ | exact hG _ _ | exact hK _ | (simp (disch := decide) only [uN_s, uN_n]; omega)) (by first | omega | exact bnd_r _ _ | exact hG _ _ | exact hK _ | (simp (disch := decide) only [uN_s, uN_n]; omega)) (fun c72 => absurd c72 (by omega)) (fun c72 => ?_)
      refine v_aload_n (dec_of DX9_workOut 46 rfl) rfl ?_
      refine v_get fX9_59 (dec_of DX9_workOut 47 rfl) rfl rfl ?_
      try simp (disch := decide) only [uN_s, uN_n, wkG_n, wkG_30, wkG_31, wkG_33]
      refine v_iload_n (dec_of DX9_workOut 48 rfl) rfl ?_
      refine v_aload_n (dec_of DX9_workOut 49 rfl) rfl ?_
      refine v_get fX9_37 (dec_of DX9_workOut 50 rfl) rfl rfl ?_
      try simp (disch := decide) only [uN_s, uN_n, wkG_n, wkG_30, wkG_31, wkG_33]
      refine v_iload (dec_of DX9_workOut 51 rfl) rfl ?_
      refine vi_aload (dec_of DX9_workOut 52 rfl) rfl (by first | omega | exact bnd_r _ _ | exact hG _ _ | exact hK _ | (simp (disch := decide) only [uN_s, uN_n]; omega)) (by decide) ?_
      try simp (disch := decide) only [uN_s, uN_n, wkG_n, wkG_30, wkG_31, wkG_33]
      refine v_iload_n (dec_of DX9_workOut 53 rfl) rfl ?_
      refine v_S2r (q_stepOf (by omega)) lX9_216 (dec_of DX9_workOut 54 rfl) (by decide) (nle rfl) rfl ?_
      try simp (disch := decide) only [uN_s, uN_n, wkG_n, wkG_30, wkG_31, wkG_33]
      rw [show G 12 k - (2 * (cB k % 10) + 1) - (if 9 < cB k then 4 else 0) = stM (G 12 k) (cB k) from rfl]
      refine ms_30 (dec_of DX9_workOut 55 rfl) (by first | omega | exact bnd_r _ _ | exact hG _ _ | exact hK _ | (simp (disch := decide) only [uN_s, uN_n]; omega)) ?_
      refine Vd_w (w' := W2 I N F K (wkG G (uI a (nt k) (stM (G 12 k) (cB k))) b f)) rfl ?_
      refine v_aload_n (dec_of DX9_workOut 56 rfl) rfl ?_
      refine v_get fX9_62 (dec_of DX9_workOut 57 rfl) rfl rfl ?_
      try simp (disch := decide) only [uN_s, uN_n, wkG_n, wkG_30, wkG_31, wkG_33]
      refine v_iload_n (dec_of DX9_workOut 58 rfl) rfl ?_
      refine v_aload_n (dec_of DX9_workOut 59 rfl) rfl ?_
      refine v_get fX9_71 (dec_of DX9_workOut 60 rfl) rfl rfl ?_
      try simp (disch := decide) only [uN_s, uN_n, wkG_n, wkG_30, wkG_31, wkG_33]
      refine v_aload_n (dec_of DX9_workOut 61 rfl) rfl ?_
      refine v_get fX9_59 (dec_of DX9_workOut 62 rfl) rfl rfl ?_
      try simp (disch := decide) only [uN_s, uN_n, wkG_n, wkG_30, wkG_31, wkG_33]
      refine v_iload_n (dec_of DX9_workOut 63 rfl) rfl ?_
      refine vi_aload (dec_of DX9_workOut 64 rfl) rfl (by first | omega | exact bnd_r _ _ | exact hG _ _ | exact hK _ | (simp (disch := decide) only [uN_s, uN_n]; omega)) (by decide) ?_
      try simp (disch := decide) only [uN_s, uN_n, wkG_n, wkG_30, wkG_31, wkG_33]
      rw [uI_s]
      refine vi_bi (dec_of DX9_workOut 65 rfl) (by decide) ?_
      refine v_S2r (q_mod (by omega)) lX9_219 (dec_of DX9_workOut 66 rfl) (by decide) (nle rfl) rfl ?_
      try simp (disch := decide) only [uN_s, uN_n, wkG_n, wkG_30, wkG_31, wkG_33]
      refine vi_aload (dec_of DX9_workOut 67 rfl) rfl (by first | omega | exact bnd_r _ _ | exact hG _ _ | exact hK _ | (simp (disch := decide) only [uN_s, uN_n]; omega)) (by decide) ?_
      try simp (disch := decide) only [uN_s, uN_n, wkG_n, wkG_30, wkG_31, wkG_33]
      rw [e34]
      refine vi_bi (dec_of DX9_workOut 68 rfl) (by decide) ?_
      refine v_aload_n (dec_of DX9_workOut 69 rfl) rfl ?_
      refine v_get fX9_59 (dec_of DX9_workOut 70 rfl) rfl rfl ?_
      try simp (disch := decide) only [uN_s, uN_n, wkG_n, wkG_30, wkG_31, wkG_33]
      refine v_iload_n (dec_of DX9_workOut 71 rfl) rfl ?_
      refine vi_aload (dec_of DX9_workOut 72 rfl) rfl (by first | omega | exact bnd_r _ _ | exact hG _ _ | exact hK _ | (simp (disch := decide) only [uN_s, uN_n]; omega)) (by decide) ?_
      try simp (disch := decide) only [uN_s, uN_n, wkG_n, wkG_30, wkG_31, wkG_33]
      rw [uI_s]
      refine vi_bi (dec_of DX9_workOut 73 rfl) (by decide) ?_
      refine v_S2r (q_floor (by omega)) lX9_119 (dec_of DX9_workOut 74 rfl) (by decide) (nle rfl) rfl ?_
      try simp (disch := decide) only [uN_s, uN_n, wkG_n, wkG_30, wkG_31, wkG_33]
      refine vi_mul (dec_of DX9_workOut 75 rfl) ?_
      refine vi_add (dec_of DX9_workOut 76 rfl) ?_
      refine v_aload_n (dec_of DX9_workOut 77 rfl) rfl ?_
      refine v_get fX9_68 (dec_of DX9_workOut 78 rfl) rfl rfl ?_
      try simp (disch := decide) only [uN_s, uN_n, wkG_n, wkG_30, wkG_31, wkG_33]
      refine v_aload_n (dec_of DX9_workOut 79 rfl) rfl ?_
      refine v_get fX9_37 (dec_of DX9_workOut 80 rfl) rfl rfl ?_
      try simp (disch := decide) only [uN_s, uN_n, wkG_n, wkG_30, wkG_31, wkG_33]
      refine v_iload (dec_of DX9_workOut 81 rfl) rfl ?_
      refine vi_aload (dec_of DX9_workOut 82 rfl) rfl (by first | omega | exact bnd_r _ _ | exact hG _ _ | exact hK _ | (simp (disch := decide) only [uN_s, uN_n]; omega)) (by decide) ?_
      try simp (disch := decide) only [uN_s, uN_n, wkG_n, wkG_30, wkG_31, wkG_33]
      refine vi_aload (dec_of DX9_workOut 83 rfl) rfl (by first | omega | exact bnd_r _ _ | exact hG _ _ | exact hK _ | (simp (disch := decide) only [uN_s, uN_n]; omega)) (by decide) ?_
      try simp (disch := decide) only [uN_s, uN_n, wkG_n, wkG_30, wkG_31, wkG_33]
      rw [ef2]
      refine vi_sub (dec_of DX9_workOut 84 rfl) ?_
      refine ms_31 (dec_of DX9_workOut 85 rfl) (by first | omega | exact bnd_r _ _ | exact hG _ _ | exact hK _ | (simp (disch := decide) only [uN_s, uN_n]; omega)) ?_
      refine vi_inc (dec_of DX9_workOut 86 rfl) rfl (by decide) ?_
      dsimp only [List.set]
      refine v_goto (tgt := 241) (dec_of DX9_workOut 87 rfl) (by decide) ?_
      refine vi_inc (dec_of DX9_workOut 139 rfl) rfl (by decide) ?_
      dsimp only [List.set]
      refine v_goto (tgt := 51) (dec_of DX9_workOut 140 rfl) (by decide) ?_
      refine Vd_w (w' := W2 I N F K (wkG G (uI a (nt k) (stM (G 12 k) (cB k))) (uI b (nt k) (scI (stM (G 12 k) (cB k) % 7) + 12 * (stM (G 12 k) (cB k) / 7) - fl k (G 12 k))) (f))) rfl ?_
      have nx := ih (k + 1) (uI a (nt k) (stM (G 12 k) (cB k))) (uI b (nt k) (scI (stM (G 12 k) (cB k) % 7) + 12 * (stM (G 12 k) (cB k) / 7) - fl k (G 12 k))) (f) (by omega) (by omega) ⟨fun i h0 h1 => by
        by_cases e : i = nt k
        · subst e; rw [uI_s, uI_s]; refine ⟨es.symm, ?_⟩; rw [em, es]; omega
        · rw [uI_n e, uI_n e]; exact p1 i h0 (by omega), fun h h0 h1 => by rw [cr, p2 h h0 h1, ← ef h h0 h1, faM, if_neg (by omega), if_neg (by omega), if_neg (by omega)], uI_r p3 (by omega), uI_r p4 (by omega), p5⟩
      rw [eC, eN] at nx
      exact nx
    by_cases c2 : G 11 k = 2
    case pos =>
      have eN : nt (k + 1) = nt k := by rw [k4, if_neg c1]; omega
      have eC : cB (k + 1) = cB k := by rw [k7, if_neg (by omega)]
      have hv := k2 (by omega)
      refine v_iload (dec_of DX9_workOut 32 rfl) rfl ?_
      refine v_aload_n (dec_of DX9_workOut 33 rfl) rfl ?_
      refine v_get fX9_31 (dec_of DX9_workOut 34 rfl) rfl rfl ?_
      try simp (disch := decide) only [uN_s, uN_n, wkG_n, wkG_30, wkG_31, wkG_33]
      refine v_iload_n (dec_of DX9_workOut 35 rfl) rfl ?_
      refine vi_const (dec_of DX9_workOut 36 rfl) ?_
      refine vi_add (dec_of DX9_workOut 37 rfl) ?_
      refine vi_aload (dec_of DX9_workOut 38 rfl) rfl (by first | omega | exact bnd_r _ _ | exact hG _ _ | exact hK _ | (simp (disch := decide) only [uN_s, uN_n]; omega)) (by decide) ?_
      try simp (disch := decide) only [uN_s, uN_n, wkG_n, wkG_30, wkG_31, wkG_33]
      refine vi_icmp_ge (tgt := 247) (dec_of DX9_workOut 39 rfl) (by decide) (by first | omega | exact bnd_r _ _ | exact hG _ _ | exact hK _ | (simp (disch := decide) only [uN_s, uN_n]; omega)) (by first | omega | exact bnd_r _ _ | exact hG _ _ | exact hK _ | (simp (disch := decide) only [uN_s, uN_n]; omega)) (fun c61 => absurd c61 (by omega)) (fun c61 => ?_)
      refine v_aload_n (dec_of DX9_workOut 40 rfl) rfl ?_
      refine v_get fX9_34 (dec_of DX9_workOut 41 rfl) rfl rfl ?_
      try simp (disch := decide) only [uN_s, uN_n, wkG_n, wkG_30, wkG_31, wkG_33]
      refine v_iload (dec_of DX9_workOut 42 rfl) rfl ?_
      refine vi_aload (dec_of DX9_workOut 43 rfl) rfl (by first | omega | exact bnd_r _ _ | exact hG _ _ | exact hK _ | (simp (disch := decide) only [uN_s, uN_n]; omega)) (by decide) ?_
      try simp (disch := decide) only [uN_s, uN_n, wkG_n, wkG_30, wkG_31, wkG_33]
      refine vi_const (dec_of DX9_workOut 44 rfl) ?_
      refine vi_icmp_ne (tgt := 148) (dec_of DX9_workOut 45 rfl) (by decide) (by first | omega | exact bnd_r _ _ | exact hG _ _ | exact hK _ | (simp (disch := decide) only [uN_s, uN_n]; omega)) (by first | omega | exact bnd_r _ _ | exact hG _ _ | exact hK _ | (simp (disch := decide) only [uN_s, uN_n]; omega)) (fun c72 => ?_) (fun c72 => absurd c72 (by omega))
      refine v_aload_n (dec_of DX9_workOut 88 rfl) rfl ?_
      refine v_get fX9_34 (dec_of DX9_workOut 89 rfl) rfl rfl ?_
      try simp (disch := decide) only [uN_s, uN_n, wkG_n, wkG_30, wkG_31, wkG_33]
      refine v_iload (dec_of DX9_workOut 90 rfl) rfl ?_
      refine vi_aload (dec_of DX9_workOut 91 rfl) rfl (by first | omega | exact bnd_r _ _ | exact hG _ _ | exact hK _ | (simp (disch := decide) only [uN_s, uN_n]; omega)) (by decide) ?_
      try simp (disch := decide) only [uN_s, uN_n, wkG_n, wkG_30, wkG_31, wkG_33]
      refine vi_const (dec_of DX9_workOut 92 rfl) ?_
      refine vi_icmp_ne (tgt := 175) (dec_of DX9_workOut 93 rfl) (by decide) (by first | omega | exact bnd_r _ _ | exact hG _ _ | exact hK _ | (simp (disch := decide) only [uN_s, uN_n]; omega)) (by first | omega | exact bnd_r _ _ | exact hG _ _ | exact hK _ | (simp (disch := decide) only [uN_s, uN_n]; omega)) (fun c156 => absurd c156 (by omega)) (fun c156 => ?_)
      refine v_aload_n (dec_of DX9_workOut 94 rfl) rfl ?_
      refine v_get fX9_68 (dec_of DX9_workOut 95 rfl) rfl rfl ?_
      try simp (disch := decide) only [uN_s, uN_n, wkG_n, wkG_30, wkG_31, wkG_33]
      refine v_aload_n (dec_of DX9_workOut 96 rfl) rfl ?_
      refine v_get fX9_37 (dec_of DX9_workOut 97 rfl) rfl rfl ?_
      try simp (disch := decide) only [uN_s, uN_n, wkG_n, wkG_30, wkG_31, wkG_33]
      refine v_iload (dec_of DX9_workOut 98 rfl) rfl ?_
      refine vi_aload (dec_of DX9_workOut 99 rfl) rfl (by first | omega | exact bnd_r _ _ | exact hG _ _ | exact hK _ | (simp (disch := decide) only [uN_s, uN_n]; omega)) (by decide) ?_
      try simp (disch := decide) only [uN_s, uN_n, wkG_n, wkG_30, wkG_31, wkG_33]
      refine vi_const (dec_of DX9_workOut 100 rfl) ?_
      refine ms_33 (dec_of DX9_workOut 101 rfl) (by first | omega | exact bnd_r _ _ | exact hG _ _ | exact hK _ | (simp (disch := decide) only [uN_s, uN_n]; omega)) ?_
      refine v_goto (tgt := 241) (dec_of DX9_workOut 102 rfl) (by decide) ?_
      refine vi_inc (dec_of DX9_workOut 139 rfl) rfl (by decide) ?_
      dsimp only [List.set]
      refine v_goto (tgt := 51) (dec_of DX9_workOut 140 rfl) (by decide) ?_
      refine Vd_w (w' := W2 I N F K (wkG G (a) (b) (uI f (G 12 k) 1))) rfl ?_
      have nx := ih (k + 1) (a) (b) (uI f (G 12 k) 1) (by omega) (by omega) ⟨fun i h0 h1 => p1 i h0 (by omega), fun h h0 h1 => by
        rw [cr, faM, if_pos c2]
        by_cases e : h = G 12 k
        · rw [if_pos e, e, uI_s]
        · rw [if_neg e, uI_n e, p2 h h0 h1, ← ef h h0 h1], p3, p4, uI_r p5 (by decide)⟩
      rw [eC, eN] at nx
      exact nx
    by_cases c3 : G 11 k = 3
    case pos =>
      have eN : nt (k + 1) = nt k := by rw [k4, if_neg c1]; omega
      have eC : cB (k + 1) = cB k := by rw [k7, if_neg (by omega)]
      have hv := k2 (by omega)
      refine v_iload (dec_of DX9_workOut 32 rfl) rfl ?_
      refine v_aload_n (dec_of DX9_workOut 33 rfl) rfl ?_
      refine v_get fX9_31 (dec_of DX9_workOut 34 rfl) rfl rfl ?_
      try simp (disch := decide) only [uN_s, uN_n, wkG_n, wkG_30, wkG_31, wkG_33]
      refine v_iload_n (dec_of DX9_workOut 35 rfl) rfl ?_
      refine vi_const (dec_of DX9_workOut 36 rfl) ?_
      refine vi_add (dec_of DX9_workOut 37 rfl) ?_
      refine vi_aload (dec_of DX9_workOut 38 rfl) rfl (by first | omega | exact bnd_r _ _ | exact hG _ _ | exact hK _ | (simp (disch := decide) only [uN_s, uN_n]; omega)) (by decide) ?_
      try simp (disch := decide) only [uN_s, uN_n, wkG_n, wkG_30, wkG_31, wkG_33]
      refine vi_icmp_ge (tgt := 247) (dec_of DX9_workOut 39 rfl) (by decide) (by first | omega | exact bnd_r _ _ | exact hG _ _ | exact hK _ | (simp (disch := decide) only [uN_s, uN_n]; omega)) (by first | omega | exact bnd_r _ _ | exact hG _ _ | exact hK _ | (simp (disch := decide) only [uN_s, uN_n]; omega)) (fun c61 => absurd c61 (by omega)) (fun c61 => ?_)
      refine v_aload_n (dec_of DX9_workOut 40 rfl) rfl ?_
      refine v_get fX9_34 (dec_of DX9_workOut 41 rfl) rfl rfl ?_
      try simp (disch := decide) only [uN_s, uN_n, wkG_n, wkG_30, wkG_31, wkG_33]
      refine v_iload (dec_of DX9_workOut 42 rfl) rfl ?_
      refine vi_aload (dec_of DX9_workOut 43 rfl) rfl (by first | omega | exact bnd_r _ _ | exact hG _ _ | exact hK _ | (simp (disch := decide) only [uN_s, uN_n]; omega)) (by decide) ?_
      try simp (disch := decide) only [uN_s, uN_n, wkG_n, wkG_30, wkG_31, wkG_33]
      refine vi_const (dec_of DX9_workOut 44 rfl) ?_
      refine vi_icmp_ne (tgt := 148) (dec_of DX9_workOut 45 rfl) (by decide) (by first | omega | exact bnd_r _ _ | exact hG _ _ | exact hK _ | (simp (disch := decide) only [uN_s, uN_n]; omega)) (by first | omega | exact bnd_r _ _ | exact hG _ _ | exact hK _ | (simp (disch := decide) only [uN_s, uN_n]; omega)) (fun c72 => ?_) (fun c72 => absurd c72 (by omega))
      refine v_aload_n (dec_of DX9_workOut 88 rfl) rfl ?_
      refine v_get fX9_34 (dec_of DX9_workOut 89 rfl) rfl rfl ?_
      try simp (disch := decide) only [uN_s, uN_n, wkG_n, wkG_30, wkG_31, wkG_33]
      refine v_iload (dec_of DX9_workOut 90 rfl) rfl ?_
      refine vi_aload (dec_of DX9_workOut 91 rfl) rfl (by first | omega | exact bnd_r _ _ | exact hG _ _ | exact hK _ | (simp (disch := decide) only [uN_s, uN_n]; omega)) (by decide) ?_
      try simp (disch := decide) only [uN_s, uN_n, wkG_n, wkG_30, wkG_31, wkG_33]
      refine vi_const (dec_of DX9_workOut 92 rfl) ?_
      refine vi_icmp_ne (tgt := 175) (dec_of DX9_workOut 93 rfl) (by decide) (by first | omega | exact bnd_r _ _ | exact hG _ _ | exact hK _ | (simp (disch := decide) only [uN_s, uN_n]; omega)) (by first | omega | exact bnd_r _ _ | exact hG _ _ | exact hK _ | (simp (disch := decide) only [uN_s, uN_n]; omega)) (fun c156 => ?_) (fun c156 => absurd c156 (by omega))
      refine v_aload_n (dec_of DX9_workOut 103 rfl) rfl ?_
      refine v_get fX9_34 (dec_of DX9_workOut 104 rfl) rfl rfl ?_
      try simp (disch := decide) only [uN_s, uN_n, wkG_n, wkG_30, wkG_31, wkG_33]
      refine v_iload (dec_of DX9_workOut 105 rfl) rfl ?_
      refine vi_aload (dec_of DX9_workOut 106 rfl) rfl (by first | omega | exact bnd_r _ _ | exact hG _ _ | exact hK _ | (simp (disch := decide) only [uN_s, uN_n]; omega)) (by decide) ?_
      try simp (disch := decide) only [uN_s, uN_n, wkG_n, wkG_30, wkG_31, wkG_33]
      refine vi_const (dec_of DX9_workOut 107 rfl) ?_
      refine vi_icmp_ne (tgt := 202) (dec_of DX9_workOut 108 rfl) (by decide) (by first | omega | exact bnd_r _ _ | exact hG _ _ | exact hK _ | (simp (disch := decide) only [uN_s, uN_n]; omega)) (by first | omega | exact bnd_r _ _ | exact hG _ _ | exact hK _ | (simp (disch := decide) only [uN_s, uN_n]; omega)) (fun c183 => absurd c183 (by omega)) (fun c183 => ?_)
      refine v_aload_n (dec_of DX9_workOut 109 rfl) rfl ?_
      refine v_get fX9_68 (dec_of DX9_workOut 110 rfl) rfl rfl ?_
      try simp (disch := decide) only [uN_s, uN_n, wkG_n, wkG_30, wkG_31, wkG_33]
      refine v_aload_n (dec_of DX9_workOut 111 rfl) rfl ?_
      refine v_get fX9_37 (dec_of DX9_workOut 112 rfl) rfl rfl ?_
      try simp (disch := decide) only [uN_s, uN_n, wkG_n, wkG_30, wkG_31, wkG_33]
      refine v_iload (dec_of DX9_workOut 113 rfl) rfl ?_
      refine vi_aload (dec_of DX9_workOut 114 rfl) rfl (by first | omega | exact bnd_r _ _ | exact hG _ _ | exact hK _ | (simp (disch := decide) only [uN_s, uN_n]; omega)) (by decide) ?_
      try simp (disch := decide) only [uN_s, uN_n, wkG_n, wkG_30, wkG_31, wkG_33]
      refine vi_const (dec_of DX9_workOut 115 rfl) ?_
      refine ms_33 (dec_of DX9_workOut 116 rfl) (by first | omega | exact bnd_r _ _ | exact hG _ _ | exact hK _ | (simp (disch := decide) only [uN_s, uN_n]; omega)) ?_
      refine v_goto (tgt := 241) (dec_of DX9_workOut 117 rfl) (by decide) ?_
      refine vi_inc (dec_of DX9_workOut 139 rfl) rfl (by decide) ?_
      dsimp only [List.set]
      refine v_goto (tgt := 51) (dec_of DX9_workOut 140 rfl) (by decide) ?_
      refine Vd_w (w' := W2 I N F K (wkG G (a) (b) (uI f (G 12 k) 0))) rfl ?_
      have nx := ih (k + 1) (a) (b) (uI f (G 12 k) 0) (by omega) (by omega) ⟨fun i h0 h1 => p1 i h0 (by omega), fun h h0 h1 => by
        rw [cr, faM, if_neg c2, if_pos c3]
        by_cases e : h = G 12 k
        · rw [if_pos e, e, uI_s]
        · rw [if_neg e, uI_n e, p2 h h0 h1, ← ef h h0 h1], p3, p4, uI_r p5 (by decide)⟩
      rw [eC, eN] at nx
      exact nx
    by_cases c6 : G 11 k = 6
    case pos =>
      have eN : nt (k + 1) = nt k := by rw [k4, if_neg c1]; omega
      have eC : cB (k + 1) = cB k := by rw [k7, if_neg (by omega)]
      refine v_iload (dec_of DX9_workOut 32 rfl) rfl ?_
      refine v_aload_n (dec_of DX9_workOut 33 rfl) rfl ?_
      refine v_get fX9_31 (dec_of DX9_workOut 34 rfl) rfl rfl ?_
      try simp (disch := decide) only [uN_s, uN_n, wkG_n, wkG_30, wkG_31, wkG_33]
      refine v_iload_n (dec_of DX9_workOut 35 rfl) rfl ?_
      refine vi_const (dec_of DX9_workOut 36 rfl) ?_
      refine vi_add (dec_of DX9_workOut 37 rfl) ?_
      refine vi_aload (dec_of DX9_workOut 38 rfl) rfl (by first | omega | exact bnd_r _ _ | exact hG _ _ | exact hK _ | (simp (disch := decide) only [uN_s, uN_n]; omega)) (by decide) ?_
      try simp (disch := decide) only [uN_s, uN_n, wkG_n, wkG_30, wkG_31, wkG_33]
      refine vi_icmp_ge (tgt := 247) (dec_of DX9_workOut 39 rfl) (by decide) (by first | omega | exact bnd_r _ _ | exact hG _ _ | exact hK _ | (simp (disch := decide) only [uN_s, uN_n]; omega)) (by first | omega | exact bnd_r _ _ | exact hG _ _ | exact hK _ | (simp (disch := decide) only [uN_s, uN_n]; omega)) (fun c61 => absurd c61 (by omega)) (fun c61 => ?_)
      refine v_aload_n (dec_of DX9_workOut 40 rfl) rfl ?_
      refine v_get fX9_34 (dec_of DX9_workOut 41 rfl) rfl rfl ?_
      try simp (disch := decide) only [uN_s, uN_n, wkG_n, wkG_30, wkG_31, wkG_33]
      refine v_iload (dec_of DX9_workOut 42 rfl) rfl ?_
      refine vi_aload (dec_of DX9_workOut 43 rfl) rfl (by first | omega | exact bnd_r _ _ | exact hG _ _ | exact hK _ | (simp (disch := decide) only [uN_s, uN_n]; omega)) (by decide) ?_
      try simp (disch := decide) only [uN_s, uN_n, wkG_n, wkG_30, wkG_31, wkG_33]
      refine vi_const (dec_of DX9_workOut 44 rfl) ?_
      refine vi_icmp_ne (tgt := 148) (dec_of DX9_workOut 45 rfl) (by decide) (by first | omega | exact bnd_r _ _ | exact hG _ _ | exact hK _ | (simp (disch := decide) only [uN_s, uN_n]; omega)) (by first | omega | exact bnd_r _ _ | exact hG _ _ | exact hK _ | (simp (disch := decide) only [uN_s, uN_n]; omega)) (fun c72 => ?_) (fun c72 => absurd c72 (by omega))
      refine v_aload_n (dec_of DX9_workOut 88 rfl) rfl ?_
      refine v_get fX9_34 (dec_of DX9_workOut 89 rfl) rfl rfl ?_
      try simp (disch := decide) only [uN_s, uN_n, wkG_n, wkG_30, wkG_31, wkG_33]
      refine v_iload (dec_of DX9_workOut 90 rfl) rfl ?_
      refine vi_aload (dec_of DX9_workOut 91 rfl) rfl (by first | omega | exact bnd_r _ _ | exact hG _ _ | exact hK _ | (simp (disch := decide) only [uN_s, uN_n]; omega)) (by decide) ?_
      try simp (disch := decide) only [uN_s, uN_n, wkG_n, wkG_30, wkG_31, wkG_33]
      refine vi_const (dec_of DX9_workOut 92 rfl) ?_
      refine vi_icmp_ne (tgt := 175) (dec_of DX9_workOut 93 rfl) (by decide) (by first | omega | exact bnd_r _ _ | exact hG _ _ | exact hK _ | (simp (disch := decide) only [uN_s, uN_n]; omega)) (by first | omega | exact bnd_r _ _ | exact hG _ _ | exact hK _ | (simp (disch := decide) only [uN_s, uN_n]; omega)) (fun c156 => ?_) (fun c156 => absurd c156 (by omega))
      refine v_aload_n (dec_of DX9_workOut 103 rfl) rfl ?_
      refine v_get fX9_34 (dec_of DX9_workOut 104 rfl) rfl rfl ?_
      try simp (disch := decide) only [uN_s, uN_n, wkG_n, wkG_30, wkG_31, wkG_33]
      refine v_iload (dec_of DX9_workOut 105 rfl) rfl ?_
      refine vi_aload (dec_of DX9_workOut 106 rfl) rfl (by first | omega | exact bnd_r _ _ | exact hG _ _ | exact hK _ | (simp (disch := decide) only [uN_s, uN_n]; omega)) (by decide) ?_
      try simp (disch := decide) only [uN_s, uN_n, wkG_n, wkG_30, wkG_31, wkG_33]
      refine vi_const (dec_of DX9_workOut 107 rfl) ?_
      refine vi_icmp_ne (tgt := 202) (dec_of DX9_workOut 108 rfl) (by decide) (by first | omega | exact bnd_r _ _ | exact hG _ _ | exact hK _ | (simp (disch := decide) only [uN_s, uN_n]; omega)) (by first | omega | exact bnd_r _ _ | exact hG _ _ | exact hK _ | (simp (disch := decide) only [uN_s, uN_n]; omega)) (fun c183 => ?_) (fun c183 => absurd c183 (by omega))
      refine v_aload_n (dec_of DX9_workOut 118 rfl) rfl ?_
      refine v_get fX9_34 (dec_of DX9_workOut 119 rfl) rfl rfl ?_
      try simp (disch := decide) only [uN_s, uN_n, wkG_n, wkG_30, wkG_31, wkG_33]
      refine v_iload (dec_of DX9_workOut 120 rfl) rfl ?_
      refine vi_aload (dec_of DX9_workOut 121 rfl) rfl (by first | omega | exact bnd_r _ _ | exact hG _ _ | exact hK _ | (simp (disch := decide) only [uN_s, uN_n]; omega)) (by decide) ?_
      try simp (disch := decide) only [uN_s, uN_n, wkG_n, wkG_30, wkG_31, wkG_33]
      refine vi_bi (dec_of DX9_workOut 122 rfl) (by decide) ?_
      refine vi_icmp_ge (tgt := 241) (dec_of DX9_workOut 123 rfl) (by decide) (by first | omega | exact bnd_r _ _ | exact hG _ _ | exact hK _ | (simp (disch := decide) only [uN_s, uN_n]; omega)) (by first | omega | exact bnd_r _ _ | exact hG _ _ | exact hK _ | (simp (disch := decide) only [uN_s, uN_n]; omega)) (fun c211 => ?_) (fun c211 => absurd c211 (by omega))
      refine vi_inc (dec_of DX9_workOut 139 rfl) rfl (by decide) ?_
      dsimp only [List.set]
      refine v_goto (tgt := 51) (dec_of DX9_workOut 140 rfl) (by decide) ?_
      refine Vd_w (w' := W2 I N F K (wkG G (a) (b) (f))) rfl ?_
      have nx := ih (k + 1) (a) (b) (f) (by omega) (by omega) ⟨fun i h0 h1 => p1 i h0 (by omega), fun h h0 h1 => by rw [cr, p2 h h0 h1, ← ef h h0 h1, faM, if_neg c2, if_neg c3, if_neg (by omega)], p3, p4, p5⟩
      rw [eC, eN] at nx
      exact nx
    have eN : nt (k + 1) = nt k := by rw [k4, if_neg c1]; omega
    have hun : ∀ i, -2147483648 ≤ clr f 0 13 i ∧ clr f 0 13 i < 2147483648 := fun i => by unfold clr; have := p5 i; split <;> omega
    by_cases c4 : G 11 k = 4
    case pos =>
      have eC : cB (k + 1) = G 12 k := by rw [k7, if_pos c4]
      refine v_iload (dec_of DX9_workOut 32 rfl) rfl ?_
      refine v_aload_n (dec_of DX9_workOut 33 rfl) rfl ?_
      refine v_get fX9_31 (dec_of DX9_workOut 34 rfl) rfl rfl ?_
      try simp (disch := decide) only [uN_s, uN_n, wkG_n, wkG_30, wkG_31, wkG_33]
      refine v_iload_n (dec_of DX9_workOut 35 rfl) rfl ?_
      refine vi_const (dec_of DX9_workOut 36 rfl) ?_
      refine vi_add (dec_of DX9_workOut 37 rfl) ?_
      refine vi_aload (dec_of DX9_workOut 38 rfl) rfl (by first | omega | exact bnd_r _ _ | exact hG _ _ | exact hK _ | (simp (disch := decide) only [uN_s, uN_n]; omega)) (by decide) ?_
      try simp (disch := decide) only [uN_s, uN_n, wkG_n, wkG_30, wkG_31, wkG_33]
      refine vi_icmp_ge (tgt := 247) (dec_of DX9_workOut 39 rfl) (by decide) (by first | omega | exact bnd_r _ _ | exact hG _ _ | exact hK _ | (simp (disch := decide) only [uN_s, uN_n]; omega)) (by first | omega | exact bnd_r _ _ | exact hG _ _ | exact hK _ | (simp (disch := decide) only [uN_s, uN_n]; omega)) (fun c61 => absurd c61 (by omega)) (fun c61 => ?_)
      refine v_aload_n (dec_of DX9_workOut 40 rfl) rfl ?_
      refine v_get fX9_34 (dec_of DX9_workOut 41 rfl) rfl rfl ?_
      try simp (disch := decide) only [uN_s, uN_n, wkG_n, wkG_30, wkG_31, wkG_33]
      refine v_iload (dec_of DX9_workOut 42 rfl) rfl ?_
      refine vi_aload (dec_of DX9_workOut 43 rfl) rfl (by first | omega | exact bnd_r _ _ | exact hG _ _ | exact hK _ | (simp (disch := decide) only [uN_s, uN_n]; omega)) (by decide) ?_
      try simp (disch := decide) only [uN_s, uN_n, wkG_n, wkG_30, wkG_31, wkG_33]
      refine vi_const (dec_of DX9_workOut 44 rfl) ?_
      refine vi_icmp_ne (tgt := 148) (dec_of DX9_workOut 45 rfl) (by decide) (by first | omega | exact bnd_r _ _ | exact hG _ _ | exact hK _ | (simp (disch := decide) only [uN_s, uN_n]; omega)) (by first | omega | exact bnd_r _ _ | exact hG _ _ | exact hK _ | (simp (disch := decide) only [uN_s, uN_n]; omega)) (fun c72 => ?_) (fun c72 => absurd c72 (by omega))
      refine v_aload_n (dec_of DX9_workOut 88 rfl) rfl ?_
      refine v_get fX9_34 (dec_of DX9_workOut 89 rfl) rfl rfl ?_
      try simp (disch := decide) only [uN_s, uN_n, wkG_n, wkG_30, wkG_31, wkG_33]
      refine v_iload (dec_of DX9_workOut 90 rfl) rfl ?_
      refine vi_aload (dec_of DX9_workOut 91 rfl) rfl (by first | omega | exact bnd_r _ _ | exact hG _ _ | exact hK _ | (simp (disch := decide) only [uN_s, uN_n]; omega)) (by decide) ?_
      try simp (disch := decide) only [uN_s, uN_n, wkG_n, wkG_30, wkG_31, wkG_33]
      refine vi_const (dec_of DX9_workOut 92 rfl) ?_
      refine vi_icmp_ne (tgt := 175) (dec_of DX9_workOut 93 rfl) (by decide) (by first | omega | exact bnd_r _ _ | exact hG _ _ | exact hK _ | (simp (disch := decide) only [uN_s, uN_n]; omega)) (by first | omega | exact bnd_r _ _ | exact hG _ _ | exact hK _ | (simp (disch := decide) only [uN_s, uN_n]; omega)) (fun c156 => ?_) (fun c156 => absurd c156 (by omega))
      refine v_aload_n (dec_of DX9_workOut 103 rfl) rfl ?_
      refine v_get fX9_34 (dec_of DX9_workOut 104 rfl) rfl rfl ?_
      try simp (disch := decide) only [uN_s, uN_n, wkG_n, wkG_30, wkG_31, wkG_33]
      refine v_iload (dec_of DX9_workOut 105 rfl) rfl ?_
      refine vi_aload (dec_of DX9_workOut 106 rfl) rfl (by first | omega | exact bnd_r _ _ | exact hG _ _ | exact hK _ | (simp (disch := decide) only [uN_s, uN_n]; omega)) (by decide) ?_
      try simp (disch := decide) only [uN_s, uN_n, wkG_n, wkG_30, wkG_31, wkG_33]
      refine vi_const (dec_of DX9_workOut 107 rfl) ?_
      refine vi_icmp_ne (tgt := 202) (dec_of DX9_workOut 108 rfl) (by decide) (by first | omega | exact bnd_r _ _ | exact hG _ _ | exact hK _ | (simp (disch := decide) only [uN_s, uN_n]; omega)) (by first | omega | exact bnd_r _ _ | exact hG _ _ | exact hK _ | (simp (disch := decide) only [uN_s, uN_n]; omega)) (fun c183 => ?_) (fun c183 => absurd c183 (by omega))
      refine v_aload_n (dec_of DX9_workOut 118 rfl) rfl ?_
      refine v_get fX9_34 (dec_of DX9_workOut 119 rfl) rfl rfl ?_
      try simp (disch := decide) only [uN_s, uN_n, wkG_n, wkG_30, wkG_31, wkG_33]
      refine v_iload (dec_of DX9_workOut 120 rfl) rfl ?_
      refine vi_aload (dec_of DX9_workOut 121 rfl) rfl (by first | omega | exact bnd_r _ _ | exact hG _ _ | exact hK _ | (simp (disch := decide) only [uN_s, uN_n]; omega)) (by decide) ?_
      try simp (disch := decide) only [uN_s, uN_n, wkG_n, wkG_30, wkG_31, wkG_33]
      refine vi_bi (dec_of DX9_workOut 122 rfl) (by decide) ?_
      refine vi_icmp_ge (tgt := 241) (dec_of DX9_workOut 123 rfl) (by decide) (by first | omega | exact bnd_r _ _ | exact hG _ _ | exact hK _ | (simp (disch := decide) only [uN_s, uN_n]; omega)) (by first | omega | exact bnd_r _ _ | exact hG _ _ | exact hK _ | (simp (disch := decide) only [uN_s, uN_n]; omega)) (fun c211 => absurd c211 (by omega)) (fun c211 => ?_)
      refine v_aload_n (dec_of DX9_workOut 124 rfl) rfl ?_
      refine v_V0v (q_unflat hG1 hK hM0) lX9_213 (dec_of DX9_workOut 125 rfl) rfl rfl (by decide) (nle rfl) rfl ?_
      try simp (disch := decide) only [uN_s, uN_n, wkG_n, wkG_30, wkG_31, wkG_33]
      refine Vd_w (w' := W2 I N F K (wkG G a b (clr f 0 13))) rfl ?_
      refine v_aload_n (dec_of DX9_workOut 126 rfl) rfl ?_
      refine v_get fX9_34 (dec_of DX9_workOut 127 rfl) rfl rfl ?_
      try simp (disch := decide) only [uN_s, uN_n, wkG_n, wkG_30, wkG_31, wkG_33]
      refine v_iload (dec_of DX9_workOut 128 rfl) rfl ?_
      refine vi_aload (dec_of DX9_workOut 129 rfl) rfl (by first | omega | exact bnd_r _ _ | exact hG _ _ | exact hK _ | (simp (disch := decide) only [uN_s, uN_n]; omega)) (by decide) ?_
      try simp (disch := decide) only [uN_s, uN_n, wkG_n, wkG_30, wkG_31, wkG_33]
      refine vi_const (dec_of DX9_workOut 130 rfl) ?_
      refine vi_icmp_ne (tgt := 239) (dec_of DX9_workOut 131 rfl) (by decide) (by first | omega | exact bnd_r _ _ | exact hG _ _ | exact hK _ | (simp (disch := decide) only [uN_s, uN_n]; omega)) (by first | omega | exact bnd_r _ _ | exact hG _ _ | exact hK _ | (simp (disch := decide) only [uN_s, uN_n]; omega)) (fun c226 => absurd c226 (by omega)) (fun c226 => ?_)
      refine v_aload_n (dec_of DX9_workOut 132 rfl) rfl ?_
      refine v_get fX9_37 (dec_of DX9_workOut 133 rfl) rfl rfl ?_
      try simp (disch := decide) only [uN_s, uN_n, wkG_n, wkG_30, wkG_31, wkG_33]
      refine v_iload (dec_of DX9_workOut 134 rfl) rfl ?_
      refine vi_aload (dec_of DX9_workOut 135 rfl) rfl (by first | omega | exact bnd_r _ _ | exact hG _ _ | exact hK _ | (simp (disch := decide) only [uN_s, uN_n]; omega)) (by decide) ?_
      try simp (disch := decide) only [uN_s, uN_n, wkG_n, wkG_30, wkG_31, wkG_33]
      refine v_goto (tgt := 240) (dec_of DX9_workOut 136 rfl) (by decide) ?_
      refine v_istore_n (dec_of DX9_workOut 138 rfl) (by decide) ?_
      dsimp only [List.set]
      refine vi_inc (dec_of DX9_workOut 139 rfl) rfl (by decide) ?_
      dsimp only [List.set]
      refine v_goto (tgt := 51) (dec_of DX9_workOut 140 rfl) (by decide) ?_
      refine Vd_w (w' := W2 I N F K (wkG G (a) (b) (clr f 0 13))) rfl ?_
      have nx := ih (k + 1) (a) (b) (clr f 0 13) (by omega) (by omega) ⟨fun i h0 h1 => p1 i h0 (by omega), fun h h0 h1 => by
        rw [cr, faM, if_neg c2, if_neg c3, if_pos (by omega)]
        unfold clr
        rw [if_pos (by omega)], p3, p4, hun⟩
      rw [eC, eN] at nx
      exact nx
    have eC : cB (k + 1) = cB k := by rw [k7, if_neg c4]
    refine v_iload (dec_of DX9_workOut 32 rfl) rfl ?_
    refine v_aload_n (dec_of DX9_workOut 33 rfl) rfl ?_
    refine v_get fX9_31 (dec_of DX9_workOut 34 rfl) rfl rfl ?_
    try simp (disch := decide) only [uN_s, uN_n, wkG_n, wkG_30, wkG_31, wkG_33]
    refine v_iload_n (dec_of DX9_workOut 35 rfl) rfl ?_
    refine vi_const (dec_of DX9_workOut 36 rfl) ?_
    refine vi_add (dec_of DX9_workOut 37 rfl) ?_
    refine vi_aload (dec_of DX9_workOut 38 rfl) rfl (by first | omega | exact bnd_r _ _ | exact hG _ _ | exact hK _ | (simp (disch := decide) only [uN_s, uN_n]; omega)) (by decide) ?_
    try simp (disch := decide) only [uN_s, uN_n, wkG_n, wkG_30, wkG_31, wkG_33]
    refine vi_icmp_ge (tgt := 247) (dec_of DX9_workOut 39 rfl) (by decide) (by first | omega | exact bnd_r _ _ | exact hG _ _ | exact hK _ | (simp (disch := decide) only [uN_s, uN_n]; omega)) (by first | omega | exact bnd_r _ _ | exact hG _ _ | exact hK _ | (simp (disch := decide) only [uN_s, uN_n]; omega)) (fun c61 => absurd c61 (by omega)) (fun c61 => ?_)
    refine v_aload_n (dec_of DX9_workOut 40 rfl) rfl ?_
    refine v_get fX9_34 (dec_of DX9_workOut 41 rfl) rfl rfl ?_
    try simp (disch := decide) only [uN_s, uN_n, wkG_n, wkG_30, wkG_31, wkG_33]
    refine v_iload (dec_of DX9_workOut 42 rfl) rfl ?_
    refine vi_aload (dec_of DX9_workOut 43 rfl) rfl (by first | omega | exact bnd_r _ _ | exact hG _ _ | exact hK _ | (simp (disch := decide) only [uN_s, uN_n]; omega)) (by decide) ?_
    try simp (disch := decide) only [uN_s, uN_n, wkG_n, wkG_30, wkG_31, wkG_33]
    refine vi_const (dec_of DX9_workOut 44 rfl) ?_
    refine vi_icmp_ne (tgt := 148) (dec_of DX9_workOut 45 rfl) (by decide) (by first | omega | exact bnd_r _ _ | exact hG _ _ | exact hK _ | (simp (disch := decide) only [uN_s, uN_n]; omega)) (by first | omega | exact bnd_r _ _ | exact hG _ _ | exact hK _ | (simp (disch := decide) only [uN_s, uN_n]; omega)) (fun c72 => ?_) (fun c72 => absurd c72 (by omega))
    refine v_aload_n (dec_of DX9_workOut 88 rfl) rfl ?_
    refine v_get fX9_34 (dec_of DX9_workOut 89 rfl) rfl rfl ?_
    try simp (disch := decide) only [uN_s, uN_n, wkG_n, wkG_30, wkG_31, wkG_33]
    refine v_iload (dec_of DX9_workOut 90 rfl) rfl ?_
    refine vi_aload (dec_of DX9_workOut 91 rfl) rfl (by first | omega | exact bnd_r _ _ | exact hG _ _ | exact hK _ | (simp (disch := decide) only [uN_s, uN_n]; omega)) (by decide) ?_
    try simp (disch := decide) only [uN_s, uN_n, wkG_n, wkG_30, wkG_31, wkG_33]
    refine vi_const (dec_of DX9_workOut 92 rfl) ?_
    refine vi_icmp_ne (tgt := 175) (dec_of DX9_workOut 93 rfl) (by decide) (by first | omega | exact bnd_r _ _ | exact hG _ _ | exact hK _ | (simp (disch := decide) only [uN_s, uN_n]; omega)) (by first | omega | exact bnd_r _ _ | exact hG _ _ | exact hK _ | (simp (disch := decide) only [uN_s, uN_n]; omega)) (fun c156 => ?_) (fun c156 => absurd c156 (by omega))
    refine v_aload_n (dec_of DX9_workOut 103 rfl) rfl ?_
    refine v_get fX9_34 (dec_of DX9_workOut 104 rfl) rfl rfl ?_
    try simp (disch := decide) only [uN_s, uN_n, wkG_n, wkG_30, wkG_31, wkG_33]
    refine v_iload (dec_of DX9_workOut 105 rfl) rfl ?_
    refine vi_aload (dec_of DX9_workOut 106 rfl) rfl (by first | omega | exact bnd_r _ _ | exact hG _ _ | exact hK _ | (simp (disch := decide) only [uN_s, uN_n]; omega)) (by decide) ?_
    try simp (disch := decide) only [uN_s, uN_n, wkG_n, wkG_30, wkG_31, wkG_33]
    refine vi_const (dec_of DX9_workOut 107 rfl) ?_
    refine vi_icmp_ne (tgt := 202) (dec_of DX9_workOut 108 rfl) (by decide) (by first | omega | exact bnd_r _ _ | exact hG _ _ | exact hK _ | (simp (disch := decide) only [uN_s, uN_n]; omega)) (by first | omega | exact bnd_r _ _ | exact hG _ _ | exact hK _ | (simp (disch := decide) only [uN_s, uN_n]; omega)) (fun c183 => ?_) (fun c183 => absurd c183 (by omega))
    refine v_aload_n (dec_of DX9_workOut 118 rfl) rfl ?_
    refine v_get fX9_34 (dec_of DX9_workOut 119 rfl) rfl rfl ?_
    try simp (disch := decide) only [uN_s, uN_n, wkG_n, wkG_30, wkG_31, wkG_33]
    refine v_iload (dec_of DX9_workOut 120 rfl) rfl ?_
    refine vi_aload (dec_of DX9_workOut 121 rfl) rfl (by first | omega | exact bnd_r _ _ | exact hG _ _ | exact hK _ | (simp (disch := decide) only [uN_s, uN_n]; omega)) (by decide) ?_
    try simp (disch := decide) only [uN_s, uN_n, wkG_n, wkG_30, wkG_31, wkG_33]
    refine vi_bi (dec_of DX9_workOut 122 rfl) (by decide) ?_
    refine vi_icmp_ge (tgt := 241) (dec_of DX9_workOut 123 rfl) (by decide) (by first | omega | exact bnd_r _ _ | exact hG _ _ | exact hK _ | (simp (disch := decide) only [uN_s, uN_n]; omega)) (by first | omega | exact bnd_r _ _ | exact hG _ _ | exact hK _ | (simp (disch := decide) only [uN_s, uN_n]; omega)) (fun c211 => absurd c211 (by omega)) (fun c211 => ?_)
    refine v_aload_n (dec_of DX9_workOut 124 rfl) rfl ?_
    refine v_V0v (q_unflat hG1 hK hM0) lX9_213 (dec_of DX9_workOut 125 rfl) rfl rfl (by decide) (nle rfl) rfl ?_
    try simp (disch := decide) only [uN_s, uN_n, wkG_n, wkG_30, wkG_31, wkG_33]
    refine Vd_w (w' := W2 I N F K (wkG G a b (clr f 0 13))) rfl ?_
    refine v_aload_n (dec_of DX9_workOut 126 rfl) rfl ?_
    refine v_get fX9_34 (dec_of DX9_workOut 127 rfl) rfl rfl ?_
    try simp (disch := decide) only [uN_s, uN_n, wkG_n, wkG_30, wkG_31, wkG_33]
    refine v_iload (dec_of DX9_workOut 128 rfl) rfl ?_
    refine vi_aload (dec_of DX9_workOut 129 rfl) rfl (by first | omega | exact bnd_r _ _ | exact hG _ _ | exact hK _ | (simp (disch := decide) only [uN_s, uN_n]; omega)) (by decide) ?_
    try simp (disch := decide) only [uN_s, uN_n, wkG_n, wkG_30, wkG_31, wkG_33]
    refine vi_const (dec_of DX9_workOut 130 rfl) ?_
    refine vi_icmp_ne (tgt := 239) (dec_of DX9_workOut 131 rfl) (by decide) (by first | omega | exact bnd_r _ _ | exact hG _ _ | exact hK _ | (simp (disch := decide) only [uN_s, uN_n]; omega)) (by first | omega | exact bnd_r _ _ | exact hG _ _ | exact hK _ | (simp (disch := decide) only [uN_s, uN_n]; omega)) (fun c226 => ?_) (fun c226 => absurd c226 (by omega))
    refine v_iload_n (dec_of DX9_workOut 137 rfl) rfl ?_
    refine v_istore_n (dec_of DX9_workOut 138 rfl) (by decide) ?_
    dsimp only [List.set]
    refine vi_inc (dec_of DX9_workOut 139 rfl) rfl (by decide) ?_
    dsimp only [List.set]
    refine v_goto (tgt := 51) (dec_of DX9_workOut 140 rfl) (by decide) ?_
    refine Vd_w (w' := W2 I N F K (wkG G (a) (b) (clr f 0 13))) rfl ?_
    have nx := ih (k + 1) (a) (b) (clr f 0 13) (by omega) (by omega) ⟨fun i h0 h1 => p1 i h0 (by omega), fun h h0 h1 => by
      rw [cr, faM, if_neg c2, if_neg c3, if_pos (by omega)]
      unfold clr
      rw [if_pos (by omega)], p3, p4, hun⟩
    rw [eC, eN] at nx
    exact nx
