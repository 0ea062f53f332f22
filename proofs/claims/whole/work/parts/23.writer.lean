/-! the Writer (printed by wip/tools/gen_c13.py) -/
def wr (f : Int → Int) (n : Int) : List Int → Int → Int
  | [] => f
  | a :: l => wr (uI f n a) (n + 1) l
theorem wr_app (f : Int → Int) (n : Int) (a b : List Int) : wr f n (a ++ b) = wr (wr f n a) (n + a.length) b := by
  induction a generalizing f n with
  | nil => simp [wr]
  | cons x a ih =>
    show wr (uI f n x) (n + 1) (a ++ b) = wr (wr (uI f n x) (n + 1) a) _ b
    rw [ih, show n + 1 + (a.length : Int) = n + ((x :: a).length : Int) by simp; omega]
theorem wr_r {f : Int → Int} {n : Int} {l : List Int} (hf : ∀ i, -2147483648 ≤ f i ∧ f i < 2147483648) (hl : ∀ a ∈ l, -2147483648 ≤ a ∧ a < 2147483648) : ∀ i, -2147483648 ≤ wr f n l i ∧ wr f n l i < 2147483648 := by
  induction l generalizing f n with
  | nil => exact hf
  | cons x a ih => exact ih (uI_r hf (hl x List.mem_cons_self)) (fun b hb => hl b (List.mem_cons_of_mem _ hb))
theorem wr_lo {f : Int → Int} {n : Int} {l : List Int} {k : Int} (h : k < n) : wr f n l k = f k := by
  induction l generalizing f n with
  | nil => rfl
  | cons x a ih =>
    show wr (uI f n x) (n + 1) a k = f k
    rw [ih (by omega), uI_n (by omega)]
theorem wr_at {f : Int → Int} {n : Int} {l : List Int} {k : Nat} (h : k < l.length) : wr f n l (n + k) = l.getD k 0 := by
  induction l generalizing f n k with
  | nil => exact absurd h (by simp)
  | cons x a ih =>
    show wr (uI f n x) (n + 1) a (n + k) = _
    cases k with
    | zero => rw [wr_lo (by omega), show n + ((0 : Nat) : Int) = n by omega, uI_s]; rfl
    | succ k =>
      rw [show n + ((k + 1 : Nat) : Int) = n + 1 + (k : Int) by omega, ih (by simpa using h)]
      rfl
/-- the bytes l come behind what is written -/
def apN (N : Nat → Int) (l : List Int) : Nat → Int := uN N 1 (N 1 + l.length)
def apF (N : Nat → Int) (F : Nat → Int → Int) (l : List Int) : Nat → Int → Int := uN F 1 (wr (F 1) (N 1) l)
theorem apN_app (N : Nat → Int) (a b : List Int) : apN (apN N a) b = apN N (a ++ b) := by
  unfold apN
  rw [uN_uu, uN_s, List.length_append]
  congr 1
  omega
theorem apF_app (N : Nat → Int) (F : Nat → Int → Int) (a b : List Int) : apF (apN N a) (apF N F a) b = apF N F (a ++ b) := by
  unfold apF apN
  rw [uN_uu, uN_s, uN_s, wr_app]
theorem ap2 {T : XW} {I N : Nat → Int} {F : Nat → Int → Int} {a b : List Int} : cls I (apN (apN N a) b) (apF (apN N a) (apF N F a) b) ++ T = cls I (apN N (a ++ b)) (apF N F (a ++ b)) ++ T := by rw [apN_app, apF_app]
theorem ap_nil {I N : Nat → Int} {F : Nat → Int → Int} : cls I (apN N []) (apF N F []) = cls I N F := by
  have e1 : apN N [] = N := by unfold apN; simp [uN_self]
  have e2 : apF N F [] = F := by unfold apF wr; exact uN_self
  rw [e1, e2]
theorem NRap {N : Nat → Int} (h : NR N) {l : List Int} (hl : N 1 + (l.length : Int) ≤ 1500) : NR (apN N l) := by
  unfold NR apN at *
  simp (disch := decide) only [uN_s, uN_n]
  omega
theorem FRap {N : Nat → Int} {F : Nat → Int → Int} (h : FR F) {l : List Int} (hl : ∀ a ∈ l, -2147483648 ≤ a ∧ a < 2147483648) : FR (apF N F l) := h.up (wr_r (h 1) hl)
def wMk (m c b : Int) : List Int := if bnd m b = 0 then [] else [c]
def wMks (m : Int) : List Int := wMk m 46 1 ++ (wMk m 95 2 ++ (wMk m 118 4 ++ (wMk m 119 8 ++ wMk m 126 16)))
def wBar (v : Int) : List Int := if v = 1 then [44] else if v = 2 then [59] else if v = 3 then [58] else [58, 58]
def wSgn (F : Nat → Int → Int) (j : Int) : List Int := if F 8 (j * 2 + 0) = 0 then [97 + F 4 (F 8 (j * 2 + 1) * 8 + 0)] ++ wMks (F 4 (F 8 (j * 2 + 1) * 8 + 1)) else if F 8 (j * 2 + 0) = 1 then [97 + F 8 (j * 2 + 1), 120] else if F 8 (j * 2 + 0) = 2 then [97 + F 8 (j * 2 + 1), 121] else if F 8 (j * 2 + 0) = 3 then (if 4 < F 8 (j * 2 + 1) then [102, 48 + (F 8 (j * 2 + 1) - 4)] else [99, 48 + F 8 (j * 2 + 1)]) else if F 8 (j * 2 + 0) = 4 then wBar (F 8 (j * 2 + 1)) else [122]
/-- a note of another group follows -/
def gfL (N : Nat → Int) (F : Nat → Int → Int) (v : Int) : Nat → Int → Int
  | 0, _ => 0
  | m + 1, i => if F 8 (i * 2 + 0) = 0 then (if sameG N F v (F 8 (i * 2 + 1)) then 0 else 1) else if F 8 (i * 2 + 0) = 1 ∨ F 8 (i * 2 + 0) = 2 then gfL N F v m (i + 1) else 0
theorem gfL_r (N : Nat → Int) (F : Nat → Int → Int) (v : Int) : ∀ (m : Nat) (i : Int), gfL N F v m i = 0 ∨ gfL N F v m i = 1 := by
  intro m
  induction m with
  | zero => intro i; exact Or.inl rfl
  | succ m ih =>
    intro i
    unfold gfL
    split
    · split <;> omega
    · split
      · exact ih _
      · exact Or.inl rfl
def ndS (N : Nat → Int) (F : Nat → Int → Int) (j e : Int) : Int := if F 8 (j * 2 + 0) = 0 then gfL N F (F 8 (j * 2 + 1)) (e - (j + 1)).toNat (j + 1) else if F 8 (j * 2 + 0) = 4 ∧ F 8 (j * 2 + 1) = 3 ∧ j + 1 < e ∧ F 8 ((j + 1) * 2 + 0) = 4 ∧ 3 ≤ F 8 ((j + 1) * 2 + 1) then 1 else 0
def wSl (N : Nat → Int) (F : Nat → Int → Int) (j e : Int) : List Int := if ndS N F j e = 0 then [] else [47]
def wSgs (N : Nat → Int) (F : Nat → Int → Int) (e : Int) : Nat → Int → List Int
  | 0, _ => []
  | m + 1, j => wSgn F j ++ (wSl N F j e ++ wSgs N F e m (j + 1))
def wLet (F : Nat → Int → Int) : Nat → Int → List Int
  | 0, _ => []
  | m + 1, i => F 2 i :: wLet F m (i + 1)
set_option maxRecDepth 100000 in
set_option maxHeartbeats 4000000 in
theorem k_wMark {T : XW} {I N : Nat → Int} {F : Nat → Int → Int} (hF : FR F) (hI : IR I) (hN : NR N) {m c : Int} (hm : -2147483648 ≤ m ∧ m < 2147483648) (hlen : N 1 + (((if m = 0 then [] else [c] : List Int)).length : Int) ≤ 1500) (hr : ∀ a ∈ (if m = 0 then [] else [c] : List Int), -2147483648 ≤ a ∧ a < 2147483648) : Sd (rm 1 23 0 0) mX7_writeMark [J m, J c, .ref 3] (cls I N F ++ T) (cls I (apN N (if m = 0 then [] else [c])) (apF N F (if m = 0 then [] else [c])) ++ T) (none) := by
  unfold Sd
  unfold NR at hN
  refine sp_of (ls := [some (J m), some (J c), some (.ref 3)]) (by decide) (nle rfl) rfl rfl ?_
  refine v_iload_n (dec_of DX7_writeMark 0 rfl) rfl ?_
  refine vi_if_eq (tgt := 10) (dec_of DX7_writeMark 1 rfl) (by decide) (by first | omega | exact bnd_r _ _ | exact hF _ _ | exact hI _ | exact hG _ _ | exact hK _ | (simp [uN] <;> omega)) (fun c1 => ?_) (fun c1 => ?_)
  · exact vi_vret (dec_of DX7_writeMark 6 rfl) rfl ⟨by decide, by decide⟩ (by first | exact ⟨rfl, rfl⟩ | (rw [if_pos c1]; exact ⟨by rw [ap_nil], rfl⟩))
  · rw [if_neg c1] at hlen ⊢
    simp only [List.length_cons, List.length_nil] at hlen
    refine v_aload_n (dec_of DX7_writeMark 2 rfl) rfl ?_
    refine v_iload_n (dec_of DX7_writeMark 3 rfl) rfl ?_
    refine v_V1r (c1_add (by first | omega | exact bnd_r _ _ | exact hF _ _ | exact hI _ | exact hG _ _ | exact hK _ | (simp [uN] <;> omega))) lX7_27 (dec_of DX7_writeMark 4 rfl) rfl rfl (by decide) (nle rfl) rfl ?_
    refine v_pop (dec_of DX7_writeMark 5 rfl) rfl ?_
    exact vi_vret (dec_of DX7_writeMark 6 rfl) rfl ⟨by decide, by decide⟩ (by first | exact ⟨rfl, rfl⟩ | (rw [if_pos c1]; exact ⟨by rw [ap_nil], rfl⟩))
set_option maxRecDepth 100000 in
set_option maxHeartbeats 4000000 in
theorem k_wMarks {T : XW} {I N : Nat → Int} {F : Nat → Int → Int} (hF : FR F) (hI : IR I) (hN : NR N) {m : Int} (hlen : N 1 + ((wMks m).length : Int) ≤ 1500) (hr : ∀ a ∈ wMks m, -2147483648 ≤ a ∧ a < 2147483648) : Sd (rm 2 45 0 0) mX7_writeMarks [J m, .ref 3] (cls I N F ++ T) (cls I (apN N (wMks m)) (apF N F (wMks m)) ++ T) none := by
  unfold Sd NR at *
  have e : wMks m = ((((wMk m 46 1 ++ wMk m 95 2) ++ wMk m 118 4) ++ wMk m 119 8) ++ wMk m 126 16) := by simp only [wMks, List.append_assoc]
  rw [e] at hlen hr ⊢
  simp only [List.length_append] at hlen
  refine sp_of (ls := [some (J m), some (.ref 3)]) (by decide) (nle rfl) rfl rfl ?_
  refine v_iload_n (dec_of DX7_writeMarks 0 rfl) rfl ?_
  refine vi_const (dec_of DX7_writeMarks 1 rfl) ?_
  refine vi_and (dec_of DX7_writeMarks 2 rfl) ?_
  refine vi_bi (dec_of DX7_writeMarks 3 rfl) (by decide) ?_
  refine v_aload_n (dec_of DX7_writeMarks 4 rfl) rfl ?_
  refine v_S3v (k_wMark (N := N) (F := F) (m := bnd m 1) (c := 46) hF hI (by unfold NR; exact hN) (bnd_r _ _) (show N 1 + ((wMk m 46 1).length : Int) ≤ 1500 from by omega) (fun a h => hr a (List.mem_append_left _ (List.mem_append_left _ (List.mem_append_left _ (List.mem_append_left _ (h))))))) lX7_63 (dec_of DX7_writeMarks 5 rfl) (by decide) (nle rfl) rfl ?_
  refine v_iload_n (dec_of DX7_writeMarks 6 rfl) rfl ?_
  refine vi_const (dec_of DX7_writeMarks 7 rfl) ?_
  refine vi_and (dec_of DX7_writeMarks 8 rfl) ?_
  refine vi_bi (dec_of DX7_writeMarks 9 rfl) (by decide) ?_
  refine v_aload_n (dec_of DX7_writeMarks 10 rfl) rfl ?_
  refine v_S3v (k_wMark (N := (apN N (wMk m 46 1))) (F := (apF N F (wMk m 46 1))) (m := bnd m 2) (c := 95) (FRap hF (fun a h => hr a (List.mem_append_left _ (List.mem_append_left _ (List.mem_append_left _ (List.mem_append_left _ (h))))))) hI (NRap (by unfold NR; exact hN) (by (try simp only [List.length_append]); omega)) (bnd_r _ _) (show (apN N (wMk m 46 1)) 1 + ((wMk m 95 2).length : Int) ≤ 1500 from by simp only [apN, uN_s, List.length_append]; omega) (fun a h => hr a (List.mem_append_left _ (List.mem_append_left _ (List.mem_append_left _ (List.mem_append_right _ (h))))))) lX7_63 (dec_of DX7_writeMarks 11 rfl) (by decide) (nle rfl) rfl ?_
  refine Vd_w (w' := cls I (apN N (wMk m 46 1 ++ wMk m 95 2)) (apF N F (wMk m 46 1 ++ wMk m 95 2)) ++ T) ap2 ?_
  refine v_iload_n (dec_of DX7_writeMarks 12 rfl) rfl ?_
  refine vi_const (dec_of DX7_writeMarks 13 rfl) ?_
  refine vi_and (dec_of DX7_writeMarks 14 rfl) ?_
  refine vi_bi (dec_of DX7_writeMarks 15 rfl) (by decide) ?_
  refine v_aload_n (dec_of DX7_writeMarks 16 rfl) rfl ?_
  refine v_S3v (k_wMark (N := (apN N ((wMk m 46 1 ++ wMk m 95 2)))) (F := (apF N F ((wMk m 46 1 ++ wMk m 95 2)))) (m := bnd m 4) (c := 118) (FRap hF (fun a h => hr a (List.mem_append_left _ (List.mem_append_left _ (List.mem_append_left _ (h)))))) hI (NRap (by unfold NR; exact hN) (by (try simp only [List.length_append]); omega)) (bnd_r _ _) (show (apN N ((wMk m 46 1 ++ wMk m 95 2))) 1 + ((wMk m 118 4).length : Int) ≤ 1500 from by simp only [apN, uN_s, List.length_append]; omega) (fun a h => hr a (List.mem_append_left _ (List.mem_append_left _ (List.mem_append_right _ (h)))))) lX7_63 (dec_of DX7_writeMarks 17 rfl) (by decide) (nle rfl) rfl ?_
  refine Vd_w (w' := cls I (apN N ((wMk m 46 1 ++ wMk m 95 2) ++ wMk m 118 4)) (apF N F ((wMk m 46 1 ++ wMk m 95 2) ++ wMk m 118 4)) ++ T) ap2 ?_
  refine v_iload_n (dec_of DX7_writeMarks 18 rfl) rfl ?_
  refine vi_bi (dec_of DX7_writeMarks 19 rfl) (by decide) ?_
  refine vi_and (dec_of DX7_writeMarks 20 rfl) ?_
  refine vi_bi (dec_of DX7_writeMarks 21 rfl) (by decide) ?_
  refine v_aload_n (dec_of DX7_writeMarks 22 rfl) rfl ?_
  refine v_S3v (k_wMark (N := (apN N (((wMk m 46 1 ++ wMk m 95 2) ++ wMk m 118 4)))) (F := (apF N F (((wMk m 46 1 ++ wMk m 95 2) ++ wMk m 118 4)))) (m := bnd m 8) (c := 119) (FRap hF (fun a h => hr a (List.mem_append_left _ (List.mem_append_left _ (h))))) hI (NRap (by unfold NR; exact hN) (by (try simp only [List.length_append]); omega)) (bnd_r _ _) (show (apN N (((wMk m 46 1 ++ wMk m 95 2) ++ wMk m 118 4))) 1 + ((wMk m 119 8).length : Int) ≤ 1500 from by simp only [apN, uN_s, List.length_append]; omega) (fun a h => hr a (List.mem_append_left _ (List.mem_append_right _ (h))))) lX7_63 (dec_of DX7_writeMarks 23 rfl) (by decide) (nle rfl) rfl ?_
  refine Vd_w (w' := cls I (apN N (((wMk m 46 1 ++ wMk m 95 2) ++ wMk m 118 4) ++ wMk m 119 8)) (apF N F (((wMk m 46 1 ++ wMk m 95 2) ++ wMk m 118 4) ++ wMk m 119 8)) ++ T) ap2 ?_
  refine v_iload_n (dec_of DX7_writeMarks 24 rfl) rfl ?_
  refine vi_bi (dec_of DX7_writeMarks 25 rfl) (by decide) ?_
  refine vi_and (dec_of DX7_writeMarks 26 rfl) ?_
  refine vi_bi (dec_of DX7_writeMarks 27 rfl) (by decide) ?_
  refine v_aload_n (dec_of DX7_writeMarks 28 rfl) rfl ?_
  refine v_S3v (k_wMark (N := (apN N ((((wMk m 46 1 ++ wMk m 95 2) ++ wMk m 118 4) ++ wMk m 119 8)))) (F := (apF N F ((((wMk m 46 1 ++ wMk m 95 2) ++ wMk m 118 4) ++ wMk m 119 8)))) (m := bnd m 16) (c := 126) (FRap hF (fun a h => hr a (List.mem_append_left _ (h)))) hI (NRap (by unfold NR; exact hN) (by (try simp only [List.length_append]); omega)) (bnd_r _ _) (show (apN N ((((wMk m 46 1 ++ wMk m 95 2) ++ wMk m 118 4) ++ wMk m 119 8))) 1 + ((wMk m 126 16).length : Int) ≤ 1500 from by simp only [apN, uN_s, List.length_append]; omega) (fun a h => hr a (List.mem_append_right _ (h)))) lX7_63 (dec_of DX7_writeMarks 29 rfl) (by decide) (nle rfl) rfl ?_
  refine Vd_w (w' := cls I (apN N ((((wMk m 46 1 ++ wMk m 95 2) ++ wMk m 118 4) ++ wMk m 119 8) ++ wMk m 126 16)) (apF N F ((((wMk m 46 1 ++ wMk m 95 2) ++ wMk m 118 4) ++ wMk m 119 8) ++ wMk m 126 16)) ++ T) ap2 ?_
  exact vi_vret (dec_of DX7_writeMarks 30 rfl) rfl ⟨by decide, by decide⟩ ⟨rfl, rfl⟩
theorem cw_add {T : XW} {I N : Nat → Int} {F : Nat → Int → Int} {v : Int} (hn : 0 ≤ N 1 ∧ N 1 + 1 ≤ 1500) : Sd (rm 0 0 0 0) mX5_add [.ref 3, J v] (cls I N F ++ T) (cls I (apN N [v]) (apF N F [v]) ++ T) (some (J (N 1))) := c1_add (by omega)
set_option maxRecDepth 100000 in
set_option maxHeartbeats 4000000 in
theorem k_wBar1 {T : XW} {I N : Nat → Int} {F : Nat → Int → Int} (hF : FR F) (hI : IR I) (hN : NR N) (hlen : N 1 + 1 ≤ 1500) : Sd (rm 1 23 0 0) mX7_writeBar [J 1, .ref 3] (cls I N F ++ T) (cls I (apN N (wBar 1)) (apF N F (wBar 1)) ++ T) (none) := by
  unfold Sd
  unfold NR at hN
  refine sp_of (ls := [some (J 1), some (.ref 3)]) (by decide) (nle rfl) rfl rfl ?_
  refine v_iload_n (dec_of DX7_writeBar 0 rfl) rfl ?_
  refine vi_tabIn (tgt := 28) (dec_of DX7_writeBar 1 rfl) (by decide) (by decide) (by decide) rfl (by decide) ?_
  refine v_aload_n (dec_of DX7_writeBar 2 rfl) rfl ?_
  refine vi_bi (dec_of DX7_writeBar 3 rfl) (by decide) ?_
  refine v_V1r (c1_add (by first | omega | exact bnd_r _ _ | exact hF _ _ | exact hI _ | exact hG _ _ | exact hK _ | (simp [uN] <;> omega))) lX7_27 (dec_of DX7_writeBar 4 rfl) rfl rfl (by decide) (nle rfl) rfl ?_
  refine v_pop (dec_of DX7_writeBar 5 rfl) rfl ?_
  refine v_goto (tgt := 72) (dec_of DX7_writeBar 6 rfl) (by decide) ?_
  exact vi_vret (dec_of DX7_writeBar 25 rfl) rfl ⟨by decide, by decide⟩ (by first | exact ⟨rfl, rfl⟩ | exact ⟨by rw [show wBar 4 = [58] ++ [58] from rfl, ← apN_app, ← apF_app]; rfl, rfl⟩)
set_option maxRecDepth 100000 in
set_option maxHeartbeats 4000000 in
theorem k_wBar2 {T : XW} {I N : Nat → Int} {F : Nat → Int → Int} (hF : FR F) (hI : IR I) (hN : NR N) (hlen : N 1 + 1 ≤ 1500) : Sd (rm 1 23 0 0) mX7_writeBar [J 2, .ref 3] (cls I N F ++ T) (cls I (apN N (wBar 2)) (apF N F (wBar 2)) ++ T) (none) := by
  unfold Sd
  unfold NR at hN
  refine sp_of (ls := [some (J 2), some (.ref 3)]) (by decide) (nle rfl) rfl rfl ?_
  refine v_iload_n (dec_of DX7_writeBar 0 rfl) rfl ?_
  refine vi_tabIn (tgt := 38) (dec_of DX7_writeBar 1 rfl) (by decide) (by decide) (by decide) rfl (by decide) ?_
  refine v_aload_n (dec_of DX7_writeBar 7 rfl) rfl ?_
  refine vi_bi (dec_of DX7_writeBar 8 rfl) (by decide) ?_
  refine v_V1r (c1_add (by first | omega | exact bnd_r _ _ | exact hF _ _ | exact hI _ | exact hG _ _ | exact hK _ | (simp [uN] <;> omega))) lX7_27 (dec_of DX7_writeBar 9 rfl) rfl rfl (by decide) (nle rfl) rfl ?_
  refine v_pop (dec_of DX7_writeBar 10 rfl) rfl ?_
  refine v_goto (tgt := 72) (dec_of DX7_writeBar 11 rfl) (by decide) ?_
  exact vi_vret (dec_of DX7_writeBar 25 rfl) rfl ⟨by decide, by decide⟩ (by first | exact ⟨rfl, rfl⟩ | exact ⟨by rw [show wBar 4 = [58] ++ [58] from rfl, ← apN_app, ← apF_app]; rfl, rfl⟩)
set_option maxRecDepth 100000 in
set_option maxHeartbeats 4000000 in
theorem k_wBar3 {T : XW} {I N : Nat → Int} {F : Nat → Int → Int} (hF : FR F) (hI : IR I) (hN : NR N) (hlen : N 1 + 1 ≤ 1500) : Sd (rm 1 23 0 0) mX7_writeBar [J 3, .ref 3] (cls I N F ++ T) (cls I (apN N (wBar 3)) (apF N F (wBar 3)) ++ T) (none) := by
  unfold Sd
  unfold NR at hN
  refine sp_of (ls := [some (J 3), some (.ref 3)]) (by decide) (nle rfl) rfl rfl ?_
  refine v_iload_n (dec_of DX7_writeBar 0 rfl) rfl ?_
  refine vi_tabIn (tgt := 48) (dec_of DX7_writeBar 1 rfl) (by decide) (by decide) (by decide) rfl (by decide) ?_
  refine v_aload_n (dec_of DX7_writeBar 12 rfl) rfl ?_
  refine vi_bi (dec_of DX7_writeBar 13 rfl) (by decide) ?_
  refine v_V1r (c1_add (by first | omega | exact bnd_r _ _ | exact hF _ _ | exact hI _ | exact hG _ _ | exact hK _ | (simp [uN] <;> omega))) lX7_27 (dec_of DX7_writeBar 14 rfl) rfl rfl (by decide) (nle rfl) rfl ?_
  refine v_pop (dec_of DX7_writeBar 15 rfl) rfl ?_
  refine v_goto (tgt := 72) (dec_of DX7_writeBar 16 rfl) (by decide) ?_
  exact vi_vret (dec_of DX7_writeBar 25 rfl) rfl ⟨by decide, by decide⟩ (by first | exact ⟨rfl, rfl⟩ | exact ⟨by rw [show wBar 4 = [58] ++ [58] from rfl, ← apN_app, ← apF_app]; rfl, rfl⟩)
set_option maxRecDepth 100000 in
set_option maxHeartbeats 4000000 in
theorem k_wBar4 {T : XW} {I N : Nat → Int} {F : Nat → Int → Int} (hF : FR F) (hI : IR I) (hN : NR N) (hlen : N 1 + 2 ≤ 1500) : Sd (rm 1 23 0 0) mX7_writeBar [J 4, .ref 3] (cls I N F ++ T) (cls I (apN N (wBar 4)) (apF N F (wBar 4)) ++ T) (none) := by
  unfold Sd
  unfold NR at hN
  refine sp_of (ls := [some (J 4), some (.ref 3)]) (by decide) (nle rfl) rfl rfl ?_
  refine v_iload_n (dec_of DX7_writeBar 0 rfl) rfl ?_
  refine vi_tabOut (tgt := 58) (dec_of DX7_writeBar 1 rfl) (by decide) (Or.inr (by decide)) (by decide) ?_
  refine v_aload_n (dec_of DX7_writeBar 17 rfl) rfl ?_
  refine vi_bi (dec_of DX7_writeBar 18 rfl) (by decide) ?_
  refine v_V1r (c1_add (by first | omega | exact bnd_r _ _ | exact hF _ _ | exact hI _ | exact hG _ _ | exact hK _ | (simp [uN] <;> omega))) lX7_27 (dec_of DX7_writeBar 19 rfl) rfl rfl (by decide) (nle rfl) rfl ?_
  refine v_pop (dec_of DX7_writeBar 20 rfl) rfl ?_
  refine v_aload_n (dec_of DX7_writeBar 21 rfl) rfl ?_
  refine vi_bi (dec_of DX7_writeBar 22 rfl) (by decide) ?_
  refine v_V1r (c1_add (by first | omega | exact bnd_r _ _ | exact hF _ _ | exact hI _ | exact hG _ _ | exact hK _ | (simp [uN] <;> omega))) lX7_27 (dec_of DX7_writeBar 23 rfl) rfl rfl (by decide) (nle rfl) rfl ?_
  refine v_pop (dec_of DX7_writeBar 24 rfl) rfl ?_
  exact vi_vret (dec_of DX7_writeBar 25 rfl) rfl ⟨by decide, by decide⟩ (by first | exact ⟨rfl, rfl⟩ | exact ⟨by rw [show wBar 4 = [58] ++ [58] from rfl, ← apN_app, ← apF_app]; rfl, rfl⟩)
set_option maxRecDepth 100000 in
set_option maxHeartbeats 4000000 in
theorem k_wS1 {T : XW} {I N : Nat → Int} {F : Nat → Int → Int} (hF : FR F) (hI : IR I) (hN : NR N) {j : Int} (hj : 0 ≤ j ∧ j < N 8) (hk : F 8 (j * 2 + 0) = 1)  (hlen : N 1 + (([97 + F 8 (j * 2 + 1)] ++ [120]).length : Int) ≤ 1500) (hr : ∀ a ∈ [97 + F 8 (j * 2 + 1)] ++ [120], -2147483648 ≤ a ∧ a < 2147483648) : Sd (rm 3 66 0 0) mX7_writeSign [.ref 5, J j, .ref 3] (cls I N F ++ T) (cls I (apN N ([97 + F 8 (j * 2 + 1)] ++ [120])) (apF N F ([97 + F 8 (j * 2 + 1)] ++ [120])) ++ T) (none) := by
  unfold Sd
  unfold NR at hN
  (try simp only [List.length_append, List.length_cons, List.length_nil] at hlen)
  refine sp_of (ls := [some (.ref 5), some (J j), some (.ref 3), none]) (by decide) (nle rfl) rfl rfl ?_
  refine v_aload_n (dec_of DX7_writeSign 0 rfl) rfl ?_
  refine v_get fX7_50 (dec_of DX7_writeSign 1 rfl) rfl rfl ?_
  refine v_iload_n (dec_of DX7_writeSign 2 rfl) rfl ?_
  refine vi_const (dec_of DX7_writeSign 3 rfl) ?_
  refine v_V2r (c8_get (by first | omega | exact bnd_r _ _ | exact hF _ _ | exact hI _ | exact hG _ _ | exact hK _ | (simp [uN] <;> omega)) (by first | omega | exact bnd_r _ _ | exact hF _ _ | exact hI _ | exact hG _ _ | exact hK _ | (simp [uN] <;> omega)) (by first | omega | exact bnd_r _ _ | exact hF _ _ | exact hI _ | exact hG _ _ | exact hK _ | (simp [uN] <;> omega))) lX7_23 (dec_of DX7_writeSign 4 rfl) rfl rfl (by decide) (nle rfl) rfl ?_
  refine v_istore_n (dec_of DX7_writeSign 5 rfl) (by decide) ?_
  dsimp only [List.set]
  refine v_aload_n (dec_of DX7_writeSign 6 rfl) rfl ?_
  refine v_get fX7_50 (dec_of DX7_writeSign 7 rfl) rfl rfl ?_
  refine v_iload_n (dec_of DX7_writeSign 8 rfl) rfl ?_
  refine vi_const (dec_of DX7_writeSign 9 rfl) ?_
  refine v_V2r (c8_get (by first | omega | exact bnd_r _ _ | exact hF _ _ | exact hI _ | exact hG _ _ | exact hK _ | (simp [uN] <;> omega)) (by first | omega | exact bnd_r _ _ | exact hF _ _ | exact hI _ | exact hG _ _ | exact hK _ | (simp [uN] <;> omega)) (by first | omega | exact bnd_r _ _ | exact hF _ _ | exact hI _ | exact hG _ _ | exact hK _ | (simp [uN] <;> omega))) lX7_23 (dec_of DX7_writeSign 10 rfl) rfl rfl (by decide) (nle rfl) rfl ?_
  rw [hk]
  refine vi_tabIn (tgt := 85) (dec_of DX7_writeSign 11 rfl) (by decide) (by decide) (by decide) rfl (by decide) ?_
  refine v_aload_n (dec_of DX7_writeSign 30 rfl) rfl ?_
  refine vi_bi (dec_of DX7_writeSign 31 rfl) (by decide) ?_
  refine v_iload_n (dec_of DX7_writeSign 32 rfl) rfl ?_
  refine vi_add (dec_of DX7_writeSign 33 rfl) ?_
  refine v_V1r (cw_add (by omega)) lX7_27 (dec_of DX7_writeSign 34 rfl) rfl rfl (by decide) (nle rfl) rfl ?_
  refine v_pop (dec_of DX7_writeSign 35 rfl) rfl ?_
  refine v_aload_n (dec_of DX7_writeSign 36 rfl) rfl ?_
  refine vi_bi (dec_of DX7_writeSign 37 rfl) (by decide) ?_
  refine v_V1r (cw_add (by simp only [apN, uN_s, List.length_append, List.length_cons, List.length_nil]; omega)) lX7_27 (dec_of DX7_writeSign 38 rfl) rfl rfl (by decide) (nle rfl) rfl ?_
  refine Vd_w ap2 ?_
  refine v_pop (dec_of DX7_writeSign 39 rfl) rfl ?_
  refine v_goto (tgt := 178) (dec_of DX7_writeSign 40 rfl) (by decide) ?_
  exact vi_vret (dec_of DX7_writeSign 83 rfl) rfl ⟨by decide, by decide⟩ (⟨rfl, rfl⟩)
set_option maxRecDepth 100000 in
set_option maxHeartbeats 4000000 in
theorem k_wS2 {T : XW} {I N : Nat → Int} {F : Nat → Int → Int} (hF : FR F) (hI : IR I) (hN : NR N) {j : Int} (hj : 0 ≤ j ∧ j < N 8) (hk : F 8 (j * 2 + 0) = 2)  (hlen : N 1 + (([97 + F 8 (j * 2 + 1)] ++ [121]).length : Int) ≤ 1500) (hr : ∀ a ∈ [97 + F 8 (j * 2 + 1)] ++ [121], -2147483648 ≤ a ∧ a < 2147483648) : Sd (rm 3 66 0 0) mX7_writeSign [.ref 5, J j, .ref 3] (cls I N F ++ T) (cls I (apN N ([97 + F 8 (j * 2 + 1)] ++ [121])) (apF N F ([97 + F 8 (j * 2 + 1)] ++ [121])) ++ T) (none) := by
  unfold Sd
  unfold NR at hN
  (try simp only [List.length_append, List.length_cons, List.length_nil] at hlen)
  refine sp_of (ls := [some (.ref 5), some (J j), some (.ref 3), none]) (by decide) (nle rfl) rfl rfl ?_
  refine v_aload_n (dec_of DX7_writeSign 0 rfl) rfl ?_
  refine v_get fX7_50 (dec_of DX7_writeSign 1 rfl) rfl rfl ?_
  refine v_iload_n (dec_of DX7_writeSign 2 rfl) rfl ?_
  refine vi_const (dec_of DX7_writeSign 3 rfl) ?_
  refine v_V2r (c8_get (by first | omega | exact bnd_r _ _ | exact hF _ _ | exact hI _ | exact hG _ _ | exact hK _ | (simp [uN] <;> omega)) (by first | omega | exact bnd_r _ _ | exact hF _ _ | exact hI _ | exact hG _ _ | exact hK _ | (simp [uN] <;> omega)) (by first | omega | exact bnd_r _ _ | exact hF _ _ | exact hI _ | exact hG _ _ | exact hK _ | (simp [uN] <;> omega))) lX7_23 (dec_of DX7_writeSign 4 rfl) rfl rfl (by decide) (nle rfl) rfl ?_
  refine v_istore_n (dec_of DX7_writeSign 5 rfl) (by decide) ?_
  dsimp only [List.set]
  refine v_aload_n (dec_of DX7_writeSign 6 rfl) rfl ?_
  refine v_get fX7_50 (dec_of DX7_writeSign 7 rfl) rfl rfl ?_
  refine v_iload_n (dec_of DX7_writeSign 8 rfl) rfl ?_
  refine vi_const (dec_of DX7_writeSign 9 rfl) ?_
  refine v_V2r (c8_get (by first | omega | exact bnd_r _ _ | exact hF _ _ | exact hI _ | exact hG _ _ | exact hK _ | (simp [uN] <;> omega)) (by first | omega | exact bnd_r _ _ | exact hF _ _ | exact hI _ | exact hG _ _ | exact hK _ | (simp [uN] <;> omega)) (by first | omega | exact bnd_r _ _ | exact hF _ _ | exact hI _ | exact hG _ _ | exact hK _ | (simp [uN] <;> omega))) lX7_23 (dec_of DX7_writeSign 10 rfl) rfl rfl (by decide) (nle rfl) rfl ?_
  rw [hk]
  refine vi_tabIn (tgt := 104) (dec_of DX7_writeSign 11 rfl) (by decide) (by decide) (by decide) rfl (by decide) ?_
  refine v_aload_n (dec_of DX7_writeSign 41 rfl) rfl ?_
  refine vi_bi (dec_of DX7_writeSign 42 rfl) (by decide) ?_
  refine v_iload_n (dec_of DX7_writeSign 43 rfl) rfl ?_
  refine vi_add (dec_of DX7_writeSign 44 rfl) ?_
  refine v_V1r (cw_add (by omega)) lX7_27 (dec_of DX7_writeSign 45 rfl) rfl rfl (by decide) (nle rfl) rfl ?_
  refine v_pop (dec_of DX7_writeSign 46 rfl) rfl ?_
  refine v_aload_n (dec_of DX7_writeSign 47 rfl) rfl ?_
  refine vi_bi (dec_of DX7_writeSign 48 rfl) (by decide) ?_
  refine v_V1r (cw_add (by simp only [apN, uN_s, List.length_append, List.length_cons, List.length_nil]; omega)) lX7_27 (dec_of DX7_writeSign 49 rfl) rfl rfl (by decide) (nle rfl) rfl ?_
  refine Vd_w ap2 ?_
  refine v_pop (dec_of DX7_writeSign 50 rfl) rfl ?_
  refine v_goto (tgt := 178) (dec_of DX7_writeSign 51 rfl) (by decide) ?_
  exact vi_vret (dec_of DX7_writeSign 83 rfl) rfl ⟨by decide, by decide⟩ (⟨rfl, rfl⟩)
set_option maxRecDepth 100000 in
set_option maxHeartbeats 4000000 in
theorem k_wS3f {T : XW} {I N : Nat → Int} {F : Nat → Int → Int} (hF : FR F) (hI : IR I) (hN : NR N) {j : Int} (hj : 0 ≤ j ∧ j < N 8) (hk : F 8 (j * 2 + 0) = 3) (hv : 4 < F 8 (j * 2 + 1)) (hlen : N 1 + (([102] ++ [48 + (F 8 (j * 2 + 1) - 4)]).length : Int) ≤ 1500) (hr : ∀ a ∈ [102] ++ [48 + (F 8 (j * 2 + 1) - 4)], -2147483648 ≤ a ∧ a < 2147483648) : Sd (rm 3 66 0 0) mX7_writeSign [.ref 5, J j, .ref 3] (cls I N F ++ T) (cls I (apN N ([102] ++ [48 + (F 8 (j * 2 + 1) - 4)])) (apF N F ([102] ++ [48 + (F 8 (j * 2 + 1) - 4)])) ++ T) (none) := by
  unfold Sd
  unfold NR at hN
  (try simp only [List.length_append, List.length_cons, List.length_nil] at hlen)
  refine sp_of (ls := [some (.ref 5), some (J j), some (.ref 3), none]) (by decide) (nle rfl) rfl rfl ?_
  refine v_aload_n (dec_of DX7_writeSign 0 rfl) rfl ?_
  refine v_get fX7_50 (dec_of DX7_writeSign 1 rfl) rfl rfl ?_
  refine v_iload_n (dec_of DX7_writeSign 2 rfl) rfl ?_
  refine vi_const (dec_of DX7_writeSign 3 rfl) ?_
  refine v_V2r (c8_get (by first | omega | exact bnd_r _ _ | exact hF _ _ | exact hI _ | exact hG _ _ | exact hK _ | (simp [uN] <;> omega)) (by first | omega | exact bnd_r _ _ | exact hF _ _ | exact hI _ | exact hG _ _ | exact hK _ | (simp [uN] <;> omega)) (by first | omega | exact bnd_r _ _ | exact hF _ _ | exact hI _ | exact hG _ _ | exact hK _ | (simp [uN] <;> omega))) lX7_23 (dec_of DX7_writeSign 4 rfl) rfl rfl (by decide) (nle rfl) rfl ?_
  refine v_istore_n (dec_of DX7_writeSign 5 rfl) (by decide) ?_
  dsimp only [List.set]
  refine v_aload_n (dec_of DX7_writeSign 6 rfl) rfl ?_
  refine v_get fX7_50 (dec_of DX7_writeSign 7 rfl) rfl rfl ?_
  refine v_iload_n (dec_of DX7_writeSign 8 rfl) rfl ?_
  refine vi_const (dec_of DX7_writeSign 9 rfl) ?_
  refine v_V2r (c8_get (by first | omega | exact bnd_r _ _ | exact hF _ _ | exact hI _ | exact hG _ _ | exact hK _ | (simp [uN] <;> omega)) (by first | omega | exact bnd_r _ _ | exact hF _ _ | exact hI _ | exact hG _ _ | exact hK _ | (simp [uN] <;> omega)) (by first | omega | exact bnd_r _ _ | exact hF _ _ | exact hI _ | exact hG _ _ | exact hK _ | (simp [uN] <;> omega))) lX7_23 (dec_of DX7_writeSign 10 rfl) rfl rfl (by decide) (nle rfl) rfl ?_
  rw [hk]
  refine vi_tabIn (tgt := 123) (dec_of DX7_writeSign 11 rfl) (by decide) (by decide) (by decide) rfl (by decide) ?_
  refine v_aload_n (dec_of DX7_writeSign 52 rfl) rfl ?_
  refine v_iload_n (dec_of DX7_writeSign 53 rfl) rfl ?_
  refine vi_const (dec_of DX7_writeSign 54 rfl) ?_
  refine vi_icmp_le (tgt := 134) (dec_of DX7_writeSign 55 rfl) (by decide) (by first | omega | exact bnd_r _ _ | exact hF _ _ | exact hI _ | exact hG _ _ | exact hK _ | (simp [uN] <;> omega)) (by first | omega | exact bnd_r _ _ | exact hF _ _ | exact hI _ | exact hG _ _ | exact hK _ | (simp [uN] <;> omega)) (fun c126 => absurd c126 (by omega)) (fun c126 => ?_)
  refine vi_bi (dec_of DX7_writeSign 56 rfl) (by decide) ?_
  refine v_goto (tgt := 136) (dec_of DX7_writeSign 57 rfl) (by decide) ?_
  refine v_V1r (cw_add (by omega)) lX7_27 (dec_of DX7_writeSign 59 rfl) rfl rfl (by decide) (nle rfl) rfl ?_
  refine v_pop (dec_of DX7_writeSign 60 rfl) rfl ?_
  refine v_aload_n (dec_of DX7_writeSign 61 rfl) rfl ?_
  refine vi_bi (dec_of DX7_writeSign 62 rfl) (by decide) ?_
  refine v_iload_n (dec_of DX7_writeSign 63 rfl) rfl ?_
  refine vi_const (dec_of DX7_writeSign 64 rfl) ?_
  refine vi_icmp_le (tgt := 154) (dec_of DX7_writeSign 65 rfl) (by decide) (by first | omega | exact bnd_r _ _ | exact hF _ _ | exact hI _ | exact hG _ _ | exact hK _ | (simp [uN] <;> omega)) (by first | omega | exact bnd_r _ _ | exact hF _ _ | exact hI _ | exact hG _ _ | exact hK _ | (simp [uN] <;> omega)) (fun c145 => absurd c145 (by omega)) (fun c145 => ?_)
  refine v_iload_n (dec_of DX7_writeSign 66 rfl) rfl ?_
  refine vi_const (dec_of DX7_writeSign 67 rfl) ?_
  refine vi_sub (dec_of DX7_writeSign 68 rfl) ?_
  refine v_goto (tgt := 155) (dec_of DX7_writeSign 69 rfl) (by decide) ?_
  refine vi_add (dec_of DX7_writeSign 71 rfl) ?_
  refine v_V1r (cw_add (by simp only [apN, uN_s, List.length_append, List.length_cons, List.length_nil]; omega)) lX7_27 (dec_of DX7_writeSign 72 rfl) rfl rfl (by decide) (nle rfl) rfl ?_
  refine Vd_w ap2 ?_
  refine v_pop (dec_of DX7_writeSign 73 rfl) rfl ?_
  refine v_goto (tgt := 178) (dec_of DX7_writeSign 74 rfl) (by decide) ?_
  exact vi_vret (dec_of DX7_writeSign 83 rfl) rfl ⟨by decide, by decide⟩ (⟨rfl, rfl⟩)
set_option maxRecDepth 100000 in
set_option maxHeartbeats 4000000 in
theorem k_wS3c {T : XW} {I N : Nat → Int} {F : Nat → Int → Int} (hF : FR F) (hI : IR I) (hN : NR N) {j : Int} (hj : 0 ≤ j ∧ j < N 8) (hk : F 8 (j * 2 + 0) = 3) (hv : ¬ 4 < F 8 (j * 2 + 1)) (hlen : N 1 + (([99] ++ [48 + F 8 (j * 2 + 1)]).length : Int) ≤ 1500) (hr : ∀ a ∈ [99] ++ [48 + F 8 (j * 2 + 1)], -2147483648 ≤ a ∧ a < 2147483648) : Sd (rm 3 66 0 0) mX7_writeSign [.ref 5, J j, .ref 3] (cls I N F ++ T) (cls I (apN N ([99] ++ [48 + F 8 (j * 2 + 1)])) (apF N F ([99] ++ [48 + F 8 (j * 2 + 1)])) ++ T) (none) := by
  unfold Sd
  unfold NR at hN
  (try simp only [List.length_append, List.length_cons, List.length_nil] at hlen)
  refine sp_of (ls := [some (.ref 5), some (J j), some (.ref 3), none]) (by decide) (nle rfl) rfl rfl ?_
  refine v_aload_n (dec_of DX7_writeSign 0 rfl) rfl ?_
  refine v_get fX7_50 (dec_of DX7_writeSign 1 rfl) rfl rfl ?_
  refine v_iload_n (dec_of DX7_writeSign 2 rfl) rfl ?_
  refine vi_const (dec_of DX7_writeSign 3 rfl) ?_
  refine v_V2r (c8_get (by first | omega | exact bnd_r _ _ | exact hF _ _ | exact hI _ | exact hG _ _ | exact hK _ | (simp [uN] <;> omega)) (by first | omega | exact bnd_r _ _ | exact hF _ _ | exact hI _ | exact hG _ _ | exact hK _ | (simp [uN] <;> omega)) (by first | omega | exact bnd_r _ _ | exact hF _ _ | exact hI _ | exact hG _ _ | exact hK _ | (simp [uN] <;> omega))) lX7_23 (dec_of DX7_writeSign 4 rfl) rfl rfl (by decide) (nle rfl) rfl ?_
  refine v_istore_n (dec_of DX7_writeSign 5 rfl) (by decide) ?_
  dsimp only [List.set]
  refine v_aload_n (dec_of DX7_writeSign 6 rfl) rfl ?_
  refine v_get fX7_50 (dec_of DX7_writeSign 7 rfl) rfl rfl ?_
  refine v_iload_n (dec_of DX7_writeSign 8 rfl) rfl ?_
  refine vi_const (dec_of DX7_writeSign 9 rfl) ?_
  refine v_V2r (c8_get (by first | omega | exact bnd_r _ _ | exact hF _ _ | exact hI _ | exact hG _ _ | exact hK _ | (simp [uN] <;> omega)) (by first | omega | exact bnd_r _ _ | exact hF _ _ | exact hI _ | exact hG _ _ | exact hK _ | (simp [uN] <;> omega)) (by first | omega | exact bnd_r _ _ | exact hF _ _ | exact hI _ | exact hG _ _ | exact hK _ | (simp [uN] <;> omega))) lX7_23 (dec_of DX7_writeSign 10 rfl) rfl rfl (by decide) (nle rfl) rfl ?_
  rw [hk]
  refine vi_tabIn (tgt := 123) (dec_of DX7_writeSign 11 rfl) (by decide) (by decide) (by decide) rfl (by decide) ?_
  refine v_aload_n (dec_of DX7_writeSign 52 rfl) rfl ?_
  refine v_iload_n (dec_of DX7_writeSign 53 rfl) rfl ?_
  refine vi_const (dec_of DX7_writeSign 54 rfl) ?_
  refine vi_icmp_le (tgt := 134) (dec_of DX7_writeSign 55 rfl) (by decide) (by first | omega | exact bnd_r _ _ | exact hF _ _ | exact hI _ | exact hG _ _ | exact hK _ | (simp [uN] <;> omega)) (by first | omega | exact bnd_r _ _ | exact hF _ _ | exact hI _ | exact hG _ _ | exact hK _ | (simp [uN] <;> omega)) (fun c126 => ?_) (fun c126 => absurd c126 (by omega))
  refine vi_bi (dec_of DX7_writeSign 58 rfl) (by decide) ?_
  refine v_V1r (cw_add (by omega)) lX7_27 (dec_of DX7_writeSign 59 rfl) rfl rfl (by decide) (nle rfl) rfl ?_
  refine v_pop (dec_of DX7_writeSign 60 rfl) rfl ?_
  refine v_aload_n (dec_of DX7_writeSign 61 rfl) rfl ?_
  refine vi_bi (dec_of DX7_writeSign 62 rfl) (by decide) ?_
  refine v_iload_n (dec_of DX7_writeSign 63 rfl) rfl ?_
  refine vi_const (dec_of DX7_writeSign 64 rfl) ?_
  refine vi_icmp_le (tgt := 154) (dec_of DX7_writeSign 65 rfl) (by decide) (by first | omega | exact bnd_r _ _ | exact hF _ _ | exact hI _ | exact hG _ _ | exact hK _ | (simp [uN] <;> omega)) (by first | omega | exact bnd_r _ _ | exact hF _ _ | exact hI _ | exact hG _ _ | exact hK _ | (simp [uN] <;> omega)) (fun c145 => ?_) (fun c145 => absurd c145 (by omega))
  refine v_iload_n (dec_of DX7_writeSign 70 rfl) rfl ?_
  refine vi_add (dec_of DX7_writeSign 71 rfl) ?_
  refine v_V1r (cw_add (by simp only [apN, uN_s, List.length_append, List.length_cons, List.length_nil]; omega)) lX7_27 (dec_of DX7_writeSign 72 rfl) rfl rfl (by decide) (nle rfl) rfl ?_
  refine Vd_w ap2 ?_
  refine v_pop (dec_of DX7_writeSign 73 rfl) rfl ?_
  refine v_goto (tgt := 178) (dec_of DX7_writeSign 74 rfl) (by decide) ?_
  exact vi_vret (dec_of DX7_writeSign 83 rfl) rfl ⟨by decide, by decide⟩ (⟨rfl, rfl⟩)
set_option maxRecDepth 100000 in
set_option maxHeartbeats 4000000 in
theorem k_wS5 {T : XW} {I N : Nat → Int} {F : Nat → Int → Int} (hF : FR F) (hI : IR I) (hN : NR N) {j : Int} (hj : 0 ≤ j ∧ j < N 8) (hk : ¬ (0 ≤ F 8 (j * 2 + 0) ∧ F 8 (j * 2 + 0) ≤ 4)) (hlen : N 1 + 1 ≤ 1500) : Sd (rm 3 66 0 0) mX7_writeSign [.ref 5, J j, .ref 3] (cls I N F ++ T) (cls I (apN N ([122])) (apF N F ([122])) ++ T) (none) := by
  unfold Sd
  unfold NR at hN
  refine sp_of (ls := [some (.ref 5), some (J j), some (.ref 3), none]) (by decide) (nle rfl) rfl rfl ?_
  refine v_aload_n (dec_of DX7_writeSign 0 rfl) rfl ?_
  refine v_get fX7_50 (dec_of DX7_writeSign 1 rfl) rfl rfl ?_
  refine v_iload_n (dec_of DX7_writeSign 2 rfl) rfl ?_
  refine vi_const (dec_of DX7_writeSign 3 rfl) ?_
  refine v_V2r (c8_get (by first | omega | exact bnd_r _ _ | exact hF _ _ | exact hI _ | exact hG _ _ | exact hK _ | (simp [uN] <;> omega)) (by first | omega | exact bnd_r _ _ | exact hF _ _ | exact hI _ | exact hG _ _ | exact hK _ | (simp [uN] <;> omega)) (by first | omega | exact bnd_r _ _ | exact hF _ _ | exact hI _ | exact hG _ _ | exact hK _ | (simp [uN] <;> omega))) lX7_23 (dec_of DX7_writeSign 4 rfl) rfl rfl (by decide) (nle rfl) rfl ?_
  refine v_istore_n (dec_of DX7_writeSign 5 rfl) (by decide) ?_
  dsimp only [List.set]
  refine v_aload_n (dec_of DX7_writeSign 6 rfl) rfl ?_
  refine v_get fX7_50 (dec_of DX7_writeSign 7 rfl) rfl rfl ?_
  refine v_iload_n (dec_of DX7_writeSign 8 rfl) rfl ?_
  refine vi_const (dec_of DX7_writeSign 9 rfl) ?_
  refine v_V2r (c8_get (by first | omega | exact bnd_r _ _ | exact hF _ _ | exact hI _ | exact hG _ _ | exact hK _ | (simp [uN] <;> omega)) (by first | omega | exact bnd_r _ _ | exact hF _ _ | exact hI _ | exact hG _ _ | exact hK _ | (simp [uN] <;> omega)) (by first | omega | exact bnd_r _ _ | exact hF _ _ | exact hI _ | exact hG _ _ | exact hK _ | (simp [uN] <;> omega))) lX7_23 (dec_of DX7_writeSign 10 rfl) rfl rfl (by decide) (nle rfl) rfl ?_
  refine vi_tabOut (tgt := 171) (dec_of DX7_writeSign 11 rfl) (hF _ _) (by omega) (by decide) ?_
  refine v_aload_n (dec_of DX7_writeSign 79 rfl) rfl ?_
  refine vi_bi (dec_of DX7_writeSign 80 rfl) (by decide) ?_
  refine v_V1r (cw_add (by omega)) lX7_27 (dec_of DX7_writeSign 81 rfl) rfl rfl (by decide) (nle rfl) rfl ?_
  refine v_pop (dec_of DX7_writeSign 82 rfl) rfl ?_
  exact vi_vret (dec_of DX7_writeSign 83 rfl) rfl ⟨by decide, by decide⟩ (⟨rfl, rfl⟩)
set_option maxRecDepth 100000 in
set_option maxHeartbeats 4000000 in
theorem k_wS4_1 {T : XW} {I N : Nat → Int} {F : Nat → Int → Int} (hF : FR F) (hI : IR I) (hN : NR N) {j : Int} (hj : 0 ≤ j ∧ j < N 8) (hk : F 8 (j * 2 + 0) = 4) (hv : F 8 (j * 2 + 1) = 1) (hlen : N 1 + 1 ≤ 1500) : Sd (rm 3 66 0 0) mX7_writeSign [.ref 5, J j, .ref 3] (cls I N F ++ T) (cls I (apN N (wBar 1)) (apF N F (wBar 1)) ++ T) (none) := by
  unfold Sd
  unfold NR at hN
  refine sp_of (ls := [some (.ref 5), some (J j), some (.ref 3), none]) (by decide) (nle rfl) rfl rfl ?_
  refine v_aload_n (dec_of DX7_writeSign 0 rfl) rfl ?_
  refine v_get fX7_50 (dec_of DX7_writeSign 1 rfl) rfl rfl ?_
  refine v_iload_n (dec_of DX7_writeSign 2 rfl) rfl ?_
  refine vi_const (dec_of DX7_writeSign 3 rfl) ?_
  refine v_V2r (c8_get (by first | omega | exact bnd_r _ _ | exact hF _ _ | exact hI _ | exact hG _ _ | exact hK _ | (simp [uN] <;> omega)) (by first | omega | exact bnd_r _ _ | exact hF _ _ | exact hI _ | exact hG _ _ | exact hK _ | (simp [uN] <;> omega)) (by first | omega | exact bnd_r _ _ | exact hF _ _ | exact hI _ | exact hG _ _ | exact hK _ | (simp [uN] <;> omega))) lX7_23 (dec_of DX7_writeSign 4 rfl) rfl rfl (by decide) (nle rfl) rfl ?_
  refine v_istore_n (dec_of DX7_writeSign 5 rfl) (by decide) ?_
  dsimp only [List.set]
  refine v_aload_n (dec_of DX7_writeSign 6 rfl) rfl ?_
  refine v_get fX7_50 (dec_of DX7_writeSign 7 rfl) rfl rfl ?_
  refine v_iload_n (dec_of DX7_writeSign 8 rfl) rfl ?_
  refine vi_const (dec_of DX7_writeSign 9 rfl) ?_
  refine v_V2r (c8_get (by first | omega | exact bnd_r _ _ | exact hF _ _ | exact hI _ | exact hG _ _ | exact hK _ | (simp [uN] <;> omega)) (by first | omega | exact bnd_r _ _ | exact hF _ _ | exact hI _ | exact hG _ _ | exact hK _ | (simp [uN] <;> omega)) (by first | omega | exact bnd_r _ _ | exact hF _ _ | exact hI _ | exact hG _ _ | exact hK _ | (simp [uN] <;> omega))) lX7_23 (dec_of DX7_writeSign 10 rfl) rfl rfl (by decide) (nle rfl) rfl ?_
  rw [hk]
  refine vi_tabIn (tgt := 163) (dec_of DX7_writeSign 11 rfl) (by decide) (by decide) (by decide) rfl (by decide) ?_
  refine v_iload_n (dec_of DX7_writeSign 75 rfl) rfl ?_
  refine v_aload_n (dec_of DX7_writeSign 76 rfl) rfl ?_
  rw [hv]
  refine v_S2v (k_wBar1 hF hI (by unfold NR; exact hN) hlen) lX7_60 (dec_of DX7_writeSign 77 rfl) (by decide) (nle rfl) rfl ?_
  refine v_goto (tgt := 178) (dec_of DX7_writeSign 78 rfl) (by decide) ?_
  exact vi_vret (dec_of DX7_writeSign 83 rfl) rfl ⟨by decide, by decide⟩ (⟨rfl, rfl⟩)
set_option maxRecDepth 100000 in
set_option maxHeartbeats 4000000 in
theorem k_wS4_2 {T : XW} {I N : Nat → Int} {F : Nat → Int → Int} (hF : FR F) (hI : IR I) (hN : NR N) {j : Int} (hj : 0 ≤ j ∧ j < N 8) (hk : F 8 (j * 2 + 0) = 4) (hv : F 8 (j * 2 + 1) = 2) (hlen : N 1 + 1 ≤ 1500) : Sd (rm 3 66 0 0) mX7_writeSign [.ref 5, J j, .ref 3] (cls I N F ++ T) (cls I (apN N (wBar 2)) (apF N F (wBar 2)) ++ T) (none) := by
  unfold Sd
  unfold NR at hN
  refine sp_of (ls := [some (.ref 5), some (J j), some (.ref 3), none]) (by decide) (nle rfl) rfl rfl ?_
  refine v_aload_n (dec_of DX7_writeSign 0 rfl) rfl ?_
  refine v_get fX7_50 (dec_of DX7_writeSign 1 rfl) rfl rfl ?_
  refine v_iload_n (dec_of DX7_writeSign 2 rfl) rfl ?_
  refine vi_const (dec_of DX7_writeSign 3 rfl) ?_
  refine v_V2r (c8_get (by first | omega | exact bnd_r _ _ | exact hF _ _ | exact hI _ | exact hG _ _ | exact hK _ | (simp [uN] <;> omega)) (by first | omega | exact bnd_r _ _ | exact hF _ _ | exact hI _ | exact hG _ _ | exact hK _ | (simp [uN] <;> omega)) (by first | omega | exact bnd_r _ _ | exact hF _ _ | exact hI _ | exact hG _ _ | exact hK _ | (simp [uN] <;> omega))) lX7_23 (dec_of DX7_writeSign 4 rfl) rfl rfl (by decide) (nle rfl) rfl ?_
  refine v_istore_n (dec_of DX7_writeSign 5 rfl) (by decide) ?_
  dsimp only [List.set]
  refine v_aload_n (dec_of DX7_writeSign 6 rfl) rfl ?_
  refine v_get fX7_50 (dec_of DX7_writeSign 7 rfl) rfl rfl ?_
  refine v_iload_n (dec_of DX7_writeSign 8 rfl) rfl ?_
  refine vi_const (dec_of DX7_writeSign 9 rfl) ?_
  refine v_V2r (c8_get (by first | omega | exact bnd_r _ _ | exact hF _ _ | exact hI _ | exact hG _ _ | exact hK _ | (simp [uN] <;> omega)) (by first | omega | exact bnd_r _ _ | exact hF _ _ | exact hI _ | exact hG _ _ | exact hK _ | (simp [uN] <;> omega)) (by first | omega | exact bnd_r _ _ | exact hF _ _ | exact hI _ | exact hG _ _ | exact hK _ | (simp [uN] <;> omega))) lX7_23 (dec_of DX7_writeSign 10 rfl) rfl rfl (by decide) (nle rfl) rfl ?_
  rw [hk]
  refine vi_tabIn (tgt := 163) (dec_of DX7_writeSign 11 rfl) (by decide) (by decide) (by decide) rfl (by decide) ?_
  refine v_iload_n (dec_of DX7_writeSign 75 rfl) rfl ?_
  refine v_aload_n (dec_of DX7_writeSign 76 rfl) rfl ?_
  rw [hv]
  refine v_S2v (k_wBar2 hF hI (by unfold NR; exact hN) hlen) lX7_60 (dec_of DX7_writeSign 77 rfl) (by decide) (nle rfl) rfl ?_
  refine v_goto (tgt := 178) (dec_of DX7_writeSign 78 rfl) (by decide) ?_
  exact vi_vret (dec_of DX7_writeSign 83 rfl) rfl ⟨by decide, by decide⟩ (⟨rfl, rfl⟩)
set_option maxRecDepth 100000 in
set_option maxHeartbeats 4000000 in
theorem k_wS4_3 {T : XW} {I N : Nat → Int} {F : Nat → Int → Int} (hF : FR F) (hI : IR I) (hN : NR N) {j : Int} (hj : 0 ≤ j ∧ j < N 8) (hk : F 8 (j * 2 + 0) = 4) (hv : F 8 (j * 2 + 1) = 3) (hlen : N 1 + 1 ≤ 1500) : Sd (rm 3 66 0 0) mX7_writeSign [.ref 5, J j, .ref 3] (cls I N F ++ T) (cls I (apN N (wBar 3)) (apF N F (wBar 3)) ++ T) (none) := by
  unfold Sd
  unfold NR at hN
  refine sp_of (ls := [some (.ref 5), some (J j), some (.ref 3), none]) (by decide) (nle rfl) rfl rfl ?_
  refine v_aload_n (dec_of DX7_writeSign 0 rfl) rfl ?_
  refine v_get fX7_50 (dec_of DX7_writeSign 1 rfl) rfl rfl ?_
  refine v_iload_n (dec_of DX7_writeSign 2 rfl) rfl ?_
  refine vi_const (dec_of DX7_writeSign 3 rfl) ?_
  refine v_V2r (c8_get (by first | omega | exact bnd_r _ _ | exact hF _ _ | exact hI _ | exact hG _ _ | exact hK _ | (simp [uN] <;> omega)) (by first | omega | exact bnd_r _ _ | exact hF _ _ | exact hI _ | exact hG _ _ | exact hK _ | (simp [uN] <;> omega)) (by first | omega | exact bnd_r _ _ | exact hF _ _ | exact hI _ | exact hG _ _ | exact hK _ | (simp [uN] <;> omega))) lX7_23 (dec_of DX7_writeSign 4 rfl) rfl rfl (by decide) (nle rfl) rfl ?_
  refine v_istore_n (dec_of DX7_writeSign 5 rfl) (by decide) ?_
  dsimp only [List.set]
  refine v_aload_n (dec_of DX7_writeSign 6 rfl) rfl ?_
  refine v_get fX7_50 (dec_of DX7_writeSign 7 rfl) rfl rfl ?_
  refine v_iload_n (dec_of DX7_writeSign 8 rfl) rfl ?_
  refine vi_const (dec_of DX7_writeSign 9 rfl) ?_
  refine v_V2r (c8_get (by first | omega | exact bnd_r _ _ | exact hF _ _ | exact hI _ | exact hG _ _ | exact hK _ | (simp [uN] <;> omega)) (by first | omega | exact bnd_r _ _ | exact hF _ _ | exact hI _ | exact hG _ _ | exact hK _ | (simp [uN] <;> omega)) (by first | omega | exact bnd_r _ _ | exact hF _ _ | exact hI _ | exact hG _ _ | exact hK _ | (simp [uN] <;> omega))) lX7_23 (dec_of DX7_writeSign 10 rfl) rfl rfl (by decide) (nle rfl) rfl ?_
  rw [hk]
  refine vi_tabIn (tgt := 163) (dec_of DX7_writeSign 11 rfl) (by decide) (by decide) (by decide) rfl (by decide) ?_
  refine v_iload_n (dec_of DX7_writeSign 75 rfl) rfl ?_
  refine v_aload_n (dec_of DX7_writeSign 76 rfl) rfl ?_
  rw [hv]
  refine v_S2v (k_wBar3 hF hI (by unfold NR; exact hN) hlen) lX7_60 (dec_of DX7_writeSign 77 rfl) (by decide) (nle rfl) rfl ?_
  refine v_goto (tgt := 178) (dec_of DX7_writeSign 78 rfl) (by decide) ?_
  exact vi_vret (dec_of DX7_writeSign 83 rfl) rfl ⟨by decide, by decide⟩ (⟨rfl, rfl⟩)
set_option maxRecDepth 100000 in
set_option maxHeartbeats 4000000 in
theorem k_wS4_4 {T : XW} {I N : Nat → Int} {F : Nat → Int → Int} (hF : FR F) (hI : IR I) (hN : NR N) {j : Int} (hj : 0 ≤ j ∧ j < N 8) (hk : F 8 (j * 2 + 0) = 4) (hv : F 8 (j * 2 + 1) = 4) (hlen : N 1 + 2 ≤ 1500) : Sd (rm 3 66 0 0) mX7_writeSign [.ref 5, J j, .ref 3] (cls I N F ++ T) (cls I (apN N (wBar 4)) (apF N F (wBar 4)) ++ T) (none) := by
  unfold Sd
  unfold NR at hN
  refine sp_of (ls := [some (.ref 5), some (J j), some (.ref 3), none]) (by decide) (nle rfl) rfl rfl ?_
  refine v_aload_n (dec_of DX7_writeSign 0 rfl) rfl ?_
  refine v_get fX7_50 (dec_of DX7_writeSign 1 rfl) rfl rfl ?_
  refine v_iload_n (dec_of DX7_writeSign 2 rfl) rfl ?_
  refine vi_const (dec_of DX7_writeSign 3 rfl) ?_
  refine v_V2r (c8_get (by first | omega | exact bnd_r _ _ | exact hF _ _ | exact hI _ | exact hG _ _ | exact hK _ | (simp [uN] <;> omega)) (by first | omega | exact bnd_r _ _ | exact hF _ _ | exact hI _ | exact hG _ _ | exact hK _ | (simp [uN] <;> omega)) (by first | omega | exact bnd_r _ _ | exact hF _ _ | exact hI _ | exact hG _ _ | exact hK _ | (simp [uN] <;> omega))) lX7_23 (dec_of DX7_writeSign 4 rfl) rfl rfl (by decide) (nle rfl) rfl ?_
  refine v_istore_n (dec_of DX7_writeSign 5 rfl) (by decide) ?_
  dsimp only [List.set]
  refine v_aload_n (dec_of DX7_writeSign 6 rfl) rfl ?_
  refine v_get fX7_50 (dec_of DX7_writeSign 7 rfl) rfl rfl ?_
  refine v_iload_n (dec_of DX7_writeSign 8 rfl) rfl ?_
  refine vi_const (dec_of DX7_writeSign 9 rfl) ?_
  refine v_V2r (c8_get (by first | omega | exact bnd_r _ _ | exact hF _ _ | exact hI _ | exact hG _ _ | exact hK _ | (simp [uN] <;> omega)) (by first | omega | exact bnd_r _ _ | exact hF _ _ | exact hI _ | exact hG _ _ | exact hK _ | (simp [uN] <;> omega)) (by first | omega | exact bnd_r _ _ | exact hF _ _ | exact hI _ | exact hG _ _ | exact hK _ | (simp [uN] <;> omega))) lX7_23 (dec_of DX7_writeSign 10 rfl) rfl rfl (by decide) (nle rfl) rfl ?_
  rw [hk]
  refine vi_tabIn (tgt := 163) (dec_of DX7_writeSign 11 rfl) (by decide) (by decide) (by decide) rfl (by decide) ?_
  refine v_iload_n (dec_of DX7_writeSign 75 rfl) rfl ?_
  refine v_aload_n (dec_of DX7_writeSign 76 rfl) rfl ?_
  rw [hv]
  refine v_S2v (k_wBar4 hF hI (by unfold NR; exact hN) hlen) lX7_60 (dec_of DX7_writeSign 77 rfl) (by decide) (nle rfl) rfl ?_
  refine v_goto (tgt := 178) (dec_of DX7_writeSign 78 rfl) (by decide) ?_
  exact vi_vret (dec_of DX7_writeSign 83 rfl) rfl ⟨by decide, by decide⟩ (⟨rfl, rfl⟩)
set_option maxRecDepth 100000 in
set_option maxHeartbeats 4000000 in
theorem k_wS0 {T : XW} {I N : Nat → Int} {F : Nat → Int → Int} (hF : FR F) (hI : IR I) (hN : NR N) {j : Int} (hj : 0 ≤ j ∧ j < N 8) (hk : F 8 (j * 2 + 0) = 0) (hv : 0 ≤ F 8 (j * 2 + 1) ∧ F 8 (j * 2 + 1) < N 4) (hlen : N 1 + (([97 + F 4 (F 8 (j * 2 + 1) * 8 + 0)] ++ wMks (F 4 (F 8 (j * 2 + 1) * 8 + 1))).length : Int) ≤ 1500) (hr : ∀ a ∈ [97 + F 4 (F 8 (j * 2 + 1) * 8 + 0)] ++ wMks (F 4 (F 8 (j * 2 + 1) * 8 + 1)), -2147483648 ≤ a ∧ a < 2147483648) : Sd (rm 3 66 0 0) mX7_writeSign [.ref 5, J j, .ref 3] (cls I N F ++ T) (cls I (apN N ([97 + F 4 (F 8 (j * 2 + 1) * 8 + 0)] ++ wMks (F 4 (F 8 (j * 2 + 1) * 8 + 1)))) (apF N F ([97 + F 4 (F 8 (j * 2 + 1) * 8 + 0)] ++ wMks (F 4 (F 8 (j * 2 + 1) * 8 + 1)))) ++ T) (none) := by
  unfold Sd
  unfold NR at hN
  (try simp only [List.length_append, List.length_cons, List.length_nil] at hlen)
  refine sp_of (ls := [some (.ref 5), some (J j), some (.ref 3), none]) (by decide) (nle rfl) rfl rfl ?_
  refine v_aload_n (dec_of DX7_writeSign 0 rfl) rfl ?_
  refine v_get fX7_50 (dec_of DX7_writeSign 1 rfl) rfl rfl ?_
  refine v_iload_n (dec_of DX7_writeSign 2 rfl) rfl ?_
  refine vi_const (dec_of DX7_writeSign 3 rfl) ?_
  refine v_V2r (c8_get (by first | omega | exact bnd_r _ _ | exact hF _ _ | exact hI _ | exact hG _ _ | exact hK _ | (simp [uN] <;> omega)) (by first | omega | exact bnd_r _ _ | exact hF _ _ | exact hI _ | exact hG _ _ | exact hK _ | (simp [uN] <;> omega)) (by first | omega | exact bnd_r _ _ | exact hF _ _ | exact hI _ | exact hG _ _ | exact hK _ | (simp [uN] <;> omega))) lX7_23 (dec_of DX7_writeSign 4 rfl) rfl rfl (by decide) (nle rfl) rfl ?_
  refine v_istore_n (dec_of DX7_writeSign 5 rfl) (by decide) ?_
  dsimp only [List.set]
  refine v_aload_n (dec_of DX7_writeSign 6 rfl) rfl ?_
  refine v_get fX7_50 (dec_of DX7_writeSign 7 rfl) rfl rfl ?_
  refine v_iload_n (dec_of DX7_writeSign 8 rfl) rfl ?_
  refine vi_const (dec_of DX7_writeSign 9 rfl) ?_
  refine v_V2r (c8_get (by first | omega | exact bnd_r _ _ | exact hF _ _ | exact hI _ | exact hG _ _ | exact hK _ | (simp [uN] <;> omega)) (by first | omega | exact bnd_r _ _ | exact hF _ _ | exact hI _ | exact hG _ _ | exact hK _ | (simp [uN] <;> omega)) (by first | omega | exact bnd_r _ _ | exact hF _ _ | exact hI _ | exact hG _ _ | exact hK _ | (simp [uN] <;> omega))) lX7_23 (dec_of DX7_writeSign 10 rfl) rfl rfl (by decide) (nle rfl) rfl ?_
  rw [hk]
  refine vi_tabIn (tgt := 52) (dec_of DX7_writeSign 11 rfl) (by decide) (by decide) (by decide) rfl (by decide) ?_
  refine v_aload_n (dec_of DX7_writeSign 12 rfl) rfl ?_
  refine vi_bi (dec_of DX7_writeSign 13 rfl) (by decide) ?_
  refine v_aload_n (dec_of DX7_writeSign 14 rfl) rfl ?_
  refine v_get fX7_53 (dec_of DX7_writeSign 15 rfl) rfl rfl ?_
  refine v_iload_n (dec_of DX7_writeSign 16 rfl) rfl ?_
  refine vi_const (dec_of DX7_writeSign 17 rfl) ?_
  refine v_V2r (c4_get (by omega) (by omega) (by decide)) lX7_23 (dec_of DX7_writeSign 18 rfl) rfl rfl (by decide) (nle rfl) rfl ?_
  refine vi_add (dec_of DX7_writeSign 19 rfl) ?_
  refine v_V1r (cw_add (by omega)) lX7_27 (dec_of DX7_writeSign 20 rfl) rfl rfl (by decide) (nle rfl) rfl ?_
  refine v_pop (dec_of DX7_writeSign 21 rfl) rfl ?_
  refine v_aload_n (dec_of DX7_writeSign 22 rfl) rfl ?_
  refine v_get fX7_53 (dec_of DX7_writeSign 23 rfl) rfl rfl ?_
  refine v_iload_n (dec_of DX7_writeSign 24 rfl) rfl ?_
  refine vi_const (dec_of DX7_writeSign 25 rfl) ?_
  refine v_V2r (c4_get (by simp (disch := decide) only [apN, uN_n]; omega) (by simp (disch := decide) only [apN, uN_n]; omega) (by decide)) lX7_23 (dec_of DX7_writeSign 26 rfl) rfl rfl (by decide) (nle rfl) rfl ?_
  refine v_aload_n (dec_of DX7_writeSign 27 rfl) rfl ?_
  refine v_S2v (k_wMarks (m := F 4 (F 8 (j * 2 + 1) * 8 + 1)) (N := apN N [97 + F 4 (F 8 (j * 2 + 1) * 8 + 0)]) (F := apF N F [97 + F 4 (F 8 (j * 2 + 1) * 8 + 0)]) (FRap hF (fun a h => hr a (List.mem_append_left _ h))) hI (NRap (by unfold NR; exact hN) (by simp only [List.length_cons, List.length_nil]; omega)) (by simp only [apN, uN_s, List.length_append, List.length_cons, List.length_nil]; omega) (fun a h => hr a (List.mem_append_right _ h))) lX7_56 (dec_of DX7_writeSign 28 rfl) (by decide) (nle rfl) rfl ?_
  refine Vd_w ap2 ?_
  refine v_goto (tgt := 178) (dec_of DX7_writeSign 29 rfl) (by decide) ?_
  exact vi_vret (dec_of DX7_writeSign 83 rfl) rfl ⟨by decide, by decide⟩ (⟨rfl, rfl⟩)
/-- what a sign's cells may be -/
def sgnOK (N : Nat → Int) (F : Nat → Int → Int) (j : Int) : Prop := (F 8 (j * 2 + 0) = 0 ∧ 0 ≤ F 8 (j * 2 + 1) ∧ F 8 (j * 2 + 1) < N 4) ∨ F 8 (j * 2 + 0) = 1 ∨ F 8 (j * 2 + 0) = 2 ∨ F 8 (j * 2 + 0) = 3 ∨ (F 8 (j * 2 + 0) = 4 ∧ 1 ≤ F 8 (j * 2 + 1) ∧ F 8 (j * 2 + 1) ≤ 4) ∨ F 8 (j * 2 + 0) = 5
theorem k_wSgn {T : XW} {I N : Nat → Int} {F : Nat → Int → Int} (hF : FR F) (hI : IR I) (hN : NR N) {j : Int} (hj : 0 ≤ j ∧ j < N 8) (hs : sgnOK N F j) (hlen : N 1 + ((wSgn F j).length : Int) ≤ 1500) (hr : ∀ a ∈ wSgn F j, -2147483648 ≤ a ∧ a < 2147483648) : Sd (rm 3 66 0 0) mX7_writeSign [.ref 5, J j, .ref 3] (cls I N F ++ T) (cls I (apN N (wSgn F j)) (apF N F (wSgn F j)) ++ T) none := by
  rcases hs with ⟨h, h1, h2⟩ | h | h | h | ⟨h, h1, h2⟩ | h
  · have e : wSgn F j = [97 + F 4 (F 8 (j * 2 + 1) * 8 + 0)] ++ wMks (F 4 (F 8 (j * 2 + 1) * 8 + 1)) := by rw [wSgn, if_pos h]
    rw [e] at hlen hr ⊢
    exact k_wS0 hF hI hN hj h ⟨h1, h2⟩ hlen hr
  · have e : wSgn F j = [97 + F 8 (j * 2 + 1)] ++ [120] := by rw [wSgn, if_neg (by omega), if_pos h]; rfl
    rw [e] at hlen hr ⊢
    exact k_wS1 hF hI hN hj h hlen hr
  · have e : wSgn F j = [97 + F 8 (j * 2 + 1)] ++ [121] := by rw [wSgn, if_neg (by omega), if_neg (by omega), if_pos h]; rfl
    rw [e] at hlen hr ⊢
    exact k_wS2 hF hI hN hj h hlen hr
  · by_cases hv : 4 < F 8 (j * 2 + 1)
    · have e : wSgn F j = [102] ++ [48 + (F 8 (j * 2 + 1) - 4)] := by rw [wSgn, if_neg (by omega), if_neg (by omega), if_neg (by omega), if_pos h, if_pos hv]; rfl
      rw [e] at hlen hr ⊢
      exact k_wS3f hF hI hN hj h hv hlen hr
    · have e : wSgn F j = [99] ++ [48 + F 8 (j * 2 + 1)] := by rw [wSgn, if_neg (by omega), if_neg (by omega), if_neg (by omega), if_pos h, if_neg hv]; rfl
      rw [e] at hlen hr ⊢
      exact k_wS3c hF hI hN hj h hv hlen hr
  · have e : wSgn F j = wBar (F 8 (j * 2 + 1)) := by rw [wSgn, if_neg (by omega), if_neg (by omega), if_neg (by omega), if_neg (by omega), if_pos h]
    rw [e] at hlen hr ⊢
    by_cases v1 : F 8 (j * 2 + 1) = 1
    · rw [v1] at hlen ⊢; exact k_wS4_1 hF hI hN hj h v1 (by simpa [wBar] using hlen)
    by_cases v2 : F 8 (j * 2 + 1) = 2
    · rw [v2] at hlen ⊢; exact k_wS4_2 hF hI hN hj h v2 (by simpa [wBar] using hlen)
    by_cases v3 : F 8 (j * 2 + 1) = 3
    · rw [v3] at hlen ⊢; exact k_wS4_3 hF hI hN hj h v3 (by simpa [wBar] using hlen)
    have v4 : F 8 (j * 2 + 1) = 4 := by omega
    rw [v4] at hlen ⊢; exact k_wS4_4 hF hI hN hj h v4 (by simpa [wBar] using hlen)
  · have e : wSgn F j = [122] := by rw [wSgn, if_neg (by omega), if_neg (by omega), if_neg (by omega), if_neg (by omega), if_neg (by omega)]
    rw [e] at hlen hr ⊢
    exact k_wS5 hF hI hN hj (by omega) (by simpa using hlen)
