/-! ChantNeumes$Table: contracts over any world that holds the table b and its cells a (printed by wip/tools/gen_table.py) -/
theorem nle {a b : Nat} (h : Nat.ble a b = true) : a ≤ b := Nat.le_of_ble_eq_true h
theorem set_same {α : Type} {w : List α} {b : Nat} {e : α} (h : w[b]? = some e) : w = w.set b e := by
  apply List.ext_getElem?
  intro j
  rw [List.getElem?_set]
  by_cases hj : b = j
  · subst hj
    rw [if_pos rfl, if_pos (List.getElem?_eq_some_iff.mp h).1, h]
  · simp [hj]
theorem tab_in {room cols n r c : Int} {L : Nat} (h0 : 0 ≤ n) (h1 : n ≤ room) (hc1 : 1 ≤ cols) (hc2 : cols ≤ 100) (hr1 : room ≤ 100000) (hL : (L : Int) = room * cols) (hr : 0 ≤ r ∧ r < n) (hc : 0 ≤ c ∧ c < cols) : 0 ≤ r * cols ∧ 0 ≤ r * cols + c ∧ r * cols + c < L ∧ r * cols + cols ≤ L ∧ (L : Int) ≤ 10000000 := by
  have a1 : 0 ≤ r * cols := Int.mul_nonneg hr.1 (by omega)
  have a2 : (r + 1) * cols ≤ room * cols := Int.mul_le_mul_of_nonneg_right (by omega) (by omega)
  have a3 : room * cols ≤ 100000 * cols := Int.mul_le_mul_of_nonneg_right hr1 (by omega)
  rw [Int.add_mul, Int.one_mul] at a2
  omega
abbrev tb (a : Nat) (room cols n : Int) : XE := .inr (4, [J room, J cols, .ref a, J n])
set_option maxRecDepth 100000 in
set_option maxHeartbeats 4000000 in
theorem tt_size {w : XW} {b a : Nat} {room cols n : Int} (hT : w[b]? = some (tb a room cols n)) : Sd (rm 0 0 0 0) mX5_size [.ref b] (w) (w) (some (J n)) := by
  unfold Sd
  refine sp_of (ls := [some (.ref b)]) (by decide) (nle rfl) rfl rfl ?_
  refine v_aload_n (dec_of DX5_size 0 rfl) rfl ?_
  refine v_get fX5_28 (dec_of DX5_size 1 rfl) hT rfl ?_
  exact vi_ret (dec_of DX5_size 2 rfl) rfl ⟨by decide, by decide⟩ (⟨rfl, rfl⟩)
set_option maxRecDepth 100000 in
set_option maxHeartbeats 4000000 in
theorem tt_full {w : XW} {b a : Nat} {room cols n : Int} (hT : w[b]? = some (tb a room cols n)) (hn : 0 ≤ n ∧ n ≤ room ∧ room ≤ 100000) : Sd (rm 0 0 0 0) mX5_isFull [.ref b] (w) (w) (some (J (if room ≤ n then 1 else 0))) := by
  unfold Sd
  refine sp_of (ls := [some (.ref b)]) (by decide) (nle rfl) rfl rfl ?_
  refine v_aload_n (dec_of DX5_isFull 0 rfl) rfl ?_
  refine v_get fX5_28 (dec_of DX5_isFull 1 rfl) hT rfl ?_
  refine v_aload_n (dec_of DX5_isFull 2 rfl) rfl ?_
  refine v_get fX5_15 (dec_of DX5_isFull 3 rfl) hT rfl ?_
  refine vi_icmp_lt (tgt := 15) (dec_of DX5_isFull 4 rfl) (by decide) (by omega) (by omega) (fun c8 => ?_) (fun c8 => ?_)
  · rw [if_neg (by omega)]
    refine vi_const (dec_of DX5_isFull 7 rfl) ?_
    exact vi_retz (dec_of DX5_isFull 8 rfl) rfl (by omega) ⟨by decide, by decide⟩ (⟨rfl, rfl⟩)
  · rw [if_pos c8]
    refine vi_const (dec_of DX5_isFull 5 rfl) ?_
    refine v_goto (tgt := 16) (dec_of DX5_isFull 6 rfl) (by decide) ?_
    exact vi_retz (dec_of DX5_isFull 8 rfl) rfl (by omega) ⟨by decide, by decide⟩ (⟨rfl, rfl⟩)
set_option maxRecDepth 100000 in
set_option maxHeartbeats 4000000 in
theorem tt_has {w : XW} {b a : Nat} {room cols n : Int} (hT : w[b]? = some (tb a room cols n)) (hn : 0 ≤ n ∧ n ≤ 100000) {k : Int} (hk : -2147483648 ≤ k ∧ k < 2147483648) : Sd (rm 0 0 0 0) mX5_has [.ref b, J k] (w) (w) (some (J (if 0 ≤ k ∧ k < n then 1 else 0))) := by
  unfold Sd
  refine sp_of (ls := [some (.ref b), some (J k)]) (by decide) (nle rfl) rfl rfl ?_
  refine v_iload_n (dec_of DX5_has 0 rfl) rfl ?_
  refine vi_if_lt (tgt := 16) (dec_of DX5_has 1 rfl) (by decide) (by omega) (fun c1 => ?_) (fun c1 => ?_)
  · rw [if_neg (by omega)]
    refine vi_const (dec_of DX5_has 8 rfl) ?_
    exact vi_retz (dec_of DX5_has 9 rfl) rfl (by omega) ⟨by decide, by decide⟩ (⟨rfl, rfl⟩)
  · refine v_iload_n (dec_of DX5_has 2 rfl) rfl ?_
    refine v_aload_n (dec_of DX5_has 3 rfl) rfl ?_
    refine v_get fX5_28 (dec_of DX5_has 4 rfl) hT rfl ?_
    refine vi_icmp_ge (tgt := 16) (dec_of DX5_has 5 rfl) (by decide) (by omega) (by omega) (fun c9 => ?_) (fun c9 => ?_)
    · rw [if_neg (by omega)]
      refine vi_const (dec_of DX5_has 8 rfl) ?_
      exact vi_retz (dec_of DX5_has 9 rfl) rfl (by omega) ⟨by decide, by decide⟩ (⟨rfl, rfl⟩)
    · rw [if_pos (by omega)]
      refine vi_const (dec_of DX5_has 6 rfl) ?_
      refine v_goto (tgt := 17) (dec_of DX5_has 7 rfl) (by decide) ?_
      exact vi_retz (dec_of DX5_has 9 rfl) rfl (by omega) ⟨by decide, by decide⟩ (⟨rfl, rfl⟩)
set_option maxRecDepth 100000 in
set_option maxHeartbeats 4000000 in
theorem tt_keep {w : XW} {b a : Nat} {room cols n : Int} (hT : w[b]? = some (tb a room cols n)) (hn : 0 ≤ n ∧ n ≤ 100000) {k : Int} (hk : 0 ≤ k ∧ k ≤ n) : Sd (rm 0 0 0 0) mX5_keep [.ref b, J k] (w) (w.set b (tb a room cols k)) (none) := by
  unfold Sd
  refine sp_of (ls := [some (.ref b), some (J k)]) (by decide) (nle rfl) rfl rfl ?_
  refine v_iload_n (dec_of DX5_keep 0 rfl) rfl ?_
  refine vi_if_lt (tgt := 17) (dec_of DX5_keep 1 rfl) (by decide) (by omega) (fun c1 => absurd c1 (by omega)) (fun c1 => ?_)
  refine v_iload_n (dec_of DX5_keep 2 rfl) rfl ?_
  refine v_aload_n (dec_of DX5_keep 3 rfl) rfl ?_
  refine v_get fX5_28 (dec_of DX5_keep 4 rfl) hT rfl ?_
  refine vi_icmp_ge (tgt := 17) (dec_of DX5_keep 5 rfl) (by decide) (by omega) (by omega) (fun c9 => ?_) (fun c9 => ?_)
  · exact vi_vret (dec_of DX5_keep 9 rfl) rfl ⟨by decide, by decide⟩ (by first | exact ⟨rfl, rfl⟩ | exact ⟨by rw [show k = n by omega]; exact set_same hT, rfl⟩)
  · refine v_aload_n (dec_of DX5_keep 6 rfl) rfl ?_
    refine v_iload_n (dec_of DX5_keep 7 rfl) rfl ?_
    refine vi_put fX5_28 (dec_of DX5_keep 8 rfl) hT (nle rfl) ?_
    exact vi_vret (dec_of DX5_keep 9 rfl) rfl ⟨by decide, by decide⟩ (by first | exact ⟨rfl, rfl⟩ | exact ⟨by rw [show k = n by omega]; exact set_same hT, rfl⟩)
set_option maxRecDepth 100000 in
set_option maxHeartbeats 4000000 in
theorem tt_get {w : XW} {b a : Nat} {room cols n : Int} (hT : w[b]? = some (tb a room cols n)) {L : Nat} {f : Int → Int} (hA : w[a]? = some (.inl (L, ia f))) (hn : 0 ≤ n ∧ n ≤ room ∧ room ≤ 100000 ∧ 1 ≤ cols ∧ cols ≤ 100) (hL : (L : Int) = room * cols) {r c : Int} (hr : 0 ≤ r ∧ r < n) (hc : 0 ≤ c ∧ c < cols) : Sd (rm 0 0 0 0) mX5_get [.ref b, J r, J c] (w) (w) (some (J (f (r * cols + c)))) := by
  unfold Sd
  have hi := tab_in hn.1 hn.2.1 hn.2.2.2.1 hn.2.2.2.2 hn.2.2.1 hL hr hc
  refine sp_of (ls := [some (.ref b), some (J r), some (J c), none]) (by decide) (nle rfl) rfl rfl ?_
  refine v_iload_n (dec_of DX5_get 0 rfl) rfl ?_
  refine vi_if_lt (tgt := 24) (dec_of DX5_get 1 rfl) (by decide) (by omega) (fun c1 => absurd c1 (by omega)) (fun c1 => ?_)
  refine v_iload_n (dec_of DX5_get 2 rfl) rfl ?_
  refine v_aload_n (dec_of DX5_get 3 rfl) rfl ?_
  refine v_get fX5_28 (dec_of DX5_get 4 rfl) hT rfl ?_
  refine vi_icmp_ge (tgt := 24) (dec_of DX5_get 5 rfl) (by decide) (by omega) (by omega) (fun c9 => absurd c9 (by omega)) (fun c9 => ?_)
  refine v_iload_n (dec_of DX5_get 6 rfl) rfl ?_
  refine vi_if_lt (tgt := 24) (dec_of DX5_get 7 rfl) (by decide) (by omega) (fun c13 => absurd c13 (by omega)) (fun c13 => ?_)
  refine v_iload_n (dec_of DX5_get 8 rfl) rfl ?_
  refine v_aload_n (dec_of DX5_get 9 rfl) rfl ?_
  refine v_get fX5_21 (dec_of DX5_get 10 rfl) hT rfl ?_
  refine vi_icmp_lt (tgt := 26) (dec_of DX5_get 11 rfl) (by decide) (by omega) (by omega) (fun c21 => ?_) (fun c21 => absurd c21 (by omega))
  refine v_iload_n (dec_of DX5_get 14 rfl) rfl ?_
  refine v_aload_n (dec_of DX5_get 15 rfl) rfl ?_
  refine v_get fX5_21 (dec_of DX5_get 16 rfl) hT rfl ?_
  refine vi_mul (dec_of DX5_get 17 rfl) ?_
  refine v_iload_n (dec_of DX5_get 18 rfl) rfl ?_
  refine vi_add (dec_of DX5_get 19 rfl) ?_
  refine v_istore_n (dec_of DX5_get 20 rfl) (by decide) ?_
  dsimp only [List.set]
  refine v_iload_n (dec_of DX5_get 21 rfl) rfl ?_
  refine v_aload_n (dec_of DX5_get 22 rfl) rfl ?_
  refine v_get fX5_24 (dec_of DX5_get 23 rfl) hT rfl ?_
  refine vi_alen (dec_of DX5_get 24 rfl) hA ?_
  refine vi_icmp_ge (tgt := 53) (dec_of DX5_get 25 rfl) (by decide) (by omega) (by omega) (fun c41 => absurd c41 (by omega)) (fun c41 => ?_)
  refine v_aload_n (dec_of DX5_get 26 rfl) rfl ?_
  refine v_get fX5_24 (dec_of DX5_get 27 rfl) hT rfl ?_
  refine v_iload_n (dec_of DX5_get 28 rfl) rfl ?_
  refine vi_aload (dec_of DX5_get 29 rfl) hA (by omega) (by omega) ?_
  refine v_goto (tgt := 54) (dec_of DX5_get 30 rfl) (by decide) ?_
  exact vi_ret (dec_of DX5_get 32 rfl) rfl ⟨by decide, by decide⟩ (⟨rfl, rfl⟩)
set_option maxRecDepth 100000 in
set_option maxHeartbeats 4000000 in
theorem tt_set {w : XW} {b a : Nat} {room cols n : Int} (hT : w[b]? = some (tb a room cols n)) {L : Nat} {f : Int → Int} (hA : w[a]? = some (.inl (L, ia f))) (hn : 0 ≤ n ∧ n ≤ room ∧ room ≤ 100000 ∧ 1 ≤ cols ∧ cols ≤ 100) (hL : (L : Int) = room * cols) {r c v : Int} (hr : 0 ≤ r ∧ r < n) (hc : 0 ≤ c ∧ c < cols) : Sd (rm 0 0 0 0) mX5_set [.ref b, J r, J c, J v] (w) (w.set a (.inl (L, ia (uI f (r * cols + c) v)))) (none) := by
  unfold Sd
  have hi := tab_in hn.1 hn.2.1 hn.2.2.2.1 hn.2.2.2.2 hn.2.2.1 hL hr hc
  refine sp_of (ls := [some (.ref b), some (J r), some (J c), some (J v), none]) (by decide) (nle rfl) rfl rfl ?_
  refine v_iload_n (dec_of DX5_set 0 rfl) rfl ?_
  refine vi_if_lt (tgt := 24) (dec_of DX5_set 1 rfl) (by decide) (by omega) (fun c1 => absurd c1 (by omega)) (fun c1 => ?_)
  refine v_iload_n (dec_of DX5_set 2 rfl) rfl ?_
  refine v_aload_n (dec_of DX5_set 3 rfl) rfl ?_
  refine v_get fX5_28 (dec_of DX5_set 4 rfl) hT rfl ?_
  refine vi_icmp_ge (tgt := 24) (dec_of DX5_set 5 rfl) (by decide) (by omega) (by omega) (fun c9 => absurd c9 (by omega)) (fun c9 => ?_)
  refine v_iload_n (dec_of DX5_set 6 rfl) rfl ?_
  refine vi_if_lt (tgt := 24) (dec_of DX5_set 7 rfl) (by decide) (by omega) (fun c13 => absurd c13 (by omega)) (fun c13 => ?_)
  refine v_iload_n (dec_of DX5_set 8 rfl) rfl ?_
  refine v_aload_n (dec_of DX5_set 9 rfl) rfl ?_
  refine v_get fX5_21 (dec_of DX5_set 10 rfl) hT rfl ?_
  refine vi_icmp_lt (tgt := 25) (dec_of DX5_set 11 rfl) (by decide) (by omega) (by omega) (fun c21 => ?_) (fun c21 => absurd c21 (by omega))
  refine v_iload_n (dec_of DX5_set 13 rfl) rfl ?_
  refine v_aload_n (dec_of DX5_set 14 rfl) rfl ?_
  refine v_get fX5_21 (dec_of DX5_set 15 rfl) hT rfl ?_
  refine vi_mul (dec_of DX5_set 16 rfl) ?_
  refine v_iload_n (dec_of DX5_set 17 rfl) rfl ?_
  refine vi_add (dec_of DX5_set 18 rfl) ?_
  refine v_istore (dec_of DX5_set 19 rfl) (by decide) ?_
  dsimp only [List.set]
  refine v_iload (dec_of DX5_set 20 rfl) rfl ?_
  refine v_aload_n (dec_of DX5_set 21 rfl) rfl ?_
  refine v_get fX5_24 (dec_of DX5_set 22 rfl) hT rfl ?_
  refine vi_alen (dec_of DX5_set 23 rfl) hA ?_
  refine vi_icmp_ge (tgt := 53) (dec_of DX5_set 24 rfl) (by decide) (by omega) (by omega) (fun c42 => absurd c42 (by omega)) (fun c42 => ?_)
  refine v_aload_n (dec_of DX5_set 25 rfl) rfl ?_
  refine v_get fX5_24 (dec_of DX5_set 26 rfl) hT rfl ?_
  refine v_iload (dec_of DX5_set 27 rfl) rfl ?_
  refine v_iload_n (dec_of DX5_set 28 rfl) rfl ?_
  refine vi_astore (dec_of DX5_set 29 rfl) hA (by omega) (by omega) ?_
  exact vi_vret (dec_of DX5_set 30 rfl) rfl ⟨by decide, by decide⟩ (⟨rfl, rfl⟩)
theorem set_ne {w : XW} {a b : Nat} {e x : XE} (h : a ≠ b) (hb : w[b]? = some e) : (w.set a x)[b]? = some e := by rw [List.getElem?_set_ne h]; exact hb
theorem set_eq {w : XW} {a : Nat} {e x : XE} (ha : w[a]? = some e) : (w.set a x)[a]? = some x := by rw [List.getElem?_set_self (List.getElem?_eq_some_iff.mp ha).1]
/-- the cells i to k are cleared -/
def clr (g : Int → Int) (i k : Int) : Int → Int := fun x => if i ≤ x ∧ x < k then 0 else g x
theorem clr_step {g : Int → Int} {i k : Int} (h : i < k) : clr (uI g i 0) (i + 1) k = clr g i k := by
  funext x
  unfold clr uI
  by_cases h1 : x = i
  · subst h1; simp [h]
  · by_cases h2 : i + 1 ≤ x ∧ x < k
    · rw [if_pos h2, if_pos (by omega)]
    · rw [if_neg h2, if_neg h1, if_neg (by omega)]
theorem clr_end {g : Int → Int} {i k : Int} (h : k ≤ i) : clr g i k = g := by
  funext x
  unfold clr
  rw [if_neg (by omega)]
/-- a new row: its first cell is v, the others 0 -/
def adf (f : Int → Int) (cols n v : Int) : Int → Int := clr (uI f (n * cols) v) (n * cols + 1) (n * cols + cols)
set_option maxRecDepth 100000 in
set_option maxHeartbeats 4000000 in
theorem tt_add_loop {w : XW} {b a : Nat} {room cols n : Int} (hT : w[b]? = some (tb a room cols n)) {L : Nat} {f : Int → Int} (hA : w[a]? = some (.inl (L, ia f))) (hn : 0 ≤ n ∧ n < room ∧ room ≤ 100000 ∧ 1 ≤ cols ∧ cols ≤ 100) (hL : (L : Int) = room * cols) (hab : a ≠ b) {v : Int} {h : Int → Int} (hb0 : 0 ≤ n * cols ∧ n * cols + cols ≤ L ∧ (L : Int) ≤ 10000000) : ∀ (m : Nat) (col : Int) (g : Int → Int), 1 ≤ col → col + m = cols → clr g (n * cols + col) (n * cols + cols) = h → Vd (rm 0 0 0 0) [] mX5_add w.length (fun x y => x = (w.set a (.inl (L, ia h))).set b (tb a room cols (n + 1)) ∧ y = some (J n)) 0 0 51 [some (.ref b), some (J v), some (J (n * cols)), some (J col)] [] (w.set a (.inl (L, ia g))) := by
  intro m
  induction m with
  | zero =>
    intro col g h1 h2 h3
    rw [clr_end (by omega)] at h3
    subst h3
    refine v_iload_n (dec_of DX5_add 30 rfl) rfl ?_
    refine v_aload_n (dec_of DX5_add 31 rfl) rfl ?_
    refine v_get fX5_21 (dec_of DX5_add 32 rfl) (set_ne hab hT) rfl ?_
    refine vi_icmp_ge (tgt := 74) (dec_of DX5_add 33 rfl) (by decide) (by omega) (by omega) (fun c56 => ?_) (fun c56 => absurd c56 (by omega))
    refine v_aload_n (dec_of DX5_add 43 rfl) rfl ?_
    refine v_dup (dec_of DX5_add 44 rfl) rfl ?_
    refine v_get fX5_28 (dec_of DX5_add 45 rfl) (set_ne hab hT) rfl ?_
    refine vi_const (dec_of DX5_add 46 rfl) ?_
    refine vi_add (dec_of DX5_add 47 rfl) ?_
    refine vi_put fX5_28 (dec_of DX5_add 48 rfl) (set_ne hab hT) (nle rfl) ?_
    refine v_aload_n (dec_of DX5_add 49 rfl) rfl ?_
    refine v_get fX5_28 (dec_of DX5_add 50 rfl) (set_eq (set_ne hab hT)) rfl ?_
    refine vi_const (dec_of DX5_add 51 rfl) ?_
    refine vi_sub (dec_of DX5_add 52 rfl) ?_
    exact vi_ret (dec_of DX5_add 53 rfl) rfl ⟨by decide, by decide⟩ ⟨rfl, by rw [show n + 1 - 1 = n by omega]⟩
  | succ m ih =>
    intro col g h1 h2 h3
    refine v_iload_n (dec_of DX5_add 30 rfl) rfl ?_
    refine v_aload_n (dec_of DX5_add 31 rfl) rfl ?_
    refine v_get fX5_21 (dec_of DX5_add 32 rfl) (set_ne hab hT) rfl ?_
    refine vi_icmp_ge (tgt := 74) (dec_of DX5_add 33 rfl) (by decide) (by omega) (by omega) (fun c56 => absurd c56 (by omega)) (fun c56 => ?_)
    refine v_aload_n (dec_of DX5_add 34 rfl) rfl ?_
    refine v_get fX5_24 (dec_of DX5_add 35 rfl) (set_ne hab hT) rfl ?_
    refine v_iload_n (dec_of DX5_add 36 rfl) rfl ?_
    refine v_iload_n (dec_of DX5_add 37 rfl) rfl ?_
    refine vi_add (dec_of DX5_add 38 rfl) ?_
    refine vi_const (dec_of DX5_add 39 rfl) ?_
    refine vi_astore (dec_of DX5_add 40 rfl) (set_eq hA) (by omega) (by omega) ?_
    rw [List.set_set]
    refine vi_inc (dec_of DX5_add 41 rfl) rfl (by decide) ?_
    dsimp only [List.set]
    refine v_goto (tgt := 51) (dec_of DX5_add 42 rfl) (by decide) ?_
    exact ih (col + 1) _ (by omega) (by omega) (by rw [show n * cols + (col + 1) = n * cols + col + 1 by omega, clr_step (by omega)]; exact h3)
set_option maxRecDepth 100000 in
set_option maxHeartbeats 4000000 in
theorem tt_add {w : XW} {b a : Nat} {room cols n : Int} (hT : w[b]? = some (tb a room cols n)) {L : Nat} {f : Int → Int} (hA : w[a]? = some (.inl (L, ia f))) (hn : 0 ≤ n ∧ n < room ∧ room ≤ 100000 ∧ 1 ≤ cols ∧ cols ≤ 100) (hL : (L : Int) = room * cols) (hab : a ≠ b) {v : Int} : Sd (rm 0 0 0 0) mX5_add [.ref b, J v] (w) ((w.set a (.inl (L, ia (adf f cols n v)))).set b (tb a room cols (n + 1))) (some (J n)) := by
  unfold Sd
  have hi := tab_in (n := n + 1) (r := n) (c := 0) (by omega) (by omega) hn.2.2.2.1 hn.2.2.2.2 hn.2.2.1 hL (by omega) (by omega)
  refine sp_of (ls := [some (.ref b), some (J v), none, none]) (by decide) (nle rfl) rfl rfl ?_
  refine v_aload_n (dec_of DX5_add 0 rfl) rfl ?_
  refine v_get fX5_28 (dec_of DX5_add 1 rfl) hT rfl ?_
  refine v_aload_n (dec_of DX5_add 2 rfl) rfl ?_
  refine v_get fX5_21 (dec_of DX5_add 3 rfl) hT rfl ?_
  refine vi_mul (dec_of DX5_add 4 rfl) ?_
  refine v_istore_n (dec_of DX5_add 5 rfl) (by decide) ?_
  dsimp only [List.set]
  refine v_aload_n (dec_of DX5_add 6 rfl) rfl ?_
  refine v_get fX5_28 (dec_of DX5_add 7 rfl) hT rfl ?_
  refine v_aload_n (dec_of DX5_add 8 rfl) rfl ?_
  refine v_get fX5_15 (dec_of DX5_add 9 rfl) hT rfl ?_
  refine vi_icmp_ge (tgt := 39) (dec_of DX5_add 10 rfl) (by decide) (by omega) (by omega) (fun c18 => absurd c18 (by omega)) (fun c18 => ?_)
  refine v_iload_n (dec_of DX5_add 11 rfl) rfl ?_
  refine vi_if_lt (tgt := 39) (dec_of DX5_add 12 rfl) (by decide) (by omega) (fun c22 => absurd c22 (by omega)) (fun c22 => ?_)
  refine v_iload_n (dec_of DX5_add 13 rfl) rfl ?_
  refine v_aload_n (dec_of DX5_add 14 rfl) rfl ?_
  refine v_get fX5_21 (dec_of DX5_add 15 rfl) hT rfl ?_
  refine vi_add (dec_of DX5_add 16 rfl) ?_
  refine v_aload_n (dec_of DX5_add 17 rfl) rfl ?_
  refine v_get fX5_24 (dec_of DX5_add 18 rfl) hT rfl ?_
  refine vi_alen (dec_of DX5_add 19 rfl) hA ?_
  refine vi_icmp_le (tgt := 42) (dec_of DX5_add 20 rfl) (by decide) (by omega) (by omega) (fun c36 => ?_) (fun c36 => absurd c36 (by omega))
  refine v_aload_n (dec_of DX5_add 23 rfl) rfl ?_
  refine v_get fX5_24 (dec_of DX5_add 24 rfl) hT rfl ?_
  refine v_iload_n (dec_of DX5_add 25 rfl) rfl ?_
  refine v_iload_n (dec_of DX5_add 26 rfl) rfl ?_
  refine vi_astore (dec_of DX5_add 27 rfl) hA (by omega) (by omega) ?_
  refine vi_const (dec_of DX5_add 28 rfl) ?_
  refine v_istore_n (dec_of DX5_add 29 rfl) (by decide) ?_
  dsimp only [List.set]
  exact tt_add_loop hT hA hn hL hab ⟨hi.1, hi.2.2.2.1, hi.2.2.2.2⟩ (cols - 1).toNat 1 _ (by omega) (by omega) rfl
set_option maxRecDepth 100000 in
set_option maxHeartbeats 4000000 in
theorem tt_ask {w : XW} {b a : Nat} {room cols n : Int} (hT : w[b]? = some (tb a room cols n)) {L : Nat} {f : Int → Int} (hA : w[a]? = some (.inl (L, ia f))) (hn : 0 ≤ n ∧ n ≤ room ∧ room ≤ 100000 ∧ 1 ≤ cols ∧ cols ≤ 100) (hL : (L : Int) = room * cols) {r c q : Int} (hr : -2147483648 ≤ r ∧ r < 2147483648) (hc : -2147483648 ≤ c ∧ c < 2147483648) (hq : 0 ≤ q ∧ q ≤ cols) : Sd (rm 1 23 0 0) mX5_ask [.ref b, J r, J c, J q] (w) (w) (some (J (if 0 ≤ r ∧ r < n then (if 0 ≤ c ∧ c < q then f (r * cols + c) else -102) else -101))) := by
  unfold Sd
  refine sp_of (ls := [some (.ref b), some (J r), some (J c), some (J q)]) (by decide) (nle rfl) rfl rfl ?_
  refine v_iload_n (dec_of DX5_ask 0 rfl) rfl ?_
  refine vi_if_lt (tgt := 12) (dec_of DX5_ask 1 rfl) (by decide) (by omega) (fun c1 => ?_) (fun c1 => ?_)
  · rw [if_neg (by omega)]
    refine vi_bi (dec_of DX5_ask 6 rfl) (by decide) ?_
    exact vi_ret (dec_of DX5_ask 7 rfl) rfl ⟨by decide, by decide⟩ (⟨rfl, rfl⟩)
  · refine v_iload_n (dec_of DX5_ask 2 rfl) rfl ?_
    refine v_aload_n (dec_of DX5_ask 3 rfl) rfl ?_
    refine v_get fX5_28 (dec_of DX5_ask 4 rfl) hT rfl ?_
    refine vi_icmp_lt (tgt := 15) (dec_of DX5_ask 5 rfl) (by decide) (by omega) (by omega) (fun c9 => ?_) (fun c9 => ?_)
    · refine v_iload_n (dec_of DX5_ask 8 rfl) rfl ?_
      refine vi_if_lt (tgt := 24) (dec_of DX5_ask 9 rfl) (by decide) (by omega) (fun c16 => ?_) (fun c16 => ?_)
      · rw [if_pos (by omega), if_neg (by omega)]
        refine vi_bi (dec_of DX5_ask 13 rfl) (by decide) ?_
        exact vi_ret (dec_of DX5_ask 14 rfl) rfl ⟨by decide, by decide⟩ (⟨rfl, rfl⟩)
      · refine v_iload_n (dec_of DX5_ask 10 rfl) rfl ?_
        refine v_iload_n (dec_of DX5_ask 11 rfl) rfl ?_
        refine vi_icmp_lt (tgt := 27) (dec_of DX5_ask 12 rfl) (by decide) (by omega) (by omega) (fun c21 => ?_) (fun c21 => ?_)
        · rw [if_pos (by omega), if_pos (by omega)]
          refine v_aload_n (dec_of DX5_ask 15 rfl) rfl ?_
          refine v_iload_n (dec_of DX5_ask 16 rfl) rfl ?_
          refine v_iload_n (dec_of DX5_ask 17 rfl) rfl ?_
          refine v_V2r (tt_get hT hA hn hL (by omega) (by omega)) lX5_31 (dec_of DX5_ask 18 rfl) hT rfl (by decide) (Nat.le_of_ble_eq_true rfl) (by simp [lok, rkw, hT]) ?_
          exact vi_ret (dec_of DX5_ask 19 rfl) rfl ⟨by decide, by decide⟩ (⟨rfl, rfl⟩)
        · rw [if_pos (by omega), if_neg (by omega)]
          refine vi_bi (dec_of DX5_ask 13 rfl) (by decide) ?_
          exact vi_ret (dec_of DX5_ask 14 rfl) rfl ⟨by decide, by decide⟩ (⟨rfl, rfl⟩)
    · rw [if_neg (by omega)]
      refine vi_bi (dec_of DX5_ask 6 rfl) (by decide) ?_
      exact vi_ret (dec_of DX5_ask 7 rfl) rfl ⟨by decide, by decide⟩ (⟨rfl, rfl⟩)
