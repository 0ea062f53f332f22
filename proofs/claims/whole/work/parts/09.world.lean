/-! the worlds: the class's 31 cells by its numbers I, its tables' rows N and contents F; the reference's 35 by K and G (printed by wip/tools/gen_world.py) -/
def uN {α : Type} (f : Nat → α) (k : Nat) (v : α) : Nat → α := fun j => if j = k then v else f j
theorem uN_s {α : Type} {f : Nat → α} {k : Nat} {v : α} : uN f k v k = v := by simp [uN]
theorem uN_n {α : Type} {f : Nat → α} {j k : Nat} {v : α} (h : j ≠ k) : uN f k v j = f j := by simp [uN, h]
def cls (I : Nat → Int) (N : Nat → Int) (F : Nat → Int → Int) : XW := [.inr (5, [.ref 1, .ref 3, .ref 5, .ref 20, .ref 23, J (I 0)]),
  tb 2 1500 1 (N 0), .inl (1500, ia (F 0)),
  tb 4 1500 1 (N 1), .inl (1500, ia (F 1)),
  .inr (3, [.ref 6, .ref 8, .ref 10, .ref 12, .ref 14, .ref 16, .ref 18, J (I 1), J (I 2)]),
  tb 7 1500 1 (N 2), .inl (1500, ia (F 2)),
  tb 9 60 9 (N 3), .inl (540, ia (F 3)),
  tb 11 150 8 (N 4), .inl (1200, ia (F 4)),
  tb 13 150 4 (N 5), .inl (600, ia (F 5)),
  tb 15 30 2 (N 6), .inl (60, ia (F 6)),
  tb 17 20 2 (N 7), .inl (40, ia (F 7)),
  tb 19 260 2 (N 8), .inl (520, ia (F 8)),
  .inr (2, [.ref 5, .ref 21, J (I 3), J (I 4), J (I 5), J (I 6), J (I 7), J (I 8), J (I 9), J (I 10), J (I 11), J (I 12)]),
  tb 22 6 1 (N 9), .inl (6, ia (F 9)),
  .inr (1, [.ref 24, .ref 26, .ref 28, J (I 13)]),
  tb 25 40 1 (N 10), .inl (40, ia (F 10)),
  tb 27 40 1 (N 11), .inl (40, ia (F 11)),
  .inr (0, [.ref 29, J (I 14), J (I 15), J (I 16), J (I 17), J (I 18), J (I 19), J (I 20)]),
  tb 30 41 2 (N 12), .inl (82, ia (F 12))]
def mdl (K : Nat → Int) (G : Nat → Int → Int) : XW := [.inr (6, [.ref 32, J (K 1), .ref 33, J (K 3), .ref 34, .ref 35, .ref 36, .ref 37, .ref 38, .ref 39, J (K 10), .ref 40, .ref 41, .ref 42, J (K 14), J (K 15), .ref 43, .ref 44, .ref 45, .ref 46, J (K 20), J (K 21), J (K 22), J (K 23), J (K 24), J (K 25), J (K 26), J (K 27), J (K 28), J (K 29), .ref 47, .ref 48, .ref 49, .ref 50, .ref 51, J (K 35), .ref 52, .ref 53, .ref 54, .ref 55, .ref 56, .ref 57, .ref 58, J (K 43), .ref 59, .ref 60, .ref 61, .ref 62, J (K 48), J (K 49), J (K 50), J (K 51), .ref 63, .ref 64, .ref 65, J (K 55)]),
  .inl (1500, ia (G 0)), .inl (1500, ia (G 2)), .inl (60, ia (G 4)), .inl (60, ia (G 5)), .inl (60, ia (G 6)), .inl (60, ia (G 7)), .inl (60, ia (G 8)), .inl (61, ia (G 9)), .inl (300, ia (G 11)), .inl (300, ia (G 12)), .inl (300, ia (G 13)), .inl (150, ia (G 16)), .inl (150, ia (G 17)), .inl (150, ia (G 18)), .inl (150, ia (G 19)), .inl (150, ia (G 30)), .inl (150, ia (G 31)), .inl (20, ia (G 32)), .inl (13, ia (G 33)), .inl (7, ia (G 34)), .inl (150, ia (G 36)), .inl (150, ia (G 37)), .inl (150, ia (G 38)), .inl (150, ia (G 39)), .inl (15, ia (G 40)), .inl (7, ia (G 41)), .inl (9, ia (G 42)), .inl (80, ia (G 44)), .inl (2, ia (G 45)), .inl (16, ia (G 46)), .inl (144, ia (G 47)), .inl (41, ia (G 52)), .inl (41, ia (G 53)), .inl (1700, ia (G 54))]
def tab34 : List Int := [0, 2, 4, 5, 7, 9, 11]
def tab40 : List Int := [1, 2, 3, 11, 22, 12, 21, 33, 121, 212, 112, 221, 122, 1122, 2211]
def tab41 : List Int := [0, 1, 3, 5, 7, 0, 0]
def tab42 : List Int := [0, 4, 2, 5, 3, 4, 2, 4, 3]
def tab46 : List Int := [-2, -1, -2, 0, -4, -1, -1, -2, -4, -2, -2, -1, -1, -2, -3, -2]
def tab47 : List Int := [0, 0, 0, 2, 1, 0, -1, -1, 0, 2, -1, -2, 1, 0, 0, -1, -1, -3, 0, 0, 0, 1, 0, 0, 1, 0, 0, 1, -1, 0, 1, 0, 0, -2, -2, -2, 0, 0, 0, 2, 1, 0, -1, -1, 0, 1, 0, 0, 1, 0, 0, -2, -2, -1, 2, -1, 0, 1, 0, 0, 1, 0, 0, 0, 0, 0, 2, -1, 0, 1, -1, -2, 0, 0, 0, 1, 0, 0, 1, 0, 0, 0, 0, 0, 2, 1, 1, -1, -1, -2, 0, 0, 0, 2, 1, 0, -1, -1, 0, 2, -2, -1, 1, 0, 0, -1, -1, -2, 0, 0, 0, 2, 2, 1, -1, -1, 0, 0, 0, 0, 2, 1, 0, -1, -1, -2, 0, 0, 0, 1, 0, 0, 1, 0, 0, 2, 0, -1, 1, 0, 0, 1, 1, -3]
def tI (l : List Int) : Int → Int := fun i => l.getD i.toNat 0
abbrev W2 (I : Nat → Int) (N : Nat → Int) (F : Nat → Int → Int) (K : Nat → Int) (G : Nat → Int → Int) : XW := cls I N F ++ mdl K G
theorem adf_1 {f : Int → Int} {n v : Int} : adf f 1 n v = uI f n v := by
  unfold adf
  rw [clr_end (by omega), Int.mul_one]
section Puts
variable {R : Room} {ex : List (Nat × (Nat → Int32))} {M : MI} {n0 : Nat} {Z : XW → Option Value → Prop} {ca sl pc pc' idx : Nat} {ls : List (Option Value)} {st : List Value} {T : XW} {I N : Nat → Int} {F : Nat → Int → Int} {K : Nat → Int} {G : Nat → Int → Int} {a b : Int}
theorem cp_0 (g : XG M.1.cls idx 5 5 .int false) (hd : DcAt M.2.1 pc (.putfield idx) 3 pc') (k : Vd R ex M n0 Z ca sl pc' ls st (cls (uN I 0 a) N F ++ T)) : Vd R ex M n0 Z ca sl pc ls (J a :: .ref 0 :: st) (cls I N F ++ T) := vi_put g hd rfl (nle rfl) k
theorem cp_1 (g : XG M.1.cls idx 3 7 .int false) (hd : DcAt M.2.1 pc (.putfield idx) 3 pc') (k : Vd R ex M n0 Z ca sl pc' ls st (cls (uN I 1 a) N F ++ T)) : Vd R ex M n0 Z ca sl pc ls (J a :: .ref 5 :: st) (cls I N F ++ T) := vi_put g hd rfl (nle rfl) k
theorem cp_2 (g : XG M.1.cls idx 3 8 .int false) (hd : DcAt M.2.1 pc (.putfield idx) 3 pc') (k : Vd R ex M n0 Z ca sl pc' ls st (cls (uN I 2 a) N F ++ T)) : Vd R ex M n0 Z ca sl pc ls (J a :: .ref 5 :: st) (cls I N F ++ T) := vi_put g hd rfl (nle rfl) k
theorem cp_3 (g : XG M.1.cls idx 2 2 .int false) (hd : DcAt M.2.1 pc (.putfield idx) 3 pc') (k : Vd R ex M n0 Z ca sl pc' ls st (cls (uN I 3 a) N F ++ T)) : Vd R ex M n0 Z ca sl pc ls (J a :: .ref 20 :: st) (cls I N F ++ T) := vi_put g hd rfl (nle rfl) k
theorem cp_4 (g : XG M.1.cls idx 2 3 .int false) (hd : DcAt M.2.1 pc (.putfield idx) 3 pc') (k : Vd R ex M n0 Z ca sl pc' ls st (cls (uN I 4 a) N F ++ T)) : Vd R ex M n0 Z ca sl pc ls (J a :: .ref 20 :: st) (cls I N F ++ T) := vi_put g hd rfl (nle rfl) k
theorem cp_5 (g : XG M.1.cls idx 2 4 .int false) (hd : DcAt M.2.1 pc (.putfield idx) 3 pc') (k : Vd R ex M n0 Z ca sl pc' ls st (cls (uN I 5 a) N F ++ T)) : Vd R ex M n0 Z ca sl pc ls (J a :: .ref 20 :: st) (cls I N F ++ T) := vi_put g hd rfl (nle rfl) k
theorem cp_6 (g : XG M.1.cls idx 2 5 .int false) (hd : DcAt M.2.1 pc (.putfield idx) 3 pc') (k : Vd R ex M n0 Z ca sl pc' ls st (cls (uN I 6 a) N F ++ T)) : Vd R ex M n0 Z ca sl pc ls (J a :: .ref 20 :: st) (cls I N F ++ T) := vi_put g hd rfl (nle rfl) k
theorem cp_7 (g : XG M.1.cls idx 2 6 .int false) (hd : DcAt M.2.1 pc (.putfield idx) 3 pc') (k : Vd R ex M n0 Z ca sl pc' ls st (cls (uN I 7 a) N F ++ T)) : Vd R ex M n0 Z ca sl pc ls (J a :: .ref 20 :: st) (cls I N F ++ T) := vi_put g hd rfl (nle rfl) k
theorem cp_8 (g : XG M.1.cls idx 2 7 .boolean false) (hd : DcAt M.2.1 pc (.putfield idx) 3 pc') (hz : a = 0 ∨ a = 1) (k : Vd R ex M n0 Z ca sl pc' ls st (cls (uN I 8 a) N F ++ T)) : Vd R ex M n0 Z ca sl pc ls (J a :: .ref 20 :: st) (cls I N F ++ T) := vi_putz g hd rfl (nle rfl) hz k
theorem cp_9 (g : XG M.1.cls idx 2 8 .boolean false) (hd : DcAt M.2.1 pc (.putfield idx) 3 pc') (hz : a = 0 ∨ a = 1) (k : Vd R ex M n0 Z ca sl pc' ls st (cls (uN I 9 a) N F ++ T)) : Vd R ex M n0 Z ca sl pc ls (J a :: .ref 20 :: st) (cls I N F ++ T) := vi_putz g hd rfl (nle rfl) hz k
theorem cp_10 (g : XG M.1.cls idx 2 9 .boolean false) (hd : DcAt M.2.1 pc (.putfield idx) 3 pc') (hz : a = 0 ∨ a = 1) (k : Vd R ex M n0 Z ca sl pc' ls st (cls (uN I 10 a) N F ++ T)) : Vd R ex M n0 Z ca sl pc ls (J a :: .ref 20 :: st) (cls I N F ++ T) := vi_putz g hd rfl (nle rfl) hz k
theorem cp_11 (g : XG M.1.cls idx 2 10 .boolean false) (hd : DcAt M.2.1 pc (.putfield idx) 3 pc') (hz : a = 0 ∨ a = 1) (k : Vd R ex M n0 Z ca sl pc' ls st (cls (uN I 11 a) N F ++ T)) : Vd R ex M n0 Z ca sl pc ls (J a :: .ref 20 :: st) (cls I N F ++ T) := vi_putz g hd rfl (nle rfl) hz k
theorem cp_12 (g : XG M.1.cls idx 2 11 .boolean false) (hd : DcAt M.2.1 pc (.putfield idx) 3 pc') (hz : a = 0 ∨ a = 1) (k : Vd R ex M n0 Z ca sl pc' ls st (cls (uN I 12 a) N F ++ T)) : Vd R ex M n0 Z ca sl pc ls (J a :: .ref 20 :: st) (cls I N F ++ T) := vi_putz g hd rfl (nle rfl) hz k
theorem cp_13 (g : XG M.1.cls idx 1 3 .int false) (hd : DcAt M.2.1 pc (.putfield idx) 3 pc') (k : Vd R ex M n0 Z ca sl pc' ls st (cls (uN I 13 a) N F ++ T)) : Vd R ex M n0 Z ca sl pc ls (J a :: .ref 23 :: st) (cls I N F ++ T) := vi_put g hd rfl (nle rfl) k
theorem cp_14 (g : XG M.1.cls idx 0 1 .boolean false) (hd : DcAt M.2.1 pc (.putfield idx) 3 pc') (hz : a = 0 ∨ a = 1) (k : Vd R ex M n0 Z ca sl pc' ls st (cls (uN I 14 a) N F ++ T)) : Vd R ex M n0 Z ca sl pc ls (J a :: .ref 28 :: st) (cls I N F ++ T) := vi_putz g hd rfl (nle rfl) hz k
theorem cp_15 (g : XG M.1.cls idx 0 2 .int false) (hd : DcAt M.2.1 pc (.putfield idx) 3 pc') (k : Vd R ex M n0 Z ca sl pc' ls st (cls (uN I 15 a) N F ++ T)) : Vd R ex M n0 Z ca sl pc ls (J a :: .ref 28 :: st) (cls I N F ++ T) := vi_put g hd rfl (nle rfl) k
theorem cp_16 (g : XG M.1.cls idx 0 3 .int false) (hd : DcAt M.2.1 pc (.putfield idx) 3 pc') (k : Vd R ex M n0 Z ca sl pc' ls st (cls (uN I 16 a) N F ++ T)) : Vd R ex M n0 Z ca sl pc ls (J a :: .ref 28 :: st) (cls I N F ++ T) := vi_put g hd rfl (nle rfl) k
theorem cp_17 (g : XG M.1.cls idx 0 4 .int false) (hd : DcAt M.2.1 pc (.putfield idx) 3 pc') (k : Vd R ex M n0 Z ca sl pc' ls st (cls (uN I 17 a) N F ++ T)) : Vd R ex M n0 Z ca sl pc ls (J a :: .ref 28 :: st) (cls I N F ++ T) := vi_put g hd rfl (nle rfl) k
theorem cp_18 (g : XG M.1.cls idx 0 5 .int false) (hd : DcAt M.2.1 pc (.putfield idx) 3 pc') (k : Vd R ex M n0 Z ca sl pc' ls st (cls (uN I 18 a) N F ++ T)) : Vd R ex M n0 Z ca sl pc ls (J a :: .ref 28 :: st) (cls I N F ++ T) := vi_put g hd rfl (nle rfl) k
theorem cp_19 (g : XG M.1.cls idx 0 6 .int false) (hd : DcAt M.2.1 pc (.putfield idx) 3 pc') (k : Vd R ex M n0 Z ca sl pc' ls st (cls (uN I 19 a) N F ++ T)) : Vd R ex M n0 Z ca sl pc ls (J a :: .ref 28 :: st) (cls I N F ++ T) := vi_put g hd rfl (nle rfl) k
theorem cp_20 (g : XG M.1.cls idx 0 7 .int false) (hd : DcAt M.2.1 pc (.putfield idx) 3 pc') (k : Vd R ex M n0 Z ca sl pc' ls st (cls (uN I 20 a) N F ++ T)) : Vd R ex M n0 Z ca sl pc ls (J a :: .ref 28 :: st) (cls I N F ++ T) := vi_put g hd rfl (nle rfl) k
theorem ms_0 (hd : DcAt M.2.1 pc .iastore 1 pc') (hi : 0 ≤ a ∧ a < 1500) (k : Vd R ex M n0 Z ca sl pc' ls st (W2 I N F K (uN G 0 (uI (G 0) a b)))) : Vd R ex M n0 Z ca sl pc ls (J b :: J a :: .ref 32 :: st) (W2 I N F K G) := vi_astore hd rfl hi (by decide) k
theorem mp_1 (g : XG M.1.cls idx 6 1 .int false) (hd : DcAt M.2.1 pc (.putfield idx) 3 pc') (k : Vd R ex M n0 Z ca sl pc' ls st (W2 I N F (uN K 1 a) G)) : Vd R ex M n0 Z ca sl pc ls (J a :: .ref 31 :: st) (W2 I N F K G) := vi_put g hd rfl (nle rfl) k
theorem ms_2 (hd : DcAt M.2.1 pc .iastore 1 pc') (hi : 0 ≤ a ∧ a < 1500) (k : Vd R ex M n0 Z ca sl pc' ls st (W2 I N F K (uN G 2 (uI (G 2) a b)))) : Vd R ex M n0 Z ca sl pc ls (J b :: J a :: .ref 33 :: st) (W2 I N F K G) := vi_astore hd rfl hi (by decide) k
theorem mp_3 (g : XG M.1.cls idx 6 3 .int false) (hd : DcAt M.2.1 pc (.putfield idx) 3 pc') (k : Vd R ex M n0 Z ca sl pc' ls st (W2 I N F (uN K 3 a) G)) : Vd R ex M n0 Z ca sl pc ls (J a :: .ref 31 :: st) (W2 I N F K G) := vi_put g hd rfl (nle rfl) k
theorem ms_4 (hd : DcAt M.2.1 pc .iastore 1 pc') (hi : 0 ≤ a ∧ a < 60) (k : Vd R ex M n0 Z ca sl pc' ls st (W2 I N F K (uN G 4 (uI (G 4) a b)))) : Vd R ex M n0 Z ca sl pc ls (J b :: J a :: .ref 34 :: st) (W2 I N F K G) := vi_astore hd rfl hi (by decide) k
theorem ms_5 (hd : DcAt M.2.1 pc .iastore 1 pc') (hi : 0 ≤ a ∧ a < 60) (k : Vd R ex M n0 Z ca sl pc' ls st (W2 I N F K (uN G 5 (uI (G 5) a b)))) : Vd R ex M n0 Z ca sl pc ls (J b :: J a :: .ref 35 :: st) (W2 I N F K G) := vi_astore hd rfl hi (by decide) k
theorem ms_6 (hd : DcAt M.2.1 pc .iastore 1 pc') (hi : 0 ≤ a ∧ a < 60) (k : Vd R ex M n0 Z ca sl pc' ls st (W2 I N F K (uN G 6 (uI (G 6) a b)))) : Vd R ex M n0 Z ca sl pc ls (J b :: J a :: .ref 36 :: st) (W2 I N F K G) := vi_astore hd rfl hi (by decide) k
theorem ms_7 (hd : DcAt M.2.1 pc .iastore 1 pc') (hi : 0 ≤ a ∧ a < 60) (k : Vd R ex M n0 Z ca sl pc' ls st (W2 I N F K (uN G 7 (uI (G 7) a b)))) : Vd R ex M n0 Z ca sl pc ls (J b :: J a :: .ref 37 :: st) (W2 I N F K G) := vi_astore hd rfl hi (by decide) k
theorem ms_8 (hd : DcAt M.2.1 pc .iastore 1 pc') (hi : 0 ≤ a ∧ a < 60) (k : Vd R ex M n0 Z ca sl pc' ls st (W2 I N F K (uN G 8 (uI (G 8) a b)))) : Vd R ex M n0 Z ca sl pc ls (J b :: J a :: .ref 38 :: st) (W2 I N F K G) := vi_astore hd rfl hi (by decide) k
theorem ms_9 (hd : DcAt M.2.1 pc .iastore 1 pc') (hi : 0 ≤ a ∧ a < 61) (k : Vd R ex M n0 Z ca sl pc' ls st (W2 I N F K (uN G 9 (uI (G 9) a b)))) : Vd R ex M n0 Z ca sl pc ls (J b :: J a :: .ref 39 :: st) (W2 I N F K G) := vi_astore hd rfl hi (by decide) k
theorem mp_10 (g : XG M.1.cls idx 6 10 .int false) (hd : DcAt M.2.1 pc (.putfield idx) 3 pc') (k : Vd R ex M n0 Z ca sl pc' ls st (W2 I N F (uN K 10 a) G)) : Vd R ex M n0 Z ca sl pc ls (J a :: .ref 31 :: st) (W2 I N F K G) := vi_put g hd rfl (nle rfl) k
theorem ms_11 (hd : DcAt M.2.1 pc .iastore 1 pc') (hi : 0 ≤ a ∧ a < 300) (k : Vd R ex M n0 Z ca sl pc' ls st (W2 I N F K (uN G 11 (uI (G 11) a b)))) : Vd R ex M n0 Z ca sl pc ls (J b :: J a :: .ref 40 :: st) (W2 I N F K G) := vi_astore hd rfl hi (by decide) k
theorem ms_12 (hd : DcAt M.2.1 pc .iastore 1 pc') (hi : 0 ≤ a ∧ a < 300) (k : Vd R ex M n0 Z ca sl pc' ls st (W2 I N F K (uN G 12 (uI (G 12) a b)))) : Vd R ex M n0 Z ca sl pc ls (J b :: J a :: .ref 41 :: st) (W2 I N F K G) := vi_astore hd rfl hi (by decide) k
theorem ms_13 (hd : DcAt M.2.1 pc .iastore 1 pc') (hi : 0 ≤ a ∧ a < 300) (k : Vd R ex M n0 Z ca sl pc' ls st (W2 I N F K (uN G 13 (uI (G 13) a b)))) : Vd R ex M n0 Z ca sl pc ls (J b :: J a :: .ref 42 :: st) (W2 I N F K G) := vi_astore hd rfl hi (by decide) k
theorem mp_14 (g : XG M.1.cls idx 6 14 .int false) (hd : DcAt M.2.1 pc (.putfield idx) 3 pc') (k : Vd R ex M n0 Z ca sl pc' ls st (W2 I N F (uN K 14 a) G)) : Vd R ex M n0 Z ca sl pc ls (J a :: .ref 31 :: st) (W2 I N F K G) := vi_put g hd rfl (nle rfl) k
theorem mp_15 (g : XG M.1.cls idx 6 15 .int false) (hd : DcAt M.2.1 pc (.putfield idx) 3 pc') (k : Vd R ex M n0 Z ca sl pc' ls st (W2 I N F (uN K 15 a) G)) : Vd R ex M n0 Z ca sl pc ls (J a :: .ref 31 :: st) (W2 I N F K G) := vi_put g hd rfl (nle rfl) k
theorem ms_16 (hd : DcAt M.2.1 pc .iastore 1 pc') (hi : 0 ≤ a ∧ a < 150) (k : Vd R ex M n0 Z ca sl pc' ls st (W2 I N F K (uN G 16 (uI (G 16) a b)))) : Vd R ex M n0 Z ca sl pc ls (J b :: J a :: .ref 43 :: st) (W2 I N F K G) := vi_astore hd rfl hi (by decide) k
theorem ms_17 (hd : DcAt M.2.1 pc .iastore 1 pc') (hi : 0 ≤ a ∧ a < 150) (k : Vd R ex M n0 Z ca sl pc' ls st (W2 I N F K (uN G 17 (uI (G 17) a b)))) : Vd R ex M n0 Z ca sl pc ls (J b :: J a :: .ref 44 :: st) (W2 I N F K G) := vi_astore hd rfl hi (by decide) k
theorem ms_18 (hd : DcAt M.2.1 pc .iastore 1 pc') (hi : 0 ≤ a ∧ a < 150) (k : Vd R ex M n0 Z ca sl pc' ls st (W2 I N F K (uN G 18 (uI (G 18) a b)))) : Vd R ex M n0 Z ca sl pc ls (J b :: J a :: .ref 45 :: st) (W2 I N F K G) := vi_astore hd rfl hi (by decide) k
theorem ms_19 (hd : DcAt M.2.1 pc .iastore 1 pc') (hi : 0 ≤ a ∧ a < 150) (k : Vd R ex M n0 Z ca sl pc' ls st (W2 I N F K (uN G 19 (uI (G 19) a b)))) : Vd R ex M n0 Z ca sl pc ls (J b :: J a :: .ref 46 :: st) (W2 I N F K G) := vi_astore hd rfl hi (by decide) k
theorem mp_20 (g : XG M.1.cls idx 6 20 .int false) (hd : DcAt M.2.1 pc (.putfield idx) 3 pc') (k : Vd R ex M n0 Z ca sl pc' ls st (W2 I N F (uN K 20 a) G)) : Vd R ex M n0 Z ca sl pc ls (J a :: .ref 31 :: st) (W2 I N F K G) := vi_put g hd rfl (nle rfl) k
theorem mp_21 (g : XG M.1.cls idx 6 21 .int false) (hd : DcAt M.2.1 pc (.putfield idx) 3 pc') (k : Vd R ex M n0 Z ca sl pc' ls st (W2 I N F (uN K 21 a) G)) : Vd R ex M n0 Z ca sl pc ls (J a :: .ref 31 :: st) (W2 I N F K G) := vi_put g hd rfl (nle rfl) k
theorem mp_22 (g : XG M.1.cls idx 6 22 .int false) (hd : DcAt M.2.1 pc (.putfield idx) 3 pc') (k : Vd R ex M n0 Z ca sl pc' ls st (W2 I N F (uN K 22 a) G)) : Vd R ex M n0 Z ca sl pc ls (J a :: .ref 31 :: st) (W2 I N F K G) := vi_put g hd rfl (nle rfl) k
theorem mp_23 (g : XG M.1.cls idx 6 23 .int false) (hd : DcAt M.2.1 pc (.putfield idx) 3 pc') (k : Vd R ex M n0 Z ca sl pc' ls st (W2 I N F (uN K 23 a) G)) : Vd R ex M n0 Z ca sl pc ls (J a :: .ref 31 :: st) (W2 I N F K G) := vi_put g hd rfl (nle rfl) k
theorem mp_24 (g : XG M.1.cls idx 6 24 .int false) (hd : DcAt M.2.1 pc (.putfield idx) 3 pc') (k : Vd R ex M n0 Z ca sl pc' ls st (W2 I N F (uN K 24 a) G)) : Vd R ex M n0 Z ca sl pc ls (J a :: .ref 31 :: st) (W2 I N F K G) := vi_put g hd rfl (nle rfl) k
theorem mp_25 (g : XG M.1.cls idx 6 25 .int false) (hd : DcAt M.2.1 pc (.putfield idx) 3 pc') (k : Vd R ex M n0 Z ca sl pc' ls st (W2 I N F (uN K 25 a) G)) : Vd R ex M n0 Z ca sl pc ls (J a :: .ref 31 :: st) (W2 I N F K G) := vi_put g hd rfl (nle rfl) k
theorem mp_26 (g : XG M.1.cls idx 6 26 .int false) (hd : DcAt M.2.1 pc (.putfield idx) 3 pc') (k : Vd R ex M n0 Z ca sl pc' ls st (W2 I N F (uN K 26 a) G)) : Vd R ex M n0 Z ca sl pc ls (J a :: .ref 31 :: st) (W2 I N F K G) := vi_put g hd rfl (nle rfl) k
theorem mp_27 (g : XG M.1.cls idx 6 27 .int false) (hd : DcAt M.2.1 pc (.putfield idx) 3 pc') (k : Vd R ex M n0 Z ca sl pc' ls st (W2 I N F (uN K 27 a) G)) : Vd R ex M n0 Z ca sl pc ls (J a :: .ref 31 :: st) (W2 I N F K G) := vi_put g hd rfl (nle rfl) k
theorem mp_28 (g : XG M.1.cls idx 6 28 .int false) (hd : DcAt M.2.1 pc (.putfield idx) 3 pc') (k : Vd R ex M n0 Z ca sl pc' ls st (W2 I N F (uN K 28 a) G)) : Vd R ex M n0 Z ca sl pc ls (J a :: .ref 31 :: st) (W2 I N F K G) := vi_put g hd rfl (nle rfl) k
theorem mp_29 (g : XG M.1.cls idx 6 29 .int false) (hd : DcAt M.2.1 pc (.putfield idx) 3 pc') (k : Vd R ex M n0 Z ca sl pc' ls st (W2 I N F (uN K 29 a) G)) : Vd R ex M n0 Z ca sl pc ls (J a :: .ref 31 :: st) (W2 I N F K G) := vi_put g hd rfl (nle rfl) k
theorem ms_30 (hd : DcAt M.2.1 pc .iastore 1 pc') (hi : 0 ≤ a ∧ a < 150) (k : Vd R ex M n0 Z ca sl pc' ls st (W2 I N F K (uN G 30 (uI (G 30) a b)))) : Vd R ex M n0 Z ca sl pc ls (J b :: J a :: .ref 47 :: st) (W2 I N F K G) := vi_astore hd rfl hi (by decide) k
theorem ms_31 (hd : DcAt M.2.1 pc .iastore 1 pc') (hi : 0 ≤ a ∧ a < 150) (k : Vd R ex M n0 Z ca sl pc' ls st (W2 I N F K (uN G 31 (uI (G 31) a b)))) : Vd R ex M n0 Z ca sl pc ls (J b :: J a :: .ref 48 :: st) (W2 I N F K G) := vi_astore hd rfl hi (by decide) k
theorem ms_32 (hd : DcAt M.2.1 pc .iastore 1 pc') (hi : 0 ≤ a ∧ a < 20) (k : Vd R ex M n0 Z ca sl pc' ls st (W2 I N F K (uN G 32 (uI (G 32) a b)))) : Vd R ex M n0 Z ca sl pc ls (J b :: J a :: .ref 49 :: st) (W2 I N F K G) := vi_astore hd rfl hi (by decide) k
theorem ms_33 (hd : DcAt M.2.1 pc .iastore 1 pc') (hi : 0 ≤ a ∧ a < 13) (k : Vd R ex M n0 Z ca sl pc' ls st (W2 I N F K (uN G 33 (uI (G 33) a b)))) : Vd R ex M n0 Z ca sl pc ls (J b :: J a :: .ref 50 :: st) (W2 I N F K G) := vi_astore hd rfl hi (by decide) k
theorem ms_34 (hd : DcAt M.2.1 pc .iastore 1 pc') (hi : 0 ≤ a ∧ a < 7) (k : Vd R ex M n0 Z ca sl pc' ls st (W2 I N F K (uN G 34 (uI (G 34) a b)))) : Vd R ex M n0 Z ca sl pc ls (J b :: J a :: .ref 51 :: st) (W2 I N F K G) := vi_astore hd rfl hi (by decide) k
theorem mp_35 (g : XG M.1.cls idx 6 35 .int false) (hd : DcAt M.2.1 pc (.putfield idx) 3 pc') (k : Vd R ex M n0 Z ca sl pc' ls st (W2 I N F (uN K 35 a) G)) : Vd R ex M n0 Z ca sl pc ls (J a :: .ref 31 :: st) (W2 I N F K G) := vi_put g hd rfl (nle rfl) k
theorem ms_36 (hd : DcAt M.2.1 pc .iastore 1 pc') (hi : 0 ≤ a ∧ a < 150) (k : Vd R ex M n0 Z ca sl pc' ls st (W2 I N F K (uN G 36 (uI (G 36) a b)))) : Vd R ex M n0 Z ca sl pc ls (J b :: J a :: .ref 52 :: st) (W2 I N F K G) := vi_astore hd rfl hi (by decide) k
theorem ms_37 (hd : DcAt M.2.1 pc .iastore 1 pc') (hi : 0 ≤ a ∧ a < 150) (k : Vd R ex M n0 Z ca sl pc' ls st (W2 I N F K (uN G 37 (uI (G 37) a b)))) : Vd R ex M n0 Z ca sl pc ls (J b :: J a :: .ref 53 :: st) (W2 I N F K G) := vi_astore hd rfl hi (by decide) k
theorem ms_38 (hd : DcAt M.2.1 pc .iastore 1 pc') (hi : 0 ≤ a ∧ a < 150) (k : Vd R ex M n0 Z ca sl pc' ls st (W2 I N F K (uN G 38 (uI (G 38) a b)))) : Vd R ex M n0 Z ca sl pc ls (J b :: J a :: .ref 54 :: st) (W2 I N F K G) := vi_astore hd rfl hi (by decide) k
theorem ms_39 (hd : DcAt M.2.1 pc .iastore 1 pc') (hi : 0 ≤ a ∧ a < 150) (k : Vd R ex M n0 Z ca sl pc' ls st (W2 I N F K (uN G 39 (uI (G 39) a b)))) : Vd R ex M n0 Z ca sl pc ls (J b :: J a :: .ref 55 :: st) (W2 I N F K G) := vi_astore hd rfl hi (by decide) k
theorem ms_40 (hd : DcAt M.2.1 pc .iastore 1 pc') (hi : 0 ≤ a ∧ a < 15) (k : Vd R ex M n0 Z ca sl pc' ls st (W2 I N F K (uN G 40 (uI (G 40) a b)))) : Vd R ex M n0 Z ca sl pc ls (J b :: J a :: .ref 56 :: st) (W2 I N F K G) := vi_astore hd rfl hi (by decide) k
theorem ms_41 (hd : DcAt M.2.1 pc .iastore 1 pc') (hi : 0 ≤ a ∧ a < 7) (k : Vd R ex M n0 Z ca sl pc' ls st (W2 I N F K (uN G 41 (uI (G 41) a b)))) : Vd R ex M n0 Z ca sl pc ls (J b :: J a :: .ref 57 :: st) (W2 I N F K G) := vi_astore hd rfl hi (by decide) k
theorem ms_42 (hd : DcAt M.2.1 pc .iastore 1 pc') (hi : 0 ≤ a ∧ a < 9) (k : Vd R ex M n0 Z ca sl pc' ls st (W2 I N F K (uN G 42 (uI (G 42) a b)))) : Vd R ex M n0 Z ca sl pc ls (J b :: J a :: .ref 58 :: st) (W2 I N F K G) := vi_astore hd rfl hi (by decide) k
theorem mp_43 (g : XG M.1.cls idx 6 43 .int false) (hd : DcAt M.2.1 pc (.putfield idx) 3 pc') (k : Vd R ex M n0 Z ca sl pc' ls st (W2 I N F (uN K 43 a) G)) : Vd R ex M n0 Z ca sl pc ls (J a :: .ref 31 :: st) (W2 I N F K G) := vi_put g hd rfl (nle rfl) k
theorem ms_44 (hd : DcAt M.2.1 pc .iastore 1 pc') (hi : 0 ≤ a ∧ a < 80) (k : Vd R ex M n0 Z ca sl pc' ls st (W2 I N F K (uN G 44 (uI (G 44) a b)))) : Vd R ex M n0 Z ca sl pc ls (J b :: J a :: .ref 59 :: st) (W2 I N F K G) := vi_astore hd rfl hi (by decide) k
theorem ms_45 (hd : DcAt M.2.1 pc .iastore 1 pc') (hi : 0 ≤ a ∧ a < 2) (k : Vd R ex M n0 Z ca sl pc' ls st (W2 I N F K (uN G 45 (uI (G 45) a b)))) : Vd R ex M n0 Z ca sl pc ls (J b :: J a :: .ref 60 :: st) (W2 I N F K G) := vi_astore hd rfl hi (by decide) k
theorem ms_46 (hd : DcAt M.2.1 pc .iastore 1 pc') (hi : 0 ≤ a ∧ a < 16) (k : Vd R ex M n0 Z ca sl pc' ls st (W2 I N F K (uN G 46 (uI (G 46) a b)))) : Vd R ex M n0 Z ca sl pc ls (J b :: J a :: .ref 61 :: st) (W2 I N F K G) := vi_astore hd rfl hi (by decide) k
theorem ms_47 (hd : DcAt M.2.1 pc .iastore 1 pc') (hi : 0 ≤ a ∧ a < 144) (k : Vd R ex M n0 Z ca sl pc' ls st (W2 I N F K (uN G 47 (uI (G 47) a b)))) : Vd R ex M n0 Z ca sl pc ls (J b :: J a :: .ref 62 :: st) (W2 I N F K G) := vi_astore hd rfl hi (by decide) k
theorem mp_48 (g : XG M.1.cls idx 6 48 .int false) (hd : DcAt M.2.1 pc (.putfield idx) 3 pc') (k : Vd R ex M n0 Z ca sl pc' ls st (W2 I N F (uN K 48 a) G)) : Vd R ex M n0 Z ca sl pc ls (J a :: .ref 31 :: st) (W2 I N F K G) := vi_put g hd rfl (nle rfl) k
theorem mp_49 (g : XG M.1.cls idx 6 49 .int false) (hd : DcAt M.2.1 pc (.putfield idx) 3 pc') (k : Vd R ex M n0 Z ca sl pc' ls st (W2 I N F (uN K 49 a) G)) : Vd R ex M n0 Z ca sl pc ls (J a :: .ref 31 :: st) (W2 I N F K G) := vi_put g hd rfl (nle rfl) k
theorem mp_50 (g : XG M.1.cls idx 6 50 .boolean false) (hd : DcAt M.2.1 pc (.putfield idx) 3 pc') (hz : a = 0 ∨ a = 1) (k : Vd R ex M n0 Z ca sl pc' ls st (W2 I N F (uN K 50 a) G)) : Vd R ex M n0 Z ca sl pc ls (J a :: .ref 31 :: st) (W2 I N F K G) := vi_putz g hd rfl (nle rfl) hz k
theorem mp_51 (g : XG M.1.cls idx 6 51 .int false) (hd : DcAt M.2.1 pc (.putfield idx) 3 pc') (k : Vd R ex M n0 Z ca sl pc' ls st (W2 I N F (uN K 51 a) G)) : Vd R ex M n0 Z ca sl pc ls (J a :: .ref 31 :: st) (W2 I N F K G) := vi_put g hd rfl (nle rfl) k
theorem ms_52 (hd : DcAt M.2.1 pc .iastore 1 pc') (hi : 0 ≤ a ∧ a < 41) (k : Vd R ex M n0 Z ca sl pc' ls st (W2 I N F K (uN G 52 (uI (G 52) a b)))) : Vd R ex M n0 Z ca sl pc ls (J b :: J a :: .ref 63 :: st) (W2 I N F K G) := vi_astore hd rfl hi (by decide) k
theorem ms_53 (hd : DcAt M.2.1 pc .iastore 1 pc') (hi : 0 ≤ a ∧ a < 41) (k : Vd R ex M n0 Z ca sl pc' ls st (W2 I N F K (uN G 53 (uI (G 53) a b)))) : Vd R ex M n0 Z ca sl pc ls (J b :: J a :: .ref 64 :: st) (W2 I N F K G) := vi_astore hd rfl hi (by decide) k
theorem ms_54 (hd : DcAt M.2.1 pc .iastore 1 pc') (hi : 0 ≤ a ∧ a < 1700) (k : Vd R ex M n0 Z ca sl pc' ls st (W2 I N F K (uN G 54 (uI (G 54) a b)))) : Vd R ex M n0 Z ca sl pc ls (J b :: J a :: .ref 65 :: st) (W2 I N F K G) := vi_astore hd rfl hi (by decide) k
theorem mp_55 (g : XG M.1.cls idx 6 55 .int false) (hd : DcAt M.2.1 pc (.putfield idx) 3 pc') (k : Vd R ex M n0 Z ca sl pc' ls st (W2 I N F (uN K 55 a) G)) : Vd R ex M n0 Z ca sl pc ls (J a :: .ref 31 :: st) (W2 I N F K G) := vi_put g hd rfl (nle rfl) k
end Puts
section Tabs
variable {T : XW} {I N : Nat → Int} {F : Nat → Int → Int}
theorem c0_size : Sd (rm 0 0 0 0) mX5_size [.ref 1] (cls I N F ++ T) (cls I N F ++ T) (some (J (N 0))) := tt_size (b := 1) rfl
theorem c0_full (hn : 0 ≤ N 0 ∧ N 0 ≤ 1500) : Sd (rm 0 0 0 0) mX5_isFull [.ref 1] (cls I N F ++ T) (cls I N F ++ T) (some (J (if 1500 ≤ N 0 then 1 else 0))) := tt_full (b := 1) rfl (by omega)
theorem c0_has (hn : 0 ≤ N 0 ∧ N 0 ≤ 1500) {k : Int} (hk : -2147483648 ≤ k ∧ k < 2147483648) : Sd (rm 0 0 0 0) mX5_has [.ref 1, J k] (cls I N F ++ T) (cls I N F ++ T) (some (J (if 0 ≤ k ∧ k < N 0 then 1 else 0))) := tt_has (b := 1) rfl (by omega) hk
theorem c0_keep (hn : 0 ≤ N 0 ∧ N 0 ≤ 1500) {k : Int} (hk : 0 ≤ k ∧ k ≤ N 0) : Sd (rm 0 0 0 0) mX5_keep [.ref 1, J k] (cls I N F ++ T) (cls I (uN N 0 k) F ++ T) none := tt_keep (b := 1) rfl (by omega) hk
theorem c0_add (hn : 0 ≤ N 0 ∧ N 0 < 1500) {v : Int} : Sd (rm 0 0 0 0) mX5_add [.ref 1, J v] (cls I N F ++ T) (cls I (uN N 0 (N 0 + 1)) (uN F 0 (uI (F 0) (N 0) v)) ++ T) (some (J (N 0))) := by
  rw [← adf_1]
  exact tt_add (b := 1) (a := 2) (L := 1500) rfl rfl (by omega) (by decide) (by decide)
theorem c0_get (hn : 0 ≤ N 0 ∧ N 0 ≤ 1500) {r : Int} (hr : 0 ≤ r ∧ r < N 0) : Sd (rm 0 0 0 0) mX5_get [.ref 1, J r, J 0] (cls I N F ++ T) (cls I N F ++ T) (some (J (F 0 r))) := by
  have h := tt_get (w := (cls I N F ++ T)) (b := 1) (a := 2) (L := 1500) (f := F 0) (c := 0) rfl rfl (by omega) (by decide) hr (by decide)
  rw [Int.mul_one, Int.add_zero] at h
  exact h
theorem c0_set (hn : 0 ≤ N 0 ∧ N 0 ≤ 1500) {r v : Int} (hr : 0 ≤ r ∧ r < N 0) : Sd (rm 0 0 0 0) mX5_set [.ref 1, J r, J 0, J v] (cls I N F ++ T) (cls I N (uN F 0 (uI (F 0) r v)) ++ T) none := by
  have h := tt_set (w := (cls I N F ++ T)) (b := 1) (a := 2) (L := 1500) (f := F 0) (c := 0) (v := v) rfl rfl (by omega) (by decide) hr (by decide)
  rw [Int.mul_one, Int.add_zero] at h
  exact h
theorem c1_size : Sd (rm 0 0 0 0) mX5_size [.ref 3] (cls I N F ++ T) (cls I N F ++ T) (some (J (N 1))) := tt_size (b := 3) rfl
theorem c1_full (hn : 0 ≤ N 1 ∧ N 1 ≤ 1500) : Sd (rm 0 0 0 0) mX5_isFull [.ref 3] (cls I N F ++ T) (cls I N F ++ T) (some (J (if 1500 ≤ N 1 then 1 else 0))) := tt_full (b := 3) rfl (by omega)
theorem c1_has (hn : 0 ≤ N 1 ∧ N 1 ≤ 1500) {k : Int} (hk : -2147483648 ≤ k ∧ k < 2147483648) : Sd (rm 0 0 0 0) mX5_has [.ref 3, J k] (cls I N F ++ T) (cls I N F ++ T) (some (J (if 0 ≤ k ∧ k < N 1 then 1 else 0))) := tt_has (b := 3) rfl (by omega) hk
theorem c1_keep (hn : 0 ≤ N 1 ∧ N 1 ≤ 1500) {k : Int} (hk : 0 ≤ k ∧ k ≤ N 1) : Sd (rm 0 0 0 0) mX5_keep [.ref 3, J k] (cls I N F ++ T) (cls I (uN N 1 k) F ++ T) none := tt_keep (b := 3) rfl (by omega) hk
theorem c1_add (hn : 0 ≤ N 1 ∧ N 1 < 1500) {v : Int} : Sd (rm 0 0 0 0) mX5_add [.ref 3, J v] (cls I N F ++ T) (cls I (uN N 1 (N 1 + 1)) (uN F 1 (uI (F 1) (N 1) v)) ++ T) (some (J (N 1))) := by
  rw [← adf_1]
  exact tt_add (b := 3) (a := 4) (L := 1500) rfl rfl (by omega) (by decide) (by decide)
theorem c1_get (hn : 0 ≤ N 1 ∧ N 1 ≤ 1500) {r : Int} (hr : 0 ≤ r ∧ r < N 1) : Sd (rm 0 0 0 0) mX5_get [.ref 3, J r, J 0] (cls I N F ++ T) (cls I N F ++ T) (some (J (F 1 r))) := by
  have h := tt_get (w := (cls I N F ++ T)) (b := 3) (a := 4) (L := 1500) (f := F 1) (c := 0) rfl rfl (by omega) (by decide) hr (by decide)
  rw [Int.mul_one, Int.add_zero] at h
  exact h
theorem c1_set (hn : 0 ≤ N 1 ∧ N 1 ≤ 1500) {r v : Int} (hr : 0 ≤ r ∧ r < N 1) : Sd (rm 0 0 0 0) mX5_set [.ref 3, J r, J 0, J v] (cls I N F ++ T) (cls I N (uN F 1 (uI (F 1) r v)) ++ T) none := by
  have h := tt_set (w := (cls I N F ++ T)) (b := 3) (a := 4) (L := 1500) (f := F 1) (c := 0) (v := v) rfl rfl (by omega) (by decide) hr (by decide)
  rw [Int.mul_one, Int.add_zero] at h
  exact h
theorem c2_size : Sd (rm 0 0 0 0) mX5_size [.ref 6] (cls I N F ++ T) (cls I N F ++ T) (some (J (N 2))) := tt_size (b := 6) rfl
theorem c2_full (hn : 0 ≤ N 2 ∧ N 2 ≤ 1500) : Sd (rm 0 0 0 0) mX5_isFull [.ref 6] (cls I N F ++ T) (cls I N F ++ T) (some (J (if 1500 ≤ N 2 then 1 else 0))) := tt_full (b := 6) rfl (by omega)
theorem c2_has (hn : 0 ≤ N 2 ∧ N 2 ≤ 1500) {k : Int} (hk : -2147483648 ≤ k ∧ k < 2147483648) : Sd (rm 0 0 0 0) mX5_has [.ref 6, J k] (cls I N F ++ T) (cls I N F ++ T) (some (J (if 0 ≤ k ∧ k < N 2 then 1 else 0))) := tt_has (b := 6) rfl (by omega) hk
theorem c2_keep (hn : 0 ≤ N 2 ∧ N 2 ≤ 1500) {k : Int} (hk : 0 ≤ k ∧ k ≤ N 2) : Sd (rm 0 0 0 0) mX5_keep [.ref 6, J k] (cls I N F ++ T) (cls I (uN N 2 k) F ++ T) none := tt_keep (b := 6) rfl (by omega) hk
theorem c2_add (hn : 0 ≤ N 2 ∧ N 2 < 1500) {v : Int} : Sd (rm 0 0 0 0) mX5_add [.ref 6, J v] (cls I N F ++ T) (cls I (uN N 2 (N 2 + 1)) (uN F 2 (uI (F 2) (N 2) v)) ++ T) (some (J (N 2))) := by
  rw [← adf_1]
  exact tt_add (b := 6) (a := 7) (L := 1500) rfl rfl (by omega) (by decide) (by decide)
theorem c2_get (hn : 0 ≤ N 2 ∧ N 2 ≤ 1500) {r : Int} (hr : 0 ≤ r ∧ r < N 2) : Sd (rm 0 0 0 0) mX5_get [.ref 6, J r, J 0] (cls I N F ++ T) (cls I N F ++ T) (some (J (F 2 r))) := by
  have h := tt_get (w := (cls I N F ++ T)) (b := 6) (a := 7) (L := 1500) (f := F 2) (c := 0) rfl rfl (by omega) (by decide) hr (by decide)
  rw [Int.mul_one, Int.add_zero] at h
  exact h
theorem c2_set (hn : 0 ≤ N 2 ∧ N 2 ≤ 1500) {r v : Int} (hr : 0 ≤ r ∧ r < N 2) : Sd (rm 0 0 0 0) mX5_set [.ref 6, J r, J 0, J v] (cls I N F ++ T) (cls I N (uN F 2 (uI (F 2) r v)) ++ T) none := by
  have h := tt_set (w := (cls I N F ++ T)) (b := 6) (a := 7) (L := 1500) (f := F 2) (c := 0) (v := v) rfl rfl (by omega) (by decide) hr (by decide)
  rw [Int.mul_one, Int.add_zero] at h
  exact h
theorem c3_size : Sd (rm 0 0 0 0) mX5_size [.ref 8] (cls I N F ++ T) (cls I N F ++ T) (some (J (N 3))) := tt_size (b := 8) rfl
theorem c3_full (hn : 0 ≤ N 3 ∧ N 3 ≤ 60) : Sd (rm 0 0 0 0) mX5_isFull [.ref 8] (cls I N F ++ T) (cls I N F ++ T) (some (J (if 60 ≤ N 3 then 1 else 0))) := tt_full (b := 8) rfl (by omega)
theorem c3_has (hn : 0 ≤ N 3 ∧ N 3 ≤ 60) {k : Int} (hk : -2147483648 ≤ k ∧ k < 2147483648) : Sd (rm 0 0 0 0) mX5_has [.ref 8, J k] (cls I N F ++ T) (cls I N F ++ T) (some (J (if 0 ≤ k ∧ k < N 3 then 1 else 0))) := tt_has (b := 8) rfl (by omega) hk
theorem c3_keep (hn : 0 ≤ N 3 ∧ N 3 ≤ 60) {k : Int} (hk : 0 ≤ k ∧ k ≤ N 3) : Sd (rm 0 0 0 0) mX5_keep [.ref 8, J k] (cls I N F ++ T) (cls I (uN N 3 k) F ++ T) none := tt_keep (b := 8) rfl (by omega) hk
theorem c3_add (hn : 0 ≤ N 3 ∧ N 3 < 60) {v : Int} : Sd (rm 0 0 0 0) mX5_add [.ref 8, J v] (cls I N F ++ T) (cls I (uN N 3 (N 3 + 1)) (uN F 3 (adf (F 3) 9 (N 3) v)) ++ T) (some (J (N 3))) := tt_add (b := 8) (a := 9) (L := 540) rfl rfl (by omega) (by decide) (by decide)
theorem c3_get (hn : 0 ≤ N 3 ∧ N 3 ≤ 60) {r c : Int} (hr : 0 ≤ r ∧ r < N 3) (hc : 0 ≤ c ∧ c < 9) : Sd (rm 0 0 0 0) mX5_get [.ref 8, J r, J c] (cls I N F ++ T) (cls I N F ++ T) (some (J (F 3 (r * 9 + c)))) := tt_get (b := 8) (a := 9) (L := 540) rfl rfl (by omega) (by decide) hr hc
theorem c3_set (hn : 0 ≤ N 3 ∧ N 3 ≤ 60) {r c v : Int} (hr : 0 ≤ r ∧ r < N 3) (hc : 0 ≤ c ∧ c < 9) : Sd (rm 0 0 0 0) mX5_set [.ref 8, J r, J c, J v] (cls I N F ++ T) (cls I N (uN F 3 (uI (F 3) (r * 9 + c) v)) ++ T) none := tt_set (b := 8) (a := 9) (L := 540) rfl rfl (by omega) (by decide) hr hc
theorem c3_ask (hn : 0 ≤ N 3 ∧ N 3 ≤ 60) {r c q : Int} (hr : -2147483648 ≤ r ∧ r < 2147483648) (hc : -2147483648 ≤ c ∧ c < 2147483648) (hq : 0 ≤ q ∧ q ≤ 9) : Sd (rm 1 23 0 0) mX5_ask [.ref 8, J r, J c, J q] (cls I N F ++ T) (cls I N F ++ T) (some (J (if 0 ≤ r ∧ r < N 3 then (if 0 ≤ c ∧ c < q then F 3 (r * 9 + c) else -102) else -101))) := tt_ask (b := 8) (a := 9) (L := 540) rfl rfl (by omega) (by decide) hr hc hq
theorem c4_size : Sd (rm 0 0 0 0) mX5_size [.ref 10] (cls I N F ++ T) (cls I N F ++ T) (some (J (N 4))) := tt_size (b := 10) rfl
theorem c4_full (hn : 0 ≤ N 4 ∧ N 4 ≤ 150) : Sd (rm 0 0 0 0) mX5_isFull [.ref 10] (cls I N F ++ T) (cls I N F ++ T) (some (J (if 150 ≤ N 4 then 1 else 0))) := tt_full (b := 10) rfl (by omega)
theorem c4_has (hn : 0 ≤ N 4 ∧ N 4 ≤ 150) {k : Int} (hk : -2147483648 ≤ k ∧ k < 2147483648) : Sd (rm 0 0 0 0) mX5_has [.ref 10, J k] (cls I N F ++ T) (cls I N F ++ T) (some (J (if 0 ≤ k ∧ k < N 4 then 1 else 0))) := tt_has (b := 10) rfl (by omega) hk
theorem c4_keep (hn : 0 ≤ N 4 ∧ N 4 ≤ 150) {k : Int} (hk : 0 ≤ k ∧ k ≤ N 4) : Sd (rm 0 0 0 0) mX5_keep [.ref 10, J k] (cls I N F ++ T) (cls I (uN N 4 k) F ++ T) none := tt_keep (b := 10) rfl (by omega) hk
theorem c4_add (hn : 0 ≤ N 4 ∧ N 4 < 150) {v : Int} : Sd (rm 0 0 0 0) mX5_add [.ref 10, J v] (cls I N F ++ T) (cls I (uN N 4 (N 4 + 1)) (uN F 4 (adf (F 4) 8 (N 4) v)) ++ T) (some (J (N 4))) := tt_add (b := 10) (a := 11) (L := 1200) rfl rfl (by omega) (by decide) (by decide)
theorem c4_get (hn : 0 ≤ N 4 ∧ N 4 ≤ 150) {r c : Int} (hr : 0 ≤ r ∧ r < N 4) (hc : 0 ≤ c ∧ c < 8) : Sd (rm 0 0 0 0) mX5_get [.ref 10, J r, J c] (cls I N F ++ T) (cls I N F ++ T) (some (J (F 4 (r * 8 + c)))) := tt_get (b := 10) (a := 11) (L := 1200) rfl rfl (by omega) (by decide) hr hc
theorem c4_set (hn : 0 ≤ N 4 ∧ N 4 ≤ 150) {r c v : Int} (hr : 0 ≤ r ∧ r < N 4) (hc : 0 ≤ c ∧ c < 8) : Sd (rm 0 0 0 0) mX5_set [.ref 10, J r, J c, J v] (cls I N F ++ T) (cls I N (uN F 4 (uI (F 4) (r * 8 + c) v)) ++ T) none := tt_set (b := 10) (a := 11) (L := 1200) rfl rfl (by omega) (by decide) hr hc
theorem c4_ask (hn : 0 ≤ N 4 ∧ N 4 ≤ 150) {r c q : Int} (hr : -2147483648 ≤ r ∧ r < 2147483648) (hc : -2147483648 ≤ c ∧ c < 2147483648) (hq : 0 ≤ q ∧ q ≤ 8) : Sd (rm 1 23 0 0) mX5_ask [.ref 10, J r, J c, J q] (cls I N F ++ T) (cls I N F ++ T) (some (J (if 0 ≤ r ∧ r < N 4 then (if 0 ≤ c ∧ c < q then F 4 (r * 8 + c) else -102) else -101))) := tt_ask (b := 10) (a := 11) (L := 1200) rfl rfl (by omega) (by decide) hr hc hq
theorem c5_size : Sd (rm 0 0 0 0) mX5_size [.ref 12] (cls I N F ++ T) (cls I N F ++ T) (some (J (N 5))) := tt_size (b := 12) rfl
theorem c5_full (hn : 0 ≤ N 5 ∧ N 5 ≤ 150) : Sd (rm 0 0 0 0) mX5_isFull [.ref 12] (cls I N F ++ T) (cls I N F ++ T) (some (J (if 150 ≤ N 5 then 1 else 0))) := tt_full (b := 12) rfl (by omega)
theorem c5_has (hn : 0 ≤ N 5 ∧ N 5 ≤ 150) {k : Int} (hk : -2147483648 ≤ k ∧ k < 2147483648) : Sd (rm 0 0 0 0) mX5_has [.ref 12, J k] (cls I N F ++ T) (cls I N F ++ T) (some (J (if 0 ≤ k ∧ k < N 5 then 1 else 0))) := tt_has (b := 12) rfl (by omega) hk
theorem c5_keep (hn : 0 ≤ N 5 ∧ N 5 ≤ 150) {k : Int} (hk : 0 ≤ k ∧ k ≤ N 5) : Sd (rm 0 0 0 0) mX5_keep [.ref 12, J k] (cls I N F ++ T) (cls I (uN N 5 k) F ++ T) none := tt_keep (b := 12) rfl (by omega) hk
theorem c5_add (hn : 0 ≤ N 5 ∧ N 5 < 150) {v : Int} : Sd (rm 0 0 0 0) mX5_add [.ref 12, J v] (cls I N F ++ T) (cls I (uN N 5 (N 5 + 1)) (uN F 5 (adf (F 5) 4 (N 5) v)) ++ T) (some (J (N 5))) := tt_add (b := 12) (a := 13) (L := 600) rfl rfl (by omega) (by decide) (by decide)
theorem c5_get (hn : 0 ≤ N 5 ∧ N 5 ≤ 150) {r c : Int} (hr : 0 ≤ r ∧ r < N 5) (hc : 0 ≤ c ∧ c < 4) : Sd (rm 0 0 0 0) mX5_get [.ref 12, J r, J c] (cls I N F ++ T) (cls I N F ++ T) (some (J (F 5 (r * 4 + c)))) := tt_get (b := 12) (a := 13) (L := 600) rfl rfl (by omega) (by decide) hr hc
theorem c5_set (hn : 0 ≤ N 5 ∧ N 5 ≤ 150) {r c v : Int} (hr : 0 ≤ r ∧ r < N 5) (hc : 0 ≤ c ∧ c < 4) : Sd (rm 0 0 0 0) mX5_set [.ref 12, J r, J c, J v] (cls I N F ++ T) (cls I N (uN F 5 (uI (F 5) (r * 4 + c) v)) ++ T) none := tt_set (b := 12) (a := 13) (L := 600) rfl rfl (by omega) (by decide) hr hc
theorem c5_ask (hn : 0 ≤ N 5 ∧ N 5 ≤ 150) {r c q : Int} (hr : -2147483648 ≤ r ∧ r < 2147483648) (hc : -2147483648 ≤ c ∧ c < 2147483648) (hq : 0 ≤ q ∧ q ≤ 4) : Sd (rm 1 23 0 0) mX5_ask [.ref 12, J r, J c, J q] (cls I N F ++ T) (cls I N F ++ T) (some (J (if 0 ≤ r ∧ r < N 5 then (if 0 ≤ c ∧ c < q then F 5 (r * 4 + c) else -102) else -101))) := tt_ask (b := 12) (a := 13) (L := 600) rfl rfl (by omega) (by decide) hr hc hq
theorem c6_size : Sd (rm 0 0 0 0) mX5_size [.ref 14] (cls I N F ++ T) (cls I N F ++ T) (some (J (N 6))) := tt_size (b := 14) rfl
theorem c6_full (hn : 0 ≤ N 6 ∧ N 6 ≤ 30) : Sd (rm 0 0 0 0) mX5_isFull [.ref 14] (cls I N F ++ T) (cls I N F ++ T) (some (J (if 30 ≤ N 6 then 1 else 0))) := tt_full (b := 14) rfl (by omega)
theorem c6_has (hn : 0 ≤ N 6 ∧ N 6 ≤ 30) {k : Int} (hk : -2147483648 ≤ k ∧ k < 2147483648) : Sd (rm 0 0 0 0) mX5_has [.ref 14, J k] (cls I N F ++ T) (cls I N F ++ T) (some (J (if 0 ≤ k ∧ k < N 6 then 1 else 0))) := tt_has (b := 14) rfl (by omega) hk
theorem c6_keep (hn : 0 ≤ N 6 ∧ N 6 ≤ 30) {k : Int} (hk : 0 ≤ k ∧ k ≤ N 6) : Sd (rm 0 0 0 0) mX5_keep [.ref 14, J k] (cls I N F ++ T) (cls I (uN N 6 k) F ++ T) none := tt_keep (b := 14) rfl (by omega) hk
theorem c6_add (hn : 0 ≤ N 6 ∧ N 6 < 30) {v : Int} : Sd (rm 0 0 0 0) mX5_add [.ref 14, J v] (cls I N F ++ T) (cls I (uN N 6 (N 6 + 1)) (uN F 6 (adf (F 6) 2 (N 6) v)) ++ T) (some (J (N 6))) := tt_add (b := 14) (a := 15) (L := 60) rfl rfl (by omega) (by decide) (by decide)
theorem c6_get (hn : 0 ≤ N 6 ∧ N 6 ≤ 30) {r c : Int} (hr : 0 ≤ r ∧ r < N 6) (hc : 0 ≤ c ∧ c < 2) : Sd (rm 0 0 0 0) mX5_get [.ref 14, J r, J c] (cls I N F ++ T) (cls I N F ++ T) (some (J (F 6 (r * 2 + c)))) := tt_get (b := 14) (a := 15) (L := 60) rfl rfl (by omega) (by decide) hr hc
theorem c6_set (hn : 0 ≤ N 6 ∧ N 6 ≤ 30) {r c v : Int} (hr : 0 ≤ r ∧ r < N 6) (hc : 0 ≤ c ∧ c < 2) : Sd (rm 0 0 0 0) mX5_set [.ref 14, J r, J c, J v] (cls I N F ++ T) (cls I N (uN F 6 (uI (F 6) (r * 2 + c) v)) ++ T) none := tt_set (b := 14) (a := 15) (L := 60) rfl rfl (by omega) (by decide) hr hc
theorem c6_ask (hn : 0 ≤ N 6 ∧ N 6 ≤ 30) {r c q : Int} (hr : -2147483648 ≤ r ∧ r < 2147483648) (hc : -2147483648 ≤ c ∧ c < 2147483648) (hq : 0 ≤ q ∧ q ≤ 2) : Sd (rm 1 23 0 0) mX5_ask [.ref 14, J r, J c, J q] (cls I N F ++ T) (cls I N F ++ T) (some (J (if 0 ≤ r ∧ r < N 6 then (if 0 ≤ c ∧ c < q then F 6 (r * 2 + c) else -102) else -101))) := tt_ask (b := 14) (a := 15) (L := 60) rfl rfl (by omega) (by decide) hr hc hq
theorem c7_size : Sd (rm 0 0 0 0) mX5_size [.ref 16] (cls I N F ++ T) (cls I N F ++ T) (some (J (N 7))) := tt_size (b := 16) rfl
theorem c7_full (hn : 0 ≤ N 7 ∧ N 7 ≤ 20) : Sd (rm 0 0 0 0) mX5_isFull [.ref 16] (cls I N F ++ T) (cls I N F ++ T) (some (J (if 20 ≤ N 7 then 1 else 0))) := tt_full (b := 16) rfl (by omega)
theorem c7_has (hn : 0 ≤ N 7 ∧ N 7 ≤ 20) {k : Int} (hk : -2147483648 ≤ k ∧ k < 2147483648) : Sd (rm 0 0 0 0) mX5_has [.ref 16, J k] (cls I N F ++ T) (cls I N F ++ T) (some (J (if 0 ≤ k ∧ k < N 7 then 1 else 0))) := tt_has (b := 16) rfl (by omega) hk
theorem c7_keep (hn : 0 ≤ N 7 ∧ N 7 ≤ 20) {k : Int} (hk : 0 ≤ k ∧ k ≤ N 7) : Sd (rm 0 0 0 0) mX5_keep [.ref 16, J k] (cls I N F ++ T) (cls I (uN N 7 k) F ++ T) none := tt_keep (b := 16) rfl (by omega) hk
theorem c7_add (hn : 0 ≤ N 7 ∧ N 7 < 20) {v : Int} : Sd (rm 0 0 0 0) mX5_add [.ref 16, J v] (cls I N F ++ T) (cls I (uN N 7 (N 7 + 1)) (uN F 7 (adf (F 7) 2 (N 7) v)) ++ T) (some (J (N 7))) := tt_add (b := 16) (a := 17) (L := 40) rfl rfl (by omega) (by decide) (by decide)
theorem c7_get (hn : 0 ≤ N 7 ∧ N 7 ≤ 20) {r c : Int} (hr : 0 ≤ r ∧ r < N 7) (hc : 0 ≤ c ∧ c < 2) : Sd (rm 0 0 0 0) mX5_get [.ref 16, J r, J c] (cls I N F ++ T) (cls I N F ++ T) (some (J (F 7 (r * 2 + c)))) := tt_get (b := 16) (a := 17) (L := 40) rfl rfl (by omega) (by decide) hr hc
theorem c7_set (hn : 0 ≤ N 7 ∧ N 7 ≤ 20) {r c v : Int} (hr : 0 ≤ r ∧ r < N 7) (hc : 0 ≤ c ∧ c < 2) : Sd (rm 0 0 0 0) mX5_set [.ref 16, J r, J c, J v] (cls I N F ++ T) (cls I N (uN F 7 (uI (F 7) (r * 2 + c) v)) ++ T) none := tt_set (b := 16) (a := 17) (L := 40) rfl rfl (by omega) (by decide) hr hc
theorem c7_ask (hn : 0 ≤ N 7 ∧ N 7 ≤ 20) {r c q : Int} (hr : -2147483648 ≤ r ∧ r < 2147483648) (hc : -2147483648 ≤ c ∧ c < 2147483648) (hq : 0 ≤ q ∧ q ≤ 2) : Sd (rm 1 23 0 0) mX5_ask [.ref 16, J r, J c, J q] (cls I N F ++ T) (cls I N F ++ T) (some (J (if 0 ≤ r ∧ r < N 7 then (if 0 ≤ c ∧ c < q then F 7 (r * 2 + c) else -102) else -101))) := tt_ask (b := 16) (a := 17) (L := 40) rfl rfl (by omega) (by decide) hr hc hq
theorem c8_size : Sd (rm 0 0 0 0) mX5_size [.ref 18] (cls I N F ++ T) (cls I N F ++ T) (some (J (N 8))) := tt_size (b := 18) rfl
theorem c8_full (hn : 0 ≤ N 8 ∧ N 8 ≤ 260) : Sd (rm 0 0 0 0) mX5_isFull [.ref 18] (cls I N F ++ T) (cls I N F ++ T) (some (J (if 260 ≤ N 8 then 1 else 0))) := tt_full (b := 18) rfl (by omega)
theorem c8_has (hn : 0 ≤ N 8 ∧ N 8 ≤ 260) {k : Int} (hk : -2147483648 ≤ k ∧ k < 2147483648) : Sd (rm 0 0 0 0) mX5_has [.ref 18, J k] (cls I N F ++ T) (cls I N F ++ T) (some (J (if 0 ≤ k ∧ k < N 8 then 1 else 0))) := tt_has (b := 18) rfl (by omega) hk
theorem c8_keep (hn : 0 ≤ N 8 ∧ N 8 ≤ 260) {k : Int} (hk : 0 ≤ k ∧ k ≤ N 8) : Sd (rm 0 0 0 0) mX5_keep [.ref 18, J k] (cls I N F ++ T) (cls I (uN N 8 k) F ++ T) none := tt_keep (b := 18) rfl (by omega) hk
theorem c8_add (hn : 0 ≤ N 8 ∧ N 8 < 260) {v : Int} : Sd (rm 0 0 0 0) mX5_add [.ref 18, J v] (cls I N F ++ T) (cls I (uN N 8 (N 8 + 1)) (uN F 8 (adf (F 8) 2 (N 8) v)) ++ T) (some (J (N 8))) := tt_add (b := 18) (a := 19) (L := 520) rfl rfl (by omega) (by decide) (by decide)
theorem c8_get (hn : 0 ≤ N 8 ∧ N 8 ≤ 260) {r c : Int} (hr : 0 ≤ r ∧ r < N 8) (hc : 0 ≤ c ∧ c < 2) : Sd (rm 0 0 0 0) mX5_get [.ref 18, J r, J c] (cls I N F ++ T) (cls I N F ++ T) (some (J (F 8 (r * 2 + c)))) := tt_get (b := 18) (a := 19) (L := 520) rfl rfl (by omega) (by decide) hr hc
theorem c8_set (hn : 0 ≤ N 8 ∧ N 8 ≤ 260) {r c v : Int} (hr : 0 ≤ r ∧ r < N 8) (hc : 0 ≤ c ∧ c < 2) : Sd (rm 0 0 0 0) mX5_set [.ref 18, J r, J c, J v] (cls I N F ++ T) (cls I N (uN F 8 (uI (F 8) (r * 2 + c) v)) ++ T) none := tt_set (b := 18) (a := 19) (L := 520) rfl rfl (by omega) (by decide) hr hc
theorem c8_ask (hn : 0 ≤ N 8 ∧ N 8 ≤ 260) {r c q : Int} (hr : -2147483648 ≤ r ∧ r < 2147483648) (hc : -2147483648 ≤ c ∧ c < 2147483648) (hq : 0 ≤ q ∧ q ≤ 2) : Sd (rm 1 23 0 0) mX5_ask [.ref 18, J r, J c, J q] (cls I N F ++ T) (cls I N F ++ T) (some (J (if 0 ≤ r ∧ r < N 8 then (if 0 ≤ c ∧ c < q then F 8 (r * 2 + c) else -102) else -101))) := tt_ask (b := 18) (a := 19) (L := 520) rfl rfl (by omega) (by decide) hr hc hq
theorem c9_size : Sd (rm 0 0 0 0) mX5_size [.ref 21] (cls I N F ++ T) (cls I N F ++ T) (some (J (N 9))) := tt_size (b := 21) rfl
theorem c9_full (hn : 0 ≤ N 9 ∧ N 9 ≤ 6) : Sd (rm 0 0 0 0) mX5_isFull [.ref 21] (cls I N F ++ T) (cls I N F ++ T) (some (J (if 6 ≤ N 9 then 1 else 0))) := tt_full (b := 21) rfl (by omega)
theorem c9_has (hn : 0 ≤ N 9 ∧ N 9 ≤ 6) {k : Int} (hk : -2147483648 ≤ k ∧ k < 2147483648) : Sd (rm 0 0 0 0) mX5_has [.ref 21, J k] (cls I N F ++ T) (cls I N F ++ T) (some (J (if 0 ≤ k ∧ k < N 9 then 1 else 0))) := tt_has (b := 21) rfl (by omega) hk
theorem c9_keep (hn : 0 ≤ N 9 ∧ N 9 ≤ 6) {k : Int} (hk : 0 ≤ k ∧ k ≤ N 9) : Sd (rm 0 0 0 0) mX5_keep [.ref 21, J k] (cls I N F ++ T) (cls I (uN N 9 k) F ++ T) none := tt_keep (b := 21) rfl (by omega) hk
theorem c9_add (hn : 0 ≤ N 9 ∧ N 9 < 6) {v : Int} : Sd (rm 0 0 0 0) mX5_add [.ref 21, J v] (cls I N F ++ T) (cls I (uN N 9 (N 9 + 1)) (uN F 9 (uI (F 9) (N 9) v)) ++ T) (some (J (N 9))) := by
  rw [← adf_1]
  exact tt_add (b := 21) (a := 22) (L := 6) rfl rfl (by omega) (by decide) (by decide)
theorem c9_get (hn : 0 ≤ N 9 ∧ N 9 ≤ 6) {r : Int} (hr : 0 ≤ r ∧ r < N 9) : Sd (rm 0 0 0 0) mX5_get [.ref 21, J r, J 0] (cls I N F ++ T) (cls I N F ++ T) (some (J (F 9 r))) := by
  have h := tt_get (w := (cls I N F ++ T)) (b := 21) (a := 22) (L := 6) (f := F 9) (c := 0) rfl rfl (by omega) (by decide) hr (by decide)
  rw [Int.mul_one, Int.add_zero] at h
  exact h
theorem c9_set (hn : 0 ≤ N 9 ∧ N 9 ≤ 6) {r v : Int} (hr : 0 ≤ r ∧ r < N 9) : Sd (rm 0 0 0 0) mX5_set [.ref 21, J r, J 0, J v] (cls I N F ++ T) (cls I N (uN F 9 (uI (F 9) r v)) ++ T) none := by
  have h := tt_set (w := (cls I N F ++ T)) (b := 21) (a := 22) (L := 6) (f := F 9) (c := 0) (v := v) rfl rfl (by omega) (by decide) hr (by decide)
  rw [Int.mul_one, Int.add_zero] at h
  exact h
theorem c10_size : Sd (rm 0 0 0 0) mX5_size [.ref 24] (cls I N F ++ T) (cls I N F ++ T) (some (J (N 10))) := tt_size (b := 24) rfl
theorem c10_full (hn : 0 ≤ N 10 ∧ N 10 ≤ 40) : Sd (rm 0 0 0 0) mX5_isFull [.ref 24] (cls I N F ++ T) (cls I N F ++ T) (some (J (if 40 ≤ N 10 then 1 else 0))) := tt_full (b := 24) rfl (by omega)
theorem c10_has (hn : 0 ≤ N 10 ∧ N 10 ≤ 40) {k : Int} (hk : -2147483648 ≤ k ∧ k < 2147483648) : Sd (rm 0 0 0 0) mX5_has [.ref 24, J k] (cls I N F ++ T) (cls I N F ++ T) (some (J (if 0 ≤ k ∧ k < N 10 then 1 else 0))) := tt_has (b := 24) rfl (by omega) hk
theorem c10_keep (hn : 0 ≤ N 10 ∧ N 10 ≤ 40) {k : Int} (hk : 0 ≤ k ∧ k ≤ N 10) : Sd (rm 0 0 0 0) mX5_keep [.ref 24, J k] (cls I N F ++ T) (cls I (uN N 10 k) F ++ T) none := tt_keep (b := 24) rfl (by omega) hk
theorem c10_add (hn : 0 ≤ N 10 ∧ N 10 < 40) {v : Int} : Sd (rm 0 0 0 0) mX5_add [.ref 24, J v] (cls I N F ++ T) (cls I (uN N 10 (N 10 + 1)) (uN F 10 (uI (F 10) (N 10) v)) ++ T) (some (J (N 10))) := by
  rw [← adf_1]
  exact tt_add (b := 24) (a := 25) (L := 40) rfl rfl (by omega) (by decide) (by decide)
theorem c10_get (hn : 0 ≤ N 10 ∧ N 10 ≤ 40) {r : Int} (hr : 0 ≤ r ∧ r < N 10) : Sd (rm 0 0 0 0) mX5_get [.ref 24, J r, J 0] (cls I N F ++ T) (cls I N F ++ T) (some (J (F 10 r))) := by
  have h := tt_get (w := (cls I N F ++ T)) (b := 24) (a := 25) (L := 40) (f := F 10) (c := 0) rfl rfl (by omega) (by decide) hr (by decide)
  rw [Int.mul_one, Int.add_zero] at h
  exact h
theorem c10_set (hn : 0 ≤ N 10 ∧ N 10 ≤ 40) {r v : Int} (hr : 0 ≤ r ∧ r < N 10) : Sd (rm 0 0 0 0) mX5_set [.ref 24, J r, J 0, J v] (cls I N F ++ T) (cls I N (uN F 10 (uI (F 10) r v)) ++ T) none := by
  have h := tt_set (w := (cls I N F ++ T)) (b := 24) (a := 25) (L := 40) (f := F 10) (c := 0) (v := v) rfl rfl (by omega) (by decide) hr (by decide)
  rw [Int.mul_one, Int.add_zero] at h
  exact h
theorem c11_size : Sd (rm 0 0 0 0) mX5_size [.ref 26] (cls I N F ++ T) (cls I N F ++ T) (some (J (N 11))) := tt_size (b := 26) rfl
theorem c11_full (hn : 0 ≤ N 11 ∧ N 11 ≤ 40) : Sd (rm 0 0 0 0) mX5_isFull [.ref 26] (cls I N F ++ T) (cls I N F ++ T) (some (J (if 40 ≤ N 11 then 1 else 0))) := tt_full (b := 26) rfl (by omega)
theorem c11_has (hn : 0 ≤ N 11 ∧ N 11 ≤ 40) {k : Int} (hk : -2147483648 ≤ k ∧ k < 2147483648) : Sd (rm 0 0 0 0) mX5_has [.ref 26, J k] (cls I N F ++ T) (cls I N F ++ T) (some (J (if 0 ≤ k ∧ k < N 11 then 1 else 0))) := tt_has (b := 26) rfl (by omega) hk
theorem c11_keep (hn : 0 ≤ N 11 ∧ N 11 ≤ 40) {k : Int} (hk : 0 ≤ k ∧ k ≤ N 11) : Sd (rm 0 0 0 0) mX5_keep [.ref 26, J k] (cls I N F ++ T) (cls I (uN N 11 k) F ++ T) none := tt_keep (b := 26) rfl (by omega) hk
theorem c11_add (hn : 0 ≤ N 11 ∧ N 11 < 40) {v : Int} : Sd (rm 0 0 0 0) mX5_add [.ref 26, J v] (cls I N F ++ T) (cls I (uN N 11 (N 11 + 1)) (uN F 11 (uI (F 11) (N 11) v)) ++ T) (some (J (N 11))) := by
  rw [← adf_1]
  exact tt_add (b := 26) (a := 27) (L := 40) rfl rfl (by omega) (by decide) (by decide)
theorem c11_get (hn : 0 ≤ N 11 ∧ N 11 ≤ 40) {r : Int} (hr : 0 ≤ r ∧ r < N 11) : Sd (rm 0 0 0 0) mX5_get [.ref 26, J r, J 0] (cls I N F ++ T) (cls I N F ++ T) (some (J (F 11 r))) := by
  have h := tt_get (w := (cls I N F ++ T)) (b := 26) (a := 27) (L := 40) (f := F 11) (c := 0) rfl rfl (by omega) (by decide) hr (by decide)
  rw [Int.mul_one, Int.add_zero] at h
  exact h
theorem c11_set (hn : 0 ≤ N 11 ∧ N 11 ≤ 40) {r v : Int} (hr : 0 ≤ r ∧ r < N 11) : Sd (rm 0 0 0 0) mX5_set [.ref 26, J r, J 0, J v] (cls I N F ++ T) (cls I N (uN F 11 (uI (F 11) r v)) ++ T) none := by
  have h := tt_set (w := (cls I N F ++ T)) (b := 26) (a := 27) (L := 40) (f := F 11) (c := 0) (v := v) rfl rfl (by omega) (by decide) hr (by decide)
  rw [Int.mul_one, Int.add_zero] at h
  exact h
theorem c12_size : Sd (rm 0 0 0 0) mX5_size [.ref 29] (cls I N F ++ T) (cls I N F ++ T) (some (J (N 12))) := tt_size (b := 29) rfl
theorem c12_full (hn : 0 ≤ N 12 ∧ N 12 ≤ 41) : Sd (rm 0 0 0 0) mX5_isFull [.ref 29] (cls I N F ++ T) (cls I N F ++ T) (some (J (if 41 ≤ N 12 then 1 else 0))) := tt_full (b := 29) rfl (by omega)
theorem c12_has (hn : 0 ≤ N 12 ∧ N 12 ≤ 41) {k : Int} (hk : -2147483648 ≤ k ∧ k < 2147483648) : Sd (rm 0 0 0 0) mX5_has [.ref 29, J k] (cls I N F ++ T) (cls I N F ++ T) (some (J (if 0 ≤ k ∧ k < N 12 then 1 else 0))) := tt_has (b := 29) rfl (by omega) hk
theorem c12_keep (hn : 0 ≤ N 12 ∧ N 12 ≤ 41) {k : Int} (hk : 0 ≤ k ∧ k ≤ N 12) : Sd (rm 0 0 0 0) mX5_keep [.ref 29, J k] (cls I N F ++ T) (cls I (uN N 12 k) F ++ T) none := tt_keep (b := 29) rfl (by omega) hk
theorem c12_add (hn : 0 ≤ N 12 ∧ N 12 < 41) {v : Int} : Sd (rm 0 0 0 0) mX5_add [.ref 29, J v] (cls I N F ++ T) (cls I (uN N 12 (N 12 + 1)) (uN F 12 (adf (F 12) 2 (N 12) v)) ++ T) (some (J (N 12))) := tt_add (b := 29) (a := 30) (L := 82) rfl rfl (by omega) (by decide) (by decide)
theorem c12_get (hn : 0 ≤ N 12 ∧ N 12 ≤ 41) {r c : Int} (hr : 0 ≤ r ∧ r < N 12) (hc : 0 ≤ c ∧ c < 2) : Sd (rm 0 0 0 0) mX5_get [.ref 29, J r, J c] (cls I N F ++ T) (cls I N F ++ T) (some (J (F 12 (r * 2 + c)))) := tt_get (b := 29) (a := 30) (L := 82) rfl rfl (by omega) (by decide) hr hc
theorem c12_set (hn : 0 ≤ N 12 ∧ N 12 ≤ 41) {r c v : Int} (hr : 0 ≤ r ∧ r < N 12) (hc : 0 ≤ c ∧ c < 2) : Sd (rm 0 0 0 0) mX5_set [.ref 29, J r, J c, J v] (cls I N F ++ T) (cls I N (uN F 12 (uI (F 12) (r * 2 + c) v)) ++ T) none := tt_set (b := 29) (a := 30) (L := 82) rfl rfl (by omega) (by decide) hr hc
theorem c12_ask (hn : 0 ≤ N 12 ∧ N 12 ≤ 41) {r c q : Int} (hr : -2147483648 ≤ r ∧ r < 2147483648) (hc : -2147483648 ≤ c ∧ c < 2147483648) (hq : 0 ≤ q ∧ q ≤ 2) : Sd (rm 1 23 0 0) mX5_ask [.ref 29, J r, J c, J q] (cls I N F ++ T) (cls I N F ++ T) (some (J (if 0 ≤ r ∧ r < N 12 then (if 0 ≤ c ∧ c < q then F 12 (r * 2 + c) else -102) else -101))) := tt_ask (b := 29) (a := 30) (L := 82) rfl rfl (by omega) (by decide) hr hc hq
end Tabs
