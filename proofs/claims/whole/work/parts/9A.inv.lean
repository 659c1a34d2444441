noncomputable section
theorem kk_0 {row : List Int} (hl : row.length = 192) {nx : Int} (hn : 0 ≤ nx ∧ nx < 16) (d b s : F4) : (k12 row nx d b s).getD (12 * nx).toNat 0 = d.1 := by
  unfold k12
  rw [gd_ne (by omega), gd_ne (by omega), gd_ne (by omega), gd_ne (by omega), gd_ne (by omega), gd_ne (by omega), gd_ne (by omega), gd_ne (by omega), gd_ne (by omega), gd_ne (by omega), gd_ne (by omega), gd_self (by first | (simp only [List.length_set]; omega) | omega)]
theorem kk_1 {row : List Int} (hl : row.length = 192) {nx : Int} (hn : 0 ≤ nx ∧ nx < 16) (d b s : F4) : (k12 row nx d b s).getD (12 * nx + 1).toNat 0 = d.2.1 := by
  unfold k12
  rw [gd_ne (by omega), gd_ne (by omega), gd_ne (by omega), gd_ne (by omega), gd_ne (by omega), gd_ne (by omega), gd_ne (by omega), gd_ne (by omega), gd_ne (by omega), gd_ne (by omega), gd_self (by first | (simp only [List.length_set]; omega) | omega)]
theorem kk_2 {row : List Int} (hl : row.length = 192) {nx : Int} (hn : 0 ≤ nx ∧ nx < 16) (d b s : F4) : (k12 row nx d b s).getD (12 * nx + 2).toNat 0 = d.2.2.1 := by
  unfold k12
  rw [gd_ne (by omega), gd_ne (by omega), gd_ne (by omega), gd_ne (by omega), gd_ne (by omega), gd_ne (by omega), gd_ne (by omega), gd_ne (by omega), gd_ne (by omega), gd_self (by first | (simp only [List.length_set]; omega) | omega)]
theorem kk_3 {row : List Int} (hl : row.length = 192) {nx : Int} (hn : 0 ≤ nx ∧ nx < 16) (d b s : F4) : (k12 row nx d b s).getD (12 * nx + 3).toNat 0 = d.2.2.2 := by
  unfold k12
  rw [gd_ne (by omega), gd_ne (by omega), gd_ne (by omega), gd_ne (by omega), gd_ne (by omega), gd_ne (by omega), gd_ne (by omega), gd_ne (by omega), gd_self (by first | (simp only [List.length_set]; omega) | omega)]
theorem kk_4 {row : List Int} (hl : row.length = 192) {nx : Int} (hn : 0 ≤ nx ∧ nx < 16) (d b s : F4) : (k12 row nx d b s).getD (12 * nx + 4).toNat 0 = b.1 := by
  unfold k12
  rw [gd_ne (by omega), gd_ne (by omega), gd_ne (by omega), gd_ne (by omega), gd_ne (by omega), gd_ne (by omega), gd_ne (by omega), gd_self (by first | (simp only [List.length_set]; omega) | omega)]
theorem kk_5 {row : List Int} (hl : row.length = 192) {nx : Int} (hn : 0 ≤ nx ∧ nx < 16) (d b s : F4) : (k12 row nx d b s).getD (12 * nx + 5).toNat 0 = b.2.1 := by
  unfold k12
  rw [gd_ne (by omega), gd_ne (by omega), gd_ne (by omega), gd_ne (by omega), gd_ne (by omega), gd_ne (by omega), gd_self (by first | (simp only [List.length_set]; omega) | omega)]
theorem kk_6 {row : List Int} (hl : row.length = 192) {nx : Int} (hn : 0 ≤ nx ∧ nx < 16) (d b s : F4) : (k12 row nx d b s).getD (12 * nx + 6).toNat 0 = b.2.2.1 := by
  unfold k12
  rw [gd_ne (by omega), gd_ne (by omega), gd_ne (by omega), gd_ne (by omega), gd_ne (by omega), gd_self (by first | (simp only [List.length_set]; omega) | omega)]
theorem kk_7 {row : List Int} (hl : row.length = 192) {nx : Int} (hn : 0 ≤ nx ∧ nx < 16) (d b s : F4) : (k12 row nx d b s).getD (12 * nx + 7).toNat 0 = b.2.2.2 := by
  unfold k12
  rw [gd_ne (by omega), gd_ne (by omega), gd_ne (by omega), gd_ne (by omega), gd_self (by first | (simp only [List.length_set]; omega) | omega)]
theorem kk_8 {row : List Int} (hl : row.length = 192) {nx : Int} (hn : 0 ≤ nx ∧ nx < 16) (d b s : F4) : (k12 row nx d b s).getD (12 * nx + 8).toNat 0 = s.1 := by
  unfold k12
  rw [gd_ne (by omega), gd_ne (by omega), gd_ne (by omega), gd_self (by first | (simp only [List.length_set]; omega) | omega)]
theorem kk_9 {row : List Int} (hl : row.length = 192) {nx : Int} (hn : 0 ≤ nx ∧ nx < 16) (d b s : F4) : (k12 row nx d b s).getD (12 * nx + 9).toNat 0 = s.2.1 := by
  unfold k12
  rw [gd_ne (by omega), gd_ne (by omega), gd_self (by first | (simp only [List.length_set]; omega) | omega)]
theorem kk_10 {row : List Int} (hl : row.length = 192) {nx : Int} (hn : 0 ≤ nx ∧ nx < 16) (d b s : F4) : (k12 row nx d b s).getD (12 * nx + 10).toNat 0 = s.2.2.1 := by
  unfold k12
  rw [gd_ne (by omega), gd_self (by first | (simp only [List.length_set]; omega) | omega)]
theorem kk_11 {row : List Int} (hl : row.length = 192) {nx : Int} (hn : 0 ≤ nx ∧ nx < 16) (d b s : F4) : (k12 row nx d b s).getD (12 * nx + 11).toNat 0 = s.2.2.2 := by
  unfold k12
  rw [gd_self (by first | (simp only [List.length_set]; omega) | omega)]
theorem kk_n {row : List Int} {nx : Int} (d b s : F4) {m : Nat} (h : ∀ i : Int, 0 ≤ i → i < 12 → (12 * nx + i).toNat ≠ m) (hn : 0 ≤ nx) : (k12 row nx d b s).getD m 0 = row.getD m 0 := by
  have h0 := h 0 (by omega) (by omega)
  rw [Int.add_zero] at h0
  unfold k12
  rw [gd_ne (h 11 (by omega) (by omega)), gd_ne (h 10 (by omega) (by omega)), gd_ne (h 9 (by omega) (by omega)), gd_ne (h 8 (by omega) (by omega)), gd_ne (h 7 (by omega) (by omega)), gd_ne (h 6 (by omega) (by omega)), gd_ne (h 5 (by omega) (by omega)), gd_ne (h 4 (by omega) (by omega)), gd_ne (h 3 (by omega) (by omega)), gd_ne (h 2 (by omega) (by omega)), gd_ne (h 1 (by omega) (by omega)), gd_ne h0]
theorem r12_self {row : List Int} (hl : row.length = 192) {nx : Int} (hn : 0 ≤ nx ∧ nx < 16) (d b s : F4) : r12 (k12 row nx d b s) nx = nw d b s := by
  unfold r12
  rw [kk_0 hl hn, kk_1 hl hn, kk_2 hl hn, kk_3 hl hn, kk_4 hl hn, kk_5 hl hn, kk_6 hl hn, kk_7 hl hn, kk_8 hl hn, kk_9 hl hn, kk_10 hl hn, kk_11 hl hn]
theorem r12_ne {row : List Int} {nx j : Int} (hn : 0 ≤ nx ∧ nx < 16) (hj : 0 ≤ j ∧ j < 16) (hne : ¬ j = nx) (d b s : F4) : r12 (k12 row nx d b s) j = r12 row j := by
  unfold r12
  rw [kk_n (m := (12 * j).toNat) d b s (fun i a c => by omega) hn.1, kk_n (m := (12 * j + 1).toNat) d b s (fun i a c => by omega) hn.1, kk_n (m := (12 * j + 2).toNat) d b s (fun i a c => by omega) hn.1, kk_n (m := (12 * j + 3).toNat) d b s (fun i a c => by omega) hn.1, kk_n (m := (12 * j + 4).toNat) d b s (fun i a c => by omega) hn.1, kk_n (m := (12 * j + 5).toNat) d b s (fun i a c => by omega) hn.1, kk_n (m := (12 * j + 6).toNat) d b s (fun i a c => by omega) hn.1, kk_n (m := (12 * j + 7).toNat) d b s (fun i a c => by omega) hn.1, kk_n (m := (12 * j + 8).toNat) d b s (fun i a c => by omega) hn.1, kk_n (m := (12 * j + 9).toNat) d b s (fun i a c => by omega) hn.1, kk_n (m := (12 * j + 10).toNat) d b s (fun i a c => by omega) hn.1, kk_n (m := (12 * j + 11).toNat) d b s (fun i a c => by omega) hn.1]
theorem k12_len {row : List Int} {nx : Int} {d b s : F4} : (k12 row nx d b s).length = row.length := by
  unfold k12
  simp only [List.length_set]
abbrev Q3 : Type := F4 × F4 × F4
/-- a sheet that lies still -/
def VH (st : Int) (g : F4) (q : Q3) : Prop := SR st g q.2.2 q.1 q.2.1 ∧ fs st g q.2.2 q.1 q.2.1 = -9
/-- the acts that are remembered, on both sides -/
def Hist (st : Int) (g : F4) (fa ac nx : Int) (ld lb lq row : List Int) : Prop := ∀ j : Int, 0 ≤ j → j < ac → ∃ q : Q3, VH st g q ∧ ld.getD ((fa + j) % 16).toNat 0 = fg q.1 ∧ lb.getD ((fa + j) % 16).toNat 0 = fg q.2.1 ∧ lq.getD ((fa + j) % 16).toNat 0 = fg q.2.2 ∧ r12 row ((nx + 16 - ac + j) % 16) = nw q.1 q.2.1 q.2.2
theorem Hist.up {st : Int} {g : F4} {fa ac nx : Int} {ld lb lq row : List Int} (h : Hist st g fa ac nx ld lb lq row) (hf : 0 ≤ fa ∧ fa < 16) (ha : 0 ≤ ac ∧ ac ≤ 16) (hn : 0 ≤ nx ∧ nx < 16) (l1 : ld.length = 16) (l2 : lb.length = 16) (l3 : lq.length = 16) (l4 : row.length = 192) {d b s : F4} (hq : VH st g (d, b, s)) : Hist st g (rmf fa ac) (rma ac + 1) ((nx + 1) % 16) (ld.set (rmi fa ac).toNat (fg d)) (lb.set (rmi fa ac).toNat (fg b)) (lq.set (rmi fa ac).toNat (fg s)) (k12 row nx d b s) := by
  intro j j0 j1
  have hrm : (ac < 16 ∧ rmf fa ac = fa ∧ rma ac = ac ∧ rmi fa ac = (fa + ac) % 16) ∨ (ac = 16 ∧ rmf fa ac = (fa + 1) % 16 ∧ rma ac = 15 ∧ rmi fa ac = ((fa + 1) % 16 + 15) % 16) := by
    unfold rmi rmf rma
    by_cases e : 16 ≤ ac
    · right
      rw [if_pos e, if_pos e]
      exact ⟨by omega, rfl, rfl, rfl⟩
    · left
      rw [if_neg e, if_neg e]
      exact ⟨by omega, rfl, rfl, rfl⟩
  rcases hrm with ⟨e0, e1, e2, e3⟩ | ⟨e0, e1, e2, e3⟩
  · rw [e2] at j1
    rw [e1, e2, e3]
    by_cases hj : j = ac
    · subst hj
      refine ⟨(d, b, s), hq, ?_, ?_, ?_, ?_⟩
      · exact gd_self (by omega)
      · exact gd_self (by omega)
      · exact gd_self (by omega)
      · rw [show ((nx + 1) % 16 + 16 - (j + 1) + j) % 16 = nx by omega]
        exact r12_self l4 hn d b s
    · obtain ⟨q, h1, h2, h3, h4, h5⟩ := h j j0 (by omega)
      refine ⟨q, h1, ?_, ?_, ?_, ?_⟩
      · rw [gd_ne (by omega)]; exact h2
      · rw [gd_ne (by omega)]; exact h3
      · rw [gd_ne (by omega)]; exact h4
      · rw [show ((nx + 1) % 16 + 16 - (ac + 1) + j) % 16 = (nx + 16 - ac + j) % 16 by omega, r12_ne hn (by omega) (by omega)]
        exact h5
  · subst e0
    rw [e2] at j1
    rw [e1, e2, e3]
    by_cases hj : j = 15
    · subst hj
      refine ⟨(d, b, s), hq, ?_, ?_, ?_, ?_⟩
      · exact gd_self (by omega)
      · exact gd_self (by omega)
      · exact gd_self (by omega)
      · rw [show ((nx + 1) % 16 + 16 - (15 + 1) + 15) % 16 = nx by omega]
        exact r12_self l4 hn d b s
    · obtain ⟨q, h1, h2, h3, h4, h5⟩ := h (j + 1) (by omega) (by omega)
      refine ⟨q, h1, ?_, ?_, ?_, ?_⟩
      · rw [gd_ne (by omega), show ((fa + 1) % 16 + j) % 16 = (fa + (j + 1)) % 16 by omega]; exact h2
      · rw [gd_ne (by omega), show ((fa + 1) % 16 + j) % 16 = (fa + (j + 1)) % 16 by omega]; exact h3
      · rw [gd_ne (by omega), show ((fa + 1) % 16 + j) % 16 = (fa + (j + 1)) % 16 by omega]; exact h4
      · rw [show ((nx + 1) % 16 + 16 - (15 + 1) + j) % 16 = (nx + 16 - 16 + (j + 1)) % 16 by omega, r12_ne hn (by omega) (by omega)]
        exact h5
theorem rma_eq (ac : Int) (h : ac ≤ 16) : (if ac < 16 then ac + 1 else 16) = rma ac + 1 := by
  unfold rma
  by_cases e : ac < 16
  · rw [if_pos e, if_neg (by omega)]
  · rw [if_neg e, if_pos (by omega)]
    rfl
theorem rm_rng {fa ac : Int} (hf : 0 ≤ fa ∧ fa < 16) (ha : 0 ≤ ac ∧ ac ≤ 16) : (0 ≤ rmf fa ac ∧ rmf fa ac < 16) ∧ (0 ≤ rma ac + 1 ∧ rma ac + 1 ≤ 16) := by
  unfold rmf rma
  by_cases e : 16 ≤ ac
  · rw [if_pos e, if_pos e]; omega
  · rw [if_neg e, if_neg e]; omega
/-- a slot on both sides -/
def Slt (st : Int) (g : F4) (f x y z : Int) (k : Q3) : Prop := (f = 0 ∨ f = 1) ∧ (f = 1 → VH st g k ∧ x = fg k.1 ∧ y = fg k.2.1 ∧ z = fg k.2.2)
def A5 (len fa ac : Int) (sr : AV) (sd : Int64) (txt : List Int) (st : Int) (g s d b : F4) (X : Int × F4 × F4 × F4 × F4) (lk : Int) (lc lt : F3) (ld lb lq : List Int) (x y z f : Int × Int) (v : F4) : List AC := [co len fa ac sr sd, aI txt, aO 4 [vI st, vR 3, vR 4, vR 5, vR 6], aI (l4 g), aI (l4 s), aI (l4 d), aI (l4 b), aO 4 [vI X.1, vR 8, vR 9, vR 10, vR 11], aI (l4 X.2.1), aI (l4 X.2.2.1), aI (l4 X.2.2.2.1), aI (l4 X.2.2.2.2), aO 0 [vI lk, vR 13, vR 14], aI (l3 lc), aI (l3 lt), aO 1 [vR 16, vR 17, vR 18], aI ld, aI lb, aI lq, aO 1 [vR 20, vR 21, vR 22], aI [x.1, x.2], aI [y.1, y.2], aI [z.1, z.2], aB [f.1, f.2], aO 2 [vR 25], aI (l4 v)]
def A6 (st lk len ac nx rf lr en lm : Int) (sd : Int64) (g d b s : F4) (lc lt : F3) (txt : List Int) (Y : Q3) (row F B P L : List Int) (w : F4) (f : Int × Int) (k0 k1 : Q3) : List AC := [mo st lk len ac nx rf lr en lm sd, aI (l4 g), aI (nw d b s), aI (l3 lc), aI (l3 lt), aI txt, aI (l4 Y.1), aI (l4 Y.2.1), aI (l4 Y.2.2), aI row, aI F, aI B, aI P, aI L, aI (l4 w), aB [f.1, f.2], aI (nw2 k0.1 k0.2.1 k0.2.2 k1.1 k1.2.1 k1.2.2)]
/-- the search's cells, if it was made; the cells and slots made so far -/
def Tl (sr : AV) (tl : List AC) (c n : Nat) : Prop := (sr = vN ∧ tl = [] ∧ c = 43 ∧ n = 10065) ∨ (∃ (sz gl : Int) (Q T P : List Int), sr = vR 43 ∧ tl = [se sz gl, aI Q, aI T, aI P] ∧ (Q.length = 2401 ∧ T.length = 2401 ∧ P.length = 2401) ∧ c = 47 ∧ n = 17274)
def Gd (len fa ac : Int) (txt : List Int) (st : Int) (g s d b : F4) (lk : Int) (lc lt : F3) (ld lb lq : List Int) (x y z f : Int × Int) (nx : Int) (row F B P L : List Int) (k0 k1 : Q3) : Prop := ((0 ≤ len ∧ len ≤ 24) ∧ txt.length = 24 ∧ (∀ i : Nat, 0 ≤ txt.getD i 0 ∧ txt.getD i 0 < 256)) ∧ (SR st g s d b ∧ fs st g s d b = -9) ∧ ((0 ≤ lk ∧ lk ≤ 3) ∧ i3 0 3 lc ∧ i3 0 9 lt) ∧ ((0 ≤ fa ∧ fa < 16) ∧ (0 ≤ ac ∧ ac ≤ 16) ∧ (0 ≤ nx ∧ nx < 16) ∧ ld.length = 16 ∧ lb.length = 16 ∧ lq.length = 16 ∧ row.length = 192 ∧ Hist st g fa ac nx ld lb lq row) ∧ (Slt st g f.1 x.1 y.1 z.1 k0 ∧ Slt st g f.2 x.2 y.2 z.2 k1) ∧ (F.length = 2401 ∧ B.length = 2401 ∧ P.length = 2401 ∧ L.length = 2401)
def Inv (M : List AC) (c n : Nat) : Prop := ∃ (len fa ac : Int) (sr : AV) (sd : Int64) (txt : List Int) (st : Int) (g s d b : F4) (X : Int × F4 × F4 × F4 × F4) (lk : Int) (lc lt : F3) (ld lb lq : List Int) (x y z f : Int × Int) (v : F4) (nx rf lr en lm : Int) (Y : Q3) (row F B P L : List Int) (w : F4) (k0 k1 : Q3) (tl : List AC), M = A5 len fa ac sr sd txt st g s d b X lk lc lt ld lb lq x y z f v ++ (A6 st lk len ac nx rf lr en lm sd g d b s lc lt txt Y row F B P L w f k0 k1 ++ tl) ∧ Tl sr tl c n ∧ Gd len fa ac txt st g s d b lk lc lt ld lb lq x y z f nx row F B P L k0 k1
def Sp0 (f5 f6 : Fn) (av : List AV) : Prop := ∀ (M : List AC) (c n : Nat), Inv M c n → ∃ (z5 z6 : Int) (M1 M2 : List AC), f5 (vR 0 :: av) M = some (some (vI z5), M1) ∧ f6 (vR 26 :: av) M1 = some (some (vI z6), M2) ∧ wr z5 = wr z6 ∧ (∃ fs5, M[0]? = some (aO 5 fs5)) ∧ (∃ fs6, M1[26]? = some (aO 6 fs6)) ∧ Inv M2 c n
def SpA (f5 : FnA) (f6 : Fn) (av : List AV) : Prop := ∀ (M : List AC) (c n : Nat), Inv M c n → ∃ (z5 z6 : Int) (M1 M2 : List AC) (dc ds : Nat), f5 (vR 0 :: av) M = some (some (vI z5), M1, dc, ds) ∧ f6 (vR 26 :: av) M1 = some (some (vI z6), M2) ∧ wr z5 = wr z6 ∧ (∃ fs5, M[0]? = some (aO 5 fs5)) ∧ (∃ fs6, M1[26]? = some (aO 6 fs6)) ∧ 26 < M.length ∧ Inv M2 (c + dc) (n + ds)
end
