noncomputable section
/-! the reference: its object stands at 26 -/
theorem jt (x : Int) : (Int32.ofInt x).toInt64.toInt = wr x := by rw [Int32.toInt_toInt64, wr_eq]
theorem jt_0 : (0 : Int64).toInt = 0 := by decide
theorem jt_1 : (1 : Int64).toInt = 1 := by decide
theorem jt_2 : (2 : Int64).toInt = 2 := by decide
theorem jt_3 : (3 : Int64).toInt = 3 := by decide
theorem jt_4 : (4 : Int64).toInt = 4 := by decide
theorem jt_5 : (5 : Int64).toInt = 5 := by decide
theorem jt_6 : (6 : Int64).toInt = 6 := by decide
theorem jt_8 : (8 : Int64).toInt = 8 := by decide
theorem jt_12 : (12 : Int64).toInt = 12 := by decide
theorem jt_30 : (30 : Int64).toInt = 30 := by decide
theorem jt_48 : (48 : Int64).toInt = 48 := by decide
theorem jt_49 : (49 : Int64).toInt = 49 := by decide
theorem jt_51 : (51 : Int64).toInt = 51 := by decide
theorem jt_57 : (57 : Int64).toInt = 57 := by decide
theorem jt_255 : (255 : Int64).toInt = 255 := by decide
theorem jt_9999 : (9999 : Int64).toInt = 9999 := by decide
abbrev mi_X6_in : Mi := (yX6_in, cX6_in, 6, some .boolean, 1)
theorem mf_X6_in : am_mf mi_X6_in 3 := ⟨w_co_X6_in, w_in_X6, ⟨by decide +kernel, by decide +kernel⟩, by decide +kernel, by decide⟩
def tb_X6_in : List (Nat × Tr) := [(0, tLld 0 1), (1, tLld 2 1), (2, tLcmp), (3, tIflt 17), (6, tLld 0 1), (7, tLld 4 2), (9, tLcmp), (10, tIfgt 17), (13, tIc 1 1), (14, tGo 18), (17, tIc 0 1)]
theorem ok_X6_in : Tok mi_X6_in tb_X6_in :=
  Tc (sd_lload_n dX6_in_0) <|
  Tc (sd_lload_n dX6_in_1) <|
  Tc (sd_lcmp dX6_in_2) <|
  Tc (sd_if_lt (by decide) dX6_in_3) <|
  Tc (sd_lload_n dX6_in_6) <|
  Tc (sd_lload dX6_in_7) <|
  Tc (sd_lcmp dX6_in_9) <|
  Tc (sd_if_gt (by decide) dX6_in_10) <|
  Tc (sd_iconst rfl dX6_in_13) <|
  Tc (sd_goto (by decide) dX6_in_14) <|
  Tc (sd_iconst rfl dX6_in_17) <|
  Tn
theorem rk_X6_in : Rok mi_X6_in rZ [18] := rk_z dX6_in_18 <| rk_n
def rx_X6_in : Nat → Nat → AL → List AV → List AC → Option (Option AV × List AC) := am_r tb_X6_in rZ [18]
theorem rs_X6_in_0 (n : Nat) (L : AL) (st : List AV) (M : List AC) : rx_X6_in (n + 1) 0 L st M = am_j (rx_X6_in n) ((tLld 0 1) 0 L st M) := rfl
theorem rs_X6_in_1 (n : Nat) (L : AL) (st : List AV) (M : List AC) : rx_X6_in (n + 1) 1 L st M = am_j (rx_X6_in n) ((tLld 2 1) 1 L st M) := rfl
theorem rs_X6_in_2 (n : Nat) (L : AL) (st : List AV) (M : List AC) : rx_X6_in (n + 1) 2 L st M = am_j (rx_X6_in n) (tLcmp 2 L st M) := rfl
theorem rs_X6_in_3 (n : Nat) (L : AL) (st : List AV) (M : List AC) : rx_X6_in (n + 1) 3 L st M = am_j (rx_X6_in n) ((tIflt 17) 3 L st M) := rfl
theorem rs_X6_in_6 (n : Nat) (L : AL) (st : List AV) (M : List AC) : rx_X6_in (n + 1) 6 L st M = am_j (rx_X6_in n) ((tLld 0 1) 6 L st M) := rfl
theorem rs_X6_in_7 (n : Nat) (L : AL) (st : List AV) (M : List AC) : rx_X6_in (n + 1) 7 L st M = am_j (rx_X6_in n) ((tLld 4 2) 7 L st M) := rfl
theorem rs_X6_in_9 (n : Nat) (L : AL) (st : List AV) (M : List AC) : rx_X6_in (n + 1) 9 L st M = am_j (rx_X6_in n) (tLcmp 9 L st M) := rfl
theorem rs_X6_in_10 (n : Nat) (L : AL) (st : List AV) (M : List AC) : rx_X6_in (n + 1) 10 L st M = am_j (rx_X6_in n) ((tIfgt 17) 10 L st M) := rfl
theorem rs_X6_in_13 (n : Nat) (L : AL) (st : List AV) (M : List AC) : rx_X6_in (n + 1) 13 L st M = am_j (rx_X6_in n) ((tIc 1 1) 13 L st M) := rfl
theorem rs_X6_in_14 (n : Nat) (L : AL) (st : List AV) (M : List AC) : rx_X6_in (n + 1) 14 L st M = am_j (rx_X6_in n) ((tGo 18) 14 L st M) := rfl
theorem rs_X6_in_17 (n : Nat) (L : AL) (st : List AV) (M : List AC) : rx_X6_in (n + 1) 17 L st M = am_j (rx_X6_in n) ((tIc 0 1) 17 L st M) := rfl
theorem rs_X6_in_18 (n : Nat) (L : AL) (st : List AV) (M : List AC) : rx_X6_in (n + 1) 18 L st M = am_e rZ st M := rfl
theorem ri_X6_in (c : Prop) [Decidable c] (p q n : Nat) (L : AL) (st : List AV) (M : List AC) : rx_X6_in n (if c then p else q) L st M = if c then rx_X6_in n p L st M else rx_X6_in n q L st M := by split <;> rfl
theorem rm_X6_in {n k pc : Nat} {L : AL} {st : List AV} {M : List AC} {x : Option AV × List AC} (h : rx_X6_in n pc L st M = some x) (hk : n ≤ k) : rx_X6_in k pc L st M = some x := am_r_mono n k h hk
def fn_X6_in : Fn := am_fn rx_X6_in 6
theorem fok_X6_in : Fok mi_X6_in fn_X6_in := fun _ _ _ _ h => am_fok ok_X6_in rk_X6_in rfl h
theorem sp_X6_in (v a b : Int64) (M : List AC) : fn_X6_in [vJ v, vJ a, vJ b] M = some (some (vI (if a.toInt ≤ v.toInt ∧ v.toInt ≤ b.toInt then 1 else 0)), M) := by
  have q1 : ∀ x y : Int64, x < y ↔ x.toInt < y.toInt := fun x y => Int64.lt_iff_toInt_lt
  have q2 : ∀ x y : Int64, x = y ↔ x.toInt = y.toInt := fun x y => Int64.toInt_inj.symm
  (refine am_fnI (tb := tb_X6_in) (n := 20) (Nat.le_of_ble_eq_true rfl) (Nat.le_of_ble_eq_true rfl) ?_; show rx_X6_in 20 0 _ _ _ = _)
  simp [↓ri_X6_in, rs_X6_in_0, rs_X6_in_1, rs_X6_in_2, rs_X6_in_3, rs_X6_in_6, rs_X6_in_7, rs_X6_in_9, rs_X6_in_10, rs_X6_in_13, rs_X6_in_14, rs_X6_in_17, rs_X6_in_18, -List.getElem?_eq_getElem, am_js, am_e, am_in, am_sl, rI, rZ, rV, rJ, rA, rC, kI, kJ, kR, am_one, am_nl, am_w8, tIc, tLc, tNul, tIld, tLld, tAld, tIst, tLst, tAst, tIinc, tI2, tDv, tL2, tLrem, tLs, tLcmp, tI2l, tL2i, tI2c, tDup, tDup2, tPop, tGo, tIfeq, tIfne, tIflt, tIfge, tIfgt, tIfle, tCmeq, tCmne, tCmlt, tCmge, tCmgt, tCmle, tNu, tTs, tGf, tPf, tGs, tIal, tIas, tBal, tBas, tAln, tSv, tSc, tSb, tSl, tSk, tCv, tCs, tCt, tMx, tMn, wr_10000, wr_100000, wr_1000000, wr_10000000, wr_100000000, wr_2400, wr_9999, wr_0, wr_1, wr_2, wr_3, wr_4, wr_5, wr_6, wr_7, wr_8, wr_9, wr_10, wr_11, wr_12, wr_13, wr_14, wr_15, wr_16, wr_17, wr_18, wr_19, wr_20, wr_21, wr_22, wr_23, wr_24, wr_25, wr_26, wr_27, wr_28, wr_29, wr_30, wr_31, wr_32, wr_33, wr_34, wr_35, wr_36, wr_37, wr_38, wr_39, wr_40, wr_41, wr_42, wr_43, wr_44, wr_45, wr_46, wr_47, wr_48, wr_49, wr_50, wr_51, wr_52, wr_53, wr_54, wr_55, wr_56, wr_57, wr_58, wr_59, wr_60, wr_61, wr_62, wr_63, wr_99, wr_100, wr_192, wr_255, wr_256, wr_343, wr_999, wr_1000, wr_2401, wr_2147483647, wr_65535, wr_m1, wr_m2, wr_m3, wr_m4, wr_m9, ak_1000, ak_1001, ak_1002, ak_0, ak_1, ak_2, ak_3, ak_4, ak_5, ak_6, ak_7, ak_8, ak_9, ak_10, ak_11, ak_12, ak_13, ak_14, ak_15, ak_16, ak_17, ak_18, ak_19, ak_20, ak_21, ak_22, ak_23, ak_24, ak_25, ak_26, ak_27, ak_28, ak_29, ak_30, ak_31, ak_32, ak_33, ak_34, ak_35, ak_36, ak_37, ak_38, ak_39, ak_40, ak_41, ak_42, ak_43, ak_44, ak_45, ak_46, ak_47]
  simp only [q1, q2]
  generalize v.toInt = v', a.toInt = a', b.toInt = b'
  have z0 := wr_0
  have z1 := wr_1
  have zm := wr_m1
  have t3 : ∀ x y : Int, (y < x ∧ ¬ x = y ∧ ¬ x < y) ∨ (¬ y < x ∧ x = y ∧ ¬ x < y) ∨ (¬ y < x ∧ ¬ x = y ∧ x < y) := fun x y => by omega
  rcases t3 v' a' with ⟨h1, h2, h3⟩ | ⟨h1, h2, h3⟩ | ⟨h1, h2, h3⟩ <;> rcases t3 v' b' with ⟨h4, h5, h6⟩ | ⟨h4, h5, h6⟩ | ⟨h4, h5, h6⟩ <;>
    simp only [h1, h2, h4, h5, if_true, if_false, wr_0, wr_1, wr_m1] <;> (repeat' split) <;> first | rfl | omega
/-- the object's fields: whole numbers and the seed; the arrays are at 27 to 42 -/
def mo (st lk len ac nx rf lr en lm : Int) (sd : Int64) : AC := aO 6 [vI st, vR 27, vR 28, vI lk, vR 29, vR 30, vR 31, vI len, vR 32, vR 33, vR 34, vI ac, vI nx, vR 35, vI rf, vI lr, vR 36, vR 37, vR 38, vR 39, vI en, vI lm, vR 40, vJ sd, vR 41, vR 42]
/-- the sheet as the reference lays it: at 26 the stiffness, at 27 the grips, at 32 to 34 depths, bends, slacks -/
def HD (M : List AC) (st : Int) (g s d b : F4) : Prop := (∃ lk len ac nx rf lr en lm sd, M[26]? = some (mo st lk len ac nx rf lr en lm sd)) ∧ M[27]? = some (aI (l4 g)) ∧ M[32]? = some (aI (l4 d)) ∧ M[33]? = some (aI (l4 b)) ∧ M[34]? = some (aI (l4 s))
abbrev mi_X6_counts : Mi := (yX6_counts, cX6_counts, 2, some .int, 1)
theorem mf_X6_counts : am_mf mi_X6_counts 1 := ⟨w_co_X6_counts, w_in_X6, ⟨by decide +kernel, by decide +kernel⟩, by decide +kernel, by decide⟩
def tb_X6_counts : List (Nat × Tr) := [(0, tAld 0 1), (1, tGf 6 8), (4, tIld 1 1), (5, tIal), (6, tAld 0 1), (7, tGf 6 9), (10, tIld 1 1), (11, tIal), (12, tCmle 31), (15, tAld 0 1), (16, tGf 6 8), (19, tIld 1 1), (20, tIal), (21, tAld 0 1), (22, tGf 6 9), (25, tIld 1 1), (26, tIal), (27, tI2 (fun a b => a - b)), (28, tGo 32), (31, tIc 0 1)]
theorem ok_X6_counts : Tok mi_X6_counts tb_X6_counts :=
  Tc (sd_aload_n dX6_counts_0) <|
  Tc (sd_getf (T := TX6) rfl giX6 (by decide) w_fl_X6_25 dX6_counts_1) <|
  Tc (sd_iload_n dX6_counts_4) <|
  Tc (sd_ial dX6_counts_5) <|
  Tc (sd_aload_n dX6_counts_6) <|
  Tc (sd_getf (T := TX6) rfl giX6 (by decide) w_fl_X6_28 dX6_counts_7) <|
  Tc (sd_iload_n dX6_counts_10) <|
  Tc (sd_ial dX6_counts_11) <|
  Tc (sd_cm_le (by decide) dX6_counts_12) <|
  Tc (sd_aload_n dX6_counts_15) <|
  Tc (sd_getf (T := TX6) rfl giX6 (by decide) w_fl_X6_25 dX6_counts_16) <|
  Tc (sd_iload_n dX6_counts_19) <|
  Tc (sd_ial dX6_counts_20) <|
  Tc (sd_aload_n dX6_counts_21) <|
  Tc (sd_getf (T := TX6) rfl giX6 (by decide) w_fl_X6_28 dX6_counts_22) <|
  Tc (sd_iload_n dX6_counts_25) <|
  Tc (sd_ial dX6_counts_26) <|
  Tc (sd_isub dX6_counts_27) <|
  Tc (sd_goto (by decide) dX6_counts_28) <|
  Tc (sd_iconst rfl dX6_counts_31) <|
  Tn
theorem rk_X6_counts : Rok mi_X6_counts rI [32] := rk_i dX6_counts_32 <| rk_n
def rx_X6_counts : Nat → Nat → AL → List AV → List AC → Option (Option AV × List AC) := am_r tb_X6_counts rI [32]
theorem rs_X6_counts_0 (n : Nat) (L : AL) (st : List AV) (M : List AC) : rx_X6_counts (n + 1) 0 L st M = am_j (rx_X6_counts n) ((tAld 0 1) 0 L st M) := rfl
theorem rs_X6_counts_1 (n : Nat) (L : AL) (st : List AV) (M : List AC) : rx_X6_counts (n + 1) 1 L st M = am_j (rx_X6_counts n) ((tGf 6 8) 1 L st M) := rfl
theorem rs_X6_counts_4 (n : Nat) (L : AL) (st : List AV) (M : List AC) : rx_X6_counts (n + 1) 4 L st M = am_j (rx_X6_counts n) ((tIld 1 1) 4 L st M) := rfl
theorem rs_X6_counts_5 (n : Nat) (L : AL) (st : List AV) (M : List AC) : rx_X6_counts (n + 1) 5 L st M = am_j (rx_X6_counts n) (tIal 5 L st M) := rfl
theorem rs_X6_counts_6 (n : Nat) (L : AL) (st : List AV) (M : List AC) : rx_X6_counts (n + 1) 6 L st M = am_j (rx_X6_counts n) ((tAld 0 1) 6 L st M) := rfl
theorem rs_X6_counts_7 (n : Nat) (L : AL) (st : List AV) (M : List AC) : rx_X6_counts (n + 1) 7 L st M = am_j (rx_X6_counts n) ((tGf 6 9) 7 L st M) := rfl
theorem rs_X6_counts_10 (n : Nat) (L : AL) (st : List AV) (M : List AC) : rx_X6_counts (n + 1) 10 L st M = am_j (rx_X6_counts n) ((tIld 1 1) 10 L st M) := rfl
theorem rs_X6_counts_11 (n : Nat) (L : AL) (st : List AV) (M : List AC) : rx_X6_counts (n + 1) 11 L st M = am_j (rx_X6_counts n) (tIal 11 L st M) := rfl
theorem rs_X6_counts_12 (n : Nat) (L : AL) (st : List AV) (M : List AC) : rx_X6_counts (n + 1) 12 L st M = am_j (rx_X6_counts n) ((tCmle 31) 12 L st M) := rfl
theorem rs_X6_counts_15 (n : Nat) (L : AL) (st : List AV) (M : List AC) : rx_X6_counts (n + 1) 15 L st M = am_j (rx_X6_counts n) ((tAld 0 1) 15 L st M) := rfl
theorem rs_X6_counts_16 (n : Nat) (L : AL) (st : List AV) (M : List AC) : rx_X6_counts (n + 1) 16 L st M = am_j (rx_X6_counts n) ((tGf 6 8) 16 L st M) := rfl
theorem rs_X6_counts_19 (n : Nat) (L : AL) (st : List AV) (M : List AC) : rx_X6_counts (n + 1) 19 L st M = am_j (rx_X6_counts n) ((tIld 1 1) 19 L st M) := rfl
theorem rs_X6_counts_20 (n : Nat) (L : AL) (st : List AV) (M : List AC) : rx_X6_counts (n + 1) 20 L st M = am_j (rx_X6_counts n) (tIal 20 L st M) := rfl
theorem rs_X6_counts_21 (n : Nat) (L : AL) (st : List AV) (M : List AC) : rx_X6_counts (n + 1) 21 L st M = am_j (rx_X6_counts n) ((tAld 0 1) 21 L st M) := rfl
theorem rs_X6_counts_22 (n : Nat) (L : AL) (st : List AV) (M : List AC) : rx_X6_counts (n + 1) 22 L st M = am_j (rx_X6_counts n) ((tGf 6 9) 22 L st M) := rfl
theorem rs_X6_counts_25 (n : Nat) (L : AL) (st : List AV) (M : List AC) : rx_X6_counts (n + 1) 25 L st M = am_j (rx_X6_counts n) ((tIld 1 1) 25 L st M) := rfl
theorem rs_X6_counts_26 (n : Nat) (L : AL) (st : List AV) (M : List AC) : rx_X6_counts (n + 1) 26 L st M = am_j (rx_X6_counts n) (tIal 26 L st M) := rfl
theorem rs_X6_counts_27 (n : Nat) (L : AL) (st : List AV) (M : List AC) : rx_X6_counts (n + 1) 27 L st M = am_j (rx_X6_counts n) ((tI2 (fun a b => a - b)) 27 L st M) := rfl
theorem rs_X6_counts_28 (n : Nat) (L : AL) (st : List AV) (M : List AC) : rx_X6_counts (n + 1) 28 L st M = am_j (rx_X6_counts n) ((tGo 32) 28 L st M) := rfl
theorem rs_X6_counts_31 (n : Nat) (L : AL) (st : List AV) (M : List AC) : rx_X6_counts (n + 1) 31 L st M = am_j (rx_X6_counts n) ((tIc 0 1) 31 L st M) := rfl
theorem rs_X6_counts_32 (n : Nat) (L : AL) (st : List AV) (M : List AC) : rx_X6_counts (n + 1) 32 L st M = am_e rI st M := rfl
theorem ri_X6_counts (c : Prop) [Decidable c] (p q n : Nat) (L : AL) (st : List AV) (M : List AC) : rx_X6_counts n (if c then p else q) L st M = if c then rx_X6_counts n p L st M else rx_X6_counts n q L st M := by split <;> rfl
theorem rm_X6_counts {n k pc : Nat} {L : AL} {st : List AV} {M : List AC} {x : Option AV × List AC} (h : rx_X6_counts n pc L st M = some x) (hk : n ≤ k) : rx_X6_counts k pc L st M = some x := am_r_mono n k h hk
def fn_X6_counts : Fn := am_fn rx_X6_counts 2
theorem fok_X6_counts : Fok mi_X6_counts fn_X6_counts := fun _ _ _ _ h => am_fok ok_X6_counts rk_X6_counts rfl h
theorem sp_X6_counts {M : List AC} {st : Int} {g s d b : F4} (hs : HD M st g s d b) (hr : SR st g s d b) (c : Int) (hc : 0 ≤ c ∧ c < 4) : fn_X6_counts [vR 26, vI c] M = some (some (vI (cn (g4 d c.toNat) (g4 b c.toNat))), M) := by
  obtain ⟨⟨lk, len, ac, nx, rf, lr, en, lm, sd, h0⟩, h1, h2, h3, h4⟩ := hs
  obtain ⟨w0, ⟨wg0, wg1, wg2, wg3⟩, ⟨ws0, ws1, ws2, ws3⟩, ⟨wd0, wd1, wd2, wd3⟩, wb0, wb1, wb2, wb3⟩ := hr.wr
  (refine am_fnI (tb := tb_X6_counts) (n := 40) (Nat.le_of_ble_eq_true rfl) (Nat.le_of_ble_eq_true rfl) ?_; show rx_X6_counts 40 0 _ _ _ = _)
  rcases c4 hc with rfl | rfl | rfl | rfl <;>
    simp [↓ri_X6_counts, rs_X6_counts_0, rs_X6_counts_1, rs_X6_counts_4, rs_X6_counts_5, rs_X6_counts_6, rs_X6_counts_7, rs_X6_counts_10, rs_X6_counts_11, rs_X6_counts_12, rs_X6_counts_15, rs_X6_counts_16, rs_X6_counts_19, rs_X6_counts_20, rs_X6_counts_21, rs_X6_counts_22, rs_X6_counts_25, rs_X6_counts_26, rs_X6_counts_27, rs_X6_counts_28, rs_X6_counts_31, rs_X6_counts_32, -List.getElem?_eq_getElem, am_js, am_e, am_in, am_sl, rI, rZ, rV, rJ, rA, rC, kI, kJ, kR, am_one, am_nl, am_w8, tIc, tLc, tNul, tIld, tLld, tAld, tIst, tLst, tAst, tIinc, tI2, tDv, tL2, tLrem, tLs, tLcmp, tI2l, tL2i, tI2c, tDup, tDup2, tPop, tGo, tIfeq, tIfne, tIflt, tIfge, tIfgt, tIfle, tCmeq, tCmne, tCmlt, tCmge, tCmgt, tCmle, tNu, tTs, tGf, tPf, tGs, tIal, tIas, tBal, tBas, tAln, tSv, tSc, tSb, tSl, tSk, tCv, tCs, tCt, tMx, tMn, wr_10000, wr_100000, wr_1000000, wr_10000000, wr_100000000, wr_2400, wr_9999, wr_0, wr_1, wr_2, wr_3, wr_4, wr_5, wr_6, wr_7, wr_8, wr_9, wr_10, wr_11, wr_12, wr_13, wr_14, wr_15, wr_16, wr_17, wr_18, wr_19, wr_20, wr_21, wr_22, wr_23, wr_24, wr_25, wr_26, wr_27, wr_28, wr_29, wr_30, wr_31, wr_32, wr_33, wr_34, wr_35, wr_36, wr_37, wr_38, wr_39, wr_40, wr_41, wr_42, wr_43, wr_44, wr_45, wr_46, wr_47, wr_48, wr_49, wr_50, wr_51, wr_52, wr_53, wr_54, wr_55, wr_56, wr_57, wr_58, wr_59, wr_60, wr_61, wr_62, wr_63, wr_99, wr_100, wr_192, wr_255, wr_256, wr_343, wr_999, wr_1000, wr_2401, wr_2147483647, wr_65535, wr_m1, wr_m2, wr_m3, wr_m4, wr_m9, ak_1000, ak_1001, ak_1002, ak_0, ak_1, ak_2, ak_3, ak_4, ak_5, ak_6, ak_7, ak_8, ak_9, ak_10, ak_11, ak_12, ak_13, ak_14, ak_15, ak_16, ak_17, ak_18, ak_19, ak_20, ak_21, ak_22, ak_23, ak_24, ak_25, ak_26, ak_27, ak_28, ak_29, ak_30, ak_31, ak_32, ak_33, ak_34, ak_35, ak_36, ak_37, ak_38, ak_39, ak_40, ak_41, ak_42, ak_43, ak_44, ak_45, ak_46, ak_47, h0, h2, h3, mo, wd0, wd1, wd2, wd3, wb0, wb1, wb2, wb3, g4, cn] <;>
    (repeat' split) <;> first | rfl | omega
abbrev mi_X6_edgePull : Mi := (yX6_edgePull, cX6_edgePull, 4, some .int, 2)
theorem mf_X6_edgePull : am_mf mi_X6_edgePull 1 := ⟨w_co_X6_edgePull, w_in_X6, ⟨by decide +kernel, by decide +kernel⟩, by decide +kernel, by decide⟩
def tb_X6_edgePull : List (Nat × Tr) := [(0, tIld 1 1), (1, tIc 1 1), (2, tI2 (fun a b => a + b)), (3, tIc 4 1), (4, tDv Int.tmod), (5, tIst 2 1), (6, tAld 0 1), (7, tIld 1 1), (8, tCv 6 1 fn_X6_counts), (11, tAld 0 1), (12, tIld 2 1), (13, tCv 6 1 fn_X6_counts), (16, tI2 (fun a b => a + b)), (17, tAld 0 1), (18, tGf 6 10), (21, tIld 1 1), (22, tIal), (23, tI2 (fun a b => a - b)), (24, tIst 3 1), (25, tAld 0 1), (26, tGf 6 8), (29, tIld 1 1), (30, tIal), (31, tIfeq 47), (34, tAld 0 1), (35, tGf 6 8), (38, tIld 2 1), (39, tIal), (40, tIfeq 47), (43, tIld 3 1), (44, tIfge 51), (47, tIc 0 1), (48, tGo 57), (51, tAld 0 1), (52, tGf 6 0), (55, tIld 3 1), (56, tI2 (fun a b => a * b))]
theorem ok_X6_edgePull : Tok mi_X6_edgePull tb_X6_edgePull :=
  Tc (sd_iload_n dX6_edgePull_0) <|
  Tc (sd_iconst rfl dX6_edgePull_1) <|
  Tc (sd_iadd dX6_edgePull_2) <|
  Tc (sd_iconst rfl dX6_edgePull_3) <|
  Tc (sd_irem dX6_edgePull_4) <|
  Tc (sd_istore_n dX6_edgePull_5) <|
  Tc (sd_aload_n dX6_edgePull_6) <|
  Tc (sd_iload_n dX6_edgePull_7) <|
  Tc (sd_cv (T := TX6) fok_X6_counts mf_X6_counts rfl w_ml_X6_96 w_im_X6_counts w_se_X6_counts (by decide) dX6_edgePull_8) <|
  Tc (sd_aload_n dX6_edgePull_11) <|
  Tc (sd_iload_n dX6_edgePull_12) <|
  Tc (sd_cv (T := TX6) fok_X6_counts mf_X6_counts rfl w_ml_X6_96 w_im_X6_counts w_se_X6_counts (by decide) dX6_edgePull_13) <|
  Tc (sd_iadd dX6_edgePull_16) <|
  Tc (sd_aload_n dX6_edgePull_17) <|
  Tc (sd_getf (T := TX6) rfl giX6 (by decide) w_fl_X6_31 dX6_edgePull_18) <|
  Tc (sd_iload_n dX6_edgePull_21) <|
  Tc (sd_ial dX6_edgePull_22) <|
  Tc (sd_isub dX6_edgePull_23) <|
  Tc (sd_istore_n dX6_edgePull_24) <|
  Tc (sd_aload_n dX6_edgePull_25) <|
  Tc (sd_getf (T := TX6) rfl giX6 (by decide) w_fl_X6_25 dX6_edgePull_26) <|
  Tc (sd_iload_n dX6_edgePull_29) <|
  Tc (sd_ial dX6_edgePull_30) <|
  Tc (sd_if_eq (by decide) dX6_edgePull_31) <|
  Tc (sd_aload_n dX6_edgePull_34) <|
  Tc (sd_getf (T := TX6) rfl giX6 (by decide) w_fl_X6_25 dX6_edgePull_35) <|
  Tc (sd_iload_n dX6_edgePull_38) <|
  Tc (sd_ial dX6_edgePull_39) <|
  Tc (sd_if_eq (by decide) dX6_edgePull_40) <|
  Tc (sd_iload_n dX6_edgePull_43) <|
  Tc (sd_if_ge (by decide) dX6_edgePull_44) <|
  Tc (sd_iconst rfl dX6_edgePull_47) <|
  Tc (sd_goto (by decide) dX6_edgePull_48) <|
  Tc (sd_aload_n dX6_edgePull_51) <|
  Tc (sd_getf (T := TX6) rfl giX6 (by decide) w_fl_X6_59 dX6_edgePull_52) <|
  Tc (sd_iload_n dX6_edgePull_55) <|
  Tc (sd_imul dX6_edgePull_56) <|
  Tn
theorem rk_X6_edgePull : Rok mi_X6_edgePull rI [57] := rk_i dX6_edgePull_57 <| rk_n
def rx_X6_edgePull : Nat → Nat → AL → List AV → List AC → Option (Option AV × List AC) := am_r tb_X6_edgePull rI [57]
theorem rs_X6_edgePull_0 (n : Nat) (L : AL) (st : List AV) (M : List AC) : rx_X6_edgePull (n + 1) 0 L st M = am_j (rx_X6_edgePull n) ((tIld 1 1) 0 L st M) := rfl
theorem rs_X6_edgePull_1 (n : Nat) (L : AL) (st : List AV) (M : List AC) : rx_X6_edgePull (n + 1) 1 L st M = am_j (rx_X6_edgePull n) ((tIc 1 1) 1 L st M) := rfl
theorem rs_X6_edgePull_2 (n : Nat) (L : AL) (st : List AV) (M : List AC) : rx_X6_edgePull (n + 1) 2 L st M = am_j (rx_X6_edgePull n) ((tI2 (fun a b => a + b)) 2 L st M) := rfl
theorem rs_X6_edgePull_3 (n : Nat) (L : AL) (st : List AV) (M : List AC) : rx_X6_edgePull (n + 1) 3 L st M = am_j (rx_X6_edgePull n) ((tIc 4 1) 3 L st M) := rfl
theorem rs_X6_edgePull_4 (n : Nat) (L : AL) (st : List AV) (M : List AC) : rx_X6_edgePull (n + 1) 4 L st M = am_j (rx_X6_edgePull n) ((tDv Int.tmod) 4 L st M) := rfl
theorem rs_X6_edgePull_5 (n : Nat) (L : AL) (st : List AV) (M : List AC) : rx_X6_edgePull (n + 1) 5 L st M = am_j (rx_X6_edgePull n) ((tIst 2 1) 5 L st M) := rfl
theorem rs_X6_edgePull_6 (n : Nat) (L : AL) (st : List AV) (M : List AC) : rx_X6_edgePull (n + 1) 6 L st M = am_j (rx_X6_edgePull n) ((tAld 0 1) 6 L st M) := rfl
theorem rs_X6_edgePull_7 (n : Nat) (L : AL) (st : List AV) (M : List AC) : rx_X6_edgePull (n + 1) 7 L st M = am_j (rx_X6_edgePull n) ((tIld 1 1) 7 L st M) := rfl
theorem rs_X6_edgePull_8 (n : Nat) (L : AL) (st : List AV) (M : List AC) : rx_X6_edgePull (n + 1) 8 L st M = am_j (rx_X6_edgePull n) ((tCv 6 1 fn_X6_counts) 8 L st M) := rfl
theorem rs_X6_edgePull_11 (n : Nat) (L : AL) (st : List AV) (M : List AC) : rx_X6_edgePull (n + 1) 11 L st M = am_j (rx_X6_edgePull n) ((tAld 0 1) 11 L st M) := rfl
theorem rs_X6_edgePull_12 (n : Nat) (L : AL) (st : List AV) (M : List AC) : rx_X6_edgePull (n + 1) 12 L st M = am_j (rx_X6_edgePull n) ((tIld 2 1) 12 L st M) := rfl
theorem rs_X6_edgePull_13 (n : Nat) (L : AL) (st : List AV) (M : List AC) : rx_X6_edgePull (n + 1) 13 L st M = am_j (rx_X6_edgePull n) ((tCv 6 1 fn_X6_counts) 13 L st M) := rfl
theorem rs_X6_edgePull_16 (n : Nat) (L : AL) (st : List AV) (M : List AC) : rx_X6_edgePull (n + 1) 16 L st M = am_j (rx_X6_edgePull n) ((tI2 (fun a b => a + b)) 16 L st M) := rfl
theorem rs_X6_edgePull_17 (n : Nat) (L : AL) (st : List AV) (M : List AC) : rx_X6_edgePull (n + 1) 17 L st M = am_j (rx_X6_edgePull n) ((tAld 0 1) 17 L st M) := rfl
theorem rs_X6_edgePull_18 (n : Nat) (L : AL) (st : List AV) (M : List AC) : rx_X6_edgePull (n + 1) 18 L st M = am_j (rx_X6_edgePull n) ((tGf 6 10) 18 L st M) := rfl
theorem rs_X6_edgePull_21 (n : Nat) (L : AL) (st : List AV) (M : List AC) : rx_X6_edgePull (n + 1) 21 L st M = am_j (rx_X6_edgePull n) ((tIld 1 1) 21 L st M) := rfl
theorem rs_X6_edgePull_22 (n : Nat) (L : AL) (st : List AV) (M : List AC) : rx_X6_edgePull (n + 1) 22 L st M = am_j (rx_X6_edgePull n) (tIal 22 L st M) := rfl
theorem rs_X6_edgePull_23 (n : Nat) (L : AL) (st : List AV) (M : List AC) : rx_X6_edgePull (n + 1) 23 L st M = am_j (rx_X6_edgePull n) ((tI2 (fun a b => a - b)) 23 L st M) := rfl
theorem rs_X6_edgePull_24 (n : Nat) (L : AL) (st : List AV) (M : List AC) : rx_X6_edgePull (n + 1) 24 L st M = am_j (rx_X6_edgePull n) ((tIst 3 1) 24 L st M) := rfl
theorem rs_X6_edgePull_25 (n : Nat) (L : AL) (st : List AV) (M : List AC) : rx_X6_edgePull (n + 1) 25 L st M = am_j (rx_X6_edgePull n) ((tAld 0 1) 25 L st M) := rfl
theorem rs_X6_edgePull_26 (n : Nat) (L : AL) (st : List AV) (M : List AC) : rx_X6_edgePull (n + 1) 26 L st M = am_j (rx_X6_edgePull n) ((tGf 6 8) 26 L st M) := rfl
theorem rs_X6_edgePull_29 (n : Nat) (L : AL) (st : List AV) (M : List AC) : rx_X6_edgePull (n + 1) 29 L st M = am_j (rx_X6_edgePull n) ((tIld 1 1) 29 L st M) := rfl
theorem rs_X6_edgePull_30 (n : Nat) (L : AL) (st : List AV) (M : List AC) : rx_X6_edgePull (n + 1) 30 L st M = am_j (rx_X6_edgePull n) (tIal 30 L st M) := rfl
theorem rs_X6_edgePull_31 (n : Nat) (L : AL) (st : List AV) (M : List AC) : rx_X6_edgePull (n + 1) 31 L st M = am_j (rx_X6_edgePull n) ((tIfeq 47) 31 L st M) := rfl
theorem rs_X6_edgePull_34 (n : Nat) (L : AL) (st : List AV) (M : List AC) : rx_X6_edgePull (n + 1) 34 L st M = am_j (rx_X6_edgePull n) ((tAld 0 1) 34 L st M) := rfl
theorem rs_X6_edgePull_35 (n : Nat) (L : AL) (st : List AV) (M : List AC) : rx_X6_edgePull (n + 1) 35 L st M = am_j (rx_X6_edgePull n) ((tGf 6 8) 35 L st M) := rfl
theorem rs_X6_edgePull_38 (n : Nat) (L : AL) (st : List AV) (M : List AC) : rx_X6_edgePull (n + 1) 38 L st M = am_j (rx_X6_edgePull n) ((tIld 2 1) 38 L st M) := rfl
theorem rs_X6_edgePull_39 (n : Nat) (L : AL) (st : List AV) (M : List AC) : rx_X6_edgePull (n + 1) 39 L st M = am_j (rx_X6_edgePull n) (tIal 39 L st M) := rfl
theorem rs_X6_edgePull_40 (n : Nat) (L : AL) (st : List AV) (M : List AC) : rx_X6_edgePull (n + 1) 40 L st M = am_j (rx_X6_edgePull n) ((tIfeq 47) 40 L st M) := rfl
theorem rs_X6_edgePull_43 (n : Nat) (L : AL) (st : List AV) (M : List AC) : rx_X6_edgePull (n + 1) 43 L st M = am_j (rx_X6_edgePull n) ((tIld 3 1) 43 L st M) := rfl
theorem rs_X6_edgePull_44 (n : Nat) (L : AL) (st : List AV) (M : List AC) : rx_X6_edgePull (n + 1) 44 L st M = am_j (rx_X6_edgePull n) ((tIfge 51) 44 L st M) := rfl
theorem rs_X6_edgePull_47 (n : Nat) (L : AL) (st : List AV) (M : List AC) : rx_X6_edgePull (n + 1) 47 L st M = am_j (rx_X6_edgePull n) ((tIc 0 1) 47 L st M) := rfl
theorem rs_X6_edgePull_48 (n : Nat) (L : AL) (st : List AV) (M : List AC) : rx_X6_edgePull (n + 1) 48 L st M = am_j (rx_X6_edgePull n) ((tGo 57) 48 L st M) := rfl
theorem rs_X6_edgePull_51 (n : Nat) (L : AL) (st : List AV) (M : List AC) : rx_X6_edgePull (n + 1) 51 L st M = am_j (rx_X6_edgePull n) ((tAld 0 1) 51 L st M) := rfl
theorem rs_X6_edgePull_52 (n : Nat) (L : AL) (st : List AV) (M : List AC) : rx_X6_edgePull (n + 1) 52 L st M = am_j (rx_X6_edgePull n) ((tGf 6 0) 52 L st M) := rfl
theorem rs_X6_edgePull_55 (n : Nat) (L : AL) (st : List AV) (M : List AC) : rx_X6_edgePull (n + 1) 55 L st M = am_j (rx_X6_edgePull n) ((tIld 3 1) 55 L st M) := rfl
theorem rs_X6_edgePull_56 (n : Nat) (L : AL) (st : List AV) (M : List AC) : rx_X6_edgePull (n + 1) 56 L st M = am_j (rx_X6_edgePull n) ((tI2 (fun a b => a * b)) 56 L st M) := rfl
theorem rs_X6_edgePull_57 (n : Nat) (L : AL) (st : List AV) (M : List AC) : rx_X6_edgePull (n + 1) 57 L st M = am_e rI st M := rfl
theorem ri_X6_edgePull (c : Prop) [Decidable c] (p q n : Nat) (L : AL) (st : List AV) (M : List AC) : rx_X6_edgePull n (if c then p else q) L st M = if c then rx_X6_edgePull n p L st M else rx_X6_edgePull n q L st M := by split <;> rfl
theorem rm_X6_edgePull {n k pc : Nat} {L : AL} {st : List AV} {M : List AC} {x : Option AV × List AC} (h : rx_X6_edgePull n pc L st M = some x) (hk : n ≤ k) : rx_X6_edgePull k pc L st M = some x := am_r_mono n k h hk
def fn_X6_edgePull : Fn := am_fn rx_X6_edgePull 4
theorem fok_X6_edgePull : Fok mi_X6_edgePull fn_X6_edgePull := fun _ _ _ _ h => am_fok ok_X6_edgePull rk_X6_edgePull rfl h
theorem pl_le {st x : Int} (h : ¬ 0 < x) (h2 : ¬ x < 0) : st * x = 0 := by
  have e : x = 0 := by omega
  rw [e, Int.mul_zero]
theorem sp_X6_edgePull {M : List AC} {st : Int} {g s d b : F4} (hs : HD M st g s d b) (hr : SR st g s d b) (e : Int) (hc : 0 ≤ e ∧ e < 4) : fn_X6_edgePull [vR 26, vI e] M = some (some (vI (pu st s d b e.toNat)), M) := by
  obtain ⟨⟨lk, len, ac, nx, rf, lr, en, lm, sd, h0⟩, h1, h2, h3, h4⟩ := id hs
  obtain ⟨w0, ⟨wg0, wg1, wg2, wg3⟩, ⟨ws0, ws1, ws2, ws3⟩, ⟨wd0, wd1, wd2, wd3⟩, wb0, wb1, wb2, wb3⟩ := hr.wr
  obtain ⟨-, -, ⟨rs0, rs1, rs2, rs3⟩, ⟨rd0, rd1, rd2, rd3⟩, rb0, rb1, rb2, rb3⟩ := id hr
  have c0 := cn_rng rd0 rb0
  have c1 := cn_rng rd1 rb1
  have c2 := cn_rng rd2 rb2
  have c3 := cn_rng rd3 rb3
  have y0 : wr (cn d.1 b.1 + cn d.2.1 b.2.1 - s.1) = cn d.1 b.1 + cn d.2.1 b.2.1 - s.1 := wr_id (by omega) (by omega)
  have y1 : wr (cn d.2.1 b.2.1 + cn d.2.2.1 b.2.2.1 - s.2.1) = cn d.2.1 b.2.1 + cn d.2.2.1 b.2.2.1 - s.2.1 := wr_id (by omega) (by omega)
  have y2 : wr (cn d.2.2.1 b.2.2.1 + cn d.2.2.2 b.2.2.2 - s.2.2.1) = cn d.2.2.1 b.2.2.1 + cn d.2.2.2 b.2.2.2 - s.2.2.1 := wr_id (by omega) (by omega)
  have y3 : wr (cn d.2.2.2 b.2.2.2 + cn d.1 b.1 - s.2.2.2) = cn d.2.2.2 b.2.2.2 + cn d.1 b.1 - s.2.2.2 := wr_id (by omega) (by omega)
  (refine am_fnI (tb := tb_X6_edgePull) (n := 60) (Nat.le_of_ble_eq_true rfl) (Nat.le_of_ble_eq_true rfl) ?_; show rx_X6_edgePull 60 0 _ _ _ = _)
  rcases c4 hc with rfl | rfl | rfl | rfl
  · generalize hx : cn d.1 b.1 + cn d.2.1 b.2.1 - s.1 = x at y0
    simp [↓ri_X6_edgePull, rs_X6_edgePull_0, rs_X6_edgePull_1, rs_X6_edgePull_2, rs_X6_edgePull_3, rs_X6_edgePull_4, rs_X6_edgePull_5, rs_X6_edgePull_6, rs_X6_edgePull_7, rs_X6_edgePull_8, rs_X6_edgePull_11, rs_X6_edgePull_12, rs_X6_edgePull_13, rs_X6_edgePull_16, rs_X6_edgePull_17, rs_X6_edgePull_18, rs_X6_edgePull_21, rs_X6_edgePull_22, rs_X6_edgePull_23, rs_X6_edgePull_24, rs_X6_edgePull_25, rs_X6_edgePull_26, rs_X6_edgePull_29, rs_X6_edgePull_30, rs_X6_edgePull_31, rs_X6_edgePull_34, rs_X6_edgePull_35, rs_X6_edgePull_38, rs_X6_edgePull_39, rs_X6_edgePull_40, rs_X6_edgePull_43, rs_X6_edgePull_44, rs_X6_edgePull_47, rs_X6_edgePull_48, rs_X6_edgePull_51, rs_X6_edgePull_52, rs_X6_edgePull_55, rs_X6_edgePull_56, rs_X6_edgePull_57, -List.getElem?_eq_getElem, am_js, am_e, am_in, am_sl, rI, rZ, rV, rJ, rA, rC, kI, kJ, kR, am_one, am_nl, am_w8, tIc, tLc, tNul, tIld, tLld, tAld, tIst, tLst, tAst, tIinc, tI2, tDv, tL2, tLrem, tLs, tLcmp, tI2l, tL2i, tI2c, tDup, tDup2, tPop, tGo, tIfeq, tIfne, tIflt, tIfge, tIfgt, tIfle, tCmeq, tCmne, tCmlt, tCmge, tCmgt, tCmle, tNu, tTs, tGf, tPf, tGs, tIal, tIas, tBal, tBas, tAln, tSv, tSc, tSb, tSl, tSk, tCv, tCs, tCt, tMx, tMn, wr_10000, wr_100000, wr_1000000, wr_10000000, wr_100000000, wr_2400, wr_9999, wr_0, wr_1, wr_2, wr_3, wr_4, wr_5, wr_6, wr_7, wr_8, wr_9, wr_10, wr_11, wr_12, wr_13, wr_14, wr_15, wr_16, wr_17, wr_18, wr_19, wr_20, wr_21, wr_22, wr_23, wr_24, wr_25, wr_26, wr_27, wr_28, wr_29, wr_30, wr_31, wr_32, wr_33, wr_34, wr_35, wr_36, wr_37, wr_38, wr_39, wr_40, wr_41, wr_42, wr_43, wr_44, wr_45, wr_46, wr_47, wr_48, wr_49, wr_50, wr_51, wr_52, wr_53, wr_54, wr_55, wr_56, wr_57, wr_58, wr_59, wr_60, wr_61, wr_62, wr_63, wr_99, wr_100, wr_192, wr_255, wr_256, wr_343, wr_999, wr_1000, wr_2401, wr_2147483647, wr_65535, wr_m1, wr_m2, wr_m3, wr_m4, wr_m9, ak_1000, ak_1001, ak_1002, ak_0, ak_1, ak_2, ak_3, ak_4, ak_5, ak_6, ak_7, ak_8, ak_9, ak_10, ak_11, ak_12, ak_13, ak_14, ak_15, ak_16, ak_17, ak_18, ak_19, ak_20, ak_21, ak_22, ak_23, ak_24, ak_25, ak_26, ak_27, ak_28, ak_29, ak_30, ak_31, ak_32, ak_33, ak_34, ak_35, ak_36, ak_37, ak_38, ak_39, ak_40, ak_41, ak_42, ak_43, ak_44, ak_45, ak_46, ak_47, h0, h2, h4, mo, wd0, wd1, wd2, wd3, g4, pu, pl, sp_X6_counts hs hr, hx, y0, -Int.sub_pos]
    (repeat' split) <;> first | rfl | omega | simp_all [pl_le]
  · generalize hx : cn d.2.1 b.2.1 + cn d.2.2.1 b.2.2.1 - s.2.1 = x at y1
    simp [↓ri_X6_edgePull, rs_X6_edgePull_0, rs_X6_edgePull_1, rs_X6_edgePull_2, rs_X6_edgePull_3, rs_X6_edgePull_4, rs_X6_edgePull_5, rs_X6_edgePull_6, rs_X6_edgePull_7, rs_X6_edgePull_8, rs_X6_edgePull_11, rs_X6_edgePull_12, rs_X6_edgePull_13, rs_X6_edgePull_16, rs_X6_edgePull_17, rs_X6_edgePull_18, rs_X6_edgePull_21, rs_X6_edgePull_22, rs_X6_edgePull_23, rs_X6_edgePull_24, rs_X6_edgePull_25, rs_X6_edgePull_26, rs_X6_edgePull_29, rs_X6_edgePull_30, rs_X6_edgePull_31, rs_X6_edgePull_34, rs_X6_edgePull_35, rs_X6_edgePull_38, rs_X6_edgePull_39, rs_X6_edgePull_40, rs_X6_edgePull_43, rs_X6_edgePull_44, rs_X6_edgePull_47, rs_X6_edgePull_48, rs_X6_edgePull_51, rs_X6_edgePull_52, rs_X6_edgePull_55, rs_X6_edgePull_56, rs_X6_edgePull_57, -List.getElem?_eq_getElem, am_js, am_e, am_in, am_sl, rI, rZ, rV, rJ, rA, rC, kI, kJ, kR, am_one, am_nl, am_w8, tIc, tLc, tNul, tIld, tLld, tAld, tIst, tLst, tAst, tIinc, tI2, tDv, tL2, tLrem, tLs, tLcmp, tI2l, tL2i, tI2c, tDup, tDup2, tPop, tGo, tIfeq, tIfne, tIflt, tIfge, tIfgt, tIfle, tCmeq, tCmne, tCmlt, tCmge, tCmgt, tCmle, tNu, tTs, tGf, tPf, tGs, tIal, tIas, tBal, tBas, tAln, tSv, tSc, tSb, tSl, tSk, tCv, tCs, tCt, tMx, tMn, wr_10000, wr_100000, wr_1000000, wr_10000000, wr_100000000, wr_2400, wr_9999, wr_0, wr_1, wr_2, wr_3, wr_4, wr_5, wr_6, wr_7, wr_8, wr_9, wr_10, wr_11, wr_12, wr_13, wr_14, wr_15, wr_16, wr_17, wr_18, wr_19, wr_20, wr_21, wr_22, wr_23, wr_24, wr_25, wr_26, wr_27, wr_28, wr_29, wr_30, wr_31, wr_32, wr_33, wr_34, wr_35, wr_36, wr_37, wr_38, wr_39, wr_40, wr_41, wr_42, wr_43, wr_44, wr_45, wr_46, wr_47, wr_48, wr_49, wr_50, wr_51, wr_52, wr_53, wr_54, wr_55, wr_56, wr_57, wr_58, wr_59, wr_60, wr_61, wr_62, wr_63, wr_99, wr_100, wr_192, wr_255, wr_256, wr_343, wr_999, wr_1000, wr_2401, wr_2147483647, wr_65535, wr_m1, wr_m2, wr_m3, wr_m4, wr_m9, ak_1000, ak_1001, ak_1002, ak_0, ak_1, ak_2, ak_3, ak_4, ak_5, ak_6, ak_7, ak_8, ak_9, ak_10, ak_11, ak_12, ak_13, ak_14, ak_15, ak_16, ak_17, ak_18, ak_19, ak_20, ak_21, ak_22, ak_23, ak_24, ak_25, ak_26, ak_27, ak_28, ak_29, ak_30, ak_31, ak_32, ak_33, ak_34, ak_35, ak_36, ak_37, ak_38, ak_39, ak_40, ak_41, ak_42, ak_43, ak_44, ak_45, ak_46, ak_47, h0, h2, h4, mo, wd0, wd1, wd2, wd3, g4, pu, pl, sp_X6_counts hs hr, hx, y1, -Int.sub_pos]
    (repeat' split) <;> first | rfl | omega | simp_all [pl_le]
  · generalize hx : cn d.2.2.1 b.2.2.1 + cn d.2.2.2 b.2.2.2 - s.2.2.1 = x at y2
    simp [↓ri_X6_edgePull, rs_X6_edgePull_0, rs_X6_edgePull_1, rs_X6_edgePull_2, rs_X6_edgePull_3, rs_X6_edgePull_4, rs_X6_edgePull_5, rs_X6_edgePull_6, rs_X6_edgePull_7, rs_X6_edgePull_8, rs_X6_edgePull_11, rs_X6_edgePull_12, rs_X6_edgePull_13, rs_X6_edgePull_16, rs_X6_edgePull_17, rs_X6_edgePull_18, rs_X6_edgePull_21, rs_X6_edgePull_22, rs_X6_edgePull_23, rs_X6_edgePull_24, rs_X6_edgePull_25, rs_X6_edgePull_26, rs_X6_edgePull_29, rs_X6_edgePull_30, rs_X6_edgePull_31, rs_X6_edgePull_34, rs_X6_edgePull_35, rs_X6_edgePull_38, rs_X6_edgePull_39, rs_X6_edgePull_40, rs_X6_edgePull_43, rs_X6_edgePull_44, rs_X6_edgePull_47, rs_X6_edgePull_48, rs_X6_edgePull_51, rs_X6_edgePull_52, rs_X6_edgePull_55, rs_X6_edgePull_56, rs_X6_edgePull_57, -List.getElem?_eq_getElem, am_js, am_e, am_in, am_sl, rI, rZ, rV, rJ, rA, rC, kI, kJ, kR, am_one, am_nl, am_w8, tIc, tLc, tNul, tIld, tLld, tAld, tIst, tLst, tAst, tIinc, tI2, tDv, tL2, tLrem, tLs, tLcmp, tI2l, tL2i, tI2c, tDup, tDup2, tPop, tGo, tIfeq, tIfne, tIflt, tIfge, tIfgt, tIfle, tCmeq, tCmne, tCmlt, tCmge, tCmgt, tCmle, tNu, tTs, tGf, tPf, tGs, tIal, tIas, tBal, tBas, tAln, tSv, tSc, tSb, tSl, tSk, tCv, tCs, tCt, tMx, tMn, wr_10000, wr_100000, wr_1000000, wr_10000000, wr_100000000, wr_2400, wr_9999, wr_0, wr_1, wr_2, wr_3, wr_4, wr_5, wr_6, wr_7, wr_8, wr_9, wr_10, wr_11, wr_12, wr_13, wr_14, wr_15, wr_16, wr_17, wr_18, wr_19, wr_20, wr_21, wr_22, wr_23, wr_24, wr_25, wr_26, wr_27, wr_28, wr_29, wr_30, wr_31, wr_32, wr_33, wr_34, wr_35, wr_36, wr_37, wr_38, wr_39, wr_40, wr_41, wr_42, wr_43, wr_44, wr_45, wr_46, wr_47, wr_48, wr_49, wr_50, wr_51, wr_52, wr_53, wr_54, wr_55, wr_56, wr_57, wr_58, wr_59, wr_60, wr_61, wr_62, wr_63, wr_99, wr_100, wr_192, wr_255, wr_256, wr_343, wr_999, wr_1000, wr_2401, wr_2147483647, wr_65535, wr_m1, wr_m2, wr_m3, wr_m4, wr_m9, ak_1000, ak_1001, ak_1002, ak_0, ak_1, ak_2, ak_3, ak_4, ak_5, ak_6, ak_7, ak_8, ak_9, ak_10, ak_11, ak_12, ak_13, ak_14, ak_15, ak_16, ak_17, ak_18, ak_19, ak_20, ak_21, ak_22, ak_23, ak_24, ak_25, ak_26, ak_27, ak_28, ak_29, ak_30, ak_31, ak_32, ak_33, ak_34, ak_35, ak_36, ak_37, ak_38, ak_39, ak_40, ak_41, ak_42, ak_43, ak_44, ak_45, ak_46, ak_47, h0, h2, h4, mo, wd0, wd1, wd2, wd3, g4, pu, pl, sp_X6_counts hs hr, hx, y2, -Int.sub_pos]
    (repeat' split) <;> first | rfl | omega | simp_all [pl_le]
  · generalize hx : cn d.2.2.2 b.2.2.2 + cn d.1 b.1 - s.2.2.2 = x at y3
    simp [↓ri_X6_edgePull, rs_X6_edgePull_0, rs_X6_edgePull_1, rs_X6_edgePull_2, rs_X6_edgePull_3, rs_X6_edgePull_4, rs_X6_edgePull_5, rs_X6_edgePull_6, rs_X6_edgePull_7, rs_X6_edgePull_8, rs_X6_edgePull_11, rs_X6_edgePull_12, rs_X6_edgePull_13, rs_X6_edgePull_16, rs_X6_edgePull_17, rs_X6_edgePull_18, rs_X6_edgePull_21, rs_X6_edgePull_22, rs_X6_edgePull_23, rs_X6_edgePull_24, rs_X6_edgePull_25, rs_X6_edgePull_26, rs_X6_edgePull_29, rs_X6_edgePull_30, rs_X6_edgePull_31, rs_X6_edgePull_34, rs_X6_edgePull_35, rs_X6_edgePull_38, rs_X6_edgePull_39, rs_X6_edgePull_40, rs_X6_edgePull_43, rs_X6_edgePull_44, rs_X6_edgePull_47, rs_X6_edgePull_48, rs_X6_edgePull_51, rs_X6_edgePull_52, rs_X6_edgePull_55, rs_X6_edgePull_56, rs_X6_edgePull_57, -List.getElem?_eq_getElem, am_js, am_e, am_in, am_sl, rI, rZ, rV, rJ, rA, rC, kI, kJ, kR, am_one, am_nl, am_w8, tIc, tLc, tNul, tIld, tLld, tAld, tIst, tLst, tAst, tIinc, tI2, tDv, tL2, tLrem, tLs, tLcmp, tI2l, tL2i, tI2c, tDup, tDup2, tPop, tGo, tIfeq, tIfne, tIflt, tIfge, tIfgt, tIfle, tCmeq, tCmne, tCmlt, tCmge, tCmgt, tCmle, tNu, tTs, tGf, tPf, tGs, tIal, tIas, tBal, tBas, tAln, tSv, tSc, tSb, tSl, tSk, tCv, tCs, tCt, tMx, tMn, wr_10000, wr_100000, wr_1000000, wr_10000000, wr_100000000, wr_2400, wr_9999, wr_0, wr_1, wr_2, wr_3, wr_4, wr_5, wr_6, wr_7, wr_8, wr_9, wr_10, wr_11, wr_12, wr_13, wr_14, wr_15, wr_16, wr_17, wr_18, wr_19, wr_20, wr_21, wr_22, wr_23, wr_24, wr_25, wr_26, wr_27, wr_28, wr_29, wr_30, wr_31, wr_32, wr_33, wr_34, wr_35, wr_36, wr_37, wr_38, wr_39, wr_40, wr_41, wr_42, wr_43, wr_44, wr_45, wr_46, wr_47, wr_48, wr_49, wr_50, wr_51, wr_52, wr_53, wr_54, wr_55, wr_56, wr_57, wr_58, wr_59, wr_60, wr_61, wr_62, wr_63, wr_99, wr_100, wr_192, wr_255, wr_256, wr_343, wr_999, wr_1000, wr_2401, wr_2147483647, wr_65535, wr_m1, wr_m2, wr_m3, wr_m4, wr_m9, ak_1000, ak_1001, ak_1002, ak_0, ak_1, ak_2, ak_3, ak_4, ak_5, ak_6, ak_7, ak_8, ak_9, ak_10, ak_11, ak_12, ak_13, ak_14, ak_15, ak_16, ak_17, ak_18, ak_19, ak_20, ak_21, ak_22, ak_23, ak_24, ak_25, ak_26, ak_27, ak_28, ak_29, ak_30, ak_31, ak_32, ak_33, ak_34, ak_35, ak_36, ak_37, ak_38, ak_39, ak_40, ak_41, ak_42, ak_43, ak_44, ak_45, ak_46, ak_47, h0, h2, h4, mo, wd0, wd1, wd2, wd3, g4, pu, pl, sp_X6_counts hs hr, hx, y3, -Int.sub_pos]
    (repeat' split) <;> first | rfl | omega | simp_all [pl_le]
abbrev mi_X6_pullAt : Mi := (yX6_pullAt, cX6_pullAt, 2, some .int, 3)
theorem mf_X6_pullAt : am_mf mi_X6_pullAt 1 := ⟨w_co_X6_pullAt, w_in_X6, ⟨by decide +kernel, by decide +kernel⟩, by decide +kernel, by decide⟩
def tb_X6_pullAt : List (Nat × Tr) := [(0, tAld 0 1), (1, tIld 1 1), (2, tCv 6 1 fn_X6_edgePull), (5, tAld 0 1), (6, tIld 1 1), (7, tIc 3 1), (8, tI2 (fun a b => a + b)), (9, tIc 4 1), (10, tDv Int.tmod), (11, tCv 6 1 fn_X6_edgePull), (14, tI2 (fun a b => a + b))]
theorem ok_X6_pullAt : Tok mi_X6_pullAt tb_X6_pullAt :=
  Tc (sd_aload_n dX6_pullAt_0) <|
  Tc (sd_iload_n dX6_pullAt_1) <|
  Tc (sd_cv (T := TX6) fok_X6_edgePull mf_X6_edgePull rfl w_ml_X6_100 w_im_X6_edgePull w_se_X6_edgePull (by decide) dX6_pullAt_2) <|
  Tc (sd_aload_n dX6_pullAt_5) <|
  Tc (sd_iload_n dX6_pullAt_6) <|
  Tc (sd_iconst rfl dX6_pullAt_7) <|
  Tc (sd_iadd dX6_pullAt_8) <|
  Tc (sd_iconst rfl dX6_pullAt_9) <|
  Tc (sd_irem dX6_pullAt_10) <|
  Tc (sd_cv (T := TX6) fok_X6_edgePull mf_X6_edgePull rfl w_ml_X6_100 w_im_X6_edgePull w_se_X6_edgePull (by decide) dX6_pullAt_11) <|
  Tc (sd_iadd dX6_pullAt_14) <|
  Tn
theorem rk_X6_pullAt : Rok mi_X6_pullAt rI [15] := rk_i dX6_pullAt_15 <| rk_n
def rx_X6_pullAt : Nat → Nat → AL → List AV → List AC → Option (Option AV × List AC) := am_r tb_X6_pullAt rI [15]
theorem rs_X6_pullAt_0 (n : Nat) (L : AL) (st : List AV) (M : List AC) : rx_X6_pullAt (n + 1) 0 L st M = am_j (rx_X6_pullAt n) ((tAld 0 1) 0 L st M) := rfl
theorem rs_X6_pullAt_1 (n : Nat) (L : AL) (st : List AV) (M : List AC) : rx_X6_pullAt (n + 1) 1 L st M = am_j (rx_X6_pullAt n) ((tIld 1 1) 1 L st M) := rfl
theorem rs_X6_pullAt_2 (n : Nat) (L : AL) (st : List AV) (M : List AC) : rx_X6_pullAt (n + 1) 2 L st M = am_j (rx_X6_pullAt n) ((tCv 6 1 fn_X6_edgePull) 2 L st M) := rfl
theorem rs_X6_pullAt_5 (n : Nat) (L : AL) (st : List AV) (M : List AC) : rx_X6_pullAt (n + 1) 5 L st M = am_j (rx_X6_pullAt n) ((tAld 0 1) 5 L st M) := rfl
theorem rs_X6_pullAt_6 (n : Nat) (L : AL) (st : List AV) (M : List AC) : rx_X6_pullAt (n + 1) 6 L st M = am_j (rx_X6_pullAt n) ((tIld 1 1) 6 L st M) := rfl
theorem rs_X6_pullAt_7 (n : Nat) (L : AL) (st : List AV) (M : List AC) : rx_X6_pullAt (n + 1) 7 L st M = am_j (rx_X6_pullAt n) ((tIc 3 1) 7 L st M) := rfl
theorem rs_X6_pullAt_8 (n : Nat) (L : AL) (st : List AV) (M : List AC) : rx_X6_pullAt (n + 1) 8 L st M = am_j (rx_X6_pullAt n) ((tI2 (fun a b => a + b)) 8 L st M) := rfl
theorem rs_X6_pullAt_9 (n : Nat) (L : AL) (st : List AV) (M : List AC) : rx_X6_pullAt (n + 1) 9 L st M = am_j (rx_X6_pullAt n) ((tIc 4 1) 9 L st M) := rfl
theorem rs_X6_pullAt_10 (n : Nat) (L : AL) (st : List AV) (M : List AC) : rx_X6_pullAt (n + 1) 10 L st M = am_j (rx_X6_pullAt n) ((tDv Int.tmod) 10 L st M) := rfl
theorem rs_X6_pullAt_11 (n : Nat) (L : AL) (st : List AV) (M : List AC) : rx_X6_pullAt (n + 1) 11 L st M = am_j (rx_X6_pullAt n) ((tCv 6 1 fn_X6_edgePull) 11 L st M) := rfl
theorem rs_X6_pullAt_14 (n : Nat) (L : AL) (st : List AV) (M : List AC) : rx_X6_pullAt (n + 1) 14 L st M = am_j (rx_X6_pullAt n) ((tI2 (fun a b => a + b)) 14 L st M) := rfl
theorem rs_X6_pullAt_15 (n : Nat) (L : AL) (st : List AV) (M : List AC) : rx_X6_pullAt (n + 1) 15 L st M = am_e rI st M := rfl
theorem ri_X6_pullAt (c : Prop) [Decidable c] (p q n : Nat) (L : AL) (st : List AV) (M : List AC) : rx_X6_pullAt n (if c then p else q) L st M = if c then rx_X6_pullAt n p L st M else rx_X6_pullAt n q L st M := by split <;> rfl
theorem rm_X6_pullAt {n k pc : Nat} {L : AL} {st : List AV} {M : List AC} {x : Option AV × List AC} (h : rx_X6_pullAt n pc L st M = some x) (hk : n ≤ k) : rx_X6_pullAt k pc L st M = some x := am_r_mono n k h hk
def fn_X6_pullAt : Fn := am_fn rx_X6_pullAt 2
theorem fok_X6_pullAt : Fok mi_X6_pullAt fn_X6_pullAt := fun _ _ _ _ h => am_fok ok_X6_pullAt rk_X6_pullAt rfl h
theorem pa_comm (st : Int) (s d b : F4) (c : Nat) : (match c with | 0 => pu st s d b 0 + pu st s d b 3 | 1 => pu st s d b 1 + pu st s d b 0 | 2 => pu st s d b 2 + pu st s d b 1 | _ => pu st s d b 3 + pu st s d b 2) = pa st s d b c := by
  match c with
  | 0 => exact Int.add_comm _ _
  | 1 => exact Int.add_comm _ _
  | 2 => exact Int.add_comm _ _
  | n + 3 => exact Int.add_comm _ _
theorem sp_X6_pullAt {M : List AC} {st : Int} {g s d b : F4} (hs : HD M st g s d b) (hr : SR st g s d b) (c : Int) (hc : 0 ≤ c ∧ c < 4) : fn_X6_pullAt [vR 26, vI c] M = some (some (vI (pa st s d b c.toNat)), M) := by
  obtain ⟨⟨lk, len, ac, nx, rf, lr, en, lm, sd, h0⟩, -⟩ := id hs
  rw [← pa_comm]
  (refine am_fnI (tb := tb_X6_pullAt) (n := 60) (Nat.le_of_ble_eq_true rfl) (Nat.le_of_ble_eq_true rfl) ?_; show rx_X6_pullAt 60 0 _ _ _ = _)
  rcases c4 hc with rfl | rfl | rfl | rfl <;>
    simp [↓ri_X6_pullAt, rs_X6_pullAt_0, rs_X6_pullAt_1, rs_X6_pullAt_2, rs_X6_pullAt_5, rs_X6_pullAt_6, rs_X6_pullAt_7, rs_X6_pullAt_8, rs_X6_pullAt_9, rs_X6_pullAt_10, rs_X6_pullAt_11, rs_X6_pullAt_14, rs_X6_pullAt_15, -List.getElem?_eq_getElem, am_js, am_e, am_in, am_sl, rI, rZ, rV, rJ, rA, rC, kI, kJ, kR, am_one, am_nl, am_w8, tIc, tLc, tNul, tIld, tLld, tAld, tIst, tLst, tAst, tIinc, tI2, tDv, tL2, tLrem, tLs, tLcmp, tI2l, tL2i, tI2c, tDup, tDup2, tPop, tGo, tIfeq, tIfne, tIflt, tIfge, tIfgt, tIfle, tCmeq, tCmne, tCmlt, tCmge, tCmgt, tCmle, tNu, tTs, tGf, tPf, tGs, tIal, tIas, tBal, tBas, tAln, tSv, tSc, tSb, tSl, tSk, tCv, tCs, tCt, tMx, tMn, wr_10000, wr_100000, wr_1000000, wr_10000000, wr_100000000, wr_2400, wr_9999, wr_0, wr_1, wr_2, wr_3, wr_4, wr_5, wr_6, wr_7, wr_8, wr_9, wr_10, wr_11, wr_12, wr_13, wr_14, wr_15, wr_16, wr_17, wr_18, wr_19, wr_20, wr_21, wr_22, wr_23, wr_24, wr_25, wr_26, wr_27, wr_28, wr_29, wr_30, wr_31, wr_32, wr_33, wr_34, wr_35, wr_36, wr_37, wr_38, wr_39, wr_40, wr_41, wr_42, wr_43, wr_44, wr_45, wr_46, wr_47, wr_48, wr_49, wr_50, wr_51, wr_52, wr_53, wr_54, wr_55, wr_56, wr_57, wr_58, wr_59, wr_60, wr_61, wr_62, wr_63, wr_99, wr_100, wr_192, wr_255, wr_256, wr_343, wr_999, wr_1000, wr_2401, wr_2147483647, wr_65535, wr_m1, wr_m2, wr_m3, wr_m4, wr_m9, ak_1000, ak_1001, ak_1002, ak_0, ak_1, ak_2, ak_3, ak_4, ak_5, ak_6, ak_7, ak_8, ak_9, ak_10, ak_11, ak_12, ak_13, ak_14, ak_15, ak_16, ak_17, ak_18, ak_19, ak_20, ak_21, ak_22, ak_23, ak_24, ak_25, ak_26, ak_27, ak_28, ak_29, ak_30, ak_31, ak_32, ak_33, ak_34, ak_35, ak_36, ak_37, ak_38, ak_39, ak_40, ak_41, ak_42, ak_43, ak_44, ak_45, ak_46, ak_47, h0, mo, sp_X6_edgePull hs hr]
abbrev mi_X6_excess : Mi := (yX6_excess, cX6_excess, 2, some .int, 4)
theorem mf_X6_excess : am_mf mi_X6_excess 1 := ⟨w_co_X6_excess, w_in_X6, ⟨by decide +kernel, by decide +kernel⟩, by decide +kernel, by decide⟩
def tb_X6_excess : List (Nat × Tr) := [(0, tAld 0 1), (1, tGf 6 8), (4, tIld 1 1), (5, tIal), (6, tIfne 13), (9, tIc 0 1), (10, tGo 32), (13, tAld 0 1), (14, tIld 1 1), (15, tCv 6 1 fn_X6_pullAt), (18, tAld 0 1), (19, tGf 6 1), (22, tIld 1 1), (23, tIal), (24, tAld 0 1), (25, tGf 6 8), (28, tIld 1 1), (29, tIal), (30, tI2 (fun a b => a * b)), (31, tI2 (fun a b => a - b))]
theorem ok_X6_excess : Tok mi_X6_excess tb_X6_excess :=
  Tc (sd_aload_n dX6_excess_0) <|
  Tc (sd_getf (T := TX6) rfl giX6 (by decide) w_fl_X6_25 dX6_excess_1) <|
  Tc (sd_iload_n dX6_excess_4) <|
  Tc (sd_ial dX6_excess_5) <|
  Tc (sd_if_ne (by decide) dX6_excess_6) <|
  Tc (sd_iconst rfl dX6_excess_9) <|
  Tc (sd_goto (by decide) dX6_excess_10) <|
  Tc (sd_aload_n dX6_excess_13) <|
  Tc (sd_iload_n dX6_excess_14) <|
  Tc (sd_cv (T := TX6) fok_X6_pullAt mf_X6_pullAt rfl w_ml_X6_103 w_im_X6_pullAt w_se_X6_pullAt (by decide) dX6_excess_15) <|
  Tc (sd_aload_n dX6_excess_18) <|
  Tc (sd_getf (T := TX6) rfl giX6 (by decide) w_fl_X6_7 dX6_excess_19) <|
  Tc (sd_iload_n dX6_excess_22) <|
  Tc (sd_ial dX6_excess_23) <|
  Tc (sd_aload_n dX6_excess_24) <|
  Tc (sd_getf (T := TX6) rfl giX6 (by decide) w_fl_X6_25 dX6_excess_25) <|
  Tc (sd_iload_n dX6_excess_28) <|
  Tc (sd_ial dX6_excess_29) <|
  Tc (sd_imul dX6_excess_30) <|
  Tc (sd_isub dX6_excess_31) <|
  Tn
theorem rk_X6_excess : Rok mi_X6_excess rI [32] := rk_i dX6_excess_32 <| rk_n
def rx_X6_excess : Nat → Nat → AL → List AV → List AC → Option (Option AV × List AC) := am_r tb_X6_excess rI [32]
theorem rs_X6_excess_0 (n : Nat) (L : AL) (st : List AV) (M : List AC) : rx_X6_excess (n + 1) 0 L st M = am_j (rx_X6_excess n) ((tAld 0 1) 0 L st M) := rfl
theorem rs_X6_excess_1 (n : Nat) (L : AL) (st : List AV) (M : List AC) : rx_X6_excess (n + 1) 1 L st M = am_j (rx_X6_excess n) ((tGf 6 8) 1 L st M) := rfl
theorem rs_X6_excess_4 (n : Nat) (L : AL) (st : List AV) (M : List AC) : rx_X6_excess (n + 1) 4 L st M = am_j (rx_X6_excess n) ((tIld 1 1) 4 L st M) := rfl
theorem rs_X6_excess_5 (n : Nat) (L : AL) (st : List AV) (M : List AC) : rx_X6_excess (n + 1) 5 L st M = am_j (rx_X6_excess n) (tIal 5 L st M) := rfl
theorem rs_X6_excess_6 (n : Nat) (L : AL) (st : List AV) (M : List AC) : rx_X6_excess (n + 1) 6 L st M = am_j (rx_X6_excess n) ((tIfne 13) 6 L st M) := rfl
theorem rs_X6_excess_9 (n : Nat) (L : AL) (st : List AV) (M : List AC) : rx_X6_excess (n + 1) 9 L st M = am_j (rx_X6_excess n) ((tIc 0 1) 9 L st M) := rfl
theorem rs_X6_excess_10 (n : Nat) (L : AL) (st : List AV) (M : List AC) : rx_X6_excess (n + 1) 10 L st M = am_j (rx_X6_excess n) ((tGo 32) 10 L st M) := rfl
theorem rs_X6_excess_13 (n : Nat) (L : AL) (st : List AV) (M : List AC) : rx_X6_excess (n + 1) 13 L st M = am_j (rx_X6_excess n) ((tAld 0 1) 13 L st M) := rfl
theorem rs_X6_excess_14 (n : Nat) (L : AL) (st : List AV) (M : List AC) : rx_X6_excess (n + 1) 14 L st M = am_j (rx_X6_excess n) ((tIld 1 1) 14 L st M) := rfl
theorem rs_X6_excess_15 (n : Nat) (L : AL) (st : List AV) (M : List AC) : rx_X6_excess (n + 1) 15 L st M = am_j (rx_X6_excess n) ((tCv 6 1 fn_X6_pullAt) 15 L st M) := rfl
theorem rs_X6_excess_18 (n : Nat) (L : AL) (st : List AV) (M : List AC) : rx_X6_excess (n + 1) 18 L st M = am_j (rx_X6_excess n) ((tAld 0 1) 18 L st M) := rfl
theorem rs_X6_excess_19 (n : Nat) (L : AL) (st : List AV) (M : List AC) : rx_X6_excess (n + 1) 19 L st M = am_j (rx_X6_excess n) ((tGf 6 1) 19 L st M) := rfl
theorem rs_X6_excess_22 (n : Nat) (L : AL) (st : List AV) (M : List AC) : rx_X6_excess (n + 1) 22 L st M = am_j (rx_X6_excess n) ((tIld 1 1) 22 L st M) := rfl
theorem rs_X6_excess_23 (n : Nat) (L : AL) (st : List AV) (M : List AC) : rx_X6_excess (n + 1) 23 L st M = am_j (rx_X6_excess n) (tIal 23 L st M) := rfl
theorem rs_X6_excess_24 (n : Nat) (L : AL) (st : List AV) (M : List AC) : rx_X6_excess (n + 1) 24 L st M = am_j (rx_X6_excess n) ((tAld 0 1) 24 L st M) := rfl
theorem rs_X6_excess_25 (n : Nat) (L : AL) (st : List AV) (M : List AC) : rx_X6_excess (n + 1) 25 L st M = am_j (rx_X6_excess n) ((tGf 6 8) 25 L st M) := rfl
theorem rs_X6_excess_28 (n : Nat) (L : AL) (st : List AV) (M : List AC) : rx_X6_excess (n + 1) 28 L st M = am_j (rx_X6_excess n) ((tIld 1 1) 28 L st M) := rfl
theorem rs_X6_excess_29 (n : Nat) (L : AL) (st : List AV) (M : List AC) : rx_X6_excess (n + 1) 29 L st M = am_j (rx_X6_excess n) (tIal 29 L st M) := rfl
theorem rs_X6_excess_30 (n : Nat) (L : AL) (st : List AV) (M : List AC) : rx_X6_excess (n + 1) 30 L st M = am_j (rx_X6_excess n) ((tI2 (fun a b => a * b)) 30 L st M) := rfl
theorem rs_X6_excess_31 (n : Nat) (L : AL) (st : List AV) (M : List AC) : rx_X6_excess (n + 1) 31 L st M = am_j (rx_X6_excess n) ((tI2 (fun a b => a - b)) 31 L st M) := rfl
theorem rs_X6_excess_32 (n : Nat) (L : AL) (st : List AV) (M : List AC) : rx_X6_excess (n + 1) 32 L st M = am_e rI st M := rfl
theorem ri_X6_excess (c : Prop) [Decidable c] (p q n : Nat) (L : AL) (st : List AV) (M : List AC) : rx_X6_excess n (if c then p else q) L st M = if c then rx_X6_excess n p L st M else rx_X6_excess n q L st M := by split <;> rfl
theorem rm_X6_excess {n k pc : Nat} {L : AL} {st : List AV} {M : List AC} {x : Option AV × List AC} (h : rx_X6_excess n pc L st M = some x) (hk : n ≤ k) : rx_X6_excess k pc L st M = some x := am_r_mono n k h hk
def fn_X6_excess : Fn := am_fn rx_X6_excess 2
theorem fok_X6_excess : Fok mi_X6_excess fn_X6_excess := fun _ _ _ _ h => am_fok ok_X6_excess rk_X6_excess rfl h
theorem pl_0 (st s d e b c : Int) (h : d = 0 ∨ e = 0) : pl st s d e b c = 0 := by unfold pl; rw [if_pos h]
theorem ex_0 {st : Int} {g s d b : F4} {c : Nat} (h : g4 d c = 0) : ex st g s d b c = 0 := by
  unfold ex
  rw [h, Int.mul_zero]
  unfold g4 at h
  unfold pa
  split at h <;> simp [pu, pl_0, h]
theorem sp_X6_excess {M : List AC} {st : Int} {g s d b : F4} (hs : HD M st g s d b) (hr : SR st g s d b) (c : Int) (hc : 0 ≤ c ∧ c < 4) : fn_X6_excess [vR 26, vI c] M = some (some (vI (ex st g s d b c.toNat)), M) := by
  obtain ⟨⟨lk, len, ac, nx, rf, lr, en, lm, sd, h0⟩, h1, h2, h3, h4⟩ := id hs
  obtain ⟨w0, -, -, ⟨wd0, wd1, wd2, wd3⟩, -⟩ := hr.wr
  by_cases hz : g4 d c.toNat = 0
  · rw [ex_0 hz]
    (refine am_fnI (tb := tb_X6_excess) (n := 60) (Nat.le_of_ble_eq_true rfl) (Nat.le_of_ble_eq_true rfl) ?_; show rx_X6_excess 60 0 _ _ _ = _)
    rcases c4 hc with rfl | rfl | rfl | rfl <;> simp [g4] at hz <;>
    simp [↓ri_X6_excess, rs_X6_excess_0, rs_X6_excess_1, rs_X6_excess_4, rs_X6_excess_5, rs_X6_excess_6, rs_X6_excess_9, rs_X6_excess_10, rs_X6_excess_13, rs_X6_excess_14, rs_X6_excess_15, rs_X6_excess_18, rs_X6_excess_19, rs_X6_excess_22, rs_X6_excess_23, rs_X6_excess_24, rs_X6_excess_25, rs_X6_excess_28, rs_X6_excess_29, rs_X6_excess_30, rs_X6_excess_31, rs_X6_excess_32, -List.getElem?_eq_getElem, am_js, am_e, am_in, am_sl, rI, rZ, rV, rJ, rA, rC, kI, kJ, kR, am_one, am_nl, am_w8, tIc, tLc, tNul, tIld, tLld, tAld, tIst, tLst, tAst, tIinc, tI2, tDv, tL2, tLrem, tLs, tLcmp, tI2l, tL2i, tI2c, tDup, tDup2, tPop, tGo, tIfeq, tIfne, tIflt, tIfge, tIfgt, tIfle, tCmeq, tCmne, tCmlt, tCmge, tCmgt, tCmle, tNu, tTs, tGf, tPf, tGs, tIal, tIas, tBal, tBas, tAln, tSv, tSc, tSb, tSl, tSk, tCv, tCs, tCt, tMx, tMn, wr_10000, wr_100000, wr_1000000, wr_10000000, wr_100000000, wr_2400, wr_9999, wr_0, wr_1, wr_2, wr_3, wr_4, wr_5, wr_6, wr_7, wr_8, wr_9, wr_10, wr_11, wr_12, wr_13, wr_14, wr_15, wr_16, wr_17, wr_18, wr_19, wr_20, wr_21, wr_22, wr_23, wr_24, wr_25, wr_26, wr_27, wr_28, wr_29, wr_30, wr_31, wr_32, wr_33, wr_34, wr_35, wr_36, wr_37, wr_38, wr_39, wr_40, wr_41, wr_42, wr_43, wr_44, wr_45, wr_46, wr_47, wr_48, wr_49, wr_50, wr_51, wr_52, wr_53, wr_54, wr_55, wr_56, wr_57, wr_58, wr_59, wr_60, wr_61, wr_62, wr_63, wr_99, wr_100, wr_192, wr_255, wr_256, wr_343, wr_999, wr_1000, wr_2401, wr_2147483647, wr_65535, wr_m1, wr_m2, wr_m3, wr_m4, wr_m9, ak_1000, ak_1001, ak_1002, ak_0, ak_1, ak_2, ak_3, ak_4, ak_5, ak_6, ak_7, ak_8, ak_9, ak_10, ak_11, ak_12, ak_13, ak_14, ak_15, ak_16, ak_17, ak_18, ak_19, ak_20, ak_21, ak_22, ak_23, ak_24, ak_25, ak_26, ak_27, ak_28, ak_29, ak_30, ak_31, ak_32, ak_33, ak_34, ak_35, ak_36, ak_37, ak_38, ak_39, ak_40, ak_41, ak_42, ak_43, ak_44, ak_45, ak_46, ak_47, h0, h2, mo, wd0, wd1, wd2, wd3, hz]
  · unfold ex
    (refine am_fnI (tb := tb_X6_excess) (n := 60) (Nat.le_of_ble_eq_true rfl) (Nat.le_of_ble_eq_true rfl) ?_; show rx_X6_excess 60 0 _ _ _ = _)
    rcases c4 hc with rfl | rfl | rfl | rfl <;> simp [g4] at hz <;>
    simp [↓ri_X6_excess, rs_X6_excess_0, rs_X6_excess_1, rs_X6_excess_4, rs_X6_excess_5, rs_X6_excess_6, rs_X6_excess_9, rs_X6_excess_10, rs_X6_excess_13, rs_X6_excess_14, rs_X6_excess_15, rs_X6_excess_18, rs_X6_excess_19, rs_X6_excess_22, rs_X6_excess_23, rs_X6_excess_24, rs_X6_excess_25, rs_X6_excess_28, rs_X6_excess_29, rs_X6_excess_30, rs_X6_excess_31, rs_X6_excess_32, -List.getElem?_eq_getElem, am_js, am_e, am_in, am_sl, rI, rZ, rV, rJ, rA, rC, kI, kJ, kR, am_one, am_nl, am_w8, tIc, tLc, tNul, tIld, tLld, tAld, tIst, tLst, tAst, tIinc, tI2, tDv, tL2, tLrem, tLs, tLcmp, tI2l, tL2i, tI2c, tDup, tDup2, tPop, tGo, tIfeq, tIfne, tIflt, tIfge, tIfgt, tIfle, tCmeq, tCmne, tCmlt, tCmge, tCmgt, tCmle, tNu, tTs, tGf, tPf, tGs, tIal, tIas, tBal, tBas, tAln, tSv, tSc, tSb, tSl, tSk, tCv, tCs, tCt, tMx, tMn, wr_10000, wr_100000, wr_1000000, wr_10000000, wr_100000000, wr_2400, wr_9999, wr_0, wr_1, wr_2, wr_3, wr_4, wr_5, wr_6, wr_7, wr_8, wr_9, wr_10, wr_11, wr_12, wr_13, wr_14, wr_15, wr_16, wr_17, wr_18, wr_19, wr_20, wr_21, wr_22, wr_23, wr_24, wr_25, wr_26, wr_27, wr_28, wr_29, wr_30, wr_31, wr_32, wr_33, wr_34, wr_35, wr_36, wr_37, wr_38, wr_39, wr_40, wr_41, wr_42, wr_43, wr_44, wr_45, wr_46, wr_47, wr_48, wr_49, wr_50, wr_51, wr_52, wr_53, wr_54, wr_55, wr_56, wr_57, wr_58, wr_59, wr_60, wr_61, wr_62, wr_63, wr_99, wr_100, wr_192, wr_255, wr_256, wr_343, wr_999, wr_1000, wr_2401, wr_2147483647, wr_65535, wr_m1, wr_m2, wr_m3, wr_m4, wr_m9, ak_1000, ak_1001, ak_1002, ak_0, ak_1, ak_2, ak_3, ak_4, ak_5, ak_6, ak_7, ak_8, ak_9, ak_10, ak_11, ak_12, ak_13, ak_14, ak_15, ak_16, ak_17, ak_18, ak_19, ak_20, ak_21, ak_22, ak_23, ak_24, ak_25, ak_26, ak_27, ak_28, ak_29, ak_30, ak_31, ak_32, ak_33, ak_34, ak_35, ak_36, ak_37, ak_38, ak_39, ak_40, ak_41, ak_42, ak_43, ak_44, ak_45, ak_46, ak_47, h0, h1, h2, mo, wd0, wd1, wd2, wd3, hz, sp_X6_pullAt hs hr, g4]
abbrev mi_X6_firstSlip : Mi := (yX6_firstSlip, cX6_firstSlip, 3, some .int, 5)
theorem mf_X6_firstSlip : am_mf mi_X6_firstSlip 0 := ⟨w_co_X6_firstSlip, w_in_X6, ⟨by decide +kernel, by decide +kernel⟩, by decide +kernel, by decide⟩
def tb_X6_firstSlip : List (Nat × Tr) := [(0, tIc (-9) 2), (2, tIst 1 1), (3, tIc 0 1), (4, tIst 2 1), (5, tIld 2 1), (6, tIc 4 1), (7, tCmge 49), (10, tAld 0 1), (11, tIld 2 1), (12, tCv 6 1 fn_X6_excess), (15, tIfle 41), (18, tIld 1 1), (19, tIc (-9) 2), (21, tCmeq 37), (24, tAld 0 1), (25, tIld 2 1), (26, tCv 6 1 fn_X6_excess), (29, tAld 0 1), (30, tIld 1 1), (31, tCv 6 1 fn_X6_excess), (34, tCmle 41), (37, tIld 2 1), (38, tGo 42), (41, tIld 1 1), (42, tIst 1 1), (43, tIinc 2 1), (46, tGo 5), (49, tIld 1 1)]
theorem ok_X6_firstSlip : Tok mi_X6_firstSlip tb_X6_firstSlip :=
  Tc (sd_bipush (by decide +kernel) dX6_firstSlip_0) <|
  Tc (sd_istore_n dX6_firstSlip_2) <|
  Tc (sd_iconst rfl dX6_firstSlip_3) <|
  Tc (sd_istore_n dX6_firstSlip_4) <|
  Tc (sd_iload_n dX6_firstSlip_5) <|
  Tc (sd_iconst rfl dX6_firstSlip_6) <|
  Tc (sd_cm_ge (by decide) dX6_firstSlip_7) <|
  Tc (sd_aload_n dX6_firstSlip_10) <|
  Tc (sd_iload_n dX6_firstSlip_11) <|
  Tc (sd_cv (T := TX6) fok_X6_excess mf_X6_excess rfl w_ml_X6_106 w_im_X6_excess w_se_X6_excess (by decide) dX6_firstSlip_12) <|
  Tc (sd_if_le (by decide) dX6_firstSlip_15) <|
  Tc (sd_iload_n dX6_firstSlip_18) <|
  Tc (sd_bipush (by decide +kernel) dX6_firstSlip_19) <|
  Tc (sd_cm_eq (by decide) dX6_firstSlip_21) <|
  Tc (sd_aload_n dX6_firstSlip_24) <|
  Tc (sd_iload_n dX6_firstSlip_25) <|
  Tc (sd_cv (T := TX6) fok_X6_excess mf_X6_excess rfl w_ml_X6_106 w_im_X6_excess w_se_X6_excess (by decide) dX6_firstSlip_26) <|
  Tc (sd_aload_n dX6_firstSlip_29) <|
  Tc (sd_iload_n dX6_firstSlip_30) <|
  Tc (sd_cv (T := TX6) fok_X6_excess mf_X6_excess rfl w_ml_X6_106 w_im_X6_excess w_se_X6_excess (by decide) dX6_firstSlip_31) <|
  Tc (sd_cm_le (by decide) dX6_firstSlip_34) <|
  Tc (sd_iload_n dX6_firstSlip_37) <|
  Tc (sd_goto (by decide) dX6_firstSlip_38) <|
  Tc (sd_iload_n dX6_firstSlip_41) <|
  Tc (sd_istore_n dX6_firstSlip_42) <|
  Tc (sd_iinc dX6_firstSlip_43) <|
  Tc (sd_goto (by decide) dX6_firstSlip_46) <|
  Tc (sd_iload_n dX6_firstSlip_49) <|
  Tn
theorem rk_X6_firstSlip : Rok mi_X6_firstSlip rI [50] := rk_i dX6_firstSlip_50 <| rk_n
def rx_X6_firstSlip : Nat → Nat → AL → List AV → List AC → Option (Option AV × List AC) := am_r tb_X6_firstSlip rI [50]
theorem rs_X6_firstSlip_0 (n : Nat) (L : AL) (st : List AV) (M : List AC) : rx_X6_firstSlip (n + 1) 0 L st M = am_j (rx_X6_firstSlip n) ((tIc (-9) 2) 0 L st M) := rfl
theorem rs_X6_firstSlip_2 (n : Nat) (L : AL) (st : List AV) (M : List AC) : rx_X6_firstSlip (n + 1) 2 L st M = am_j (rx_X6_firstSlip n) ((tIst 1 1) 2 L st M) := rfl
theorem rs_X6_firstSlip_3 (n : Nat) (L : AL) (st : List AV) (M : List AC) : rx_X6_firstSlip (n + 1) 3 L st M = am_j (rx_X6_firstSlip n) ((tIc 0 1) 3 L st M) := rfl
theorem rs_X6_firstSlip_4 (n : Nat) (L : AL) (st : List AV) (M : List AC) : rx_X6_firstSlip (n + 1) 4 L st M = am_j (rx_X6_firstSlip n) ((tIst 2 1) 4 L st M) := rfl
theorem rs_X6_firstSlip_5 (n : Nat) (L : AL) (st : List AV) (M : List AC) : rx_X6_firstSlip (n + 1) 5 L st M = am_j (rx_X6_firstSlip n) ((tIld 2 1) 5 L st M) := rfl
theorem rs_X6_firstSlip_6 (n : Nat) (L : AL) (st : List AV) (M : List AC) : rx_X6_firstSlip (n + 1) 6 L st M = am_j (rx_X6_firstSlip n) ((tIc 4 1) 6 L st M) := rfl
theorem rs_X6_firstSlip_7 (n : Nat) (L : AL) (st : List AV) (M : List AC) : rx_X6_firstSlip (n + 1) 7 L st M = am_j (rx_X6_firstSlip n) ((tCmge 49) 7 L st M) := rfl
theorem rs_X6_firstSlip_10 (n : Nat) (L : AL) (st : List AV) (M : List AC) : rx_X6_firstSlip (n + 1) 10 L st M = am_j (rx_X6_firstSlip n) ((tAld 0 1) 10 L st M) := rfl
theorem rs_X6_firstSlip_11 (n : Nat) (L : AL) (st : List AV) (M : List AC) : rx_X6_firstSlip (n + 1) 11 L st M = am_j (rx_X6_firstSlip n) ((tIld 2 1) 11 L st M) := rfl
theorem rs_X6_firstSlip_12 (n : Nat) (L : AL) (st : List AV) (M : List AC) : rx_X6_firstSlip (n + 1) 12 L st M = am_j (rx_X6_firstSlip n) ((tCv 6 1 fn_X6_excess) 12 L st M) := rfl
theorem rs_X6_firstSlip_15 (n : Nat) (L : AL) (st : List AV) (M : List AC) : rx_X6_firstSlip (n + 1) 15 L st M = am_j (rx_X6_firstSlip n) ((tIfle 41) 15 L st M) := rfl
theorem rs_X6_firstSlip_18 (n : Nat) (L : AL) (st : List AV) (M : List AC) : rx_X6_firstSlip (n + 1) 18 L st M = am_j (rx_X6_firstSlip n) ((tIld 1 1) 18 L st M) := rfl
theorem rs_X6_firstSlip_19 (n : Nat) (L : AL) (st : List AV) (M : List AC) : rx_X6_firstSlip (n + 1) 19 L st M = am_j (rx_X6_firstSlip n) ((tIc (-9) 2) 19 L st M) := rfl
theorem rs_X6_firstSlip_21 (n : Nat) (L : AL) (st : List AV) (M : List AC) : rx_X6_firstSlip (n + 1) 21 L st M = am_j (rx_X6_firstSlip n) ((tCmeq 37) 21 L st M) := rfl
theorem rs_X6_firstSlip_24 (n : Nat) (L : AL) (st : List AV) (M : List AC) : rx_X6_firstSlip (n + 1) 24 L st M = am_j (rx_X6_firstSlip n) ((tAld 0 1) 24 L st M) := rfl
theorem rs_X6_firstSlip_25 (n : Nat) (L : AL) (st : List AV) (M : List AC) : rx_X6_firstSlip (n + 1) 25 L st M = am_j (rx_X6_firstSlip n) ((tIld 2 1) 25 L st M) := rfl
theorem rs_X6_firstSlip_26 (n : Nat) (L : AL) (st : List AV) (M : List AC) : rx_X6_firstSlip (n + 1) 26 L st M = am_j (rx_X6_firstSlip n) ((tCv 6 1 fn_X6_excess) 26 L st M) := rfl
theorem rs_X6_firstSlip_29 (n : Nat) (L : AL) (st : List AV) (M : List AC) : rx_X6_firstSlip (n + 1) 29 L st M = am_j (rx_X6_firstSlip n) ((tAld 0 1) 29 L st M) := rfl
theorem rs_X6_firstSlip_30 (n : Nat) (L : AL) (st : List AV) (M : List AC) : rx_X6_firstSlip (n + 1) 30 L st M = am_j (rx_X6_firstSlip n) ((tIld 1 1) 30 L st M) := rfl
theorem rs_X6_firstSlip_31 (n : Nat) (L : AL) (st : List AV) (M : List AC) : rx_X6_firstSlip (n + 1) 31 L st M = am_j (rx_X6_firstSlip n) ((tCv 6 1 fn_X6_excess) 31 L st M) := rfl
theorem rs_X6_firstSlip_34 (n : Nat) (L : AL) (st : List AV) (M : List AC) : rx_X6_firstSlip (n + 1) 34 L st M = am_j (rx_X6_firstSlip n) ((tCmle 41) 34 L st M) := rfl
theorem rs_X6_firstSlip_37 (n : Nat) (L : AL) (st : List AV) (M : List AC) : rx_X6_firstSlip (n + 1) 37 L st M = am_j (rx_X6_firstSlip n) ((tIld 2 1) 37 L st M) := rfl
theorem rs_X6_firstSlip_38 (n : Nat) (L : AL) (st : List AV) (M : List AC) : rx_X6_firstSlip (n + 1) 38 L st M = am_j (rx_X6_firstSlip n) ((tGo 42) 38 L st M) := rfl
theorem rs_X6_firstSlip_41 (n : Nat) (L : AL) (st : List AV) (M : List AC) : rx_X6_firstSlip (n + 1) 41 L st M = am_j (rx_X6_firstSlip n) ((tIld 1 1) 41 L st M) := rfl
theorem rs_X6_firstSlip_42 (n : Nat) (L : AL) (st : List AV) (M : List AC) : rx_X6_firstSlip (n + 1) 42 L st M = am_j (rx_X6_firstSlip n) ((tIst 1 1) 42 L st M) := rfl
theorem rs_X6_firstSlip_43 (n : Nat) (L : AL) (st : List AV) (M : List AC) : rx_X6_firstSlip (n + 1) 43 L st M = am_j (rx_X6_firstSlip n) ((tIinc 2 1) 43 L st M) := rfl
theorem rs_X6_firstSlip_46 (n : Nat) (L : AL) (st : List AV) (M : List AC) : rx_X6_firstSlip (n + 1) 46 L st M = am_j (rx_X6_firstSlip n) ((tGo 5) 46 L st M) := rfl
theorem rs_X6_firstSlip_49 (n : Nat) (L : AL) (st : List AV) (M : List AC) : rx_X6_firstSlip (n + 1) 49 L st M = am_j (rx_X6_firstSlip n) ((tIld 1 1) 49 L st M) := rfl
theorem rs_X6_firstSlip_50 (n : Nat) (L : AL) (st : List AV) (M : List AC) : rx_X6_firstSlip (n + 1) 50 L st M = am_e rI st M := rfl
theorem ri_X6_firstSlip (c : Prop) [Decidable c] (p q n : Nat) (L : AL) (st : List AV) (M : List AC) : rx_X6_firstSlip n (if c then p else q) L st M = if c then rx_X6_firstSlip n p L st M else rx_X6_firstSlip n q L st M := by split <;> rfl
theorem rm_X6_firstSlip {n k pc : Nat} {L : AL} {st : List AV} {M : List AC} {x : Option AV × List AC} (h : rx_X6_firstSlip n pc L st M = some x) (hk : n ≤ k) : rx_X6_firstSlip k pc L st M = some x := am_r_mono n k h hk
def fn_X6_firstSlip : Fn := am_fn rx_X6_firstSlip 3
theorem fok_X6_firstSlip : Fok mi_X6_firstSlip fn_X6_firstSlip := fun _ _ _ _ h => am_fok ok_X6_firstSlip rk_X6_firstSlip rfl h
theorem sp_X6_firstSlip {M : List AC} {st : Int} {g s d b : F4} (hs : HD M st g s d b) (hr : SR st g s d b) : fn_X6_firstSlip [vR 26] M = some (some (vI (fs st g s d b)), M) := by
  obtain ⟨⟨lk, len, ac, nx, rf, lr, en, lm, sd, h0⟩, -⟩ := id hs
  have x0 := ex_rng hr 0
  have x1 := ex_rng hr 1
  have x2 := ex_rng hr 2
  have x3 := ex_rng hr 3
  have z0 : wr (ex st g s d b 0) = ex st g s d b 0 := wr_id (by omega) (by omega)
  have z1 : wr (ex st g s d b 1) = ex st g s d b 1 := wr_id (by omega) (by omega)
  have z2 : wr (ex st g s d b 2) = ex st g s d b 2 := wr_id (by omega) (by omega)
  have z3 : wr (ex st g s d b 3) = ex st g s d b 3 := wr_id (by omega) (by omega)
  have q0 := sp_X6_excess hs hr 0 (by omega)
  have q1 := sp_X6_excess hs hr 1 (by omega)
  have q2 := sp_X6_excess hs hr 2 (by omega)
  have q3 := sp_X6_excess hs hr 3 (by omega)
  simp only [Int.toNat_zero, Int.toNat_one, show Int.toNat 2 = 2 from rfl, show Int.toNat 3 = 3 from rfl] at q0 q1 q2 q3
  unfold fs
  generalize ex st g s d b 0 = e0 at z0 q0 ⊢
  generalize ex st g s d b 1 = e1 at z1 q1 ⊢
  generalize ex st g s d b 2 = e2 at z2 q2 ⊢
  generalize ex st g s d b 3 = e3 at z3 q3 ⊢
  clear x0 x1 x2 x3
  (refine am_fnI (tb := tb_X6_firstSlip) (n := 300) (Nat.le_of_ble_eq_true rfl) (Nat.le_of_ble_eq_true rfl) ?_; show rx_X6_firstSlip 300 0 _ _ _ = _)
  simp [↓ri_X6_firstSlip, rs_X6_firstSlip_0, rs_X6_firstSlip_2, rs_X6_firstSlip_3, rs_X6_firstSlip_4, rs_X6_firstSlip_5, rs_X6_firstSlip_6, rs_X6_firstSlip_7, rs_X6_firstSlip_10, rs_X6_firstSlip_11, rs_X6_firstSlip_12, rs_X6_firstSlip_15, rs_X6_firstSlip_18, rs_X6_firstSlip_19, rs_X6_firstSlip_21, rs_X6_firstSlip_24, rs_X6_firstSlip_25, rs_X6_firstSlip_26, rs_X6_firstSlip_29, rs_X6_firstSlip_30, rs_X6_firstSlip_31, rs_X6_firstSlip_34, rs_X6_firstSlip_37, rs_X6_firstSlip_38, rs_X6_firstSlip_41, rs_X6_firstSlip_42, rs_X6_firstSlip_43, rs_X6_firstSlip_46, rs_X6_firstSlip_49, rs_X6_firstSlip_50, -List.getElem?_eq_getElem, am_js, am_e, am_in, am_sl, rI, rZ, rV, rJ, rA, rC, kI, kJ, kR, am_one, am_nl, am_w8, tIc, tLc, tNul, tIld, tLld, tAld, tIst, tLst, tAst, tIinc, tI2, tDv, tL2, tLrem, tLs, tLcmp, tI2l, tL2i, tI2c, tDup, tDup2, tPop, tGo, tIfeq, tIfne, tIflt, tIfge, tIfgt, tIfle, tCmeq, tCmne, tCmlt, tCmge, tCmgt, tCmle, tNu, tTs, tGf, tPf, tGs, tIal, tIas, tBal, tBas, tAln, tSv, tSc, tSb, tSl, tSk, tCv, tCs, tCt, tMx, tMn, wr_10000, wr_100000, wr_1000000, wr_10000000, wr_100000000, wr_2400, wr_9999, wr_0, wr_1, wr_2, wr_3, wr_4, wr_5, wr_6, wr_7, wr_8, wr_9, wr_10, wr_11, wr_12, wr_13, wr_14, wr_15, wr_16, wr_17, wr_18, wr_19, wr_20, wr_21, wr_22, wr_23, wr_24, wr_25, wr_26, wr_27, wr_28, wr_29, wr_30, wr_31, wr_32, wr_33, wr_34, wr_35, wr_36, wr_37, wr_38, wr_39, wr_40, wr_41, wr_42, wr_43, wr_44, wr_45, wr_46, wr_47, wr_48, wr_49, wr_50, wr_51, wr_52, wr_53, wr_54, wr_55, wr_56, wr_57, wr_58, wr_59, wr_60, wr_61, wr_62, wr_63, wr_99, wr_100, wr_192, wr_255, wr_256, wr_343, wr_999, wr_1000, wr_2401, wr_2147483647, wr_65535, wr_m1, wr_m2, wr_m3, wr_m4, wr_m9, ak_1000, ak_1001, ak_1002, ak_0, ak_1, ak_2, ak_3, ak_4, ak_5, ak_6, ak_7, ak_8, ak_9, ak_10, ak_11, ak_12, ak_13, ak_14, ak_15, ak_16, ak_17, ak_18, ak_19, ak_20, ak_21, ak_22, ak_23, ak_24, ak_25, ak_26, ak_27, ak_28, ak_29, ak_30, ak_31, ak_32, ak_33, ak_34, ak_35, ak_36, ak_37, ak_38, ak_39, ak_40, ak_41, ak_42, ak_43, ak_44, ak_45, ak_46, ak_47, h0, mo, q0, q1, q2, q3, z0, z1, z2, z3]
  unfold fm
  dsimp only
  (repeat' split) <;> first | rfl | omega
end
