noncomputable section
abbrev mi_X6_rowOf : Mi := (yX6_rowOf, cX6_rowOf, 2, some .int, 8)
theorem mf_X6_rowOf : am_mf mi_X6_rowOf 1 := ⟨w_co_X6_rowOf, w_in_X6, ⟨by decide +kernel, by decide +kernel⟩, by decide +kernel, by decide⟩
def tb_X6_rowOf : List (Nat × Tr) := [(0, tIld 1 1), (1, tI2l), (2, tLc 1 1), (3, tLc 6 3), (6, tCs 3 fn_X6_in), (9, tIfne 15), (12, tIc (-2) 2), (15, tAld 0 1), (16, tCv 6 0 fn_X6_layNow), (19, tAld 0 1), (20, tIld 1 1), (21, tCv 6 1 fn_X6_findRows), (24, tAld 0 1), (25, tGf 6 15)]
theorem ok_X6_rowOf : Tok mi_X6_rowOf tb_X6_rowOf :=
  Tc (sd_iload_n dX6_rowOf_0) <|
  Tc (sd_i2l dX6_rowOf_1) <|
  Tc (sd_lconst rfl dX6_rowOf_2) <|
  Tc (sd_ldc2 w_cl_X6_123 dX6_rowOf_3) <|
  Tc (sd_cs fok_X6_in mf_X6_in w_ml_X6_65 w_st_X6_in (by decide) dX6_rowOf_6) <|
  Tc (sd_if_ne (by decide) dX6_rowOf_9) <|
  Tc (sd_bipush (by decide +kernel) dX6_rowOf_12) <|
  Tc (sd_aload_n dX6_rowOf_15) <|
  Tc (sd_cv (T := TX6) fok_X6_layNow mf_X6_layNow rfl w_ml_X6_115 w_im_X6_layNow w_se_X6_layNow (by decide) dX6_rowOf_16) <|
  Tc (sd_aload_n dX6_rowOf_19) <|
  Tc (sd_iload_n dX6_rowOf_20) <|
  Tc (sd_cv (T := TX6) fok_X6_findRows mf_X6_findRows rfl w_ml_X6_171 w_im_X6_findRows w_se_X6_findRows (by decide) dX6_rowOf_21) <|
  Tc (sd_aload_n dX6_rowOf_24) <|
  Tc (sd_getf (T := TX6) rfl giX6 (by decide) w_fl_X6_158 dX6_rowOf_25) <|
  Tn
theorem rk_X6_rowOf : Rok mi_X6_rowOf rI [14, 28] := rk_i dX6_rowOf_14 <| rk_i dX6_rowOf_28 <| rk_n
def rx_X6_rowOf : Nat → Nat → AL → List AV → List AC → Option (Option AV × List AC) := am_r tb_X6_rowOf rI [14, 28]
theorem rs_X6_rowOf_0 (n : Nat) (L : AL) (st : List AV) (M : List AC) : rx_X6_rowOf (n + 1) 0 L st M = am_j (rx_X6_rowOf n) ((tIld 1 1) 0 L st M) := rfl
theorem rs_X6_rowOf_1 (n : Nat) (L : AL) (st : List AV) (M : List AC) : rx_X6_rowOf (n + 1) 1 L st M = am_j (rx_X6_rowOf n) (tI2l 1 L st M) := rfl
theorem rs_X6_rowOf_2 (n : Nat) (L : AL) (st : List AV) (M : List AC) : rx_X6_rowOf (n + 1) 2 L st M = am_j (rx_X6_rowOf n) ((tLc 1 1) 2 L st M) := rfl
theorem rs_X6_rowOf_3 (n : Nat) (L : AL) (st : List AV) (M : List AC) : rx_X6_rowOf (n + 1) 3 L st M = am_j (rx_X6_rowOf n) ((tLc 6 3) 3 L st M) := rfl
theorem rs_X6_rowOf_6 (n : Nat) (L : AL) (st : List AV) (M : List AC) : rx_X6_rowOf (n + 1) 6 L st M = am_j (rx_X6_rowOf n) ((tCs 3 fn_X6_in) 6 L st M) := rfl
theorem rs_X6_rowOf_9 (n : Nat) (L : AL) (st : List AV) (M : List AC) : rx_X6_rowOf (n + 1) 9 L st M = am_j (rx_X6_rowOf n) ((tIfne 15) 9 L st M) := rfl
theorem rs_X6_rowOf_12 (n : Nat) (L : AL) (st : List AV) (M : List AC) : rx_X6_rowOf (n + 1) 12 L st M = am_j (rx_X6_rowOf n) ((tIc (-2) 2) 12 L st M) := rfl
theorem rs_X6_rowOf_15 (n : Nat) (L : AL) (st : List AV) (M : List AC) : rx_X6_rowOf (n + 1) 15 L st M = am_j (rx_X6_rowOf n) ((tAld 0 1) 15 L st M) := rfl
theorem rs_X6_rowOf_16 (n : Nat) (L : AL) (st : List AV) (M : List AC) : rx_X6_rowOf (n + 1) 16 L st M = am_j (rx_X6_rowOf n) ((tCv 6 0 fn_X6_layNow) 16 L st M) := rfl
theorem rs_X6_rowOf_19 (n : Nat) (L : AL) (st : List AV) (M : List AC) : rx_X6_rowOf (n + 1) 19 L st M = am_j (rx_X6_rowOf n) ((tAld 0 1) 19 L st M) := rfl
theorem rs_X6_rowOf_20 (n : Nat) (L : AL) (st : List AV) (M : List AC) : rx_X6_rowOf (n + 1) 20 L st M = am_j (rx_X6_rowOf n) ((tIld 1 1) 20 L st M) := rfl
theorem rs_X6_rowOf_21 (n : Nat) (L : AL) (st : List AV) (M : List AC) : rx_X6_rowOf (n + 1) 21 L st M = am_j (rx_X6_rowOf n) ((tCv 6 1 fn_X6_findRows) 21 L st M) := rfl
theorem rs_X6_rowOf_24 (n : Nat) (L : AL) (st : List AV) (M : List AC) : rx_X6_rowOf (n + 1) 24 L st M = am_j (rx_X6_rowOf n) ((tAld 0 1) 24 L st M) := rfl
theorem rs_X6_rowOf_25 (n : Nat) (L : AL) (st : List AV) (M : List AC) : rx_X6_rowOf (n + 1) 25 L st M = am_j (rx_X6_rowOf n) ((tGf 6 15) 25 L st M) := rfl
theorem rs_X6_rowOf_14 (n : Nat) (L : AL) (st : List AV) (M : List AC) : rx_X6_rowOf (n + 1) 14 L st M = am_e rI st M := rfl
theorem rs_X6_rowOf_28 (n : Nat) (L : AL) (st : List AV) (M : List AC) : rx_X6_rowOf (n + 1) 28 L st M = am_e rI st M := rfl
theorem ri_X6_rowOf (c : Prop) [Decidable c] (p q n : Nat) (L : AL) (st : List AV) (M : List AC) : rx_X6_rowOf n (if c then p else q) L st M = if c then rx_X6_rowOf n p L st M else rx_X6_rowOf n q L st M := by split <;> rfl
theorem rm_X6_rowOf {n k pc : Nat} {L : AL} {st : List AV} {M : List AC} {x : Option AV × List AC} (h : rx_X6_rowOf n pc L st M = some x) (hk : n ≤ k) : rx_X6_rowOf k pc L st M = some x := am_r_mono n k h hk
def fn_X6_rowOf : Fn := am_fn rx_X6_rowOf 2
theorem fok_X6_rowOf : Fok mi_X6_rowOf fn_X6_rowOf := fun _ _ _ _ h => am_fok ok_X6_rowOf rk_X6_rowOf rfl h
theorem sp_X6_rowOf {M : List AC} {st lk len ac nx rf lr en lm : Int} {sd : Int64} (h0 : M[26]? = some (mo st lk len ac nx rf lr en lm sd)) {g d b s d' b' s' : F4} (h27 : M[27]? = some (aI (l4 g))) (h28 : M[28]? = some (aI (nw d b s))) (h32 : M[32]? = some (aI (l4 d'))) (h33 : M[33]? = some (aI (l4 b'))) (h34 : M[34]? = some (aI (l4 s'))) (hr : SR st g s d b) (m : Int) (hm : -2147483648 ≤ m ∧ m < 2147483648) : fn_X6_rowOf [vR 26, vI m] M = if 1 ≤ m ∧ m ≤ 6 then some (some (vI (fr0 st g s b m).2), (((M.set 26 (mo st lk len ac nx (fr0 st g s b m).1 (fr0 st g s b m).2 en lm sd)).set 32 (aI (l4 (6, 6, 6, 6)))).set 33 (aI (l4 b))).set 34 (aI (l4 s))) else some (some (vI (-2)), M) := by
  have wm : wr m = m := wr_id (by omega) (by omega)
  by_cases hM : 1 ≤ m ∧ m ≤ 6
  · rw [if_pos hM]
    have q1 := sp_X6_layNow h0 h28 h32 h33 h34
    have q2 := sp_X6_findRows (M := ((M.set 32 (aI (l4 d))).set 33 (aI (l4 b))).set 34 (aI (l4 s))) (st := st) (lk := lk) (len := len) (ac := ac) (nx := nx) (rf := rf) (lr := lr) (en := en) (lm := lm) (sd := sd) (g := g) (s := s) (d := d) (b := b) (by simp [-List.getElem?_eq_getElem, h0]) (by simp [-List.getElem?_eq_getElem, h27]) (by simp [-List.getElem?_eq_getElem, gs h32]) (by simp [-List.getElem?_eq_getElem, gs h33]) (by simp [-List.getElem?_eq_getElem, gs h34]) hr.1 hr.2.1 hr.2.2.1 hr.2.2.2.2 m (by omega)
    generalize fr0 st g s b m = q at q2 ⊢
    simp [mo, ss (i := 26) (j := 32) (by decide), ss (i := 26) (j := 33) (by decide), ss (i := 26) (j := 34) (by decide), ss (i := 32) (j := 33) (by decide), ss (i := 32) (j := 34) (by decide), ss (i := 33) (j := 34) (by decide)] at q1 q2
    (refine am_fnI (tb := tb_X6_rowOf) (n := 60) (Nat.le_of_ble_eq_true rfl) (Nat.le_of_ble_eq_true rfl) ?_; show rx_X6_rowOf 60 0 _ _ _ = _)
    simp [↓ri_X6_rowOf, rs_X6_rowOf_0, rs_X6_rowOf_1, rs_X6_rowOf_2, rs_X6_rowOf_3, rs_X6_rowOf_6, rs_X6_rowOf_9, rs_X6_rowOf_12, rs_X6_rowOf_15, rs_X6_rowOf_16, rs_X6_rowOf_19, rs_X6_rowOf_20, rs_X6_rowOf_21, rs_X6_rowOf_24, rs_X6_rowOf_25, rs_X6_rowOf_14, rs_X6_rowOf_28, -List.getElem?_eq_getElem, am_js, am_e, am_in, am_sl, rI, rZ, rV, rJ, rA, rC, kI, kJ, kR, am_one, am_nl, am_w8, tIc, tLc, tNul, tIld, tLld, tAld, tIst, tLst, tAst, tIinc, tI2, tDv, tL2, tLrem, tLs, tLcmp, tI2l, tL2i, tI2c, tDup, tDup2, tPop, tGo, tIfeq, tIfne, tIflt, tIfge, tIfgt, tIfle, tCmeq, tCmne, tCmlt, tCmge, tCmgt, tCmle, tNu, tTs, tGf, tPf, tGs, tIal, tIas, tBal, tBas, tAln, tSv, tSc, tSb, tSl, tSk, tCv, tCs, tCt, tMx, tMn, wr_10000, wr_100000, wr_1000000, wr_10000000, wr_100000000, wr_2400, wr_9999, wr_0, wr_1, wr_2, wr_3, wr_4, wr_5, wr_6, wr_7, wr_8, wr_9, wr_10, wr_11, wr_12, wr_13, wr_14, wr_15, wr_16, wr_17, wr_18, wr_19, wr_20, wr_21, wr_22, wr_23, wr_24, wr_25, wr_26, wr_27, wr_28, wr_29, wr_30, wr_31, wr_32, wr_33, wr_34, wr_35, wr_36, wr_37, wr_38, wr_39, wr_40, wr_41, wr_42, wr_43, wr_44, wr_45, wr_46, wr_47, wr_48, wr_49, wr_50, wr_51, wr_52, wr_53, wr_54, wr_55, wr_56, wr_57, wr_58, wr_59, wr_60, wr_61, wr_62, wr_63, wr_99, wr_100, wr_192, wr_255, wr_256, wr_343, wr_999, wr_1000, wr_2401, wr_2147483647, wr_65535, wr_m1, wr_m2, wr_m3, wr_m4, wr_m9, ak_1000, ak_1001, ak_1002, ak_0, ak_1, ak_2, ak_3, ak_4, ak_5, ak_6, ak_7, ak_8, ak_9, ak_10, ak_11, ak_12, ak_13, ak_14, ak_15, ak_16, ak_17, ak_18, ak_19, ak_20, ak_21, ak_22, ak_23, ak_24, ak_25, ak_26, ak_27, ak_28, ak_29, ak_30, ak_31, ak_32, ak_33, ak_34, ak_35, ak_36, ak_37, ak_38, ak_39, ak_40, ak_41, ak_42, ak_43, ak_44, ak_45, ak_46, ak_47, sp_X6_in, -Int32.toInt_ofInt, -not_and, wr_eq, jt_0, jt_1, jt_2, jt_3, jt_4, jt_5, jt_6, jt_8, jt_12, jt_30, jt_48, jt_49, jt_51, jt_57, jt_255, jt_9999, sp_X6_in, h0, mo, gs h0, wm, hM, q1, q2, ss (i := 26) (j := 32) (by decide), ss (i := 26) (j := 33) (by decide), ss (i := 26) (j := 34) (by decide), ss (i := 32) (j := 33) (by decide), ss (i := 32) (j := 34) (by decide), ss (i := 33) (j := 34) (by decide)]
  · rw [if_neg hM]
    (refine am_fnI (tb := tb_X6_rowOf) (n := 60) (Nat.le_of_ble_eq_true rfl) (Nat.le_of_ble_eq_true rfl) ?_; show rx_X6_rowOf 60 0 _ _ _ = _)
    simp [↓ri_X6_rowOf, rs_X6_rowOf_0, rs_X6_rowOf_1, rs_X6_rowOf_2, rs_X6_rowOf_3, rs_X6_rowOf_6, rs_X6_rowOf_9, rs_X6_rowOf_12, rs_X6_rowOf_15, rs_X6_rowOf_16, rs_X6_rowOf_19, rs_X6_rowOf_20, rs_X6_rowOf_21, rs_X6_rowOf_24, rs_X6_rowOf_25, rs_X6_rowOf_14, rs_X6_rowOf_28, -List.getElem?_eq_getElem, am_js, am_e, am_in, am_sl, rI, rZ, rV, rJ, rA, rC, kI, kJ, kR, am_one, am_nl, am_w8, tIc, tLc, tNul, tIld, tLld, tAld, tIst, tLst, tAst, tIinc, tI2, tDv, tL2, tLrem, tLs, tLcmp, tI2l, tL2i, tI2c, tDup, tDup2, tPop, tGo, tIfeq, tIfne, tIflt, tIfge, tIfgt, tIfle, tCmeq, tCmne, tCmlt, tCmge, tCmgt, tCmle, tNu, tTs, tGf, tPf, tGs, tIal, tIas, tBal, tBas, tAln, tSv, tSc, tSb, tSl, tSk, tCv, tCs, tCt, tMx, tMn, wr_10000, wr_100000, wr_1000000, wr_10000000, wr_100000000, wr_2400, wr_9999, wr_0, wr_1, wr_2, wr_3, wr_4, wr_5, wr_6, wr_7, wr_8, wr_9, wr_10, wr_11, wr_12, wr_13, wr_14, wr_15, wr_16, wr_17, wr_18, wr_19, wr_20, wr_21, wr_22, wr_23, wr_24, wr_25, wr_26, wr_27, wr_28, wr_29, wr_30, wr_31, wr_32, wr_33, wr_34, wr_35, wr_36, wr_37, wr_38, wr_39, wr_40, wr_41, wr_42, wr_43, wr_44, wr_45, wr_46, wr_47, wr_48, wr_49, wr_50, wr_51, wr_52, wr_53, wr_54, wr_55, wr_56, wr_57, wr_58, wr_59, wr_60, wr_61, wr_62, wr_63, wr_99, wr_100, wr_192, wr_255, wr_256, wr_343, wr_999, wr_1000, wr_2401, wr_2147483647, wr_65535, wr_m1, wr_m2, wr_m3, wr_m4, wr_m9, ak_1000, ak_1001, ak_1002, ak_0, ak_1, ak_2, ak_3, ak_4, ak_5, ak_6, ak_7, ak_8, ak_9, ak_10, ak_11, ak_12, ak_13, ak_14, ak_15, ak_16, ak_17, ak_18, ak_19, ak_20, ak_21, ak_22, ak_23, ak_24, ak_25, ak_26, ak_27, ak_28, ak_29, ak_30, ak_31, ak_32, ak_33, ak_34, ak_35, ak_36, ak_37, ak_38, ak_39, ak_40, ak_41, ak_42, ak_43, ak_44, ak_45, ak_46, ak_47, sp_X6_in, -Int32.toInt_ofInt, -not_and, wr_eq, jt_0, jt_1, jt_2, jt_3, jt_4, jt_5, jt_6, jt_8, jt_12, jt_30, jt_48, jt_49, jt_51, jt_57, jt_255, jt_9999, sp_X6_in, wm, hM]
abbrev mi_X6_rows : Mi := (yX6_rows, cX6_rows, 2, some .int, 8)
theorem mf_X6_rows : am_mf mi_X6_rows 1 := ⟨w_co_X6_rows, w_in_X6, ⟨by decide +kernel, by decide +kernel⟩, by decide +kernel, by decide⟩
def tb_X6_rows : List (Nat × Tr) := [(0, tIld 1 1), (1, tI2l), (2, tLc 1 1), (3, tLc 6 3), (6, tCs 3 fn_X6_in), (9, tIfne 15), (12, tIc (-2) 2), (15, tAld 0 1), (16, tCv 6 0 fn_X6_layNow), (19, tAld 0 1), (20, tIld 1 1), (21, tCv 6 1 fn_X6_findRows), (24, tAld 0 1), (25, tGf 6 14)]
theorem ok_X6_rows : Tok mi_X6_rows tb_X6_rows :=
  Tc (sd_iload_n dX6_rows_0) <|
  Tc (sd_i2l dX6_rows_1) <|
  Tc (sd_lconst rfl dX6_rows_2) <|
  Tc (sd_ldc2 w_cl_X6_123 dX6_rows_3) <|
  Tc (sd_cs fok_X6_in mf_X6_in w_ml_X6_65 w_st_X6_in (by decide) dX6_rows_6) <|
  Tc (sd_if_ne (by decide) dX6_rows_9) <|
  Tc (sd_bipush (by decide +kernel) dX6_rows_12) <|
  Tc (sd_aload_n dX6_rows_15) <|
  Tc (sd_cv (T := TX6) fok_X6_layNow mf_X6_layNow rfl w_ml_X6_115 w_im_X6_layNow w_se_X6_layNow (by decide) dX6_rows_16) <|
  Tc (sd_aload_n dX6_rows_19) <|
  Tc (sd_iload_n dX6_rows_20) <|
  Tc (sd_cv (T := TX6) fok_X6_findRows mf_X6_findRows rfl w_ml_X6_171 w_im_X6_findRows w_se_X6_findRows (by decide) dX6_rows_21) <|
  Tc (sd_aload_n dX6_rows_24) <|
  Tc (sd_getf (T := TX6) rfl giX6 (by decide) w_fl_X6_155 dX6_rows_25) <|
  Tn
theorem rk_X6_rows : Rok mi_X6_rows rI [14, 28] := rk_i dX6_rows_14 <| rk_i dX6_rows_28 <| rk_n
def rx_X6_rows : Nat → Nat → AL → List AV → List AC → Option (Option AV × List AC) := am_r tb_X6_rows rI [14, 28]
theorem rs_X6_rows_0 (n : Nat) (L : AL) (st : List AV) (M : List AC) : rx_X6_rows (n + 1) 0 L st M = am_j (rx_X6_rows n) ((tIld 1 1) 0 L st M) := rfl
theorem rs_X6_rows_1 (n : Nat) (L : AL) (st : List AV) (M : List AC) : rx_X6_rows (n + 1) 1 L st M = am_j (rx_X6_rows n) (tI2l 1 L st M) := rfl
theorem rs_X6_rows_2 (n : Nat) (L : AL) (st : List AV) (M : List AC) : rx_X6_rows (n + 1) 2 L st M = am_j (rx_X6_rows n) ((tLc 1 1) 2 L st M) := rfl
theorem rs_X6_rows_3 (n : Nat) (L : AL) (st : List AV) (M : List AC) : rx_X6_rows (n + 1) 3 L st M = am_j (rx_X6_rows n) ((tLc 6 3) 3 L st M) := rfl
theorem rs_X6_rows_6 (n : Nat) (L : AL) (st : List AV) (M : List AC) : rx_X6_rows (n + 1) 6 L st M = am_j (rx_X6_rows n) ((tCs 3 fn_X6_in) 6 L st M) := rfl
theorem rs_X6_rows_9 (n : Nat) (L : AL) (st : List AV) (M : List AC) : rx_X6_rows (n + 1) 9 L st M = am_j (rx_X6_rows n) ((tIfne 15) 9 L st M) := rfl
theorem rs_X6_rows_12 (n : Nat) (L : AL) (st : List AV) (M : List AC) : rx_X6_rows (n + 1) 12 L st M = am_j (rx_X6_rows n) ((tIc (-2) 2) 12 L st M) := rfl
theorem rs_X6_rows_15 (n : Nat) (L : AL) (st : List AV) (M : List AC) : rx_X6_rows (n + 1) 15 L st M = am_j (rx_X6_rows n) ((tAld 0 1) 15 L st M) := rfl
theorem rs_X6_rows_16 (n : Nat) (L : AL) (st : List AV) (M : List AC) : rx_X6_rows (n + 1) 16 L st M = am_j (rx_X6_rows n) ((tCv 6 0 fn_X6_layNow) 16 L st M) := rfl
theorem rs_X6_rows_19 (n : Nat) (L : AL) (st : List AV) (M : List AC) : rx_X6_rows (n + 1) 19 L st M = am_j (rx_X6_rows n) ((tAld 0 1) 19 L st M) := rfl
theorem rs_X6_rows_20 (n : Nat) (L : AL) (st : List AV) (M : List AC) : rx_X6_rows (n + 1) 20 L st M = am_j (rx_X6_rows n) ((tIld 1 1) 20 L st M) := rfl
theorem rs_X6_rows_21 (n : Nat) (L : AL) (st : List AV) (M : List AC) : rx_X6_rows (n + 1) 21 L st M = am_j (rx_X6_rows n) ((tCv 6 1 fn_X6_findRows) 21 L st M) := rfl
theorem rs_X6_rows_24 (n : Nat) (L : AL) (st : List AV) (M : List AC) : rx_X6_rows (n + 1) 24 L st M = am_j (rx_X6_rows n) ((tAld 0 1) 24 L st M) := rfl
theorem rs_X6_rows_25 (n : Nat) (L : AL) (st : List AV) (M : List AC) : rx_X6_rows (n + 1) 25 L st M = am_j (rx_X6_rows n) ((tGf 6 14) 25 L st M) := rfl
theorem rs_X6_rows_14 (n : Nat) (L : AL) (st : List AV) (M : List AC) : rx_X6_rows (n + 1) 14 L st M = am_e rI st M := rfl
theorem rs_X6_rows_28 (n : Nat) (L : AL) (st : List AV) (M : List AC) : rx_X6_rows (n + 1) 28 L st M = am_e rI st M := rfl
theorem ri_X6_rows (c : Prop) [Decidable c] (p q n : Nat) (L : AL) (st : List AV) (M : List AC) : rx_X6_rows n (if c then p else q) L st M = if c then rx_X6_rows n p L st M else rx_X6_rows n q L st M := by split <;> rfl
theorem rm_X6_rows {n k pc : Nat} {L : AL} {st : List AV} {M : List AC} {x : Option AV × List AC} (h : rx_X6_rows n pc L st M = some x) (hk : n ≤ k) : rx_X6_rows k pc L st M = some x := am_r_mono n k h hk
def fn_X6_rows : Fn := am_fn rx_X6_rows 2
theorem fok_X6_rows : Fok mi_X6_rows fn_X6_rows := fun _ _ _ _ h => am_fok ok_X6_rows rk_X6_rows rfl h
theorem sp_X6_rows {M : List AC} {st lk len ac nx rf lr en lm : Int} {sd : Int64} (h0 : M[26]? = some (mo st lk len ac nx rf lr en lm sd)) {g d b s d' b' s' : F4} (h27 : M[27]? = some (aI (l4 g))) (h28 : M[28]? = some (aI (nw d b s))) (h32 : M[32]? = some (aI (l4 d'))) (h33 : M[33]? = some (aI (l4 b'))) (h34 : M[34]? = some (aI (l4 s'))) (hr : SR st g s d b) (m : Int) (hm : -2147483648 ≤ m ∧ m < 2147483648) : fn_X6_rows [vR 26, vI m] M = if 1 ≤ m ∧ m ≤ 6 then some (some (vI (fr0 st g s b m).1), (((M.set 26 (mo st lk len ac nx (fr0 st g s b m).1 (fr0 st g s b m).2 en lm sd)).set 32 (aI (l4 (6, 6, 6, 6)))).set 33 (aI (l4 b))).set 34 (aI (l4 s))) else some (some (vI (-2)), M) := by
  have wm : wr m = m := wr_id (by omega) (by omega)
  by_cases hM : 1 ≤ m ∧ m ≤ 6
  · rw [if_pos hM]
    have q1 := sp_X6_layNow h0 h28 h32 h33 h34
    have q2 := sp_X6_findRows (M := ((M.set 32 (aI (l4 d))).set 33 (aI (l4 b))).set 34 (aI (l4 s))) (st := st) (lk := lk) (len := len) (ac := ac) (nx := nx) (rf := rf) (lr := lr) (en := en) (lm := lm) (sd := sd) (g := g) (s := s) (d := d) (b := b) (by simp [-List.getElem?_eq_getElem, h0]) (by simp [-List.getElem?_eq_getElem, h27]) (by simp [-List.getElem?_eq_getElem, gs h32]) (by simp [-List.getElem?_eq_getElem, gs h33]) (by simp [-List.getElem?_eq_getElem, gs h34]) hr.1 hr.2.1 hr.2.2.1 hr.2.2.2.2 m (by omega)
    generalize fr0 st g s b m = q at q2 ⊢
    simp [mo, ss (i := 26) (j := 32) (by decide), ss (i := 26) (j := 33) (by decide), ss (i := 26) (j := 34) (by decide), ss (i := 32) (j := 33) (by decide), ss (i := 32) (j := 34) (by decide), ss (i := 33) (j := 34) (by decide)] at q1 q2
    (refine am_fnI (tb := tb_X6_rows) (n := 60) (Nat.le_of_ble_eq_true rfl) (Nat.le_of_ble_eq_true rfl) ?_; show rx_X6_rows 60 0 _ _ _ = _)
    simp [↓ri_X6_rows, rs_X6_rows_0, rs_X6_rows_1, rs_X6_rows_2, rs_X6_rows_3, rs_X6_rows_6, rs_X6_rows_9, rs_X6_rows_12, rs_X6_rows_15, rs_X6_rows_16, rs_X6_rows_19, rs_X6_rows_20, rs_X6_rows_21, rs_X6_rows_24, rs_X6_rows_25, rs_X6_rows_14, rs_X6_rows_28, -List.getElem?_eq_getElem, am_js, am_e, am_in, am_sl, rI, rZ, rV, rJ, rA, rC, kI, kJ, kR, am_one, am_nl, am_w8, tIc, tLc, tNul, tIld, tLld, tAld, tIst, tLst, tAst, tIinc, tI2, tDv, tL2, tLrem, tLs, tLcmp, tI2l, tL2i, tI2c, tDup, tDup2, tPop, tGo, tIfeq, tIfne, tIflt, tIfge, tIfgt, tIfle, tCmeq, tCmne, tCmlt, tCmge, tCmgt, tCmle, tNu, tTs, tGf, tPf, tGs, tIal, tIas, tBal, tBas, tAln, tSv, tSc, tSb, tSl, tSk, tCv, tCs, tCt, tMx, tMn, wr_10000, wr_100000, wr_1000000, wr_10000000, wr_100000000, wr_2400, wr_9999, wr_0, wr_1, wr_2, wr_3, wr_4, wr_5, wr_6, wr_7, wr_8, wr_9, wr_10, wr_11, wr_12, wr_13, wr_14, wr_15, wr_16, wr_17, wr_18, wr_19, wr_20, wr_21, wr_22, wr_23, wr_24, wr_25, wr_26, wr_27, wr_28, wr_29, wr_30, wr_31, wr_32, wr_33, wr_34, wr_35, wr_36, wr_37, wr_38, wr_39, wr_40, wr_41, wr_42, wr_43, wr_44, wr_45, wr_46, wr_47, wr_48, wr_49, wr_50, wr_51, wr_52, wr_53, wr_54, wr_55, wr_56, wr_57, wr_58, wr_59, wr_60, wr_61, wr_62, wr_63, wr_99, wr_100, wr_192, wr_255, wr_256, wr_343, wr_999, wr_1000, wr_2401, wr_2147483647, wr_65535, wr_m1, wr_m2, wr_m3, wr_m4, wr_m9, ak_1000, ak_1001, ak_1002, ak_0, ak_1, ak_2, ak_3, ak_4, ak_5, ak_6, ak_7, ak_8, ak_9, ak_10, ak_11, ak_12, ak_13, ak_14, ak_15, ak_16, ak_17, ak_18, ak_19, ak_20, ak_21, ak_22, ak_23, ak_24, ak_25, ak_26, ak_27, ak_28, ak_29, ak_30, ak_31, ak_32, ak_33, ak_34, ak_35, ak_36, ak_37, ak_38, ak_39, ak_40, ak_41, ak_42, ak_43, ak_44, ak_45, ak_46, ak_47, sp_X6_in, -Int32.toInt_ofInt, -not_and, wr_eq, jt_0, jt_1, jt_2, jt_3, jt_4, jt_5, jt_6, jt_8, jt_12, jt_30, jt_48, jt_49, jt_51, jt_57, jt_255, jt_9999, sp_X6_in, h0, mo, gs h0, wm, hM, q1, q2, ss (i := 26) (j := 32) (by decide), ss (i := 26) (j := 33) (by decide), ss (i := 26) (j := 34) (by decide), ss (i := 32) (j := 33) (by decide), ss (i := 32) (j := 34) (by decide), ss (i := 33) (j := 34) (by decide)]
  · rw [if_neg hM]
    (refine am_fnI (tb := tb_X6_rows) (n := 60) (Nat.le_of_ble_eq_true rfl) (Nat.le_of_ble_eq_true rfl) ?_; show rx_X6_rows 60 0 _ _ _ = _)
    simp [↓ri_X6_rows, rs_X6_rows_0, rs_X6_rows_1, rs_X6_rows_2, rs_X6_rows_3, rs_X6_rows_6, rs_X6_rows_9, rs_X6_rows_12, rs_X6_rows_15, rs_X6_rows_16, rs_X6_rows_19, rs_X6_rows_20, rs_X6_rows_21, rs_X6_rows_24, rs_X6_rows_25, rs_X6_rows_14, rs_X6_rows_28, -List.getElem?_eq_getElem, am_js, am_e, am_in, am_sl, rI, rZ, rV, rJ, rA, rC, kI, kJ, kR, am_one, am_nl, am_w8, tIc, tLc, tNul, tIld, tLld, tAld, tIst, tLst, tAst, tIinc, tI2, tDv, tL2, tLrem, tLs, tLcmp, tI2l, tL2i, tI2c, tDup, tDup2, tPop, tGo, tIfeq, tIfne, tIflt, tIfge, tIfgt, tIfle, tCmeq, tCmne, tCmlt, tCmge, tCmgt, tCmle, tNu, tTs, tGf, tPf, tGs, tIal, tIas, tBal, tBas, tAln, tSv, tSc, tSb, tSl, tSk, tCv, tCs, tCt, tMx, tMn, wr_10000, wr_100000, wr_1000000, wr_10000000, wr_100000000, wr_2400, wr_9999, wr_0, wr_1, wr_2, wr_3, wr_4, wr_5, wr_6, wr_7, wr_8, wr_9, wr_10, wr_11, wr_12, wr_13, wr_14, wr_15, wr_16, wr_17, wr_18, wr_19, wr_20, wr_21, wr_22, wr_23, wr_24, wr_25, wr_26, wr_27, wr_28, wr_29, wr_30, wr_31, wr_32, wr_33, wr_34, wr_35, wr_36, wr_37, wr_38, wr_39, wr_40, wr_41, wr_42, wr_43, wr_44, wr_45, wr_46, wr_47, wr_48, wr_49, wr_50, wr_51, wr_52, wr_53, wr_54, wr_55, wr_56, wr_57, wr_58, wr_59, wr_60, wr_61, wr_62, wr_63, wr_99, wr_100, wr_192, wr_255, wr_256, wr_343, wr_999, wr_1000, wr_2401, wr_2147483647, wr_65535, wr_m1, wr_m2, wr_m3, wr_m4, wr_m9, ak_1000, ak_1001, ak_1002, ak_0, ak_1, ak_2, ak_3, ak_4, ak_5, ak_6, ak_7, ak_8, ak_9, ak_10, ak_11, ak_12, ak_13, ak_14, ak_15, ak_16, ak_17, ak_18, ak_19, ak_20, ak_21, ak_22, ak_23, ak_24, ak_25, ak_26, ak_27, ak_28, ak_29, ak_30, ak_31, ak_32, ak_33, ak_34, ak_35, ak_36, ak_37, ak_38, ak_39, ak_40, ak_41, ak_42, ak_43, ak_44, ak_45, ak_46, ak_47, sp_X6_in, -Int32.toInt_ofInt, -not_and, wr_eq, jt_0, jt_1, jt_2, jt_3, jt_4, jt_5, jt_6, jt_8, jt_12, jt_30, jt_48, jt_49, jt_51, jt_57, jt_255, jt_9999, sp_X6_in, wm, hM]
end
