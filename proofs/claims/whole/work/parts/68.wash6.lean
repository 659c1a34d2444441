noncomputable section
def dpx (st : Int) (g s b : F4) : Int := (dpt st g s b 6 (0, -9)).1
theorem sp_X6_deepest {M : List AC} {st lk len ac nx rf lr en lm : Int} {sd : Int64} (h0 : M[26]? = some (mo st lk len ac nx rf lr en lm sd)) {g d b s d' b' s' : F4} (h27 : M[27]? = some (aI (l4 g))) (h28 : M[28]? = some (aI (nw d b s))) (h32 : M[32]? = some (aI (l4 d'))) (h33 : M[33]? = some (aI (l4 b'))) (h34 : M[34]? = some (aI (l4 s'))) (hr : SR st g s d b) : ∃ rf' lr' : Int, fn_X6_deepest [vR 26] M = some (some (vI (dpx st g s b)), (((M.set 26 (mo st lk len ac nx rf' lr' en lm sd)).set 32 (aI (l4 (6, 6, 6, 6)))).set 33 (aI (l4 b))).set 34 (aI (l4 s))) := by
  have q1 := sp_X6_layNow h0 h28 h32 h33 h34
  obtain ⟨k, hk, h⟩ := lp_X6_deepest (lk := lk) (len := len) (ac := ac) (nx := nx) (en := en) (lm := lm) (sd := sd) hr.1 hr.2.1 hr.2.2.1 hr.2.2.2.2 6 rf lr d (((M.set 32 (aI (l4 d))).set 33 (aI (l4 b))).set 34 (aI (l4 s))) (by decide) (by simp [-List.getElem?_eq_getElem, h0, gs h0]) (by simp [-List.getElem?_eq_getElem, h27, gs h27]) (by simp [-List.getElem?_eq_getElem, h32, gs h32]) (by simp [-List.getElem?_eq_getElem, h33, gs h33]) (by simp [-List.getElem?_eq_getElem, h34, gs h34])
  rw [if_neg (by decide)] at h
  have e : (dpt st g s b 6 (rf, lr)).1 = dpx st g s b := rfl
  rw [e] at h
  generalize dpt st g s b 6 (rf, lr) = jj at h
  generalize dpx st g s b = dd at h ⊢
  refine ⟨jj.2.1, jj.2.2, ?_⟩
  simp [mo, ss (i := 26) (j := 32) (by decide), ss (i := 26) (j := 33) (by decide), ss (i := 26) (j := 34) (by decide), ss (i := 32) (j := 33) (by decide), ss (i := 32) (j := 34) (by decide), ss (i := 33) (j := 34) (by decide)] at h q1 ⊢
  (refine am_fnR (tb := tb_X6_deepest) (N := 2000) (Nat.le_of_ble_eq_true rfl) (Nat.le_of_ble_eq_true rfl) ?_; show Ru rx_X6_deepest 2000 0 _ _ _ _)
  refine ⟨k + 10, by omega, ?_⟩
  simp [↓ri_X6_deepest, rs_X6_deepest_0, rs_X6_deepest_1, rs_X6_deepest_4, rs_X6_deepest_6, rs_X6_deepest_8, rs_X6_deepest_11, rs_X6_deepest_12, rs_X6_deepest_13, rs_X6_deepest_16, rs_X6_deepest_17, rs_X6_deepest_20, rs_X6_deepest_23, rs_X6_deepest_25, rs_X6_deepest_28, rs_X6_deepest_31, rs_X6_deepest_24, rs_X6_deepest_32, -List.getElem?_eq_getElem, am_js, am_e, am_in, am_sl, rI, rZ, rV, rJ, rA, rC, kI, kJ, kR, am_one, am_nl, am_w8, tIc, tLc, tNul, tIld, tLld, tAld, tIst, tLst, tAst, tIinc, tI2, tDv, tL2, tLrem, tLs, tLcmp, tI2l, tL2i, tI2c, tDup, tDup2, tPop, tGo, tIfeq, tIfne, tIflt, tIfge, tIfgt, tIfle, tCmeq, tCmne, tCmlt, tCmge, tCmgt, tCmle, tNu, tTs, tGf, tPf, tGs, tIal, tIas, tBal, tBas, tAln, tSv, tSc, tSb, tSl, tSk, tCv, tCs, tCt, tMx, tMn, wr_10000, wr_100000, wr_1000000, wr_10000000, wr_100000000, wr_2400, wr_9999, wr_0, wr_1, wr_2, wr_3, wr_4, wr_5, wr_6, wr_7, wr_8, wr_9, wr_10, wr_11, wr_12, wr_13, wr_14, wr_15, wr_16, wr_17, wr_18, wr_19, wr_20, wr_21, wr_22, wr_23, wr_24, wr_25, wr_26, wr_27, wr_28, wr_29, wr_30, wr_31, wr_32, wr_33, wr_34, wr_35, wr_36, wr_37, wr_38, wr_39, wr_40, wr_41, wr_42, wr_43, wr_44, wr_45, wr_46, wr_47, wr_48, wr_49, wr_50, wr_51, wr_52, wr_53, wr_54, wr_55, wr_56, wr_57, wr_58, wr_59, wr_60, wr_61, wr_62, wr_63, wr_99, wr_100, wr_192, wr_255, wr_256, wr_343, wr_999, wr_1000, wr_2401, wr_2147483647, wr_65535, wr_m1, wr_m2, wr_m3, wr_m4, wr_m9, ak_1000, ak_1001, ak_1002, ak_0, ak_1, ak_2, ak_3, ak_4, ak_5, ak_6, ak_7, ak_8, ak_9, ak_10, ak_11, ak_12, ak_13, ak_14, ak_15, ak_16, ak_17, ak_18, ak_19, ak_20, ak_21, ak_22, ak_23, ak_24, ak_25, ak_26, ak_27, ak_28, ak_29, ak_30, ak_31, ak_32, ak_33, ak_34, ak_35, ak_36, ak_37, ak_38, ak_39, ak_40, ak_41, ak_42, ak_43, ak_44, ak_45, ak_46, ak_47, h0, mo, q1]
  exact rm_X6_deepest h (by omega)
/-- after how many washings there is no row of m -/
def wsh (st : Int) (g b : F4) (m : Int) : Nat → Int → F4 → Int
  | 0, _, _ => -9
  | n + 1, t, s => if (fr0 st g s b m).1 = 0 then t else wsh st g b m n (t + 1) (wz4 s)
abbrev mi_X6_washes : Mi := (yX6_washes, cX6_washes, 4, some .int, 8)
theorem mf_X6_washes : am_mf mi_X6_washes 1 := ⟨w_co_X6_washes, w_in_X6, ⟨by decide +kernel, by decide +kernel⟩, by decide +kernel, by decide⟩
def tb_X6_washes : List (Nat × Tr) := [(0, tIld 1 1), (1, tI2l), (2, tLc 1 1), (3, tLc 6 3), (6, tCs 3 fn_X6_in), (9, tIfne 15), (12, tIc (-2) 2), (15, tAld 0 1), (16, tCv 6 0 fn_X6_layNow), (19, tIc 0 1), (20, tIst 2 1), (21, tIld 2 1), (22, tIc 10 2), (24, tCmge 83), (27, tAld 0 1), (28, tIld 1 1), (29, tCv 6 1 fn_X6_findRows), (32, tAld 0 1), (33, tGf 6 14), (36, tIfne 41), (39, tIld 2 1), (41, tIc 0 1), (42, tIst 3 1), (43, tIld 3 1), (44, tIc 4 1), (45, tCmge 77), (48, tAld 0 1), (49, tGf 6 10), (52, tIld 3 1), (53, tDup2), (54, tIal), (55, tAld 0 1), (56, tGf 6 10), (59, tIld 3 1), (60, tIal), (61, tIfle 68), (64, tIc 1 1), (65, tGo 69), (68, tIc 0 1), (69, tI2 (fun a b => a - b)), (70, tIas), (71, tIinc 3 1), (74, tGo 43), (77, tIinc 2 1), (80, tGo 21), (83, tIc (-9) 2)]
theorem ok_X6_washes : Tok mi_X6_washes tb_X6_washes :=
  Tc (sd_iload_n dX6_washes_0) <|
  Tc (sd_i2l dX6_washes_1) <|
  Tc (sd_lconst rfl dX6_washes_2) <|
  Tc (sd_ldc2 w_cl_X6_123 dX6_washes_3) <|
  Tc (sd_cs fok_X6_in mf_X6_in w_ml_X6_65 w_st_X6_in (by decide) dX6_washes_6) <|
  Tc (sd_if_ne (by decide) dX6_washes_9) <|
  Tc (sd_bipush (by decide +kernel) dX6_washes_12) <|
  Tc (sd_aload_n dX6_washes_15) <|
  Tc (sd_cv (T := TX6) fok_X6_layNow mf_X6_layNow rfl w_ml_X6_115 w_im_X6_layNow w_se_X6_layNow (by decide) dX6_washes_16) <|
  Tc (sd_iconst rfl dX6_washes_19) <|
  Tc (sd_istore_n dX6_washes_20) <|
  Tc (sd_iload_n dX6_washes_21) <|
  Tc (sd_bipush (by decide +kernel) dX6_washes_22) <|
  Tc (sd_cm_ge (by decide) dX6_washes_24) <|
  Tc (sd_aload_n dX6_washes_27) <|
  Tc (sd_iload_n dX6_washes_28) <|
  Tc (sd_cv (T := TX6) fok_X6_findRows mf_X6_findRows rfl w_ml_X6_171 w_im_X6_findRows w_se_X6_findRows (by decide) dX6_washes_29) <|
  Tc (sd_aload_n dX6_washes_32) <|
  Tc (sd_getf (T := TX6) rfl giX6 (by decide) w_fl_X6_155 dX6_washes_33) <|
  Tc (sd_if_ne (by decide) dX6_washes_36) <|
  Tc (sd_iload_n dX6_washes_39) <|
  Tc (sd_iconst rfl dX6_washes_41) <|
  Tc (sd_istore_n dX6_washes_42) <|
  Tc (sd_iload_n dX6_washes_43) <|
  Tc (sd_iconst rfl dX6_washes_44) <|
  Tc (sd_cm_ge (by decide) dX6_washes_45) <|
  Tc (sd_aload_n dX6_washes_48) <|
  Tc (sd_getf (T := TX6) rfl giX6 (by decide) w_fl_X6_31 dX6_washes_49) <|
  Tc (sd_iload_n dX6_washes_52) <|
  Tc (sd_dup2 dX6_washes_53) <|
  Tc (sd_ial dX6_washes_54) <|
  Tc (sd_aload_n dX6_washes_55) <|
  Tc (sd_getf (T := TX6) rfl giX6 (by decide) w_fl_X6_31 dX6_washes_56) <|
  Tc (sd_iload_n dX6_washes_59) <|
  Tc (sd_ial dX6_washes_60) <|
  Tc (sd_if_le (by decide) dX6_washes_61) <|
  Tc (sd_iconst rfl dX6_washes_64) <|
  Tc (sd_goto (by decide) dX6_washes_65) <|
  Tc (sd_iconst rfl dX6_washes_68) <|
  Tc (sd_isub dX6_washes_69) <|
  Tc (sd_ias dX6_washes_70) <|
  Tc (sd_iinc dX6_washes_71) <|
  Tc (sd_goto (by decide) dX6_washes_74) <|
  Tc (sd_iinc dX6_washes_77) <|
  Tc (sd_goto (by decide) dX6_washes_80) <|
  Tc (sd_bipush (by decide +kernel) dX6_washes_83) <|
  Tn
theorem rk_X6_washes : Rok mi_X6_washes rI [14, 40, 85] := rk_i dX6_washes_14 <| rk_i dX6_washes_40 <| rk_i dX6_washes_85 <| rk_n
def rx_X6_washes : Nat → Nat → AL → List AV → List AC → Option (Option AV × List AC) := am_r tb_X6_washes rI [14, 40, 85]
theorem rs_X6_washes_0 (n : Nat) (L : AL) (st : List AV) (M : List AC) : rx_X6_washes (n + 1) 0 L st M = am_j (rx_X6_washes n) ((tIld 1 1) 0 L st M) := rfl
theorem rs_X6_washes_1 (n : Nat) (L : AL) (st : List AV) (M : List AC) : rx_X6_washes (n + 1) 1 L st M = am_j (rx_X6_washes n) (tI2l 1 L st M) := rfl
theorem rs_X6_washes_2 (n : Nat) (L : AL) (st : List AV) (M : List AC) : rx_X6_washes (n + 1) 2 L st M = am_j (rx_X6_washes n) ((tLc 1 1) 2 L st M) := rfl
theorem rs_X6_washes_3 (n : Nat) (L : AL) (st : List AV) (M : List AC) : rx_X6_washes (n + 1) 3 L st M = am_j (rx_X6_washes n) ((tLc 6 3) 3 L st M) := rfl
theorem rs_X6_washes_6 (n : Nat) (L : AL) (st : List AV) (M : List AC) : rx_X6_washes (n + 1) 6 L st M = am_j (rx_X6_washes n) ((tCs 3 fn_X6_in) 6 L st M) := rfl
theorem rs_X6_washes_9 (n : Nat) (L : AL) (st : List AV) (M : List AC) : rx_X6_washes (n + 1) 9 L st M = am_j (rx_X6_washes n) ((tIfne 15) 9 L st M) := rfl
theorem rs_X6_washes_12 (n : Nat) (L : AL) (st : List AV) (M : List AC) : rx_X6_washes (n + 1) 12 L st M = am_j (rx_X6_washes n) ((tIc (-2) 2) 12 L st M) := rfl
theorem rs_X6_washes_15 (n : Nat) (L : AL) (st : List AV) (M : List AC) : rx_X6_washes (n + 1) 15 L st M = am_j (rx_X6_washes n) ((tAld 0 1) 15 L st M) := rfl
theorem rs_X6_washes_16 (n : Nat) (L : AL) (st : List AV) (M : List AC) : rx_X6_washes (n + 1) 16 L st M = am_j (rx_X6_washes n) ((tCv 6 0 fn_X6_layNow) 16 L st M) := rfl
theorem rs_X6_washes_19 (n : Nat) (L : AL) (st : List AV) (M : List AC) : rx_X6_washes (n + 1) 19 L st M = am_j (rx_X6_washes n) ((tIc 0 1) 19 L st M) := rfl
theorem rs_X6_washes_20 (n : Nat) (L : AL) (st : List AV) (M : List AC) : rx_X6_washes (n + 1) 20 L st M = am_j (rx_X6_washes n) ((tIst 2 1) 20 L st M) := rfl
theorem rs_X6_washes_21 (n : Nat) (L : AL) (st : List AV) (M : List AC) : rx_X6_washes (n + 1) 21 L st M = am_j (rx_X6_washes n) ((tIld 2 1) 21 L st M) := rfl
theorem rs_X6_washes_22 (n : Nat) (L : AL) (st : List AV) (M : List AC) : rx_X6_washes (n + 1) 22 L st M = am_j (rx_X6_washes n) ((tIc 10 2) 22 L st M) := rfl
theorem rs_X6_washes_24 (n : Nat) (L : AL) (st : List AV) (M : List AC) : rx_X6_washes (n + 1) 24 L st M = am_j (rx_X6_washes n) ((tCmge 83) 24 L st M) := rfl
theorem rs_X6_washes_27 (n : Nat) (L : AL) (st : List AV) (M : List AC) : rx_X6_washes (n + 1) 27 L st M = am_j (rx_X6_washes n) ((tAld 0 1) 27 L st M) := rfl
theorem rs_X6_washes_28 (n : Nat) (L : AL) (st : List AV) (M : List AC) : rx_X6_washes (n + 1) 28 L st M = am_j (rx_X6_washes n) ((tIld 1 1) 28 L st M) := rfl
theorem rs_X6_washes_29 (n : Nat) (L : AL) (st : List AV) (M : List AC) : rx_X6_washes (n + 1) 29 L st M = am_j (rx_X6_washes n) ((tCv 6 1 fn_X6_findRows) 29 L st M) := rfl
theorem rs_X6_washes_32 (n : Nat) (L : AL) (st : List AV) (M : List AC) : rx_X6_washes (n + 1) 32 L st M = am_j (rx_X6_washes n) ((tAld 0 1) 32 L st M) := rfl
theorem rs_X6_washes_33 (n : Nat) (L : AL) (st : List AV) (M : List AC) : rx_X6_washes (n + 1) 33 L st M = am_j (rx_X6_washes n) ((tGf 6 14) 33 L st M) := rfl
theorem rs_X6_washes_36 (n : Nat) (L : AL) (st : List AV) (M : List AC) : rx_X6_washes (n + 1) 36 L st M = am_j (rx_X6_washes n) ((tIfne 41) 36 L st M) := rfl
theorem rs_X6_washes_39 (n : Nat) (L : AL) (st : List AV) (M : List AC) : rx_X6_washes (n + 1) 39 L st M = am_j (rx_X6_washes n) ((tIld 2 1) 39 L st M) := rfl
theorem rs_X6_washes_41 (n : Nat) (L : AL) (st : List AV) (M : List AC) : rx_X6_washes (n + 1) 41 L st M = am_j (rx_X6_washes n) ((tIc 0 1) 41 L st M) := rfl
theorem rs_X6_washes_42 (n : Nat) (L : AL) (st : List AV) (M : List AC) : rx_X6_washes (n + 1) 42 L st M = am_j (rx_X6_washes n) ((tIst 3 1) 42 L st M) := rfl
theorem rs_X6_washes_43 (n : Nat) (L : AL) (st : List AV) (M : List AC) : rx_X6_washes (n + 1) 43 L st M = am_j (rx_X6_washes n) ((tIld 3 1) 43 L st M) := rfl
theorem rs_X6_washes_44 (n : Nat) (L : AL) (st : List AV) (M : List AC) : rx_X6_washes (n + 1) 44 L st M = am_j (rx_X6_washes n) ((tIc 4 1) 44 L st M) := rfl
theorem rs_X6_washes_45 (n : Nat) (L : AL) (st : List AV) (M : List AC) : rx_X6_washes (n + 1) 45 L st M = am_j (rx_X6_washes n) ((tCmge 77) 45 L st M) := rfl
theorem rs_X6_washes_48 (n : Nat) (L : AL) (st : List AV) (M : List AC) : rx_X6_washes (n + 1) 48 L st M = am_j (rx_X6_washes n) ((tAld 0 1) 48 L st M) := rfl
theorem rs_X6_washes_49 (n : Nat) (L : AL) (st : List AV) (M : List AC) : rx_X6_washes (n + 1) 49 L st M = am_j (rx_X6_washes n) ((tGf 6 10) 49 L st M) := rfl
theorem rs_X6_washes_52 (n : Nat) (L : AL) (st : List AV) (M : List AC) : rx_X6_washes (n + 1) 52 L st M = am_j (rx_X6_washes n) ((tIld 3 1) 52 L st M) := rfl
theorem rs_X6_washes_53 (n : Nat) (L : AL) (st : List AV) (M : List AC) : rx_X6_washes (n + 1) 53 L st M = am_j (rx_X6_washes n) (tDup2 53 L st M) := rfl
theorem rs_X6_washes_54 (n : Nat) (L : AL) (st : List AV) (M : List AC) : rx_X6_washes (n + 1) 54 L st M = am_j (rx_X6_washes n) (tIal 54 L st M) := rfl
theorem rs_X6_washes_55 (n : Nat) (L : AL) (st : List AV) (M : List AC) : rx_X6_washes (n + 1) 55 L st M = am_j (rx_X6_washes n) ((tAld 0 1) 55 L st M) := rfl
theorem rs_X6_washes_56 (n : Nat) (L : AL) (st : List AV) (M : List AC) : rx_X6_washes (n + 1) 56 L st M = am_j (rx_X6_washes n) ((tGf 6 10) 56 L st M) := rfl
theorem rs_X6_washes_59 (n : Nat) (L : AL) (st : List AV) (M : List AC) : rx_X6_washes (n + 1) 59 L st M = am_j (rx_X6_washes n) ((tIld 3 1) 59 L st M) := rfl
theorem rs_X6_washes_60 (n : Nat) (L : AL) (st : List AV) (M : List AC) : rx_X6_washes (n + 1) 60 L st M = am_j (rx_X6_washes n) (tIal 60 L st M) := rfl
theorem rs_X6_washes_61 (n : Nat) (L : AL) (st : List AV) (M : List AC) : rx_X6_washes (n + 1) 61 L st M = am_j (rx_X6_washes n) ((tIfle 68) 61 L st M) := rfl
theorem rs_X6_washes_64 (n : Nat) (L : AL) (st : List AV) (M : List AC) : rx_X6_washes (n + 1) 64 L st M = am_j (rx_X6_washes n) ((tIc 1 1) 64 L st M) := rfl
theorem rs_X6_washes_65 (n : Nat) (L : AL) (st : List AV) (M : List AC) : rx_X6_washes (n + 1) 65 L st M = am_j (rx_X6_washes n) ((tGo 69) 65 L st M) := rfl
theorem rs_X6_washes_68 (n : Nat) (L : AL) (st : List AV) (M : List AC) : rx_X6_washes (n + 1) 68 L st M = am_j (rx_X6_washes n) ((tIc 0 1) 68 L st M) := rfl
theorem rs_X6_washes_69 (n : Nat) (L : AL) (st : List AV) (M : List AC) : rx_X6_washes (n + 1) 69 L st M = am_j (rx_X6_washes n) ((tI2 (fun a b => a - b)) 69 L st M) := rfl
theorem rs_X6_washes_70 (n : Nat) (L : AL) (st : List AV) (M : List AC) : rx_X6_washes (n + 1) 70 L st M = am_j (rx_X6_washes n) (tIas 70 L st M) := rfl
theorem rs_X6_washes_71 (n : Nat) (L : AL) (st : List AV) (M : List AC) : rx_X6_washes (n + 1) 71 L st M = am_j (rx_X6_washes n) ((tIinc 3 1) 71 L st M) := rfl
theorem rs_X6_washes_74 (n : Nat) (L : AL) (st : List AV) (M : List AC) : rx_X6_washes (n + 1) 74 L st M = am_j (rx_X6_washes n) ((tGo 43) 74 L st M) := rfl
theorem rs_X6_washes_77 (n : Nat) (L : AL) (st : List AV) (M : List AC) : rx_X6_washes (n + 1) 77 L st M = am_j (rx_X6_washes n) ((tIinc 2 1) 77 L st M) := rfl
theorem rs_X6_washes_80 (n : Nat) (L : AL) (st : List AV) (M : List AC) : rx_X6_washes (n + 1) 80 L st M = am_j (rx_X6_washes n) ((tGo 21) 80 L st M) := rfl
theorem rs_X6_washes_83 (n : Nat) (L : AL) (st : List AV) (M : List AC) : rx_X6_washes (n + 1) 83 L st M = am_j (rx_X6_washes n) ((tIc (-9) 2) 83 L st M) := rfl
theorem rs_X6_washes_14 (n : Nat) (L : AL) (st : List AV) (M : List AC) : rx_X6_washes (n + 1) 14 L st M = am_e rI st M := rfl
theorem rs_X6_washes_40 (n : Nat) (L : AL) (st : List AV) (M : List AC) : rx_X6_washes (n + 1) 40 L st M = am_e rI st M := rfl
theorem rs_X6_washes_85 (n : Nat) (L : AL) (st : List AV) (M : List AC) : rx_X6_washes (n + 1) 85 L st M = am_e rI st M := rfl
theorem ri_X6_washes (c : Prop) [Decidable c] (p q n : Nat) (L : AL) (st : List AV) (M : List AC) : rx_X6_washes n (if c then p else q) L st M = if c then rx_X6_washes n p L st M else rx_X6_washes n q L st M := by split <;> rfl
theorem rm_X6_washes {n k pc : Nat} {L : AL} {st : List AV} {M : List AC} {x : Option AV × List AC} (h : rx_X6_washes n pc L st M = some x) (hk : n ≤ k) : rx_X6_washes k pc L st M = some x := am_r_mono n k h hk
def fn_X6_washes : Fn := am_fn rx_X6_washes 4
theorem fok_X6_washes : Fok mi_X6_washes fn_X6_washes := fun _ _ _ _ h => am_fok ok_X6_washes rk_X6_washes rfl h
theorem lp_X6_washes {st lk len ac nx en lm m : Int} {sd : Int64} {g b : F4} (hst : 1 ≤ st ∧ st ≤ 3) (hg : i4 1 9 g) (hb : i4 0 3 b) (hm : 1 ≤ m ∧ m ≤ 6) : ∀ (n : Nat) (t : Int) (s : F4) (rf lr : Int) (d : F4) (M : List AC) (x3 : Option AV), i4 0 9 s → M[26]? = some (mo st lk len ac nx rf lr en lm sd) → M[27]? = some (aI (l4 g)) → M[32]? = some (aI (l4 d)) → M[33]? = some (aI (l4 b)) → M[34]? = some (aI (l4 s)) → t + n = 10 → 0 ≤ t →
    ∃ (rf' lr' : Int) (d' s' : F4), Ru rx_X6_washes (150 * n + 10) 21 [some (vR 26), some (vI m), some (vI t), x3] [] M (some (vI (wsh st g b m n t s)), ((M.set 26 (mo st lk len ac nx rf' lr' en lm sd)).set 32 (aI (l4 d'))).set 34 (aI (l4 s')))
  | 0, t, s, rf, lr, d, M, x3, hs9, h0, h27, h32, h33, h34, ht, ht0 => by
    have e : t = 10 := by omega
    subst e
    refine ⟨rf, lr, d, s, 9 + 1, by omega, ?_⟩
    rw [rs_X6_washes_21, set_same h0, set_same h32, set_same h34]
    simp only [wsh]
    simp [↓ri_X6_washes, rs_X6_washes_0, rs_X6_washes_1, rs_X6_washes_2, rs_X6_washes_3, rs_X6_washes_6, rs_X6_washes_9, rs_X6_washes_12, rs_X6_washes_15, rs_X6_washes_16, rs_X6_washes_19, rs_X6_washes_20, rs_X6_washes_22, rs_X6_washes_24, rs_X6_washes_27, rs_X6_washes_28, rs_X6_washes_29, rs_X6_washes_32, rs_X6_washes_33, rs_X6_washes_36, rs_X6_washes_39, rs_X6_washes_41, rs_X6_washes_42, rs_X6_washes_43, rs_X6_washes_44, rs_X6_washes_45, rs_X6_washes_48, rs_X6_washes_49, rs_X6_washes_52, rs_X6_washes_53, rs_X6_washes_54, rs_X6_washes_55, rs_X6_washes_56, rs_X6_washes_59, rs_X6_washes_60, rs_X6_washes_61, rs_X6_washes_64, rs_X6_washes_65, rs_X6_washes_68, rs_X6_washes_69, rs_X6_washes_70, rs_X6_washes_71, rs_X6_washes_74, rs_X6_washes_77, rs_X6_washes_80, rs_X6_washes_83, rs_X6_washes_14, rs_X6_washes_40, rs_X6_washes_85, -List.getElem?_eq_getElem, am_js, am_e, am_in, am_sl, rI, rZ, rV, rJ, rA, rC, kI, kJ, kR, am_one, am_nl, am_w8, tIc, tLc, tNul, tIld, tLld, tAld, tIst, tLst, tAst, tIinc, tI2, tDv, tL2, tLrem, tLs, tLcmp, tI2l, tL2i, tI2c, tDup, tDup2, tPop, tGo, tIfeq, tIfne, tIflt, tIfge, tIfgt, tIfle, tCmeq, tCmne, tCmlt, tCmge, tCmgt, tCmle, tNu, tTs, tGf, tPf, tGs, tIal, tIas, tBal, tBas, tAln, tSv, tSc, tSb, tSl, tSk, tCv, tCs, tCt, tMx, tMn, wr_10000, wr_100000, wr_1000000, wr_10000000, wr_100000000, wr_2400, wr_9999, wr_0, wr_1, wr_2, wr_3, wr_4, wr_5, wr_6, wr_7, wr_8, wr_9, wr_10, wr_11, wr_12, wr_13, wr_14, wr_15, wr_16, wr_17, wr_18, wr_19, wr_20, wr_21, wr_22, wr_23, wr_24, wr_25, wr_26, wr_27, wr_28, wr_29, wr_30, wr_31, wr_32, wr_33, wr_34, wr_35, wr_36, wr_37, wr_38, wr_39, wr_40, wr_41, wr_42, wr_43, wr_44, wr_45, wr_46, wr_47, wr_48, wr_49, wr_50, wr_51, wr_52, wr_53, wr_54, wr_55, wr_56, wr_57, wr_58, wr_59, wr_60, wr_61, wr_62, wr_63, wr_99, wr_100, wr_192, wr_255, wr_256, wr_343, wr_999, wr_1000, wr_2401, wr_2147483647, wr_65535, wr_m1, wr_m2, wr_m3, wr_m4, wr_m9, ak_1000, ak_1001, ak_1002, ak_0, ak_1, ak_2, ak_3, ak_4, ak_5, ak_6, ak_7, ak_8, ak_9, ak_10, ak_11, ak_12, ak_13, ak_14, ak_15, ak_16, ak_17, ak_18, ak_19, ak_20, ak_21, ak_22, ak_23, ak_24, ak_25, ak_26, ak_27, ak_28, ak_29, ak_30, ak_31, ak_32, ak_33, ak_34, ak_35, ak_36, ak_37, ak_38, ak_39, ak_40, ak_41, ak_42, ak_43, ak_44, ak_45, ak_46, ak_47]
  | n + 1, t, s, rf, lr, d, M, x3, hs9, h0, h27, h32, h33, h34, ht, ht0 => by
    have wt : wr t = t := wr_id (by omega) (by omega)
    have nt : ¬ 10 ≤ t := by omega
    have q2 := sp_X6_findRows h0 h27 h32 h33 h34 hst hg hs9 hb m (by omega)
    have r2 := fr0_rng st g s b m
    rw [wsh]
    generalize fr0 st g s b m = q at q2 r2 ⊢
    have wq : wr q.1 = q.1 := wr_id (by omega) (by omega)
    by_cases hz : q.1 = 0
    · rw [if_pos hz]
      refine ⟨q.1, q.2, (6, 6, 6, 6), s, 39 + 1, by omega, ?_⟩
      rw [rs_X6_washes_21, set_same (M := (M.set 26 (mo st lk len ac nx q.1 q.2 en lm sd)).set 32 (aI (l4 (6, 6, 6, 6)))) (i := 34) (c := aI (l4 s)) (by simp [-List.getElem?_eq_getElem, h34, gs h34])]
      simp only [mo] at q2 ⊢
      simp [↓ri_X6_washes, rs_X6_washes_0, rs_X6_washes_1, rs_X6_washes_2, rs_X6_washes_3, rs_X6_washes_6, rs_X6_washes_9, rs_X6_washes_12, rs_X6_washes_15, rs_X6_washes_16, rs_X6_washes_19, rs_X6_washes_20, rs_X6_washes_22, rs_X6_washes_24, rs_X6_washes_27, rs_X6_washes_28, rs_X6_washes_29, rs_X6_washes_32, rs_X6_washes_33, rs_X6_washes_36, rs_X6_washes_39, rs_X6_washes_41, rs_X6_washes_42, rs_X6_washes_43, rs_X6_washes_44, rs_X6_washes_45, rs_X6_washes_48, rs_X6_washes_49, rs_X6_washes_52, rs_X6_washes_53, rs_X6_washes_54, rs_X6_washes_55, rs_X6_washes_56, rs_X6_washes_59, rs_X6_washes_60, rs_X6_washes_61, rs_X6_washes_64, rs_X6_washes_65, rs_X6_washes_68, rs_X6_washes_69, rs_X6_washes_70, rs_X6_washes_71, rs_X6_washes_74, rs_X6_washes_77, rs_X6_washes_80, rs_X6_washes_83, rs_X6_washes_14, rs_X6_washes_40, rs_X6_washes_85, -List.getElem?_eq_getElem, am_js, am_e, am_in, am_sl, rI, rZ, rV, rJ, rA, rC, kI, kJ, kR, am_one, am_nl, am_w8, tIc, tLc, tNul, tIld, tLld, tAld, tIst, tLst, tAst, tIinc, tI2, tDv, tL2, tLrem, tLs, tLcmp, tI2l, tL2i, tI2c, tDup, tDup2, tPop, tGo, tIfeq, tIfne, tIflt, tIfge, tIfgt, tIfle, tCmeq, tCmne, tCmlt, tCmge, tCmgt, tCmle, tNu, tTs, tGf, tPf, tGs, tIal, tIas, tBal, tBas, tAln, tSv, tSc, tSb, tSl, tSk, tCv, tCs, tCt, tMx, tMn, wr_10000, wr_100000, wr_1000000, wr_10000000, wr_100000000, wr_2400, wr_9999, wr_0, wr_1, wr_2, wr_3, wr_4, wr_5, wr_6, wr_7, wr_8, wr_9, wr_10, wr_11, wr_12, wr_13, wr_14, wr_15, wr_16, wr_17, wr_18, wr_19, wr_20, wr_21, wr_22, wr_23, wr_24, wr_25, wr_26, wr_27, wr_28, wr_29, wr_30, wr_31, wr_32, wr_33, wr_34, wr_35, wr_36, wr_37, wr_38, wr_39, wr_40, wr_41, wr_42, wr_43, wr_44, wr_45, wr_46, wr_47, wr_48, wr_49, wr_50, wr_51, wr_52, wr_53, wr_54, wr_55, wr_56, wr_57, wr_58, wr_59, wr_60, wr_61, wr_62, wr_63, wr_99, wr_100, wr_192, wr_255, wr_256, wr_343, wr_999, wr_1000, wr_2401, wr_2147483647, wr_65535, wr_m1, wr_m2, wr_m3, wr_m4, wr_m9, ak_1000, ak_1001, ak_1002, ak_0, ak_1, ak_2, ak_3, ak_4, ak_5, ak_6, ak_7, ak_8, ak_9, ak_10, ak_11, ak_12, ak_13, ak_14, ak_15, ak_16, ak_17, ak_18, ak_19, ak_20, ak_21, ak_22, ak_23, ak_24, ak_25, ak_26, ak_27, ak_28, ak_29, ak_30, ak_31, ak_32, ak_33, ak_34, ak_35, ak_36, ak_37, ak_38, ak_39, ak_40, ak_41, ak_42, ak_43, ak_44, ak_45, ak_46, ak_47, h0, mo, wt, nt, q2, gs h0, wq, hz]
    · rw [if_neg hz]
      obtain ⟨rf', lr', d', s', ih⟩ := lp_X6_washes (lk := lk) (len := len) (ac := ac) (nx := nx) (en := en) (lm := lm) (sd := sd) hst hg hb hm n (t + 1) (wz4 s) q.1 q.2 (6, 6, 6, 6) (((M.set 26 (mo st lk len ac nx q.1 q.2 en lm sd)).set 32 (aI (l4 (6, 6, 6, 6)))).set 34 (aI (l4 (wz4 s)))) (some (vI 4)) (wz4_rng hs9) (by simp [-List.getElem?_eq_getElem, h0, gs h0]) (by simp [-List.getElem?_eq_getElem, h27, gs h27]) (by simp [-List.getElem?_eq_getElem, h32, gs h32]) (by simp [-List.getElem?_eq_getElem, h33, gs h33]) (by simp [-List.getElem?_eq_getElem, h34, gs h34]) (by omega) (by omega)
      obtain ⟨k, hk, h⟩ := ih
      refine ⟨rf', lr', d', s', k + 149 + 1, by omega, ?_⟩
      rw [rs_X6_washes_21]
      generalize wsh st g b m n (t + 1) (wz4 s) = W at h ⊢
      obtain ⟨ws0, ws1, ws2, ws3⟩ := i4_wr hs9 (by decide) (by decide)
      obtain ⟨⟨r0, -⟩, ⟨r1, -⟩, ⟨r3, -⟩, r4, -⟩ := hs9
      simp [mo, ss (i := 26) (j := 32) (by decide), ss (i := 26) (j := 34) (by decide), ss (i := 32) (j := 34) (by decide)] at h q2 ⊢
      rcases ps s.1 with ⟨a0, b0⟩ | ⟨a0, b0⟩ <;> rcases ps s.2.1 with ⟨a1, b1⟩ | ⟨a1, b1⟩ <;> rcases ps s.2.2.1 with ⟨a2, b2⟩ | ⟨a2, b2⟩ <;> rcases ps s.2.2.2 with ⟨a3, b3⟩ | ⟨a3, b3⟩ <;>
      simp [wz4, a0, a1, a2, a3, b0, b1, b2, b3, r0, r1, r3, r4, wz_s, wz_n] at h <;>
      simp [↓ri_X6_washes, rs_X6_washes_0, rs_X6_washes_1, rs_X6_washes_2, rs_X6_washes_3, rs_X6_washes_6, rs_X6_washes_9, rs_X6_washes_12, rs_X6_washes_15, rs_X6_washes_16, rs_X6_washes_19, rs_X6_washes_20, rs_X6_washes_22, rs_X6_washes_24, rs_X6_washes_27, rs_X6_washes_28, rs_X6_washes_29, rs_X6_washes_32, rs_X6_washes_33, rs_X6_washes_36, rs_X6_washes_39, rs_X6_washes_41, rs_X6_washes_42, rs_X6_washes_43, rs_X6_washes_44, rs_X6_washes_45, rs_X6_washes_48, rs_X6_washes_49, rs_X6_washes_52, rs_X6_washes_53, rs_X6_washes_54, rs_X6_washes_55, rs_X6_washes_56, rs_X6_washes_59, rs_X6_washes_60, rs_X6_washes_61, rs_X6_washes_64, rs_X6_washes_65, rs_X6_washes_68, rs_X6_washes_69, rs_X6_washes_70, rs_X6_washes_71, rs_X6_washes_74, rs_X6_washes_77, rs_X6_washes_80, rs_X6_washes_83, rs_X6_washes_14, rs_X6_washes_40, rs_X6_washes_85, -List.getElem?_eq_getElem, am_js, am_e, am_in, am_sl, rI, rZ, rV, rJ, rA, rC, kI, kJ, kR, am_one, am_nl, am_w8, tIc, tLc, tNul, tIld, tLld, tAld, tIst, tLst, tAst, tIinc, tI2, tDv, tL2, tLrem, tLs, tLcmp, tI2l, tL2i, tI2c, tDup, tDup2, tPop, tGo, tIfeq, tIfne, tIflt, tIfge, tIfgt, tIfle, tCmeq, tCmne, tCmlt, tCmge, tCmgt, tCmle, tNu, tTs, tGf, tPf, tGs, tIal, tIas, tBal, tBas, tAln, tSv, tSc, tSb, tSl, tSk, tCv, tCs, tCt, tMx, tMn, wr_10000, wr_100000, wr_1000000, wr_10000000, wr_100000000, wr_2400, wr_9999, wr_0, wr_1, wr_2, wr_3, wr_4, wr_5, wr_6, wr_7, wr_8, wr_9, wr_10, wr_11, wr_12, wr_13, wr_14, wr_15, wr_16, wr_17, wr_18, wr_19, wr_20, wr_21, wr_22, wr_23, wr_24, wr_25, wr_26, wr_27, wr_28, wr_29, wr_30, wr_31, wr_32, wr_33, wr_34, wr_35, wr_36, wr_37, wr_38, wr_39, wr_40, wr_41, wr_42, wr_43, wr_44, wr_45, wr_46, wr_47, wr_48, wr_49, wr_50, wr_51, wr_52, wr_53, wr_54, wr_55, wr_56, wr_57, wr_58, wr_59, wr_60, wr_61, wr_62, wr_63, wr_99, wr_100, wr_192, wr_255, wr_256, wr_343, wr_999, wr_1000, wr_2401, wr_2147483647, wr_65535, wr_m1, wr_m2, wr_m3, wr_m4, wr_m9, ak_1000, ak_1001, ak_1002, ak_0, ak_1, ak_2, ak_3, ak_4, ak_5, ak_6, ak_7, ak_8, ak_9, ak_10, ak_11, ak_12, ak_13, ak_14, ak_15, ak_16, ak_17, ak_18, ak_19, ak_20, ak_21, ak_22, ak_23, ak_24, ak_25, ak_26, ak_27, ak_28, ak_29, ak_30, ak_31, ak_32, ak_33, ak_34, ak_35, ak_36, ak_37, ak_38, ak_39, ak_40, ak_41, ak_42, ak_43, ak_44, ak_45, ak_46, ak_47, h0, h34, mo, wt, nt, q2, gs h0, gs h34, wq, hz, ws0, ws1, ws2, ws3, a0, a1, a2, a3, b0, b1, b2, b3, ss (i := 26) (j := 32) (by decide), ss (i := 26) (j := 34) (by decide), ss (i := 32) (j := 34) (by decide)] <;>
      exact rm_X6_washes h (by omega)
theorem sp_X6_washes {M : List AC} {st lk len ac nx rf lr en lm : Int} {sd : Int64} (h0 : M[26]? = some (mo st lk len ac nx rf lr en lm sd)) {g d b s d' b' s' : F4} (h27 : M[27]? = some (aI (l4 g))) (h28 : M[28]? = some (aI (nw d b s))) (h32 : M[32]? = some (aI (l4 d'))) (h33 : M[33]? = some (aI (l4 b'))) (h34 : M[34]? = some (aI (l4 s'))) (hr : SR st g s d b) (m : Int) (hm : -2147483648 ≤ m ∧ m < 2147483648) : ∃ (rf' lr' : Int) (d1 b1 s1 : F4), fn_X6_washes [vR 26, vI m] M = some (some (vI (if 1 ≤ m ∧ m ≤ 6 then wsh st g b m 10 0 s else -2)), (((M.set 26 (mo st lk len ac nx rf' lr' en lm sd)).set 32 (aI (l4 d1))).set 33 (aI (l4 b1))).set 34 (aI (l4 s1))) := by
  have wm : wr m = m := wr_id (by omega) (by omega)
  by_cases hM : 1 ≤ m ∧ m ≤ 6
  · rw [if_pos hM]
    have q1 := sp_X6_layNow h0 h28 h32 h33 h34
    obtain ⟨rf', lr', d1, s1, k, hk, h⟩ := lp_X6_washes (lk := lk) (len := len) (ac := ac) (nx := nx) (en := en) (lm := lm) (sd := sd) hr.1 hr.2.1 hr.2.2.2.2 hM 10 0 s rf lr d (((M.set 32 (aI (l4 d))).set 33 (aI (l4 b))).set 34 (aI (l4 s))) none hr.2.2.1 (by simp [-List.getElem?_eq_getElem, h0, gs h0]) (by simp [-List.getElem?_eq_getElem, h27, gs h27]) (by simp [-List.getElem?_eq_getElem, h32, gs h32]) (by simp [-List.getElem?_eq_getElem, h33, gs h33]) (by simp [-List.getElem?_eq_getElem, h34, gs h34]) (by omega) (by omega)
    generalize wsh st g b m 10 0 s = W at h ⊢
    refine ⟨rf', lr', d1, b, s1, ?_⟩
    simp [mo, ss (i := 26) (j := 32) (by decide), ss (i := 26) (j := 33) (by decide), ss (i := 26) (j := 34) (by decide), ss (i := 32) (j := 33) (by decide), ss (i := 32) (j := 34) (by decide), ss (i := 33) (j := 34) (by decide)] at h q1 ⊢
    (refine am_fnR (tb := tb_X6_washes) (N := 2000) (Nat.le_of_ble_eq_true rfl) (Nat.le_of_ble_eq_true rfl) ?_; show Ru rx_X6_washes 2000 0 _ _ _ _)
    refine ⟨k + 20, by omega, ?_⟩
    simp [↓ri_X6_washes, rs_X6_washes_0, rs_X6_washes_1, rs_X6_washes_2, rs_X6_washes_3, rs_X6_washes_6, rs_X6_washes_9, rs_X6_washes_12, rs_X6_washes_15, rs_X6_washes_16, rs_X6_washes_19, rs_X6_washes_20, rs_X6_washes_22, rs_X6_washes_24, rs_X6_washes_27, rs_X6_washes_28, rs_X6_washes_29, rs_X6_washes_32, rs_X6_washes_33, rs_X6_washes_36, rs_X6_washes_39, rs_X6_washes_41, rs_X6_washes_42, rs_X6_washes_43, rs_X6_washes_44, rs_X6_washes_45, rs_X6_washes_48, rs_X6_washes_49, rs_X6_washes_52, rs_X6_washes_53, rs_X6_washes_54, rs_X6_washes_55, rs_X6_washes_56, rs_X6_washes_59, rs_X6_washes_60, rs_X6_washes_61, rs_X6_washes_64, rs_X6_washes_65, rs_X6_washes_68, rs_X6_washes_69, rs_X6_washes_70, rs_X6_washes_71, rs_X6_washes_74, rs_X6_washes_77, rs_X6_washes_80, rs_X6_washes_83, rs_X6_washes_14, rs_X6_washes_40, rs_X6_washes_85, -List.getElem?_eq_getElem, am_js, am_e, am_in, am_sl, rI, rZ, rV, rJ, rA, rC, kI, kJ, kR, am_one, am_nl, am_w8, tIc, tLc, tNul, tIld, tLld, tAld, tIst, tLst, tAst, tIinc, tI2, tDv, tL2, tLrem, tLs, tLcmp, tI2l, tL2i, tI2c, tDup, tDup2, tPop, tGo, tIfeq, tIfne, tIflt, tIfge, tIfgt, tIfle, tCmeq, tCmne, tCmlt, tCmge, tCmgt, tCmle, tNu, tTs, tGf, tPf, tGs, tIal, tIas, tBal, tBas, tAln, tSv, tSc, tSb, tSl, tSk, tCv, tCs, tCt, tMx, tMn, wr_10000, wr_100000, wr_1000000, wr_10000000, wr_100000000, wr_2400, wr_9999, wr_0, wr_1, wr_2, wr_3, wr_4, wr_5, wr_6, wr_7, wr_8, wr_9, wr_10, wr_11, wr_12, wr_13, wr_14, wr_15, wr_16, wr_17, wr_18, wr_19, wr_20, wr_21, wr_22, wr_23, wr_24, wr_25, wr_26, wr_27, wr_28, wr_29, wr_30, wr_31, wr_32, wr_33, wr_34, wr_35, wr_36, wr_37, wr_38, wr_39, wr_40, wr_41, wr_42, wr_43, wr_44, wr_45, wr_46, wr_47, wr_48, wr_49, wr_50, wr_51, wr_52, wr_53, wr_54, wr_55, wr_56, wr_57, wr_58, wr_59, wr_60, wr_61, wr_62, wr_63, wr_99, wr_100, wr_192, wr_255, wr_256, wr_343, wr_999, wr_1000, wr_2401, wr_2147483647, wr_65535, wr_m1, wr_m2, wr_m3, wr_m4, wr_m9, ak_1000, ak_1001, ak_1002, ak_0, ak_1, ak_2, ak_3, ak_4, ak_5, ak_6, ak_7, ak_8, ak_9, ak_10, ak_11, ak_12, ak_13, ak_14, ak_15, ak_16, ak_17, ak_18, ak_19, ak_20, ak_21, ak_22, ak_23, ak_24, ak_25, ak_26, ak_27, ak_28, ak_29, ak_30, ak_31, ak_32, ak_33, ak_34, ak_35, ak_36, ak_37, ak_38, ak_39, ak_40, ak_41, ak_42, ak_43, ak_44, ak_45, ak_46, ak_47, sp_X6_in, -Int32.toInt_ofInt, -not_and, wr_eq, jt_0, jt_1, jt_2, jt_3, jt_4, jt_5, jt_6, jt_8, jt_12, jt_30, jt_48, jt_49, jt_51, jt_57, jt_255, jt_9999, h0, mo, wm, hM, q1]
    exact rm_X6_washes h (by omega)
  · rw [if_neg hM]
    refine ⟨rf, lr, d', b', s', ?_⟩
    rw [set_same h0, set_same h32, set_same h33, set_same h34]
    (refine am_fnI (tb := tb_X6_washes) (n := 60) (Nat.le_of_ble_eq_true rfl) (Nat.le_of_ble_eq_true rfl) ?_; show rx_X6_washes 60 0 _ _ _ = _)
    simp [↓ri_X6_washes, rs_X6_washes_0, rs_X6_washes_1, rs_X6_washes_2, rs_X6_washes_3, rs_X6_washes_6, rs_X6_washes_9, rs_X6_washes_12, rs_X6_washes_15, rs_X6_washes_16, rs_X6_washes_19, rs_X6_washes_20, rs_X6_washes_21, rs_X6_washes_22, rs_X6_washes_24, rs_X6_washes_27, rs_X6_washes_28, rs_X6_washes_29, rs_X6_washes_32, rs_X6_washes_33, rs_X6_washes_36, rs_X6_washes_39, rs_X6_washes_41, rs_X6_washes_42, rs_X6_washes_43, rs_X6_washes_44, rs_X6_washes_45, rs_X6_washes_48, rs_X6_washes_49, rs_X6_washes_52, rs_X6_washes_53, rs_X6_washes_54, rs_X6_washes_55, rs_X6_washes_56, rs_X6_washes_59, rs_X6_washes_60, rs_X6_washes_61, rs_X6_washes_64, rs_X6_washes_65, rs_X6_washes_68, rs_X6_washes_69, rs_X6_washes_70, rs_X6_washes_71, rs_X6_washes_74, rs_X6_washes_77, rs_X6_washes_80, rs_X6_washes_83, rs_X6_washes_14, rs_X6_washes_40, rs_X6_washes_85, -List.getElem?_eq_getElem, am_js, am_e, am_in, am_sl, rI, rZ, rV, rJ, rA, rC, kI, kJ, kR, am_one, am_nl, am_w8, tIc, tLc, tNul, tIld, tLld, tAld, tIst, tLst, tAst, tIinc, tI2, tDv, tL2, tLrem, tLs, tLcmp, tI2l, tL2i, tI2c, tDup, tDup2, tPop, tGo, tIfeq, tIfne, tIflt, tIfge, tIfgt, tIfle, tCmeq, tCmne, tCmlt, tCmge, tCmgt, tCmle, tNu, tTs, tGf, tPf, tGs, tIal, tIas, tBal, tBas, tAln, tSv, tSc, tSb, tSl, tSk, tCv, tCs, tCt, tMx, tMn, wr_10000, wr_100000, wr_1000000, wr_10000000, wr_100000000, wr_2400, wr_9999, wr_0, wr_1, wr_2, wr_3, wr_4, wr_5, wr_6, wr_7, wr_8, wr_9, wr_10, wr_11, wr_12, wr_13, wr_14, wr_15, wr_16, wr_17, wr_18, wr_19, wr_20, wr_21, wr_22, wr_23, wr_24, wr_25, wr_26, wr_27, wr_28, wr_29, wr_30, wr_31, wr_32, wr_33, wr_34, wr_35, wr_36, wr_37, wr_38, wr_39, wr_40, wr_41, wr_42, wr_43, wr_44, wr_45, wr_46, wr_47, wr_48, wr_49, wr_50, wr_51, wr_52, wr_53, wr_54, wr_55, wr_56, wr_57, wr_58, wr_59, wr_60, wr_61, wr_62, wr_63, wr_99, wr_100, wr_192, wr_255, wr_256, wr_343, wr_999, wr_1000, wr_2401, wr_2147483647, wr_65535, wr_m1, wr_m2, wr_m3, wr_m4, wr_m9, ak_1000, ak_1001, ak_1002, ak_0, ak_1, ak_2, ak_3, ak_4, ak_5, ak_6, ak_7, ak_8, ak_9, ak_10, ak_11, ak_12, ak_13, ak_14, ak_15, ak_16, ak_17, ak_18, ak_19, ak_20, ak_21, ak_22, ak_23, ak_24, ak_25, ak_26, ak_27, ak_28, ak_29, ak_30, ak_31, ak_32, ak_33, ak_34, ak_35, ak_36, ak_37, ak_38, ak_39, ak_40, ak_41, ak_42, ak_43, ak_44, ak_45, ak_46, ak_47, sp_X6_in, -Int32.toInt_ofInt, -not_and, wr_eq, jt_0, jt_1, jt_2, jt_3, jt_4, jt_5, jt_6, jt_8, jt_12, jt_30, jt_48, jt_49, jt_51, jt_57, jt_255, jt_9999, wm, hM]
end
