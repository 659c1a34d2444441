noncomputable section
abbrev mi_X5_isCorner : Mi := (yX5_isCorner, cX5_isCorner, 1, some .boolean, 1)
theorem mf_X5_isCorner : am_mf mi_X5_isCorner 1 := ⟨w_co_X5_isCorner, w_in_X5, ⟨by decide +kernel, by decide +kernel⟩, by decide +kernel, by decide⟩
def tb_X5_isCorner : List (Nat × Tr) := [(0, tIld 0 1), (1, tIflt 13), (4, tIld 0 1), (5, tIc 4 1), (6, tCmge 13), (9, tIc 1 1), (10, tGo 14), (13, tIc 0 1)]
theorem ok_X5_isCorner : Tok mi_X5_isCorner tb_X5_isCorner :=
  Tc (sd_iload_n dX5_isCorner_0) <|
  Tc (sd_if_lt (by decide) dX5_isCorner_1) <|
  Tc (sd_iload_n dX5_isCorner_4) <|
  Tc (sd_iconst rfl dX5_isCorner_5) <|
  Tc (sd_cm_ge (by decide) dX5_isCorner_6) <|
  Tc (sd_iconst rfl dX5_isCorner_9) <|
  Tc (sd_goto (by decide) dX5_isCorner_10) <|
  Tc (sd_iconst rfl dX5_isCorner_13) <|
  Tn
theorem rk_X5_isCorner : Rok mi_X5_isCorner rZ [14] := rk_z dX5_isCorner_14 <| rk_n
def rx_X5_isCorner : Nat → Nat → AL → List AV → List AC → Option (Option AV × List AC) := am_r tb_X5_isCorner rZ [14]
theorem rs_X5_isCorner_0 (n : Nat) (L : AL) (st : List AV) (M : List AC) : rx_X5_isCorner (n + 1) 0 L st M = am_j (rx_X5_isCorner n) ((tIld 0 1) 0 L st M) := rfl
theorem rs_X5_isCorner_1 (n : Nat) (L : AL) (st : List AV) (M : List AC) : rx_X5_isCorner (n + 1) 1 L st M = am_j (rx_X5_isCorner n) ((tIflt 13) 1 L st M) := rfl
theorem rs_X5_isCorner_4 (n : Nat) (L : AL) (st : List AV) (M : List AC) : rx_X5_isCorner (n + 1) 4 L st M = am_j (rx_X5_isCorner n) ((tIld 0 1) 4 L st M) := rfl
theorem rs_X5_isCorner_5 (n : Nat) (L : AL) (st : List AV) (M : List AC) : rx_X5_isCorner (n + 1) 5 L st M = am_j (rx_X5_isCorner n) ((tIc 4 1) 5 L st M) := rfl
theorem rs_X5_isCorner_6 (n : Nat) (L : AL) (st : List AV) (M : List AC) : rx_X5_isCorner (n + 1) 6 L st M = am_j (rx_X5_isCorner n) ((tCmge 13) 6 L st M) := rfl
theorem rs_X5_isCorner_9 (n : Nat) (L : AL) (st : List AV) (M : List AC) : rx_X5_isCorner (n + 1) 9 L st M = am_j (rx_X5_isCorner n) ((tIc 1 1) 9 L st M) := rfl
theorem rs_X5_isCorner_10 (n : Nat) (L : AL) (st : List AV) (M : List AC) : rx_X5_isCorner (n + 1) 10 L st M = am_j (rx_X5_isCorner n) ((tGo 14) 10 L st M) := rfl
theorem rs_X5_isCorner_13 (n : Nat) (L : AL) (st : List AV) (M : List AC) : rx_X5_isCorner (n + 1) 13 L st M = am_j (rx_X5_isCorner n) ((tIc 0 1) 13 L st M) := rfl
theorem rs_X5_isCorner_14 (n : Nat) (L : AL) (st : List AV) (M : List AC) : rx_X5_isCorner (n + 1) 14 L st M = am_e rZ st M := rfl
theorem ri_X5_isCorner (c : Prop) [Decidable c] (p q n : Nat) (L : AL) (st : List AV) (M : List AC) : rx_X5_isCorner n (if c then p else q) L st M = if c then rx_X5_isCorner n p L st M else rx_X5_isCorner n q L st M := by split <;> rfl
theorem rm_X5_isCorner {n k pc : Nat} {L : AL} {st : List AV} {M : List AC} {x : Option AV × List AC} (h : rx_X5_isCorner n pc L st M = some x) (hk : n ≤ k) : rx_X5_isCorner k pc L st M = some x := am_r_mono n k h hk
def fn_X5_isCorner : Fn := am_fn rx_X5_isCorner 1
theorem fok_X5_isCorner : Fok mi_X5_isCorner fn_X5_isCorner := fun _ _ _ _ h => am_fok ok_X5_isCorner rk_X5_isCorner rfl h
theorem sp_X5_isCorner (c : Int) (M : List AC) : fn_X5_isCorner [vI c] M = some (some (vI (if 0 ≤ wr c ∧ wr c < 4 then 1 else 0)), M) := by
  (refine am_fnI (tb := tb_X5_isCorner) (n := 20) (Nat.le_of_ble_eq_true rfl) (Nat.le_of_ble_eq_true rfl) ?_; show rx_X5_isCorner 20 0 _ _ _ = _)
  simp [↓ri_X5_isCorner, rs_X5_isCorner_0, rs_X5_isCorner_1, rs_X5_isCorner_4, rs_X5_isCorner_5, rs_X5_isCorner_6, rs_X5_isCorner_9, rs_X5_isCorner_10, rs_X5_isCorner_13, rs_X5_isCorner_14, -List.getElem?_eq_getElem, am_js, am_e, am_in, am_sl, rI, rZ, rV, rJ, rA, rC, kI, kJ, kR, am_one, am_nl, am_w8, tIc, tLc, tNul, tIld, tLld, tAld, tIst, tLst, tAst, tIinc, tI2, tDv, tL2, tLrem, tLs, tLcmp, tI2l, tL2i, tI2c, tDup, tDup2, tPop, tGo, tIfeq, tIfne, tIflt, tIfge, tIfgt, tIfle, tCmeq, tCmne, tCmlt, tCmge, tCmgt, tCmle, tNu, tTs, tGf, tPf, tGs, tIal, tIas, tBal, tBas, tAln, tSv, tSc, tSb, tSl, tSk, tCv, tCs, tCt, tMx, tMn, wr_10000, wr_100000, wr_1000000, wr_10000000, wr_100000000, wr_2400, wr_9999, wr_0, wr_1, wr_2, wr_3, wr_4, wr_5, wr_6, wr_7, wr_8, wr_9, wr_10, wr_11, wr_12, wr_13, wr_14, wr_15, wr_16, wr_17, wr_18, wr_19, wr_20, wr_21, wr_22, wr_23, wr_24, wr_25, wr_26, wr_27, wr_28, wr_29, wr_30, wr_31, wr_32, wr_33, wr_34, wr_35, wr_36, wr_37, wr_38, wr_39, wr_40, wr_41, wr_42, wr_43, wr_44, wr_45, wr_46, wr_47, wr_48, wr_49, wr_50, wr_51, wr_52, wr_53, wr_54, wr_55, wr_56, wr_57, wr_58, wr_59, wr_60, wr_61, wr_62, wr_63, wr_99, wr_100, wr_192, wr_255, wr_256, wr_343, wr_999, wr_1000, wr_2401, wr_2147483647, wr_65535, wr_m1, wr_m2, wr_m3, wr_m4, wr_m9, ak_1000, ak_1001, ak_1002, ak_0, ak_1, ak_2, ak_3, ak_4, ak_5, ak_6, ak_7, ak_8, ak_9, ak_10, ak_11, ak_12, ak_13, ak_14, ak_15, ak_16, ak_17, ak_18, ak_19, ak_20, ak_21, ak_22, ak_23, ak_24, ak_25, ak_26, ak_27, ak_28, ak_29, ak_30, ak_31, ak_32, ak_33, ak_34, ak_35, ak_36, ak_37, ak_38, ak_39, ak_40, ak_41, ak_42, ak_43, ak_44, ak_45, ak_46, ak_47]
  (repeat' split) <;> first | rfl | omega
abbrev mi_X5_isAim : Mi := (yX5_isAim, cX5_isAim, 1, some .boolean, 1)
theorem mf_X5_isAim : am_mf mi_X5_isAim 1 := ⟨w_co_X5_isAim, w_in_X5, ⟨by decide +kernel, by decide +kernel⟩, by decide +kernel, by decide⟩
def tb_X5_isAim : List (Nat × Tr) := [(0, tIld 0 1), (1, tIc 1 1), (2, tCmlt 15), (5, tIld 0 1), (6, tIc 6 2), (8, tCmgt 15), (11, tIc 1 1), (12, tGo 16), (15, tIc 0 1)]
theorem ok_X5_isAim : Tok mi_X5_isAim tb_X5_isAim :=
  Tc (sd_iload_n dX5_isAim_0) <|
  Tc (sd_iconst rfl dX5_isAim_1) <|
  Tc (sd_cm_lt (by decide) dX5_isAim_2) <|
  Tc (sd_iload_n dX5_isAim_5) <|
  Tc (sd_bipush (by decide +kernel) dX5_isAim_6) <|
  Tc (sd_cm_gt (by decide) dX5_isAim_8) <|
  Tc (sd_iconst rfl dX5_isAim_11) <|
  Tc (sd_goto (by decide) dX5_isAim_12) <|
  Tc (sd_iconst rfl dX5_isAim_15) <|
  Tn
theorem rk_X5_isAim : Rok mi_X5_isAim rZ [16] := rk_z dX5_isAim_16 <| rk_n
def rx_X5_isAim : Nat → Nat → AL → List AV → List AC → Option (Option AV × List AC) := am_r tb_X5_isAim rZ [16]
theorem rs_X5_isAim_0 (n : Nat) (L : AL) (st : List AV) (M : List AC) : rx_X5_isAim (n + 1) 0 L st M = am_j (rx_X5_isAim n) ((tIld 0 1) 0 L st M) := rfl
theorem rs_X5_isAim_1 (n : Nat) (L : AL) (st : List AV) (M : List AC) : rx_X5_isAim (n + 1) 1 L st M = am_j (rx_X5_isAim n) ((tIc 1 1) 1 L st M) := rfl
theorem rs_X5_isAim_2 (n : Nat) (L : AL) (st : List AV) (M : List AC) : rx_X5_isAim (n + 1) 2 L st M = am_j (rx_X5_isAim n) ((tCmlt 15) 2 L st M) := rfl
theorem rs_X5_isAim_5 (n : Nat) (L : AL) (st : List AV) (M : List AC) : rx_X5_isAim (n + 1) 5 L st M = am_j (rx_X5_isAim n) ((tIld 0 1) 5 L st M) := rfl
theorem rs_X5_isAim_6 (n : Nat) (L : AL) (st : List AV) (M : List AC) : rx_X5_isAim (n + 1) 6 L st M = am_j (rx_X5_isAim n) ((tIc 6 2) 6 L st M) := rfl
theorem rs_X5_isAim_8 (n : Nat) (L : AL) (st : List AV) (M : List AC) : rx_X5_isAim (n + 1) 8 L st M = am_j (rx_X5_isAim n) ((tCmgt 15) 8 L st M) := rfl
theorem rs_X5_isAim_11 (n : Nat) (L : AL) (st : List AV) (M : List AC) : rx_X5_isAim (n + 1) 11 L st M = am_j (rx_X5_isAim n) ((tIc 1 1) 11 L st M) := rfl
theorem rs_X5_isAim_12 (n : Nat) (L : AL) (st : List AV) (M : List AC) : rx_X5_isAim (n + 1) 12 L st M = am_j (rx_X5_isAim n) ((tGo 16) 12 L st M) := rfl
theorem rs_X5_isAim_15 (n : Nat) (L : AL) (st : List AV) (M : List AC) : rx_X5_isAim (n + 1) 15 L st M = am_j (rx_X5_isAim n) ((tIc 0 1) 15 L st M) := rfl
theorem rs_X5_isAim_16 (n : Nat) (L : AL) (st : List AV) (M : List AC) : rx_X5_isAim (n + 1) 16 L st M = am_e rZ st M := rfl
theorem ri_X5_isAim (c : Prop) [Decidable c] (p q n : Nat) (L : AL) (st : List AV) (M : List AC) : rx_X5_isAim n (if c then p else q) L st M = if c then rx_X5_isAim n p L st M else rx_X5_isAim n q L st M := by split <;> rfl
theorem rm_X5_isAim {n k pc : Nat} {L : AL} {st : List AV} {M : List AC} {x : Option AV × List AC} (h : rx_X5_isAim n pc L st M = some x) (hk : n ≤ k) : rx_X5_isAim k pc L st M = some x := am_r_mono n k h hk
def fn_X5_isAim : Fn := am_fn rx_X5_isAim 1
theorem fok_X5_isAim : Fok mi_X5_isAim fn_X5_isAim := fun _ _ _ _ h => am_fok ok_X5_isAim rk_X5_isAim rfl h
theorem sp_X5_isAim (c : Int) (M : List AC) : fn_X5_isAim [vI c] M = some (some (vI (if 1 ≤ wr c ∧ wr c ≤ 6 then 1 else 0)), M) := by
  (refine am_fnI (tb := tb_X5_isAim) (n := 20) (Nat.le_of_ble_eq_true rfl) (Nat.le_of_ble_eq_true rfl) ?_; show rx_X5_isAim 20 0 _ _ _ = _)
  simp [↓ri_X5_isAim, rs_X5_isAim_0, rs_X5_isAim_1, rs_X5_isAim_2, rs_X5_isAim_5, rs_X5_isAim_6, rs_X5_isAim_8, rs_X5_isAim_11, rs_X5_isAim_12, rs_X5_isAim_15, rs_X5_isAim_16, -List.getElem?_eq_getElem, am_js, am_e, am_in, am_sl, rI, rZ, rV, rJ, rA, rC, kI, kJ, kR, am_one, am_nl, am_w8, tIc, tLc, tNul, tIld, tLld, tAld, tIst, tLst, tAst, tIinc, tI2, tDv, tL2, tLrem, tLs, tLcmp, tI2l, tL2i, tI2c, tDup, tDup2, tPop, tGo, tIfeq, tIfne, tIflt, tIfge, tIfgt, tIfle, tCmeq, tCmne, tCmlt, tCmge, tCmgt, tCmle, tNu, tTs, tGf, tPf, tGs, tIal, tIas, tBal, tBas, tAln, tSv, tSc, tSb, tSl, tSk, tCv, tCs, tCt, tMx, tMn, wr_10000, wr_100000, wr_1000000, wr_10000000, wr_100000000, wr_2400, wr_9999, wr_0, wr_1, wr_2, wr_3, wr_4, wr_5, wr_6, wr_7, wr_8, wr_9, wr_10, wr_11, wr_12, wr_13, wr_14, wr_15, wr_16, wr_17, wr_18, wr_19, wr_20, wr_21, wr_22, wr_23, wr_24, wr_25, wr_26, wr_27, wr_28, wr_29, wr_30, wr_31, wr_32, wr_33, wr_34, wr_35, wr_36, wr_37, wr_38, wr_39, wr_40, wr_41, wr_42, wr_43, wr_44, wr_45, wr_46, wr_47, wr_48, wr_49, wr_50, wr_51, wr_52, wr_53, wr_54, wr_55, wr_56, wr_57, wr_58, wr_59, wr_60, wr_61, wr_62, wr_63, wr_99, wr_100, wr_192, wr_255, wr_256, wr_343, wr_999, wr_1000, wr_2401, wr_2147483647, wr_65535, wr_m1, wr_m2, wr_m3, wr_m4, wr_m9, ak_1000, ak_1001, ak_1002, ak_0, ak_1, ak_2, ak_3, ak_4, ak_5, ak_6, ak_7, ak_8, ak_9, ak_10, ak_11, ak_12, ak_13, ak_14, ak_15, ak_16, ak_17, ak_18, ak_19, ak_20, ak_21, ak_22, ak_23, ak_24, ak_25, ak_26, ak_27, ak_28, ak_29, ak_30, ak_31, ak_32, ak_33, ak_34, ak_35, ak_36, ak_37, ak_38, ak_39, ak_40, ak_41, ak_42, ak_43, ak_44, ak_45, ak_46, ak_47]
  (repeat' split) <;> first | rfl | omega
abbrev mi_X5_figureOf : Mi := (yX5_figureOf, cX5_figureOf, 4, some .int, 1)
theorem mf_X5_figureOf : am_mf mi_X5_figureOf 3 := ⟨w_co_X5_figureOf, w_in_X5, ⟨by decide +kernel, by decide +kernel⟩, by decide +kernel, by decide⟩
def tb_X5_figureOf : List (Nat × Tr) := [(0, tIld 1 1), (1, tIc 1 1), (2, tI2 (fun a b => a - b)), (3, tIld 2 1), (4, tI2 (fun a b => a - b)), (5, tIst 3 1), (6, tIld 3 1), (7, tIflt 31), (10, tIld 3 1), (11, tGs (vR 1000)), (14, tAln), (15, tCmge 31), (18, tIld 0 1), (19, tGs (vR 1000)), (22, tIld 3 1), (23, tIal), (24, tDv Int.tdiv), (25, tIc 10 2), (27, tDv Int.tmod), (28, tGo 32), (31, tIc 0 1)]
theorem ok_X5_figureOf : Tok mi_X5_figureOf tb_X5_figureOf :=
  Tc (sd_iload_n dX5_figureOf_0) <|
  Tc (sd_iconst rfl dX5_figureOf_1) <|
  Tc (sd_isub dX5_figureOf_2) <|
  Tc (sd_iload_n dX5_figureOf_3) <|
  Tc (sd_isub dX5_figureOf_4) <|
  Tc (sd_istore_n dX5_figureOf_5) <|
  Tc (sd_iload_n dX5_figureOf_6) <|
  Tc (sd_if_lt (by decide) dX5_figureOf_7) <|
  Tc (sd_iload_n dX5_figureOf_10) <|
  Tc (sd_gsTens w_fl_X5_158 dX5_figureOf_11) <|
  Tc (sd_aln dX5_figureOf_14) <|
  Tc (sd_cm_ge (by decide) dX5_figureOf_15) <|
  Tc (sd_iload_n dX5_figureOf_18) <|
  Tc (sd_gsTens w_fl_X5_158 dX5_figureOf_19) <|
  Tc (sd_iload_n dX5_figureOf_22) <|
  Tc (sd_ial dX5_figureOf_23) <|
  Tc (sd_idiv dX5_figureOf_24) <|
  Tc (sd_bipush (by decide +kernel) dX5_figureOf_25) <|
  Tc (sd_irem dX5_figureOf_27) <|
  Tc (sd_goto (by decide) dX5_figureOf_28) <|
  Tc (sd_iconst rfl dX5_figureOf_31) <|
  Tn
theorem rk_X5_figureOf : Rok mi_X5_figureOf rI [32] := rk_i dX5_figureOf_32 <| rk_n
def rx_X5_figureOf : Nat → Nat → AL → List AV → List AC → Option (Option AV × List AC) := am_r tb_X5_figureOf rI [32]
theorem rs_X5_figureOf_0 (n : Nat) (L : AL) (st : List AV) (M : List AC) : rx_X5_figureOf (n + 1) 0 L st M = am_j (rx_X5_figureOf n) ((tIld 1 1) 0 L st M) := rfl
theorem rs_X5_figureOf_1 (n : Nat) (L : AL) (st : List AV) (M : List AC) : rx_X5_figureOf (n + 1) 1 L st M = am_j (rx_X5_figureOf n) ((tIc 1 1) 1 L st M) := rfl
theorem rs_X5_figureOf_2 (n : Nat) (L : AL) (st : List AV) (M : List AC) : rx_X5_figureOf (n + 1) 2 L st M = am_j (rx_X5_figureOf n) ((tI2 (fun a b => a - b)) 2 L st M) := rfl
theorem rs_X5_figureOf_3 (n : Nat) (L : AL) (st : List AV) (M : List AC) : rx_X5_figureOf (n + 1) 3 L st M = am_j (rx_X5_figureOf n) ((tIld 2 1) 3 L st M) := rfl
theorem rs_X5_figureOf_4 (n : Nat) (L : AL) (st : List AV) (M : List AC) : rx_X5_figureOf (n + 1) 4 L st M = am_j (rx_X5_figureOf n) ((tI2 (fun a b => a - b)) 4 L st M) := rfl
theorem rs_X5_figureOf_5 (n : Nat) (L : AL) (st : List AV) (M : List AC) : rx_X5_figureOf (n + 1) 5 L st M = am_j (rx_X5_figureOf n) ((tIst 3 1) 5 L st M) := rfl
theorem rs_X5_figureOf_6 (n : Nat) (L : AL) (st : List AV) (M : List AC) : rx_X5_figureOf (n + 1) 6 L st M = am_j (rx_X5_figureOf n) ((tIld 3 1) 6 L st M) := rfl
theorem rs_X5_figureOf_7 (n : Nat) (L : AL) (st : List AV) (M : List AC) : rx_X5_figureOf (n + 1) 7 L st M = am_j (rx_X5_figureOf n) ((tIflt 31) 7 L st M) := rfl
theorem rs_X5_figureOf_10 (n : Nat) (L : AL) (st : List AV) (M : List AC) : rx_X5_figureOf (n + 1) 10 L st M = am_j (rx_X5_figureOf n) ((tIld 3 1) 10 L st M) := rfl
theorem rs_X5_figureOf_11 (n : Nat) (L : AL) (st : List AV) (M : List AC) : rx_X5_figureOf (n + 1) 11 L st M = am_j (rx_X5_figureOf n) ((tGs (vR 1000)) 11 L st M) := rfl
theorem rs_X5_figureOf_14 (n : Nat) (L : AL) (st : List AV) (M : List AC) : rx_X5_figureOf (n + 1) 14 L st M = am_j (rx_X5_figureOf n) (tAln 14 L st M) := rfl
theorem rs_X5_figureOf_15 (n : Nat) (L : AL) (st : List AV) (M : List AC) : rx_X5_figureOf (n + 1) 15 L st M = am_j (rx_X5_figureOf n) ((tCmge 31) 15 L st M) := rfl
theorem rs_X5_figureOf_18 (n : Nat) (L : AL) (st : List AV) (M : List AC) : rx_X5_figureOf (n + 1) 18 L st M = am_j (rx_X5_figureOf n) ((tIld 0 1) 18 L st M) := rfl
theorem rs_X5_figureOf_19 (n : Nat) (L : AL) (st : List AV) (M : List AC) : rx_X5_figureOf (n + 1) 19 L st M = am_j (rx_X5_figureOf n) ((tGs (vR 1000)) 19 L st M) := rfl
theorem rs_X5_figureOf_22 (n : Nat) (L : AL) (st : List AV) (M : List AC) : rx_X5_figureOf (n + 1) 22 L st M = am_j (rx_X5_figureOf n) ((tIld 3 1) 22 L st M) := rfl
theorem rs_X5_figureOf_23 (n : Nat) (L : AL) (st : List AV) (M : List AC) : rx_X5_figureOf (n + 1) 23 L st M = am_j (rx_X5_figureOf n) (tIal 23 L st M) := rfl
theorem rs_X5_figureOf_24 (n : Nat) (L : AL) (st : List AV) (M : List AC) : rx_X5_figureOf (n + 1) 24 L st M = am_j (rx_X5_figureOf n) ((tDv Int.tdiv) 24 L st M) := rfl
theorem rs_X5_figureOf_25 (n : Nat) (L : AL) (st : List AV) (M : List AC) : rx_X5_figureOf (n + 1) 25 L st M = am_j (rx_X5_figureOf n) ((tIc 10 2) 25 L st M) := rfl
theorem rs_X5_figureOf_27 (n : Nat) (L : AL) (st : List AV) (M : List AC) : rx_X5_figureOf (n + 1) 27 L st M = am_j (rx_X5_figureOf n) ((tDv Int.tmod) 27 L st M) := rfl
theorem rs_X5_figureOf_28 (n : Nat) (L : AL) (st : List AV) (M : List AC) : rx_X5_figureOf (n + 1) 28 L st M = am_j (rx_X5_figureOf n) ((tGo 32) 28 L st M) := rfl
theorem rs_X5_figureOf_31 (n : Nat) (L : AL) (st : List AV) (M : List AC) : rx_X5_figureOf (n + 1) 31 L st M = am_j (rx_X5_figureOf n) ((tIc 0 1) 31 L st M) := rfl
theorem rs_X5_figureOf_32 (n : Nat) (L : AL) (st : List AV) (M : List AC) : rx_X5_figureOf (n + 1) 32 L st M = am_e rI st M := rfl
theorem ri_X5_figureOf (c : Prop) [Decidable c] (p q n : Nat) (L : AL) (st : List AV) (M : List AC) : rx_X5_figureOf n (if c then p else q) L st M = if c then rx_X5_figureOf n p L st M else rx_X5_figureOf n q L st M := by split <;> rfl
theorem rm_X5_figureOf {n k pc : Nat} {L : AL} {st : List AV} {M : List AC} {x : Option AV × List AC} (h : rx_X5_figureOf n pc L st M = some x) (hk : n ≤ k) : rx_X5_figureOf k pc L st M = some x := am_r_mono n k h hk
def fn_X5_figureOf : Fn := am_fn rx_X5_figureOf 4
theorem fok_X5_figureOf : Fok mi_X5_figureOf fn_X5_figureOf := fun _ _ _ _ h => am_fok ok_X5_figureOf rk_X5_figureOf rfl h
theorem sp_X5_figureOf (x n p : Int) (M : List AC) (hx : 0 ≤ x ∧ x < 2147483648) (h1 : 0 ≤ n - 1 - p ∧ n - 1 - p < 9) : fn_X5_figureOf [vI x, vI n, vI p] M = some (some (vI (x / am_tens.getD (n - 1 - p).toNat 0 % 10)), M) := by
  have e : wr (n - 1 - p) = n - 1 - p := wr_id (by omega) (by omega)
  have ex : wr x = x := wr_id (by omega) (by omega)
  have e2 : am_tens.length = 9 := rfl
  have e3 : ¬ (n - 1 - p < 0) := by omega
  have e4 : ¬ (9 ≤ n - 1 - p) := by omega
  have key : ∀ j : Nat, j < 9 → am_tens.getD j 0 < 2147483648 ∧ am_tens.getD j 0 ≠ 0 ∧ 0 < am_tens.getD j 0 := by decide
  obtain ⟨k1', k2, k3⟩ := key (n - 1 - p).toNat (by omega)
  have k1 : wr (am_tens.getD (n - 1 - p).toNat 0) = am_tens.getD (n - 1 - p).toNat 0 := wr_id (Int.le_trans (by decide) (Int.le_of_lt k3)) k1'
  generalize hg : am_tens.getD (n - 1 - p).toNat 0 = g at k1 k2 k3 k1' ⊢
  have e5 : x.tdiv g = x / g := Int.tdiv_eq_ediv_of_nonneg hx.1
  have e6 : 0 ≤ x / g := Int.ediv_nonneg hx.1 (by omega)
  have e7 : x / g ≤ x := Int.ediv_le_self _ hx.1
  have e8 : wr (x / g) = x / g := wr_id (by omega) (by omega)
  have e9 : (x / g).tmod 10 = x / g % 10 := Int.tmod_eq_emod_of_nonneg e6
  (refine am_fnI (tb := tb_X5_figureOf) (n := 40) (Nat.le_of_ble_eq_true rfl) (Nat.le_of_ble_eq_true rfl) ?_; show rx_X5_figureOf 40 0 _ _ _ = _)
  simp [↓ri_X5_figureOf, rs_X5_figureOf_0, rs_X5_figureOf_1, rs_X5_figureOf_2, rs_X5_figureOf_3, rs_X5_figureOf_4, rs_X5_figureOf_5, rs_X5_figureOf_6, rs_X5_figureOf_7, rs_X5_figureOf_10, rs_X5_figureOf_11, rs_X5_figureOf_14, rs_X5_figureOf_15, rs_X5_figureOf_18, rs_X5_figureOf_19, rs_X5_figureOf_22, rs_X5_figureOf_23, rs_X5_figureOf_24, rs_X5_figureOf_25, rs_X5_figureOf_27, rs_X5_figureOf_28, rs_X5_figureOf_31, rs_X5_figureOf_32, -List.getElem?_eq_getElem, am_js, am_e, am_in, am_sl, rI, rZ, rV, rJ, rA, rC, kI, kJ, kR, am_one, am_nl, am_w8, tIc, tLc, tNul, tIld, tLld, tAld, tIst, tLst, tAst, tIinc, tI2, tDv, tL2, tLrem, tLs, tLcmp, tI2l, tL2i, tI2c, tDup, tDup2, tPop, tGo, tIfeq, tIfne, tIflt, tIfge, tIfgt, tIfle, tCmeq, tCmne, tCmlt, tCmge, tCmgt, tCmle, tNu, tTs, tGf, tPf, tGs, tIal, tIas, tBal, tBas, tAln, tSv, tSc, tSb, tSl, tSk, tCv, tCs, tCt, tMx, tMn, wr_10000, wr_100000, wr_1000000, wr_10000000, wr_100000000, wr_2400, wr_9999, wr_0, wr_1, wr_2, wr_3, wr_4, wr_5, wr_6, wr_7, wr_8, wr_9, wr_10, wr_11, wr_12, wr_13, wr_14, wr_15, wr_16, wr_17, wr_18, wr_19, wr_20, wr_21, wr_22, wr_23, wr_24, wr_25, wr_26, wr_27, wr_28, wr_29, wr_30, wr_31, wr_32, wr_33, wr_34, wr_35, wr_36, wr_37, wr_38, wr_39, wr_40, wr_41, wr_42, wr_43, wr_44, wr_45, wr_46, wr_47, wr_48, wr_49, wr_50, wr_51, wr_52, wr_53, wr_54, wr_55, wr_56, wr_57, wr_58, wr_59, wr_60, wr_61, wr_62, wr_63, wr_99, wr_100, wr_192, wr_255, wr_256, wr_343, wr_999, wr_1000, wr_2401, wr_2147483647, wr_65535, wr_m1, wr_m2, wr_m3, wr_m4, wr_m9, ak_1000, ak_1001, ak_1002, ak_0, ak_1, ak_2, ak_3, ak_4, ak_5, ak_6, ak_7, ak_8, ak_9, ak_10, ak_11, ak_12, ak_13, ak_14, ak_15, ak_16, ak_17, ak_18, ak_19, ak_20, ak_21, ak_22, ak_23, ak_24, ak_25, ak_26, ak_27, ak_28, ak_29, ak_30, ak_31, ak_32, ak_33, ak_34, ak_35, ak_36, ak_37, ak_38, ak_39, ak_40, ak_41, ak_42, ak_43, ak_44, ak_45, ak_46, ak_47, -List.getD_eq_getElem?_getD, e, e2, e3, e4, h1, hg, k1, k2, ex, e5, e8, e9, show p ≤ n - 1 by omega]
def fg (v : F4) : Int := 10 * (10 * (10 * v.1 + v.2.1) + v.2.2.1) + v.2.2.2
def uf (x : Int) : F4 := (x / 1000 % 10, x / 100 % 10, x / 10 % 10, x % 10)
abbrev mi_X5_asFigures : Mi := (yX5_asFigures, cX5_asFigures, 3, some .int, 1)
theorem mf_X5_asFigures : am_mf mi_X5_asFigures 1 := ⟨w_co_X5_asFigures, w_in_X5, ⟨by decide +kernel, by decide +kernel⟩, by decide +kernel, by decide⟩
def tb_X5_asFigures : List (Nat × Tr) := [(0, tIc 0 1), (1, tIst 1 1), (2, tIc 0 1), (3, tIst 2 1), (4, tIld 2 1), (5, tAld 0 1), (6, tAln), (7, tCmge 25), (10, tIc 10 2), (12, tIld 1 1), (13, tI2 (fun a b => a * b)), (14, tAld 0 1), (15, tIld 2 1), (16, tIal), (17, tI2 (fun a b => a + b)), (18, tIst 1 1), (19, tIinc 2 1), (22, tGo 4), (25, tIld 1 1)]
theorem ok_X5_asFigures : Tok mi_X5_asFigures tb_X5_asFigures :=
  Tc (sd_iconst rfl dX5_asFigures_0) <|
  Tc (sd_istore_n dX5_asFigures_1) <|
  Tc (sd_iconst rfl dX5_asFigures_2) <|
  Tc (sd_istore_n dX5_asFigures_3) <|
  Tc (sd_iload_n dX5_asFigures_4) <|
  Tc (sd_aload_n dX5_asFigures_5) <|
  Tc (sd_aln dX5_asFigures_6) <|
  Tc (sd_cm_ge (by decide) dX5_asFigures_7) <|
  Tc (sd_bipush (by decide +kernel) dX5_asFigures_10) <|
  Tc (sd_iload_n dX5_asFigures_12) <|
  Tc (sd_imul dX5_asFigures_13) <|
  Tc (sd_aload_n dX5_asFigures_14) <|
  Tc (sd_iload_n dX5_asFigures_15) <|
  Tc (sd_ial dX5_asFigures_16) <|
  Tc (sd_iadd dX5_asFigures_17) <|
  Tc (sd_istore_n dX5_asFigures_18) <|
  Tc (sd_iinc dX5_asFigures_19) <|
  Tc (sd_goto (by decide) dX5_asFigures_22) <|
  Tc (sd_iload_n dX5_asFigures_25) <|
  Tn
theorem rk_X5_asFigures : Rok mi_X5_asFigures rI [26] := rk_i dX5_asFigures_26 <| rk_n
def rx_X5_asFigures : Nat → Nat → AL → List AV → List AC → Option (Option AV × List AC) := am_r tb_X5_asFigures rI [26]
theorem rs_X5_asFigures_0 (n : Nat) (L : AL) (st : List AV) (M : List AC) : rx_X5_asFigures (n + 1) 0 L st M = am_j (rx_X5_asFigures n) ((tIc 0 1) 0 L st M) := rfl
theorem rs_X5_asFigures_1 (n : Nat) (L : AL) (st : List AV) (M : List AC) : rx_X5_asFigures (n + 1) 1 L st M = am_j (rx_X5_asFigures n) ((tIst 1 1) 1 L st M) := rfl
theorem rs_X5_asFigures_2 (n : Nat) (L : AL) (st : List AV) (M : List AC) : rx_X5_asFigures (n + 1) 2 L st M = am_j (rx_X5_asFigures n) ((tIc 0 1) 2 L st M) := rfl
theorem rs_X5_asFigures_3 (n : Nat) (L : AL) (st : List AV) (M : List AC) : rx_X5_asFigures (n + 1) 3 L st M = am_j (rx_X5_asFigures n) ((tIst 2 1) 3 L st M) := rfl
theorem rs_X5_asFigures_4 (n : Nat) (L : AL) (st : List AV) (M : List AC) : rx_X5_asFigures (n + 1) 4 L st M = am_j (rx_X5_asFigures n) ((tIld 2 1) 4 L st M) := rfl
theorem rs_X5_asFigures_5 (n : Nat) (L : AL) (st : List AV) (M : List AC) : rx_X5_asFigures (n + 1) 5 L st M = am_j (rx_X5_asFigures n) ((tAld 0 1) 5 L st M) := rfl
theorem rs_X5_asFigures_6 (n : Nat) (L : AL) (st : List AV) (M : List AC) : rx_X5_asFigures (n + 1) 6 L st M = am_j (rx_X5_asFigures n) (tAln 6 L st M) := rfl
theorem rs_X5_asFigures_7 (n : Nat) (L : AL) (st : List AV) (M : List AC) : rx_X5_asFigures (n + 1) 7 L st M = am_j (rx_X5_asFigures n) ((tCmge 25) 7 L st M) := rfl
theorem rs_X5_asFigures_10 (n : Nat) (L : AL) (st : List AV) (M : List AC) : rx_X5_asFigures (n + 1) 10 L st M = am_j (rx_X5_asFigures n) ((tIc 10 2) 10 L st M) := rfl
theorem rs_X5_asFigures_12 (n : Nat) (L : AL) (st : List AV) (M : List AC) : rx_X5_asFigures (n + 1) 12 L st M = am_j (rx_X5_asFigures n) ((tIld 1 1) 12 L st M) := rfl
theorem rs_X5_asFigures_13 (n : Nat) (L : AL) (st : List AV) (M : List AC) : rx_X5_asFigures (n + 1) 13 L st M = am_j (rx_X5_asFigures n) ((tI2 (fun a b => a * b)) 13 L st M) := rfl
theorem rs_X5_asFigures_14 (n : Nat) (L : AL) (st : List AV) (M : List AC) : rx_X5_asFigures (n + 1) 14 L st M = am_j (rx_X5_asFigures n) ((tAld 0 1) 14 L st M) := rfl
theorem rs_X5_asFigures_15 (n : Nat) (L : AL) (st : List AV) (M : List AC) : rx_X5_asFigures (n + 1) 15 L st M = am_j (rx_X5_asFigures n) ((tIld 2 1) 15 L st M) := rfl
theorem rs_X5_asFigures_16 (n : Nat) (L : AL) (st : List AV) (M : List AC) : rx_X5_asFigures (n + 1) 16 L st M = am_j (rx_X5_asFigures n) (tIal 16 L st M) := rfl
theorem rs_X5_asFigures_17 (n : Nat) (L : AL) (st : List AV) (M : List AC) : rx_X5_asFigures (n + 1) 17 L st M = am_j (rx_X5_asFigures n) ((tI2 (fun a b => a + b)) 17 L st M) := rfl
theorem rs_X5_asFigures_18 (n : Nat) (L : AL) (st : List AV) (M : List AC) : rx_X5_asFigures (n + 1) 18 L st M = am_j (rx_X5_asFigures n) ((tIst 1 1) 18 L st M) := rfl
theorem rs_X5_asFigures_19 (n : Nat) (L : AL) (st : List AV) (M : List AC) : rx_X5_asFigures (n + 1) 19 L st M = am_j (rx_X5_asFigures n) ((tIinc 2 1) 19 L st M) := rfl
theorem rs_X5_asFigures_22 (n : Nat) (L : AL) (st : List AV) (M : List AC) : rx_X5_asFigures (n + 1) 22 L st M = am_j (rx_X5_asFigures n) ((tGo 4) 22 L st M) := rfl
theorem rs_X5_asFigures_25 (n : Nat) (L : AL) (st : List AV) (M : List AC) : rx_X5_asFigures (n + 1) 25 L st M = am_j (rx_X5_asFigures n) ((tIld 1 1) 25 L st M) := rfl
theorem rs_X5_asFigures_26 (n : Nat) (L : AL) (st : List AV) (M : List AC) : rx_X5_asFigures (n + 1) 26 L st M = am_e rI st M := rfl
theorem ri_X5_asFigures (c : Prop) [Decidable c] (p q n : Nat) (L : AL) (st : List AV) (M : List AC) : rx_X5_asFigures n (if c then p else q) L st M = if c then rx_X5_asFigures n p L st M else rx_X5_asFigures n q L st M := by split <;> rfl
theorem rm_X5_asFigures {n k pc : Nat} {L : AL} {st : List AV} {M : List AC} {x : Option AV × List AC} (h : rx_X5_asFigures n pc L st M = some x) (hk : n ≤ k) : rx_X5_asFigures k pc L st M = some x := am_r_mono n k h hk
def fn_X5_asFigures : Fn := am_fn rx_X5_asFigures 3
theorem fok_X5_asFigures : Fok mi_X5_asFigures fn_X5_asFigures := fun _ _ _ _ h => am_fok ok_X5_asFigures rk_X5_asFigures rfl h
theorem sp_X5_asFigures {M : List AC} {q : Nat} {v : F4} (h : M[q]? = some (aI (l4 v))) (hq : am_k q = none) : fn_X5_asFigures [vR q] M = some (some (vI (fg v)), M) := by
  (refine am_fnI (tb := tb_X5_asFigures) (n := 90) (Nat.le_of_ble_eq_true rfl) (Nat.le_of_ble_eq_true rfl) ?_; show rx_X5_asFigures 90 0 _ _ _ = _)
  simp [↓ri_X5_asFigures, rs_X5_asFigures_0, rs_X5_asFigures_1, rs_X5_asFigures_2, rs_X5_asFigures_3, rs_X5_asFigures_4, rs_X5_asFigures_5, rs_X5_asFigures_6, rs_X5_asFigures_7, rs_X5_asFigures_10, rs_X5_asFigures_12, rs_X5_asFigures_13, rs_X5_asFigures_14, rs_X5_asFigures_15, rs_X5_asFigures_16, rs_X5_asFigures_17, rs_X5_asFigures_18, rs_X5_asFigures_19, rs_X5_asFigures_22, rs_X5_asFigures_25, rs_X5_asFigures_26, -List.getElem?_eq_getElem, am_js, am_e, am_in, am_sl, rI, rZ, rV, rJ, rA, rC, kI, kJ, kR, am_one, am_nl, am_w8, tIc, tLc, tNul, tIld, tLld, tAld, tIst, tLst, tAst, tIinc, tI2, tDv, tL2, tLrem, tLs, tLcmp, tI2l, tL2i, tI2c, tDup, tDup2, tPop, tGo, tIfeq, tIfne, tIflt, tIfge, tIfgt, tIfle, tCmeq, tCmne, tCmlt, tCmge, tCmgt, tCmle, tNu, tTs, tGf, tPf, tGs, tIal, tIas, tBal, tBas, tAln, tSv, tSc, tSb, tSl, tSk, tCv, tCs, tCt, tMx, tMn, wr_10000, wr_100000, wr_1000000, wr_10000000, wr_100000000, wr_2400, wr_9999, wr_0, wr_1, wr_2, wr_3, wr_4, wr_5, wr_6, wr_7, wr_8, wr_9, wr_10, wr_11, wr_12, wr_13, wr_14, wr_15, wr_16, wr_17, wr_18, wr_19, wr_20, wr_21, wr_22, wr_23, wr_24, wr_25, wr_26, wr_27, wr_28, wr_29, wr_30, wr_31, wr_32, wr_33, wr_34, wr_35, wr_36, wr_37, wr_38, wr_39, wr_40, wr_41, wr_42, wr_43, wr_44, wr_45, wr_46, wr_47, wr_48, wr_49, wr_50, wr_51, wr_52, wr_53, wr_54, wr_55, wr_56, wr_57, wr_58, wr_59, wr_60, wr_61, wr_62, wr_63, wr_99, wr_100, wr_192, wr_255, wr_256, wr_343, wr_999, wr_1000, wr_2401, wr_2147483647, wr_65535, wr_m1, wr_m2, wr_m3, wr_m4, wr_m9, ak_1000, ak_1001, ak_1002, ak_0, ak_1, ak_2, ak_3, ak_4, ak_5, ak_6, ak_7, ak_8, ak_9, ak_10, ak_11, ak_12, ak_13, ak_14, ak_15, ak_16, ak_17, ak_18, ak_19, ak_20, ak_21, ak_22, ak_23, ak_24, ak_25, ak_26, ak_27, ak_28, ak_29, ak_30, ak_31, ak_32, ak_33, ak_34, ak_35, ak_36, ak_37, ak_38, ak_39, ak_40, ak_41, ak_42, ak_43, ak_44, ak_45, ak_46, ak_47, h, hq, fg]
abbrev mi_X5_layFigures : Mi := (yX5_layFigures, cX5_layFigures, 3, none, 2)
theorem mf_X5_layFigures : am_mf mi_X5_layFigures 2 := ⟨w_co_X5_layFigures, w_in_X5, ⟨by decide +kernel, by decide +kernel⟩, by decide +kernel, by decide⟩
def tb_X5_layFigures : List (Nat × Tr) := [(0, tIc 0 1), (1, tIst 2 1), (2, tIld 2 1), (3, tIc 4 1), (4, tCmge 28), (7, tIld 2 1), (8, tAld 1 1), (9, tAln), (10, tCmge 28), (13, tAld 1 1), (14, tIld 2 1), (15, tIld 0 1), (16, tIc 4 1), (17, tIld 2 1), (18, tCs 3 fn_X5_figureOf), (21, tIas), (22, tIinc 2 1), (25, tGo 2)]
theorem ok_X5_layFigures : Tok mi_X5_layFigures tb_X5_layFigures :=
  Tc (sd_iconst rfl dX5_layFigures_0) <|
  Tc (sd_istore_n dX5_layFigures_1) <|
  Tc (sd_iload_n dX5_layFigures_2) <|
  Tc (sd_iconst rfl dX5_layFigures_3) <|
  Tc (sd_cm_ge (by decide) dX5_layFigures_4) <|
  Tc (sd_iload_n dX5_layFigures_7) <|
  Tc (sd_aload_n dX5_layFigures_8) <|
  Tc (sd_aln dX5_layFigures_9) <|
  Tc (sd_cm_ge (by decide) dX5_layFigures_10) <|
  Tc (sd_aload_n dX5_layFigures_13) <|
  Tc (sd_iload_n dX5_layFigures_14) <|
  Tc (sd_iload_n dX5_layFigures_15) <|
  Tc (sd_iconst rfl dX5_layFigures_16) <|
  Tc (sd_iload_n dX5_layFigures_17) <|
  Tc (sd_cs fok_X5_figureOf mf_X5_figureOf w_ml_X5_161 w_st_X5_figureOf (by decide) dX5_layFigures_18) <|
  Tc (sd_ias dX5_layFigures_21) <|
  Tc (sd_iinc dX5_layFigures_22) <|
  Tc (sd_goto (by decide) dX5_layFigures_25) <|
  Tn
theorem rk_X5_layFigures : Rok mi_X5_layFigures rV [28] := rk_v dX5_layFigures_28 <| rk_n
def rx_X5_layFigures : Nat → Nat → AL → List AV → List AC → Option (Option AV × List AC) := am_r tb_X5_layFigures rV [28]
theorem rs_X5_layFigures_0 (n : Nat) (L : AL) (st : List AV) (M : List AC) : rx_X5_layFigures (n + 1) 0 L st M = am_j (rx_X5_layFigures n) ((tIc 0 1) 0 L st M) := rfl
theorem rs_X5_layFigures_1 (n : Nat) (L : AL) (st : List AV) (M : List AC) : rx_X5_layFigures (n + 1) 1 L st M = am_j (rx_X5_layFigures n) ((tIst 2 1) 1 L st M) := rfl
theorem rs_X5_layFigures_2 (n : Nat) (L : AL) (st : List AV) (M : List AC) : rx_X5_layFigures (n + 1) 2 L st M = am_j (rx_X5_layFigures n) ((tIld 2 1) 2 L st M) := rfl
theorem rs_X5_layFigures_3 (n : Nat) (L : AL) (st : List AV) (M : List AC) : rx_X5_layFigures (n + 1) 3 L st M = am_j (rx_X5_layFigures n) ((tIc 4 1) 3 L st M) := rfl
theorem rs_X5_layFigures_4 (n : Nat) (L : AL) (st : List AV) (M : List AC) : rx_X5_layFigures (n + 1) 4 L st M = am_j (rx_X5_layFigures n) ((tCmge 28) 4 L st M) := rfl
theorem rs_X5_layFigures_7 (n : Nat) (L : AL) (st : List AV) (M : List AC) : rx_X5_layFigures (n + 1) 7 L st M = am_j (rx_X5_layFigures n) ((tIld 2 1) 7 L st M) := rfl
theorem rs_X5_layFigures_8 (n : Nat) (L : AL) (st : List AV) (M : List AC) : rx_X5_layFigures (n + 1) 8 L st M = am_j (rx_X5_layFigures n) ((tAld 1 1) 8 L st M) := rfl
theorem rs_X5_layFigures_9 (n : Nat) (L : AL) (st : List AV) (M : List AC) : rx_X5_layFigures (n + 1) 9 L st M = am_j (rx_X5_layFigures n) (tAln 9 L st M) := rfl
theorem rs_X5_layFigures_10 (n : Nat) (L : AL) (st : List AV) (M : List AC) : rx_X5_layFigures (n + 1) 10 L st M = am_j (rx_X5_layFigures n) ((tCmge 28) 10 L st M) := rfl
theorem rs_X5_layFigures_13 (n : Nat) (L : AL) (st : List AV) (M : List AC) : rx_X5_layFigures (n + 1) 13 L st M = am_j (rx_X5_layFigures n) ((tAld 1 1) 13 L st M) := rfl
theorem rs_X5_layFigures_14 (n : Nat) (L : AL) (st : List AV) (M : List AC) : rx_X5_layFigures (n + 1) 14 L st M = am_j (rx_X5_layFigures n) ((tIld 2 1) 14 L st M) := rfl
theorem rs_X5_layFigures_15 (n : Nat) (L : AL) (st : List AV) (M : List AC) : rx_X5_layFigures (n + 1) 15 L st M = am_j (rx_X5_layFigures n) ((tIld 0 1) 15 L st M) := rfl
theorem rs_X5_layFigures_16 (n : Nat) (L : AL) (st : List AV) (M : List AC) : rx_X5_layFigures (n + 1) 16 L st M = am_j (rx_X5_layFigures n) ((tIc 4 1) 16 L st M) := rfl
theorem rs_X5_layFigures_17 (n : Nat) (L : AL) (st : List AV) (M : List AC) : rx_X5_layFigures (n + 1) 17 L st M = am_j (rx_X5_layFigures n) ((tIld 2 1) 17 L st M) := rfl
theorem rs_X5_layFigures_18 (n : Nat) (L : AL) (st : List AV) (M : List AC) : rx_X5_layFigures (n + 1) 18 L st M = am_j (rx_X5_layFigures n) ((tCs 3 fn_X5_figureOf) 18 L st M) := rfl
theorem rs_X5_layFigures_21 (n : Nat) (L : AL) (st : List AV) (M : List AC) : rx_X5_layFigures (n + 1) 21 L st M = am_j (rx_X5_layFigures n) (tIas 21 L st M) := rfl
theorem rs_X5_layFigures_22 (n : Nat) (L : AL) (st : List AV) (M : List AC) : rx_X5_layFigures (n + 1) 22 L st M = am_j (rx_X5_layFigures n) ((tIinc 2 1) 22 L st M) := rfl
theorem rs_X5_layFigures_25 (n : Nat) (L : AL) (st : List AV) (M : List AC) : rx_X5_layFigures (n + 1) 25 L st M = am_j (rx_X5_layFigures n) ((tGo 2) 25 L st M) := rfl
theorem rs_X5_layFigures_28 (n : Nat) (L : AL) (st : List AV) (M : List AC) : rx_X5_layFigures (n + 1) 28 L st M = am_e rV st M := rfl
theorem ri_X5_layFigures (c : Prop) [Decidable c] (p q n : Nat) (L : AL) (st : List AV) (M : List AC) : rx_X5_layFigures n (if c then p else q) L st M = if c then rx_X5_layFigures n p L st M else rx_X5_layFigures n q L st M := by split <;> rfl
theorem rm_X5_layFigures {n k pc : Nat} {L : AL} {st : List AV} {M : List AC} {x : Option AV × List AC} (h : rx_X5_layFigures n pc L st M = some x) (hk : n ≤ k) : rx_X5_layFigures k pc L st M = some x := am_r_mono n k h hk
def fn_X5_layFigures : Fn := am_fn rx_X5_layFigures 3
theorem fok_X5_layFigures : Fok mi_X5_layFigures fn_X5_layFigures := fun _ _ _ _ h => am_fok ok_X5_layFigures rk_X5_layFigures rfl h
theorem sp_X5_layFigures {M : List AC} {q : Nat} {v : F4} (h : M[q]? = some (aI (l4 v))) (hq : am_k q = none) (x : Int) (hx : 0 ≤ x ∧ x < 2147483648) : fn_X5_layFigures [vI x, vR q] M = some (none, M.set q (aI (l4 (uf x)))) := by
  have hl : ∀ c : AC, (M.set q c)[q]? = some c := fun c => List.getElem?_set_self (len_of h)
  (refine am_fnI (tb := tb_X5_layFigures) (n := 90) (Nat.le_of_ble_eq_true rfl) (Nat.le_of_ble_eq_true rfl) ?_; show rx_X5_layFigures 90 0 _ _ _ = _)
  simp [↓ri_X5_layFigures, rs_X5_layFigures_0, rs_X5_layFigures_1, rs_X5_layFigures_2, rs_X5_layFigures_3, rs_X5_layFigures_4, rs_X5_layFigures_7, rs_X5_layFigures_8, rs_X5_layFigures_9, rs_X5_layFigures_10, rs_X5_layFigures_13, rs_X5_layFigures_14, rs_X5_layFigures_15, rs_X5_layFigures_16, rs_X5_layFigures_17, rs_X5_layFigures_18, rs_X5_layFigures_21, rs_X5_layFigures_22, rs_X5_layFigures_25, rs_X5_layFigures_28, -List.getElem?_eq_getElem, am_js, am_e, am_in, am_sl, rI, rZ, rV, rJ, rA, rC, kI, kJ, kR, am_one, am_nl, am_w8, tIc, tLc, tNul, tIld, tLld, tAld, tIst, tLst, tAst, tIinc, tI2, tDv, tL2, tLrem, tLs, tLcmp, tI2l, tL2i, tI2c, tDup, tDup2, tPop, tGo, tIfeq, tIfne, tIflt, tIfge, tIfgt, tIfle, tCmeq, tCmne, tCmlt, tCmge, tCmgt, tCmle, tNu, tTs, tGf, tPf, tGs, tIal, tIas, tBal, tBas, tAln, tSv, tSc, tSb, tSl, tSk, tCv, tCs, tCt, tMx, tMn, wr_10000, wr_100000, wr_1000000, wr_10000000, wr_100000000, wr_2400, wr_9999, wr_0, wr_1, wr_2, wr_3, wr_4, wr_5, wr_6, wr_7, wr_8, wr_9, wr_10, wr_11, wr_12, wr_13, wr_14, wr_15, wr_16, wr_17, wr_18, wr_19, wr_20, wr_21, wr_22, wr_23, wr_24, wr_25, wr_26, wr_27, wr_28, wr_29, wr_30, wr_31, wr_32, wr_33, wr_34, wr_35, wr_36, wr_37, wr_38, wr_39, wr_40, wr_41, wr_42, wr_43, wr_44, wr_45, wr_46, wr_47, wr_48, wr_49, wr_50, wr_51, wr_52, wr_53, wr_54, wr_55, wr_56, wr_57, wr_58, wr_59, wr_60, wr_61, wr_62, wr_63, wr_99, wr_100, wr_192, wr_255, wr_256, wr_343, wr_999, wr_1000, wr_2401, wr_2147483647, wr_65535, wr_m1, wr_m2, wr_m3, wr_m4, wr_m9, ak_1000, ak_1001, ak_1002, ak_0, ak_1, ak_2, ak_3, ak_4, ak_5, ak_6, ak_7, ak_8, ak_9, ak_10, ak_11, ak_12, ak_13, ak_14, ak_15, ak_16, ak_17, ak_18, ak_19, ak_20, ak_21, ak_22, ak_23, ak_24, ak_25, ak_26, ak_27, ak_28, ak_29, ak_30, ak_31, ak_32, ak_33, ak_34, ak_35, ak_36, ak_37, ak_38, ak_39, ak_40, ak_41, ak_42, ak_43, ak_44, ak_45, ak_46, ak_47, h, hq, hl, sp_X5_figureOf, hx, am_tens, uf]
abbrev mi_X5_isRow : Mi := (yX5_isRow, cX5_isRow, 4, some .boolean, 2)
theorem mf_X5_isRow : am_mf mi_X5_isRow 2 := ⟨w_co_X5_isRow, w_in_X5, ⟨by decide +kernel, by decide +kernel⟩, by decide +kernel, by decide⟩
def tb_X5_isRow : List (Nat × Tr) := [(0, tIld 0 1), (1, tIflt 13), (4, tIld 0 1), (5, tGs (vR 1000)), (8, tIc 4 1), (9, tIal), (10, tCmlt 15), (13, tIc 0 1), (15, tIc 0 1), (16, tIst 2 1), (17, tIld 2 1), (18, tIc 4 1), (19, tCmge 48), (22, tIld 0 1), (23, tIc 4 1), (24, tIld 2 1), (25, tCs 3 fn_X5_figureOf), (28, tIst 3 1), (29, tIld 3 1), (30, tIld 1 1), (31, tCmlt 40), (34, tIld 3 1), (35, tIc 6 2), (37, tCmle 42), (40, tIc 0 1), (42, tIinc 2 1), (45, tGo 17), (48, tIc 1 1)]
theorem ok_X5_isRow : Tok mi_X5_isRow tb_X5_isRow :=
  Tc (sd_iload_n dX5_isRow_0) <|
  Tc (sd_if_lt (by decide) dX5_isRow_1) <|
  Tc (sd_iload_n dX5_isRow_4) <|
  Tc (sd_gsTens w_fl_X5_158 dX5_isRow_5) <|
  Tc (sd_iconst rfl dX5_isRow_8) <|
  Tc (sd_ial dX5_isRow_9) <|
  Tc (sd_cm_lt (by decide) dX5_isRow_10) <|
  Tc (sd_iconst rfl dX5_isRow_13) <|
  Tc (sd_iconst rfl dX5_isRow_15) <|
  Tc (sd_istore_n dX5_isRow_16) <|
  Tc (sd_iload_n dX5_isRow_17) <|
  Tc (sd_iconst rfl dX5_isRow_18) <|
  Tc (sd_cm_ge (by decide) dX5_isRow_19) <|
  Tc (sd_iload_n dX5_isRow_22) <|
  Tc (sd_iconst rfl dX5_isRow_23) <|
  Tc (sd_iload_n dX5_isRow_24) <|
  Tc (sd_cs fok_X5_figureOf mf_X5_figureOf w_ml_X5_161 w_st_X5_figureOf (by decide) dX5_isRow_25) <|
  Tc (sd_istore_n dX5_isRow_28) <|
  Tc (sd_iload_n dX5_isRow_29) <|
  Tc (sd_iload_n dX5_isRow_30) <|
  Tc (sd_cm_lt (by decide) dX5_isRow_31) <|
  Tc (sd_iload_n dX5_isRow_34) <|
  Tc (sd_bipush (by decide +kernel) dX5_isRow_35) <|
  Tc (sd_cm_le (by decide) dX5_isRow_37) <|
  Tc (sd_iconst rfl dX5_isRow_40) <|
  Tc (sd_iinc dX5_isRow_42) <|
  Tc (sd_goto (by decide) dX5_isRow_45) <|
  Tc (sd_iconst rfl dX5_isRow_48) <|
  Tn
theorem rk_X5_isRow : Rok mi_X5_isRow rZ [14, 41, 49] := rk_z dX5_isRow_14 <| rk_z dX5_isRow_41 <| rk_z dX5_isRow_49 <| rk_n
def rx_X5_isRow : Nat → Nat → AL → List AV → List AC → Option (Option AV × List AC) := am_r tb_X5_isRow rZ [14, 41, 49]
theorem rs_X5_isRow_0 (n : Nat) (L : AL) (st : List AV) (M : List AC) : rx_X5_isRow (n + 1) 0 L st M = am_j (rx_X5_isRow n) ((tIld 0 1) 0 L st M) := rfl
theorem rs_X5_isRow_1 (n : Nat) (L : AL) (st : List AV) (M : List AC) : rx_X5_isRow (n + 1) 1 L st M = am_j (rx_X5_isRow n) ((tIflt 13) 1 L st M) := rfl
theorem rs_X5_isRow_4 (n : Nat) (L : AL) (st : List AV) (M : List AC) : rx_X5_isRow (n + 1) 4 L st M = am_j (rx_X5_isRow n) ((tIld 0 1) 4 L st M) := rfl
theorem rs_X5_isRow_5 (n : Nat) (L : AL) (st : List AV) (M : List AC) : rx_X5_isRow (n + 1) 5 L st M = am_j (rx_X5_isRow n) ((tGs (vR 1000)) 5 L st M) := rfl
theorem rs_X5_isRow_8 (n : Nat) (L : AL) (st : List AV) (M : List AC) : rx_X5_isRow (n + 1) 8 L st M = am_j (rx_X5_isRow n) ((tIc 4 1) 8 L st M) := rfl
theorem rs_X5_isRow_9 (n : Nat) (L : AL) (st : List AV) (M : List AC) : rx_X5_isRow (n + 1) 9 L st M = am_j (rx_X5_isRow n) (tIal 9 L st M) := rfl
theorem rs_X5_isRow_10 (n : Nat) (L : AL) (st : List AV) (M : List AC) : rx_X5_isRow (n + 1) 10 L st M = am_j (rx_X5_isRow n) ((tCmlt 15) 10 L st M) := rfl
theorem rs_X5_isRow_13 (n : Nat) (L : AL) (st : List AV) (M : List AC) : rx_X5_isRow (n + 1) 13 L st M = am_j (rx_X5_isRow n) ((tIc 0 1) 13 L st M) := rfl
theorem rs_X5_isRow_15 (n : Nat) (L : AL) (st : List AV) (M : List AC) : rx_X5_isRow (n + 1) 15 L st M = am_j (rx_X5_isRow n) ((tIc 0 1) 15 L st M) := rfl
theorem rs_X5_isRow_16 (n : Nat) (L : AL) (st : List AV) (M : List AC) : rx_X5_isRow (n + 1) 16 L st M = am_j (rx_X5_isRow n) ((tIst 2 1) 16 L st M) := rfl
theorem rs_X5_isRow_17 (n : Nat) (L : AL) (st : List AV) (M : List AC) : rx_X5_isRow (n + 1) 17 L st M = am_j (rx_X5_isRow n) ((tIld 2 1) 17 L st M) := rfl
theorem rs_X5_isRow_18 (n : Nat) (L : AL) (st : List AV) (M : List AC) : rx_X5_isRow (n + 1) 18 L st M = am_j (rx_X5_isRow n) ((tIc 4 1) 18 L st M) := rfl
theorem rs_X5_isRow_19 (n : Nat) (L : AL) (st : List AV) (M : List AC) : rx_X5_isRow (n + 1) 19 L st M = am_j (rx_X5_isRow n) ((tCmge 48) 19 L st M) := rfl
theorem rs_X5_isRow_22 (n : Nat) (L : AL) (st : List AV) (M : List AC) : rx_X5_isRow (n + 1) 22 L st M = am_j (rx_X5_isRow n) ((tIld 0 1) 22 L st M) := rfl
theorem rs_X5_isRow_23 (n : Nat) (L : AL) (st : List AV) (M : List AC) : rx_X5_isRow (n + 1) 23 L st M = am_j (rx_X5_isRow n) ((tIc 4 1) 23 L st M) := rfl
theorem rs_X5_isRow_24 (n : Nat) (L : AL) (st : List AV) (M : List AC) : rx_X5_isRow (n + 1) 24 L st M = am_j (rx_X5_isRow n) ((tIld 2 1) 24 L st M) := rfl
theorem rs_X5_isRow_25 (n : Nat) (L : AL) (st : List AV) (M : List AC) : rx_X5_isRow (n + 1) 25 L st M = am_j (rx_X5_isRow n) ((tCs 3 fn_X5_figureOf) 25 L st M) := rfl
theorem rs_X5_isRow_28 (n : Nat) (L : AL) (st : List AV) (M : List AC) : rx_X5_isRow (n + 1) 28 L st M = am_j (rx_X5_isRow n) ((tIst 3 1) 28 L st M) := rfl
theorem rs_X5_isRow_29 (n : Nat) (L : AL) (st : List AV) (M : List AC) : rx_X5_isRow (n + 1) 29 L st M = am_j (rx_X5_isRow n) ((tIld 3 1) 29 L st M) := rfl
theorem rs_X5_isRow_30 (n : Nat) (L : AL) (st : List AV) (M : List AC) : rx_X5_isRow (n + 1) 30 L st M = am_j (rx_X5_isRow n) ((tIld 1 1) 30 L st M) := rfl
theorem rs_X5_isRow_31 (n : Nat) (L : AL) (st : List AV) (M : List AC) : rx_X5_isRow (n + 1) 31 L st M = am_j (rx_X5_isRow n) ((tCmlt 40) 31 L st M) := rfl
theorem rs_X5_isRow_34 (n : Nat) (L : AL) (st : List AV) (M : List AC) : rx_X5_isRow (n + 1) 34 L st M = am_j (rx_X5_isRow n) ((tIld 3 1) 34 L st M) := rfl
theorem rs_X5_isRow_35 (n : Nat) (L : AL) (st : List AV) (M : List AC) : rx_X5_isRow (n + 1) 35 L st M = am_j (rx_X5_isRow n) ((tIc 6 2) 35 L st M) := rfl
theorem rs_X5_isRow_37 (n : Nat) (L : AL) (st : List AV) (M : List AC) : rx_X5_isRow (n + 1) 37 L st M = am_j (rx_X5_isRow n) ((tCmle 42) 37 L st M) := rfl
theorem rs_X5_isRow_40 (n : Nat) (L : AL) (st : List AV) (M : List AC) : rx_X5_isRow (n + 1) 40 L st M = am_j (rx_X5_isRow n) ((tIc 0 1) 40 L st M) := rfl
theorem rs_X5_isRow_42 (n : Nat) (L : AL) (st : List AV) (M : List AC) : rx_X5_isRow (n + 1) 42 L st M = am_j (rx_X5_isRow n) ((tIinc 2 1) 42 L st M) := rfl
theorem rs_X5_isRow_45 (n : Nat) (L : AL) (st : List AV) (M : List AC) : rx_X5_isRow (n + 1) 45 L st M = am_j (rx_X5_isRow n) ((tGo 17) 45 L st M) := rfl
theorem rs_X5_isRow_48 (n : Nat) (L : AL) (st : List AV) (M : List AC) : rx_X5_isRow (n + 1) 48 L st M = am_j (rx_X5_isRow n) ((tIc 1 1) 48 L st M) := rfl
theorem rs_X5_isRow_14 (n : Nat) (L : AL) (st : List AV) (M : List AC) : rx_X5_isRow (n + 1) 14 L st M = am_e rZ st M := rfl
theorem rs_X5_isRow_41 (n : Nat) (L : AL) (st : List AV) (M : List AC) : rx_X5_isRow (n + 1) 41 L st M = am_e rZ st M := rfl
theorem rs_X5_isRow_49 (n : Nat) (L : AL) (st : List AV) (M : List AC) : rx_X5_isRow (n + 1) 49 L st M = am_e rZ st M := rfl
theorem ri_X5_isRow (c : Prop) [Decidable c] (p q n : Nat) (L : AL) (st : List AV) (M : List AC) : rx_X5_isRow n (if c then p else q) L st M = if c then rx_X5_isRow n p L st M else rx_X5_isRow n q L st M := by split <;> rfl
theorem rm_X5_isRow {n k pc : Nat} {L : AL} {st : List AV} {M : List AC} {x : Option AV × List AC} (h : rx_X5_isRow n pc L st M = some x) (hk : n ≤ k) : rx_X5_isRow k pc L st M = some x := am_r_mono n k h hk
def fn_X5_isRow : Fn := am_fn rx_X5_isRow 4
theorem fok_X5_isRow : Fok mi_X5_isRow fn_X5_isRow := fun _ _ _ _ h => am_fok ok_X5_isRow rk_X5_isRow rfl h
theorem sp_X5_isRow (x t : Int) (M : List AC) (hx : -2147483648 ≤ x ∧ x < 2147483648) (ht : t = 0 ∨ t = 1) : fn_X5_isRow [vI x, vI t] M = some (some (vI (if 0 ≤ x ∧ x < 10000 ∧ i4 t 6 (uf x) then 1 else 0)), M) := by
  have ex : wr x = x := wr_id (by omega) (by omega)
  have et : wr t = t := wr_id (by omega) (by omega)
  by_cases h0 : x < 0
  · (refine am_fnI (tb := tb_X5_isRow) (n := 150) (Nat.le_of_ble_eq_true rfl) (Nat.le_of_ble_eq_true rfl) ?_; show rx_X5_isRow 150 0 _ _ _ = _)
    simp [↓ri_X5_isRow, rs_X5_isRow_0, rs_X5_isRow_1, rs_X5_isRow_4, rs_X5_isRow_5, rs_X5_isRow_8, rs_X5_isRow_9, rs_X5_isRow_10, rs_X5_isRow_13, rs_X5_isRow_15, rs_X5_isRow_16, rs_X5_isRow_17, rs_X5_isRow_18, rs_X5_isRow_19, rs_X5_isRow_22, rs_X5_isRow_23, rs_X5_isRow_24, rs_X5_isRow_25, rs_X5_isRow_28, rs_X5_isRow_29, rs_X5_isRow_30, rs_X5_isRow_31, rs_X5_isRow_34, rs_X5_isRow_35, rs_X5_isRow_37, rs_X5_isRow_40, rs_X5_isRow_42, rs_X5_isRow_45, rs_X5_isRow_48, rs_X5_isRow_14, rs_X5_isRow_41, rs_X5_isRow_49, -List.getElem?_eq_getElem, am_js, am_e, am_in, am_sl, rI, rZ, rV, rJ, rA, rC, kI, kJ, kR, am_one, am_nl, am_w8, tIc, tLc, tNul, tIld, tLld, tAld, tIst, tLst, tAst, tIinc, tI2, tDv, tL2, tLrem, tLs, tLcmp, tI2l, tL2i, tI2c, tDup, tDup2, tPop, tGo, tIfeq, tIfne, tIflt, tIfge, tIfgt, tIfle, tCmeq, tCmne, tCmlt, tCmge, tCmgt, tCmle, tNu, tTs, tGf, tPf, tGs, tIal, tIas, tBal, tBas, tAln, tSv, tSc, tSb, tSl, tSk, tCv, tCs, tCt, tMx, tMn, wr_10000, wr_100000, wr_1000000, wr_10000000, wr_100000000, wr_2400, wr_9999, wr_0, wr_1, wr_2, wr_3, wr_4, wr_5, wr_6, wr_7, wr_8, wr_9, wr_10, wr_11, wr_12, wr_13, wr_14, wr_15, wr_16, wr_17, wr_18, wr_19, wr_20, wr_21, wr_22, wr_23, wr_24, wr_25, wr_26, wr_27, wr_28, wr_29, wr_30, wr_31, wr_32, wr_33, wr_34, wr_35, wr_36, wr_37, wr_38, wr_39, wr_40, wr_41, wr_42, wr_43, wr_44, wr_45, wr_46, wr_47, wr_48, wr_49, wr_50, wr_51, wr_52, wr_53, wr_54, wr_55, wr_56, wr_57, wr_58, wr_59, wr_60, wr_61, wr_62, wr_63, wr_99, wr_100, wr_192, wr_255, wr_256, wr_343, wr_999, wr_1000, wr_2401, wr_2147483647, wr_65535, wr_m1, wr_m2, wr_m3, wr_m4, wr_m9, ak_1000, ak_1001, ak_1002, ak_0, ak_1, ak_2, ak_3, ak_4, ak_5, ak_6, ak_7, ak_8, ak_9, ak_10, ak_11, ak_12, ak_13, ak_14, ak_15, ak_16, ak_17, ak_18, ak_19, ak_20, ak_21, ak_22, ak_23, ak_24, ak_25, ak_26, ak_27, ak_28, ak_29, ak_30, ak_31, ak_32, ak_33, ak_34, ak_35, ak_36, ak_37, ak_38, ak_39, ak_40, ak_41, ak_42, ak_43, ak_44, ak_45, ak_46, ak_47, ex, h0]
    intro h; omega
  · by_cases h1 : 10000 ≤ x
    · (refine am_fnI (tb := tb_X5_isRow) (n := 150) (Nat.le_of_ble_eq_true rfl) (Nat.le_of_ble_eq_true rfl) ?_; show rx_X5_isRow 150 0 _ _ _ = _)
      simp [↓ri_X5_isRow, rs_X5_isRow_0, rs_X5_isRow_1, rs_X5_isRow_4, rs_X5_isRow_5, rs_X5_isRow_8, rs_X5_isRow_9, rs_X5_isRow_10, rs_X5_isRow_13, rs_X5_isRow_15, rs_X5_isRow_16, rs_X5_isRow_17, rs_X5_isRow_18, rs_X5_isRow_19, rs_X5_isRow_22, rs_X5_isRow_23, rs_X5_isRow_24, rs_X5_isRow_25, rs_X5_isRow_28, rs_X5_isRow_29, rs_X5_isRow_30, rs_X5_isRow_31, rs_X5_isRow_34, rs_X5_isRow_35, rs_X5_isRow_37, rs_X5_isRow_40, rs_X5_isRow_42, rs_X5_isRow_45, rs_X5_isRow_48, rs_X5_isRow_14, rs_X5_isRow_41, rs_X5_isRow_49, -List.getElem?_eq_getElem, am_js, am_e, am_in, am_sl, rI, rZ, rV, rJ, rA, rC, kI, kJ, kR, am_one, am_nl, am_w8, tIc, tLc, tNul, tIld, tLld, tAld, tIst, tLst, tAst, tIinc, tI2, tDv, tL2, tLrem, tLs, tLcmp, tI2l, tL2i, tI2c, tDup, tDup2, tPop, tGo, tIfeq, tIfne, tIflt, tIfge, tIfgt, tIfle, tCmeq, tCmne, tCmlt, tCmge, tCmgt, tCmle, tNu, tTs, tGf, tPf, tGs, tIal, tIas, tBal, tBas, tAln, tSv, tSc, tSb, tSl, tSk, tCv, tCs, tCt, tMx, tMn, wr_10000, wr_100000, wr_1000000, wr_10000000, wr_100000000, wr_2400, wr_9999, wr_0, wr_1, wr_2, wr_3, wr_4, wr_5, wr_6, wr_7, wr_8, wr_9, wr_10, wr_11, wr_12, wr_13, wr_14, wr_15, wr_16, wr_17, wr_18, wr_19, wr_20, wr_21, wr_22, wr_23, wr_24, wr_25, wr_26, wr_27, wr_28, wr_29, wr_30, wr_31, wr_32, wr_33, wr_34, wr_35, wr_36, wr_37, wr_38, wr_39, wr_40, wr_41, wr_42, wr_43, wr_44, wr_45, wr_46, wr_47, wr_48, wr_49, wr_50, wr_51, wr_52, wr_53, wr_54, wr_55, wr_56, wr_57, wr_58, wr_59, wr_60, wr_61, wr_62, wr_63, wr_99, wr_100, wr_192, wr_255, wr_256, wr_343, wr_999, wr_1000, wr_2401, wr_2147483647, wr_65535, wr_m1, wr_m2, wr_m3, wr_m4, wr_m9, ak_1000, ak_1001, ak_1002, ak_0, ak_1, ak_2, ak_3, ak_4, ak_5, ak_6, ak_7, ak_8, ak_9, ak_10, ak_11, ak_12, ak_13, ak_14, ak_15, ak_16, ak_17, ak_18, ak_19, ak_20, ak_21, ak_22, ak_23, ak_24, ak_25, ak_26, ak_27, ak_28, ak_29, ak_30, ak_31, ak_32, ak_33, ak_34, ak_35, ak_36, ak_37, ak_38, ak_39, ak_40, ak_41, ak_42, ak_43, ak_44, ak_45, ak_46, ak_47, ex, h0, h1, am_tens]
      (repeat' split) <;> first | rfl | omega
    · have d0 : 0 ≤ x / 1000 % 10 ∧ x / 1000 % 10 < 10 := by omega
      have d1 : 0 ≤ x / 100 % 10 ∧ x / 100 % 10 < 10 := by omega
      have d2 : 0 ≤ x / 10 % 10 ∧ x / 10 % 10 < 10 := by omega
      have d3 : 0 ≤ x % 10 ∧ x % 10 < 10 := by omega
      have hx0 : 0 ≤ x ∧ x < 2147483648 := by omega
      have hx1 : ¬ 10000 ≤ x := h1
      unfold i4 uf
      dsimp only
      (refine am_fnI (tb := tb_X5_isRow) (n := 150) (Nat.le_of_ble_eq_true rfl) (Nat.le_of_ble_eq_true rfl) ?_; show rx_X5_isRow 150 0 _ _ _ = _)
      simp [↓ri_X5_isRow, rs_X5_isRow_0, rs_X5_isRow_1, rs_X5_isRow_4, rs_X5_isRow_5, rs_X5_isRow_8, rs_X5_isRow_9, rs_X5_isRow_10, rs_X5_isRow_13, rs_X5_isRow_15, rs_X5_isRow_16, rs_X5_isRow_17, rs_X5_isRow_18, rs_X5_isRow_19, rs_X5_isRow_22, rs_X5_isRow_23, rs_X5_isRow_24, rs_X5_isRow_25, rs_X5_isRow_28, rs_X5_isRow_29, rs_X5_isRow_30, rs_X5_isRow_31, rs_X5_isRow_34, rs_X5_isRow_35, rs_X5_isRow_37, rs_X5_isRow_40, rs_X5_isRow_42, rs_X5_isRow_45, rs_X5_isRow_48, rs_X5_isRow_14, rs_X5_isRow_41, rs_X5_isRow_49, -List.getElem?_eq_getElem, am_js, am_e, am_in, am_sl, rI, rZ, rV, rJ, rA, rC, kI, kJ, kR, am_one, am_nl, am_w8, tIc, tLc, tNul, tIld, tLld, tAld, tIst, tLst, tAst, tIinc, tI2, tDv, tL2, tLrem, tLs, tLcmp, tI2l, tL2i, tI2c, tDup, tDup2, tPop, tGo, tIfeq, tIfne, tIflt, tIfge, tIfgt, tIfle, tCmeq, tCmne, tCmlt, tCmge, tCmgt, tCmle, tNu, tTs, tGf, tPf, tGs, tIal, tIas, tBal, tBas, tAln, tSv, tSc, tSb, tSl, tSk, tCv, tCs, tCt, tMx, tMn, wr_10000, wr_100000, wr_1000000, wr_10000000, wr_100000000, wr_2400, wr_9999, wr_0, wr_1, wr_2, wr_3, wr_4, wr_5, wr_6, wr_7, wr_8, wr_9, wr_10, wr_11, wr_12, wr_13, wr_14, wr_15, wr_16, wr_17, wr_18, wr_19, wr_20, wr_21, wr_22, wr_23, wr_24, wr_25, wr_26, wr_27, wr_28, wr_29, wr_30, wr_31, wr_32, wr_33, wr_34, wr_35, wr_36, wr_37, wr_38, wr_39, wr_40, wr_41, wr_42, wr_43, wr_44, wr_45, wr_46, wr_47, wr_48, wr_49, wr_50, wr_51, wr_52, wr_53, wr_54, wr_55, wr_56, wr_57, wr_58, wr_59, wr_60, wr_61, wr_62, wr_63, wr_99, wr_100, wr_192, wr_255, wr_256, wr_343, wr_999, wr_1000, wr_2401, wr_2147483647, wr_65535, wr_m1, wr_m2, wr_m3, wr_m4, wr_m9, ak_1000, ak_1001, ak_1002, ak_0, ak_1, ak_2, ak_3, ak_4, ak_5, ak_6, ak_7, ak_8, ak_9, ak_10, ak_11, ak_12, ak_13, ak_14, ak_15, ak_16, ak_17, ak_18, ak_19, ak_20, ak_21, ak_22, ak_23, ak_24, ak_25, ak_26, ak_27, ak_28, ak_29, ak_30, ak_31, ak_32, ak_33, ak_34, ak_35, ak_36, ak_37, ak_38, ak_39, ak_40, ak_41, ak_42, ak_43, ak_44, ak_45, ak_46, ak_47, ex, et, h0, h1, am_tens, sp_X5_figureOf, hx0]
      generalize x / 1000 % 10 = a0 at d0 ⊢
      generalize x / 100 % 10 = a1 at d1 ⊢
      generalize x / 10 % 10 = a2 at d2 ⊢
      generalize x % 10 = a3 at d3 ⊢
      have w0 : wr a0 = a0 := wr_id (by omega) (by omega)
      have w1 : wr a1 = a1 := wr_id (by omega) (by omega)
      have w2 : wr a2 = a2 := wr_id (by omega) (by omega)
      have w3 : wr a3 = a3 := wr_id (by omega) (by omega)
      simp only [w0, w1, w2, w3]
      (repeat' split) <;> first | rfl | omega
abbrev mi_X5_wipe : Mi := (yX5_wipe, cX5_wipe, 2, some .int, 1)
theorem mf_X5_wipe : am_mf mi_X5_wipe 0 := ⟨w_co_X5_wipe, w_in_X5, ⟨by decide +kernel, by decide +kernel⟩, by decide +kernel, by decide⟩
def tb_X5_wipe : List (Nat × Tr) := [(0, tAld 0 1), (1, tGf 5 1), (4, tIst 1 1), (5, tAld 0 1), (6, tIc 0 1), (7, tPf kI 5 1), (10, tIld 1 1)]
theorem ok_X5_wipe : Tok mi_X5_wipe tb_X5_wipe :=
  Tc (sd_aload_n dX5_wipe_0) <|
  Tc (sd_getf (T := TX5) rfl giX5 (by decide) w_fl_X5_13 dX5_wipe_1) <|
  Tc (sd_istore_n dX5_wipe_4) <|
  Tc (sd_aload_n dX5_wipe_5) <|
  Tc (sd_iconst rfl dX5_wipe_6) <|
  Tc (sd_putf (T := TX5) rfl giX5 (by decide) w_fl_X5_13 tyX5 tyX5_ok nmX5 (kI_ok) rfl dX5_wipe_7) <|
  Tc (sd_iload_n dX5_wipe_10) <|
  Tn
theorem rk_X5_wipe : Rok mi_X5_wipe rI [11] := rk_i dX5_wipe_11 <| rk_n
def rx_X5_wipe : Nat → Nat → AL → List AV → List AC → Option (Option AV × List AC) := am_r tb_X5_wipe rI [11]
theorem rs_X5_wipe_0 (n : Nat) (L : AL) (st : List AV) (M : List AC) : rx_X5_wipe (n + 1) 0 L st M = am_j (rx_X5_wipe n) ((tAld 0 1) 0 L st M) := rfl
theorem rs_X5_wipe_1 (n : Nat) (L : AL) (st : List AV) (M : List AC) : rx_X5_wipe (n + 1) 1 L st M = am_j (rx_X5_wipe n) ((tGf 5 1) 1 L st M) := rfl
theorem rs_X5_wipe_4 (n : Nat) (L : AL) (st : List AV) (M : List AC) : rx_X5_wipe (n + 1) 4 L st M = am_j (rx_X5_wipe n) ((tIst 1 1) 4 L st M) := rfl
theorem rs_X5_wipe_5 (n : Nat) (L : AL) (st : List AV) (M : List AC) : rx_X5_wipe (n + 1) 5 L st M = am_j (rx_X5_wipe n) ((tAld 0 1) 5 L st M) := rfl
theorem rs_X5_wipe_6 (n : Nat) (L : AL) (st : List AV) (M : List AC) : rx_X5_wipe (n + 1) 6 L st M = am_j (rx_X5_wipe n) ((tIc 0 1) 6 L st M) := rfl
theorem rs_X5_wipe_7 (n : Nat) (L : AL) (st : List AV) (M : List AC) : rx_X5_wipe (n + 1) 7 L st M = am_j (rx_X5_wipe n) ((tPf kI 5 1) 7 L st M) := rfl
theorem rs_X5_wipe_10 (n : Nat) (L : AL) (st : List AV) (M : List AC) : rx_X5_wipe (n + 1) 10 L st M = am_j (rx_X5_wipe n) ((tIld 1 1) 10 L st M) := rfl
theorem rs_X5_wipe_11 (n : Nat) (L : AL) (st : List AV) (M : List AC) : rx_X5_wipe (n + 1) 11 L st M = am_e rI st M := rfl
theorem ri_X5_wipe (c : Prop) [Decidable c] (p q n : Nat) (L : AL) (st : List AV) (M : List AC) : rx_X5_wipe n (if c then p else q) L st M = if c then rx_X5_wipe n p L st M else rx_X5_wipe n q L st M := by split <;> rfl
theorem rm_X5_wipe {n k pc : Nat} {L : AL} {st : List AV} {M : List AC} {x : Option AV × List AC} (h : rx_X5_wipe n pc L st M = some x) (hk : n ≤ k) : rx_X5_wipe k pc L st M = some x := am_r_mono n k h hk
def fn_X5_wipe : Fn := am_fn rx_X5_wipe 2
theorem fok_X5_wipe : Fok mi_X5_wipe fn_X5_wipe := fun _ _ _ _ h => am_fok ok_X5_wipe rk_X5_wipe rfl h
abbrev mi_X5_seed : Mi := (yX5_seed, cX5_seed, 5, some .long, 1)
theorem mf_X5_seed : am_mf mi_X5_seed 1 := ⟨w_co_X5_seed, w_in_X5, ⟨by decide +kernel, by decide +kernel⟩, by decide +kernel, by decide⟩
def tb_X5_seed : List (Nat × Tr) := [(0, tAld 0 1), (1, tGf 5 12), (4, tLst 3 1), (5, tAld 0 1), (6, tLld 1 1), (7, tPf kJ 5 12), (10, tLld 3 1)]
theorem ok_X5_seed : Tok mi_X5_seed tb_X5_seed :=
  Tc (sd_aload_n dX5_seed_0) <|
  Tc (sd_getf (T := TX5) rfl giX5 (by decide) w_fl_X5_67 dX5_seed_1) <|
  Tc (sd_lstore_n dX5_seed_4) <|
  Tc (sd_aload_n dX5_seed_5) <|
  Tc (sd_lload_n dX5_seed_6) <|
  Tc (sd_putf (T := TX5) rfl giX5 (by decide) w_fl_X5_67 tyX5 tyX5_ok nmX5 (kJ_ok) rfl dX5_seed_7) <|
  Tc (sd_lload_n dX5_seed_10) <|
  Tn
theorem rk_X5_seed : Rok mi_X5_seed rJ [11] := rk_j dX5_seed_11 <| rk_n
def rx_X5_seed : Nat → Nat → AL → List AV → List AC → Option (Option AV × List AC) := am_r tb_X5_seed rJ [11]
theorem rs_X5_seed_0 (n : Nat) (L : AL) (st : List AV) (M : List AC) : rx_X5_seed (n + 1) 0 L st M = am_j (rx_X5_seed n) ((tAld 0 1) 0 L st M) := rfl
theorem rs_X5_seed_1 (n : Nat) (L : AL) (st : List AV) (M : List AC) : rx_X5_seed (n + 1) 1 L st M = am_j (rx_X5_seed n) ((tGf 5 12) 1 L st M) := rfl
theorem rs_X5_seed_4 (n : Nat) (L : AL) (st : List AV) (M : List AC) : rx_X5_seed (n + 1) 4 L st M = am_j (rx_X5_seed n) ((tLst 3 1) 4 L st M) := rfl
theorem rs_X5_seed_5 (n : Nat) (L : AL) (st : List AV) (M : List AC) : rx_X5_seed (n + 1) 5 L st M = am_j (rx_X5_seed n) ((tAld 0 1) 5 L st M) := rfl
theorem rs_X5_seed_6 (n : Nat) (L : AL) (st : List AV) (M : List AC) : rx_X5_seed (n + 1) 6 L st M = am_j (rx_X5_seed n) ((tLld 1 1) 6 L st M) := rfl
theorem rs_X5_seed_7 (n : Nat) (L : AL) (st : List AV) (M : List AC) : rx_X5_seed (n + 1) 7 L st M = am_j (rx_X5_seed n) ((tPf kJ 5 12) 7 L st M) := rfl
theorem rs_X5_seed_10 (n : Nat) (L : AL) (st : List AV) (M : List AC) : rx_X5_seed (n + 1) 10 L st M = am_j (rx_X5_seed n) ((tLld 3 1) 10 L st M) := rfl
theorem rs_X5_seed_11 (n : Nat) (L : AL) (st : List AV) (M : List AC) : rx_X5_seed (n + 1) 11 L st M = am_e rJ st M := rfl
theorem ri_X5_seed (c : Prop) [Decidable c] (p q n : Nat) (L : AL) (st : List AV) (M : List AC) : rx_X5_seed n (if c then p else q) L st M = if c then rx_X5_seed n p L st M else rx_X5_seed n q L st M := by split <;> rfl
theorem rm_X5_seed {n k pc : Nat} {L : AL} {st : List AV} {M : List AC} {x : Option AV × List AC} (h : rx_X5_seed n pc L st M = some x) (hk : n ≤ k) : rx_X5_seed k pc L st M = some x := am_r_mono n k h hk
def fn_X5_seed : Fn := am_fn rx_X5_seed 5
theorem fok_X5_seed : Fok mi_X5_seed fn_X5_seed := fun _ _ _ _ h => am_fok ok_X5_seed rk_X5_seed rfl h
abbrev mi_X5_write : Mi := (yX5_write, cX5_write, 2, some .int, 1)
theorem mf_X5_write : am_mf mi_X5_write 1 := ⟨w_co_X5_write, w_in_X5, ⟨by decide +kernel, by decide +kernel⟩, by decide +kernel, by decide⟩
def tb_X5_write : List (Nat × Tr) := [(0, tIld 1 1), (1, tIflt 11), (4, tIld 1 1), (5, tIc 255 3), (8, tCmle 14), (11, tIc (-2) 2), (14, tAld 0 1), (15, tGf 5 1), (18, tIc 24 2), (20, tCmlt 26), (23, tIc (-4) 2), (26, tAld 0 1), (27, tGf 5 0), (30, tAld 0 1), (31, tGf 5 1), (34, tIld 1 1), (35, tIas), (36, tAld 0 1), (37, tDup), (38, tGf 5 1), (41, tIc 1 1), (42, tI2 (fun a b => a + b)), (43, tPf kI 5 1), (46, tAld 0 1), (47, tGf 5 1)]
theorem ok_X5_write : Tok mi_X5_write tb_X5_write :=
  Tc (sd_iload_n dX5_write_0) <|
  Tc (sd_if_lt (by decide) dX5_write_1) <|
  Tc (sd_iload_n dX5_write_4) <|
  Tc (sd_sipush (by decide +kernel) dX5_write_5) <|
  Tc (sd_cm_le (by decide) dX5_write_8) <|
  Tc (sd_bipush (by decide +kernel) dX5_write_11) <|
  Tc (sd_aload_n dX5_write_14) <|
  Tc (sd_getf (T := TX5) rfl giX5 (by decide) w_fl_X5_13 dX5_write_15) <|
  Tc (sd_bipush (by decide +kernel) dX5_write_18) <|
  Tc (sd_cm_lt (by decide) dX5_write_20) <|
  Tc (sd_bipush (by decide +kernel) dX5_write_23) <|
  Tc (sd_aload_n dX5_write_26) <|
  Tc (sd_getf (T := TX5) rfl giX5 (by decide) w_fl_X5_9 dX5_write_27) <|
  Tc (sd_aload_n dX5_write_30) <|
  Tc (sd_getf (T := TX5) rfl giX5 (by decide) w_fl_X5_13 dX5_write_31) <|
  Tc (sd_iload_n dX5_write_34) <|
  Tc (sd_ias dX5_write_35) <|
  Tc (sd_aload_n dX5_write_36) <|
  Tc (sd_dup dX5_write_37) <|
  Tc (sd_getf (T := TX5) rfl giX5 (by decide) w_fl_X5_13 dX5_write_38) <|
  Tc (sd_iconst rfl dX5_write_41) <|
  Tc (sd_iadd dX5_write_42) <|
  Tc (sd_putf (T := TX5) rfl giX5 (by decide) w_fl_X5_13 tyX5 tyX5_ok nmX5 (kI_ok) rfl dX5_write_43) <|
  Tc (sd_aload_n dX5_write_46) <|
  Tc (sd_getf (T := TX5) rfl giX5 (by decide) w_fl_X5_13 dX5_write_47) <|
  Tn
theorem rk_X5_write : Rok mi_X5_write rI [13, 25, 50] := rk_i dX5_write_13 <| rk_i dX5_write_25 <| rk_i dX5_write_50 <| rk_n
def rx_X5_write : Nat → Nat → AL → List AV → List AC → Option (Option AV × List AC) := am_r tb_X5_write rI [13, 25, 50]
theorem rs_X5_write_0 (n : Nat) (L : AL) (st : List AV) (M : List AC) : rx_X5_write (n + 1) 0 L st M = am_j (rx_X5_write n) ((tIld 1 1) 0 L st M) := rfl
theorem rs_X5_write_1 (n : Nat) (L : AL) (st : List AV) (M : List AC) : rx_X5_write (n + 1) 1 L st M = am_j (rx_X5_write n) ((tIflt 11) 1 L st M) := rfl
theorem rs_X5_write_4 (n : Nat) (L : AL) (st : List AV) (M : List AC) : rx_X5_write (n + 1) 4 L st M = am_j (rx_X5_write n) ((tIld 1 1) 4 L st M) := rfl
theorem rs_X5_write_5 (n : Nat) (L : AL) (st : List AV) (M : List AC) : rx_X5_write (n + 1) 5 L st M = am_j (rx_X5_write n) ((tIc 255 3) 5 L st M) := rfl
theorem rs_X5_write_8 (n : Nat) (L : AL) (st : List AV) (M : List AC) : rx_X5_write (n + 1) 8 L st M = am_j (rx_X5_write n) ((tCmle 14) 8 L st M) := rfl
theorem rs_X5_write_11 (n : Nat) (L : AL) (st : List AV) (M : List AC) : rx_X5_write (n + 1) 11 L st M = am_j (rx_X5_write n) ((tIc (-2) 2) 11 L st M) := rfl
theorem rs_X5_write_14 (n : Nat) (L : AL) (st : List AV) (M : List AC) : rx_X5_write (n + 1) 14 L st M = am_j (rx_X5_write n) ((tAld 0 1) 14 L st M) := rfl
theorem rs_X5_write_15 (n : Nat) (L : AL) (st : List AV) (M : List AC) : rx_X5_write (n + 1) 15 L st M = am_j (rx_X5_write n) ((tGf 5 1) 15 L st M) := rfl
theorem rs_X5_write_18 (n : Nat) (L : AL) (st : List AV) (M : List AC) : rx_X5_write (n + 1) 18 L st M = am_j (rx_X5_write n) ((tIc 24 2) 18 L st M) := rfl
theorem rs_X5_write_20 (n : Nat) (L : AL) (st : List AV) (M : List AC) : rx_X5_write (n + 1) 20 L st M = am_j (rx_X5_write n) ((tCmlt 26) 20 L st M) := rfl
theorem rs_X5_write_23 (n : Nat) (L : AL) (st : List AV) (M : List AC) : rx_X5_write (n + 1) 23 L st M = am_j (rx_X5_write n) ((tIc (-4) 2) 23 L st M) := rfl
theorem rs_X5_write_26 (n : Nat) (L : AL) (st : List AV) (M : List AC) : rx_X5_write (n + 1) 26 L st M = am_j (rx_X5_write n) ((tAld 0 1) 26 L st M) := rfl
theorem rs_X5_write_27 (n : Nat) (L : AL) (st : List AV) (M : List AC) : rx_X5_write (n + 1) 27 L st M = am_j (rx_X5_write n) ((tGf 5 0) 27 L st M) := rfl
theorem rs_X5_write_30 (n : Nat) (L : AL) (st : List AV) (M : List AC) : rx_X5_write (n + 1) 30 L st M = am_j (rx_X5_write n) ((tAld 0 1) 30 L st M) := rfl
theorem rs_X5_write_31 (n : Nat) (L : AL) (st : List AV) (M : List AC) : rx_X5_write (n + 1) 31 L st M = am_j (rx_X5_write n) ((tGf 5 1) 31 L st M) := rfl
theorem rs_X5_write_34 (n : Nat) (L : AL) (st : List AV) (M : List AC) : rx_X5_write (n + 1) 34 L st M = am_j (rx_X5_write n) ((tIld 1 1) 34 L st M) := rfl
theorem rs_X5_write_35 (n : Nat) (L : AL) (st : List AV) (M : List AC) : rx_X5_write (n + 1) 35 L st M = am_j (rx_X5_write n) (tIas 35 L st M) := rfl
theorem rs_X5_write_36 (n : Nat) (L : AL) (st : List AV) (M : List AC) : rx_X5_write (n + 1) 36 L st M = am_j (rx_X5_write n) ((tAld 0 1) 36 L st M) := rfl
theorem rs_X5_write_37 (n : Nat) (L : AL) (st : List AV) (M : List AC) : rx_X5_write (n + 1) 37 L st M = am_j (rx_X5_write n) (tDup 37 L st M) := rfl
theorem rs_X5_write_38 (n : Nat) (L : AL) (st : List AV) (M : List AC) : rx_X5_write (n + 1) 38 L st M = am_j (rx_X5_write n) ((tGf 5 1) 38 L st M) := rfl
theorem rs_X5_write_41 (n : Nat) (L : AL) (st : List AV) (M : List AC) : rx_X5_write (n + 1) 41 L st M = am_j (rx_X5_write n) ((tIc 1 1) 41 L st M) := rfl
theorem rs_X5_write_42 (n : Nat) (L : AL) (st : List AV) (M : List AC) : rx_X5_write (n + 1) 42 L st M = am_j (rx_X5_write n) ((tI2 (fun a b => a + b)) 42 L st M) := rfl
theorem rs_X5_write_43 (n : Nat) (L : AL) (st : List AV) (M : List AC) : rx_X5_write (n + 1) 43 L st M = am_j (rx_X5_write n) ((tPf kI 5 1) 43 L st M) := rfl
theorem rs_X5_write_46 (n : Nat) (L : AL) (st : List AV) (M : List AC) : rx_X5_write (n + 1) 46 L st M = am_j (rx_X5_write n) ((tAld 0 1) 46 L st M) := rfl
theorem rs_X5_write_47 (n : Nat) (L : AL) (st : List AV) (M : List AC) : rx_X5_write (n + 1) 47 L st M = am_j (rx_X5_write n) ((tGf 5 1) 47 L st M) := rfl
theorem rs_X5_write_13 (n : Nat) (L : AL) (st : List AV) (M : List AC) : rx_X5_write (n + 1) 13 L st M = am_e rI st M := rfl
theorem rs_X5_write_25 (n : Nat) (L : AL) (st : List AV) (M : List AC) : rx_X5_write (n + 1) 25 L st M = am_e rI st M := rfl
theorem rs_X5_write_50 (n : Nat) (L : AL) (st : List AV) (M : List AC) : rx_X5_write (n + 1) 50 L st M = am_e rI st M := rfl
theorem ri_X5_write (c : Prop) [Decidable c] (p q n : Nat) (L : AL) (st : List AV) (M : List AC) : rx_X5_write n (if c then p else q) L st M = if c then rx_X5_write n p L st M else rx_X5_write n q L st M := by split <;> rfl
theorem rm_X5_write {n k pc : Nat} {L : AL} {st : List AV} {M : List AC} {x : Option AV × List AC} (h : rx_X5_write n pc L st M = some x) (hk : n ≤ k) : rx_X5_write k pc L st M = some x := am_r_mono n k h hk
def fn_X5_write : Fn := am_fn rx_X5_write 2
theorem fok_X5_write : Fok mi_X5_write fn_X5_write := fun _ _ _ _ h => am_fok ok_X5_write rk_X5_write rfl h
end
