noncomputable section
abbrev mi_X6_weight : Mi := (yX6_weight, cX6_weight, 4, some .int, 1)
theorem mf_X6_weight : am_mf mi_X6_weight 1 := ⟨w_co_X6_weight, w_in_X6, ⟨by decide +kernel, by decide +kernel⟩, by decide +kernel, by decide⟩
def tb_X6_weight : List (Nat × Tr) := [(0, tIc 1 1), (1, tIst 2 1), (2, tIc 0 1), (3, tIst 3 1), (4, tIld 3 1), (5, tAld 0 1), (6, tGf 6 3), (9, tCmge 51), (12, tIld 2 1), (13, tAld 0 1), (14, tGf 6 4), (17, tIld 3 1), (18, tIal), (19, tIld 1 1), (20, tCmne 34), (23, tIc 3 1), (24, tAld 0 1), (25, tGf 6 5), (28, tIld 3 1), (29, tIal), (30, tI2 (fun a b => a * b)), (31, tGo 43), (34, tIc 10 2), (36, tAld 0 1), (37, tGf 6 5), (40, tIld 3 1), (41, tIal), (42, tI2 (fun a b => a - b)), (43, tI2 (fun a b => a * b)), (44, tIst 2 1), (45, tIinc 3 1), (48, tGo 4), (51, tIld 2 1)]
theorem ok_X6_weight : Tok mi_X6_weight tb_X6_weight :=
  Tc (sd_iconst rfl dX6_weight_0) <|
  Tc (sd_istore_n dX6_weight_1) <|
  Tc (sd_iconst rfl dX6_weight_2) <|
  Tc (sd_istore_n dX6_weight_3) <|
  Tc (sd_iload_n dX6_weight_4) <|
  Tc (sd_aload_n dX6_weight_5) <|
  Tc (sd_getf (T := TX6) rfl giX6 (by decide) w_fl_X6_88 dX6_weight_6) <|
  Tc (sd_cm_ge (by decide) dX6_weight_9) <|
  Tc (sd_iload_n dX6_weight_12) <|
  Tc (sd_aload_n dX6_weight_13) <|
  Tc (sd_getf (T := TX6) rfl giX6 (by decide) w_fl_X6_16 dX6_weight_14) <|
  Tc (sd_iload_n dX6_weight_17) <|
  Tc (sd_ial dX6_weight_18) <|
  Tc (sd_iload_n dX6_weight_19) <|
  Tc (sd_cm_ne (by decide) dX6_weight_20) <|
  Tc (sd_iconst rfl dX6_weight_23) <|
  Tc (sd_aload_n dX6_weight_24) <|
  Tc (sd_getf (T := TX6) rfl giX6 (by decide) w_fl_X6_19 dX6_weight_25) <|
  Tc (sd_iload_n dX6_weight_28) <|
  Tc (sd_ial dX6_weight_29) <|
  Tc (sd_imul dX6_weight_30) <|
  Tc (sd_goto (by decide) dX6_weight_31) <|
  Tc (sd_bipush (by decide +kernel) dX6_weight_34) <|
  Tc (sd_aload_n dX6_weight_36) <|
  Tc (sd_getf (T := TX6) rfl giX6 (by decide) w_fl_X6_19 dX6_weight_37) <|
  Tc (sd_iload_n dX6_weight_40) <|
  Tc (sd_ial dX6_weight_41) <|
  Tc (sd_isub dX6_weight_42) <|
  Tc (sd_imul dX6_weight_43) <|
  Tc (sd_istore_n dX6_weight_44) <|
  Tc (sd_iinc dX6_weight_45) <|
  Tc (sd_goto (by decide) dX6_weight_48) <|
  Tc (sd_iload_n dX6_weight_51) <|
  Tn
theorem rk_X6_weight : Rok mi_X6_weight rI [52] := rk_i dX6_weight_52 <| rk_n
def rx_X6_weight : Nat → Nat → AL → List AV → List AC → Option (Option AV × List AC) := am_r tb_X6_weight rI [52]
theorem rs_X6_weight_0 (n : Nat) (L : AL) (st : List AV) (M : List AC) : rx_X6_weight (n + 1) 0 L st M = am_j (rx_X6_weight n) ((tIc 1 1) 0 L st M) := rfl
theorem rs_X6_weight_1 (n : Nat) (L : AL) (st : List AV) (M : List AC) : rx_X6_weight (n + 1) 1 L st M = am_j (rx_X6_weight n) ((tIst 2 1) 1 L st M) := rfl
theorem rs_X6_weight_2 (n : Nat) (L : AL) (st : List AV) (M : List AC) : rx_X6_weight (n + 1) 2 L st M = am_j (rx_X6_weight n) ((tIc 0 1) 2 L st M) := rfl
theorem rs_X6_weight_3 (n : Nat) (L : AL) (st : List AV) (M : List AC) : rx_X6_weight (n + 1) 3 L st M = am_j (rx_X6_weight n) ((tIst 3 1) 3 L st M) := rfl
theorem rs_X6_weight_4 (n : Nat) (L : AL) (st : List AV) (M : List AC) : rx_X6_weight (n + 1) 4 L st M = am_j (rx_X6_weight n) ((tIld 3 1) 4 L st M) := rfl
theorem rs_X6_weight_5 (n : Nat) (L : AL) (st : List AV) (M : List AC) : rx_X6_weight (n + 1) 5 L st M = am_j (rx_X6_weight n) ((tAld 0 1) 5 L st M) := rfl
theorem rs_X6_weight_6 (n : Nat) (L : AL) (st : List AV) (M : List AC) : rx_X6_weight (n + 1) 6 L st M = am_j (rx_X6_weight n) ((tGf 6 3) 6 L st M) := rfl
theorem rs_X6_weight_9 (n : Nat) (L : AL) (st : List AV) (M : List AC) : rx_X6_weight (n + 1) 9 L st M = am_j (rx_X6_weight n) ((tCmge 51) 9 L st M) := rfl
theorem rs_X6_weight_12 (n : Nat) (L : AL) (st : List AV) (M : List AC) : rx_X6_weight (n + 1) 12 L st M = am_j (rx_X6_weight n) ((tIld 2 1) 12 L st M) := rfl
theorem rs_X6_weight_13 (n : Nat) (L : AL) (st : List AV) (M : List AC) : rx_X6_weight (n + 1) 13 L st M = am_j (rx_X6_weight n) ((tAld 0 1) 13 L st M) := rfl
theorem rs_X6_weight_14 (n : Nat) (L : AL) (st : List AV) (M : List AC) : rx_X6_weight (n + 1) 14 L st M = am_j (rx_X6_weight n) ((tGf 6 4) 14 L st M) := rfl
theorem rs_X6_weight_17 (n : Nat) (L : AL) (st : List AV) (M : List AC) : rx_X6_weight (n + 1) 17 L st M = am_j (rx_X6_weight n) ((tIld 3 1) 17 L st M) := rfl
theorem rs_X6_weight_18 (n : Nat) (L : AL) (st : List AV) (M : List AC) : rx_X6_weight (n + 1) 18 L st M = am_j (rx_X6_weight n) (tIal 18 L st M) := rfl
theorem rs_X6_weight_19 (n : Nat) (L : AL) (st : List AV) (M : List AC) : rx_X6_weight (n + 1) 19 L st M = am_j (rx_X6_weight n) ((tIld 1 1) 19 L st M) := rfl
theorem rs_X6_weight_20 (n : Nat) (L : AL) (st : List AV) (M : List AC) : rx_X6_weight (n + 1) 20 L st M = am_j (rx_X6_weight n) ((tCmne 34) 20 L st M) := rfl
theorem rs_X6_weight_23 (n : Nat) (L : AL) (st : List AV) (M : List AC) : rx_X6_weight (n + 1) 23 L st M = am_j (rx_X6_weight n) ((tIc 3 1) 23 L st M) := rfl
theorem rs_X6_weight_24 (n : Nat) (L : AL) (st : List AV) (M : List AC) : rx_X6_weight (n + 1) 24 L st M = am_j (rx_X6_weight n) ((tAld 0 1) 24 L st M) := rfl
theorem rs_X6_weight_25 (n : Nat) (L : AL) (st : List AV) (M : List AC) : rx_X6_weight (n + 1) 25 L st M = am_j (rx_X6_weight n) ((tGf 6 5) 25 L st M) := rfl
theorem rs_X6_weight_28 (n : Nat) (L : AL) (st : List AV) (M : List AC) : rx_X6_weight (n + 1) 28 L st M = am_j (rx_X6_weight n) ((tIld 3 1) 28 L st M) := rfl
theorem rs_X6_weight_29 (n : Nat) (L : AL) (st : List AV) (M : List AC) : rx_X6_weight (n + 1) 29 L st M = am_j (rx_X6_weight n) (tIal 29 L st M) := rfl
theorem rs_X6_weight_30 (n : Nat) (L : AL) (st : List AV) (M : List AC) : rx_X6_weight (n + 1) 30 L st M = am_j (rx_X6_weight n) ((tI2 (fun a b => a * b)) 30 L st M) := rfl
theorem rs_X6_weight_31 (n : Nat) (L : AL) (st : List AV) (M : List AC) : rx_X6_weight (n + 1) 31 L st M = am_j (rx_X6_weight n) ((tGo 43) 31 L st M) := rfl
theorem rs_X6_weight_34 (n : Nat) (L : AL) (st : List AV) (M : List AC) : rx_X6_weight (n + 1) 34 L st M = am_j (rx_X6_weight n) ((tIc 10 2) 34 L st M) := rfl
theorem rs_X6_weight_36 (n : Nat) (L : AL) (st : List AV) (M : List AC) : rx_X6_weight (n + 1) 36 L st M = am_j (rx_X6_weight n) ((tAld 0 1) 36 L st M) := rfl
theorem rs_X6_weight_37 (n : Nat) (L : AL) (st : List AV) (M : List AC) : rx_X6_weight (n + 1) 37 L st M = am_j (rx_X6_weight n) ((tGf 6 5) 37 L st M) := rfl
theorem rs_X6_weight_40 (n : Nat) (L : AL) (st : List AV) (M : List AC) : rx_X6_weight (n + 1) 40 L st M = am_j (rx_X6_weight n) ((tIld 3 1) 40 L st M) := rfl
theorem rs_X6_weight_41 (n : Nat) (L : AL) (st : List AV) (M : List AC) : rx_X6_weight (n + 1) 41 L st M = am_j (rx_X6_weight n) (tIal 41 L st M) := rfl
theorem rs_X6_weight_42 (n : Nat) (L : AL) (st : List AV) (M : List AC) : rx_X6_weight (n + 1) 42 L st M = am_j (rx_X6_weight n) ((tI2 (fun a b => a - b)) 42 L st M) := rfl
theorem rs_X6_weight_43 (n : Nat) (L : AL) (st : List AV) (M : List AC) : rx_X6_weight (n + 1) 43 L st M = am_j (rx_X6_weight n) ((tI2 (fun a b => a * b)) 43 L st M) := rfl
theorem rs_X6_weight_44 (n : Nat) (L : AL) (st : List AV) (M : List AC) : rx_X6_weight (n + 1) 44 L st M = am_j (rx_X6_weight n) ((tIst 2 1) 44 L st M) := rfl
theorem rs_X6_weight_45 (n : Nat) (L : AL) (st : List AV) (M : List AC) : rx_X6_weight (n + 1) 45 L st M = am_j (rx_X6_weight n) ((tIinc 3 1) 45 L st M) := rfl
theorem rs_X6_weight_48 (n : Nat) (L : AL) (st : List AV) (M : List AC) : rx_X6_weight (n + 1) 48 L st M = am_j (rx_X6_weight n) ((tGo 4) 48 L st M) := rfl
theorem rs_X6_weight_51 (n : Nat) (L : AL) (st : List AV) (M : List AC) : rx_X6_weight (n + 1) 51 L st M = am_j (rx_X6_weight n) ((tIld 2 1) 51 L st M) := rfl
theorem rs_X6_weight_52 (n : Nat) (L : AL) (st : List AV) (M : List AC) : rx_X6_weight (n + 1) 52 L st M = am_e rI st M := rfl
theorem ri_X6_weight (c : Prop) [Decidable c] (p q n : Nat) (L : AL) (st : List AV) (M : List AC) : rx_X6_weight n (if c then p else q) L st M = if c then rx_X6_weight n p L st M else rx_X6_weight n q L st M := by split <;> rfl
theorem rm_X6_weight {n k pc : Nat} {L : AL} {st : List AV} {M : List AC} {x : Option AV × List AC} (h : rx_X6_weight n pc L st M = some x) (hk : n ≤ k) : rx_X6_weight k pc L st M = some x := am_r_mono n k h hk
def fn_X6_weight : Fn := am_fn rx_X6_weight 4
theorem fok_X6_weight : Fok mi_X6_weight fn_X6_weight := fun _ _ _ _ h => am_fok ok_X6_weight rk_X6_weight rfl h
theorem sp_X6_weight {M : List AC} {st lk len ac nx rf lr en lm : Int} {sd : Int64} (h0 : M[26]? = some (mo st lk len ac nx rf lr en lm sd)) {c t : F3} (h29 : M[29]? = some (aI (l3 c))) (h30 : M[30]? = some (aI (l3 t))) (hn : 0 ≤ lk ∧ lk ≤ 3) (hc : i3 0 3 c) (q : Int) (hq : 0 ≤ q ∧ q < 4) : fn_X6_weight [vR 26, vI q] M = some (some (vI (wt lk c t q)), M) := by
  obtain ⟨⟨a1, a2⟩, ⟨b1, b2⟩, d1, d2⟩ := hc
  have e0 : wr c.1 = c.1 := wr_id (by omega) (by omega)
  have e1 : wr c.2.1 = c.2.1 := wr_id (by omega) (by omega)
  have e2 : wr c.2.2 = c.2.2 := wr_id (by omega) (by omega)
  have eq : wr q = q := wr_id (by omega) (by omega)
  (refine am_fnI (tb := tb_X6_weight) (n := 120) (Nat.le_of_ble_eq_true rfl) (Nat.le_of_ble_eq_true rfl) ?_; show rx_X6_weight 120 0 _ _ _ = _)
  obtain rfl | rfl | rfl | rfl : lk = 0 ∨ lk = 1 ∨ lk = 2 ∨ lk = 3 := by omega
  · simp [↓ri_X6_weight, rs_X6_weight_0, rs_X6_weight_1, rs_X6_weight_2, rs_X6_weight_3, rs_X6_weight_4, rs_X6_weight_5, rs_X6_weight_6, rs_X6_weight_9, rs_X6_weight_12, rs_X6_weight_13, rs_X6_weight_14, rs_X6_weight_17, rs_X6_weight_18, rs_X6_weight_19, rs_X6_weight_20, rs_X6_weight_23, rs_X6_weight_24, rs_X6_weight_25, rs_X6_weight_28, rs_X6_weight_29, rs_X6_weight_30, rs_X6_weight_31, rs_X6_weight_34, rs_X6_weight_36, rs_X6_weight_37, rs_X6_weight_40, rs_X6_weight_41, rs_X6_weight_42, rs_X6_weight_43, rs_X6_weight_44, rs_X6_weight_45, rs_X6_weight_48, rs_X6_weight_51, rs_X6_weight_52, -List.getElem?_eq_getElem, am_js, am_e, am_in, am_sl, rI, rZ, rV, rJ, rA, rC, kI, kJ, kR, am_one, am_nl, am_w8, tIc, tLc, tNul, tIld, tLld, tAld, tIst, tLst, tAst, tIinc, tI2, tDv, tL2, tLrem, tLs, tLcmp, tI2l, tL2i, tI2c, tDup, tDup2, tPop, tGo, tIfeq, tIfne, tIflt, tIfge, tIfgt, tIfle, tCmeq, tCmne, tCmlt, tCmge, tCmgt, tCmle, tNu, tTs, tGf, tPf, tGs, tIal, tIas, tBal, tBas, tAln, tSv, tSc, tSb, tSl, tSk, tCv, tCs, tCt, tMx, tMn, wr_10000, wr_100000, wr_1000000, wr_10000000, wr_100000000, wr_2400, wr_9999, wr_0, wr_1, wr_2, wr_3, wr_4, wr_5, wr_6, wr_7, wr_8, wr_9, wr_10, wr_11, wr_12, wr_13, wr_14, wr_15, wr_16, wr_17, wr_18, wr_19, wr_20, wr_21, wr_22, wr_23, wr_24, wr_25, wr_26, wr_27, wr_28, wr_29, wr_30, wr_31, wr_32, wr_33, wr_34, wr_35, wr_36, wr_37, wr_38, wr_39, wr_40, wr_41, wr_42, wr_43, wr_44, wr_45, wr_46, wr_47, wr_48, wr_49, wr_50, wr_51, wr_52, wr_53, wr_54, wr_55, wr_56, wr_57, wr_58, wr_59, wr_60, wr_61, wr_62, wr_63, wr_99, wr_100, wr_192, wr_255, wr_256, wr_343, wr_999, wr_1000, wr_2401, wr_2147483647, wr_65535, wr_m1, wr_m2, wr_m3, wr_m4, wr_m9, ak_1000, ak_1001, ak_1002, ak_0, ak_1, ak_2, ak_3, ak_4, ak_5, ak_6, ak_7, ak_8, ak_9, ak_10, ak_11, ak_12, ak_13, ak_14, ak_15, ak_16, ak_17, ak_18, ak_19, ak_20, ak_21, ak_22, ak_23, ak_24, ak_25, ak_26, ak_27, ak_28, ak_29, ak_30, ak_31, ak_32, ak_33, ak_34, ak_35, ak_36, ak_37, ak_38, ak_39, ak_40, ak_41, ak_42, ak_43, ak_44, ak_45, ak_46, ak_47, h0, mo, h29, h30, wt]
  · simp [↓ri_X6_weight, rs_X6_weight_0, rs_X6_weight_1, rs_X6_weight_2, rs_X6_weight_3, rs_X6_weight_4, rs_X6_weight_5, rs_X6_weight_6, rs_X6_weight_9, rs_X6_weight_12, rs_X6_weight_13, rs_X6_weight_14, rs_X6_weight_17, rs_X6_weight_18, rs_X6_weight_19, rs_X6_weight_20, rs_X6_weight_23, rs_X6_weight_24, rs_X6_weight_25, rs_X6_weight_28, rs_X6_weight_29, rs_X6_weight_30, rs_X6_weight_31, rs_X6_weight_34, rs_X6_weight_36, rs_X6_weight_37, rs_X6_weight_40, rs_X6_weight_41, rs_X6_weight_42, rs_X6_weight_43, rs_X6_weight_44, rs_X6_weight_45, rs_X6_weight_48, rs_X6_weight_51, rs_X6_weight_52, -List.getElem?_eq_getElem, am_js, am_e, am_in, am_sl, rI, rZ, rV, rJ, rA, rC, kI, kJ, kR, am_one, am_nl, am_w8, tIc, tLc, tNul, tIld, tLld, tAld, tIst, tLst, tAst, tIinc, tI2, tDv, tL2, tLrem, tLs, tLcmp, tI2l, tL2i, tI2c, tDup, tDup2, tPop, tGo, tIfeq, tIfne, tIflt, tIfge, tIfgt, tIfle, tCmeq, tCmne, tCmlt, tCmge, tCmgt, tCmle, tNu, tTs, tGf, tPf, tGs, tIal, tIas, tBal, tBas, tAln, tSv, tSc, tSb, tSl, tSk, tCv, tCs, tCt, tMx, tMn, wr_10000, wr_100000, wr_1000000, wr_10000000, wr_100000000, wr_2400, wr_9999, wr_0, wr_1, wr_2, wr_3, wr_4, wr_5, wr_6, wr_7, wr_8, wr_9, wr_10, wr_11, wr_12, wr_13, wr_14, wr_15, wr_16, wr_17, wr_18, wr_19, wr_20, wr_21, wr_22, wr_23, wr_24, wr_25, wr_26, wr_27, wr_28, wr_29, wr_30, wr_31, wr_32, wr_33, wr_34, wr_35, wr_36, wr_37, wr_38, wr_39, wr_40, wr_41, wr_42, wr_43, wr_44, wr_45, wr_46, wr_47, wr_48, wr_49, wr_50, wr_51, wr_52, wr_53, wr_54, wr_55, wr_56, wr_57, wr_58, wr_59, wr_60, wr_61, wr_62, wr_63, wr_99, wr_100, wr_192, wr_255, wr_256, wr_343, wr_999, wr_1000, wr_2401, wr_2147483647, wr_65535, wr_m1, wr_m2, wr_m3, wr_m4, wr_m9, ak_1000, ak_1001, ak_1002, ak_0, ak_1, ak_2, ak_3, ak_4, ak_5, ak_6, ak_7, ak_8, ak_9, ak_10, ak_11, ak_12, ak_13, ak_14, ak_15, ak_16, ak_17, ak_18, ak_19, ak_20, ak_21, ak_22, ak_23, ak_24, ak_25, ak_26, ak_27, ak_28, ak_29, ak_30, ak_31, ak_32, ak_33, ak_34, ak_35, ak_36, ak_37, ak_38, ak_39, ak_40, ak_41, ak_42, ak_43, ak_44, ak_45, ak_46, ak_47, h0, mo, h29, h30, wt, w1, e0, e1, e2, eq]
    (repeat' split) <;> rfl
  · by_cases x0 : c.1 = q <;> by_cases x1 : c.2.1 = q <;>
    simp [↓ri_X6_weight, rs_X6_weight_0, rs_X6_weight_1, rs_X6_weight_2, rs_X6_weight_3, rs_X6_weight_4, rs_X6_weight_5, rs_X6_weight_6, rs_X6_weight_9, rs_X6_weight_12, rs_X6_weight_13, rs_X6_weight_14, rs_X6_weight_17, rs_X6_weight_18, rs_X6_weight_19, rs_X6_weight_20, rs_X6_weight_23, rs_X6_weight_24, rs_X6_weight_25, rs_X6_weight_28, rs_X6_weight_29, rs_X6_weight_30, rs_X6_weight_31, rs_X6_weight_34, rs_X6_weight_36, rs_X6_weight_37, rs_X6_weight_40, rs_X6_weight_41, rs_X6_weight_42, rs_X6_weight_43, rs_X6_weight_44, rs_X6_weight_45, rs_X6_weight_48, rs_X6_weight_51, rs_X6_weight_52, -List.getElem?_eq_getElem, am_js, am_e, am_in, am_sl, rI, rZ, rV, rJ, rA, rC, kI, kJ, kR, am_one, am_nl, am_w8, tIc, tLc, tNul, tIld, tLld, tAld, tIst, tLst, tAst, tIinc, tI2, tDv, tL2, tLrem, tLs, tLcmp, tI2l, tL2i, tI2c, tDup, tDup2, tPop, tGo, tIfeq, tIfne, tIflt, tIfge, tIfgt, tIfle, tCmeq, tCmne, tCmlt, tCmge, tCmgt, tCmle, tNu, tTs, tGf, tPf, tGs, tIal, tIas, tBal, tBas, tAln, tSv, tSc, tSb, tSl, tSk, tCv, tCs, tCt, tMx, tMn, wr_10000, wr_100000, wr_1000000, wr_10000000, wr_100000000, wr_2400, wr_9999, wr_0, wr_1, wr_2, wr_3, wr_4, wr_5, wr_6, wr_7, wr_8, wr_9, wr_10, wr_11, wr_12, wr_13, wr_14, wr_15, wr_16, wr_17, wr_18, wr_19, wr_20, wr_21, wr_22, wr_23, wr_24, wr_25, wr_26, wr_27, wr_28, wr_29, wr_30, wr_31, wr_32, wr_33, wr_34, wr_35, wr_36, wr_37, wr_38, wr_39, wr_40, wr_41, wr_42, wr_43, wr_44, wr_45, wr_46, wr_47, wr_48, wr_49, wr_50, wr_51, wr_52, wr_53, wr_54, wr_55, wr_56, wr_57, wr_58, wr_59, wr_60, wr_61, wr_62, wr_63, wr_99, wr_100, wr_192, wr_255, wr_256, wr_343, wr_999, wr_1000, wr_2401, wr_2147483647, wr_65535, wr_m1, wr_m2, wr_m3, wr_m4, wr_m9, ak_1000, ak_1001, ak_1002, ak_0, ak_1, ak_2, ak_3, ak_4, ak_5, ak_6, ak_7, ak_8, ak_9, ak_10, ak_11, ak_12, ak_13, ak_14, ak_15, ak_16, ak_17, ak_18, ak_19, ak_20, ak_21, ak_22, ak_23, ak_24, ak_25, ak_26, ak_27, ak_28, ak_29, ak_30, ak_31, ak_32, ak_33, ak_34, ak_35, ak_36, ak_37, ak_38, ak_39, ak_40, ak_41, ak_42, ak_43, ak_44, ak_45, ak_46, ak_47, h0, mo, h29, h30, wt, w1, e0, e1, e2, eq, x0, x1]
  · by_cases x0 : c.1 = q <;> by_cases x1 : c.2.1 = q <;> by_cases x2 : c.2.2 = q <;>
    simp [↓ri_X6_weight, rs_X6_weight_0, rs_X6_weight_1, rs_X6_weight_2, rs_X6_weight_3, rs_X6_weight_4, rs_X6_weight_5, rs_X6_weight_6, rs_X6_weight_9, rs_X6_weight_12, rs_X6_weight_13, rs_X6_weight_14, rs_X6_weight_17, rs_X6_weight_18, rs_X6_weight_19, rs_X6_weight_20, rs_X6_weight_23, rs_X6_weight_24, rs_X6_weight_25, rs_X6_weight_28, rs_X6_weight_29, rs_X6_weight_30, rs_X6_weight_31, rs_X6_weight_34, rs_X6_weight_36, rs_X6_weight_37, rs_X6_weight_40, rs_X6_weight_41, rs_X6_weight_42, rs_X6_weight_43, rs_X6_weight_44, rs_X6_weight_45, rs_X6_weight_48, rs_X6_weight_51, rs_X6_weight_52, -List.getElem?_eq_getElem, am_js, am_e, am_in, am_sl, rI, rZ, rV, rJ, rA, rC, kI, kJ, kR, am_one, am_nl, am_w8, tIc, tLc, tNul, tIld, tLld, tAld, tIst, tLst, tAst, tIinc, tI2, tDv, tL2, tLrem, tLs, tLcmp, tI2l, tL2i, tI2c, tDup, tDup2, tPop, tGo, tIfeq, tIfne, tIflt, tIfge, tIfgt, tIfle, tCmeq, tCmne, tCmlt, tCmge, tCmgt, tCmle, tNu, tTs, tGf, tPf, tGs, tIal, tIas, tBal, tBas, tAln, tSv, tSc, tSb, tSl, tSk, tCv, tCs, tCt, tMx, tMn, wr_10000, wr_100000, wr_1000000, wr_10000000, wr_100000000, wr_2400, wr_9999, wr_0, wr_1, wr_2, wr_3, wr_4, wr_5, wr_6, wr_7, wr_8, wr_9, wr_10, wr_11, wr_12, wr_13, wr_14, wr_15, wr_16, wr_17, wr_18, wr_19, wr_20, wr_21, wr_22, wr_23, wr_24, wr_25, wr_26, wr_27, wr_28, wr_29, wr_30, wr_31, wr_32, wr_33, wr_34, wr_35, wr_36, wr_37, wr_38, wr_39, wr_40, wr_41, wr_42, wr_43, wr_44, wr_45, wr_46, wr_47, wr_48, wr_49, wr_50, wr_51, wr_52, wr_53, wr_54, wr_55, wr_56, wr_57, wr_58, wr_59, wr_60, wr_61, wr_62, wr_63, wr_99, wr_100, wr_192, wr_255, wr_256, wr_343, wr_999, wr_1000, wr_2401, wr_2147483647, wr_65535, wr_m1, wr_m2, wr_m3, wr_m4, wr_m9, ak_1000, ak_1001, ak_1002, ak_0, ak_1, ak_2, ak_3, ak_4, ak_5, ak_6, ak_7, ak_8, ak_9, ak_10, ak_11, ak_12, ak_13, ak_14, ak_15, ak_16, ak_17, ak_18, ak_19, ak_20, ak_21, ak_22, ak_23, ak_24, ak_25, ak_26, ak_27, ak_28, ak_29, ak_30, ak_31, ak_32, ak_33, ak_34, ak_35, ak_36, ak_37, ak_38, ak_39, ak_40, ak_41, ak_42, ak_43, ak_44, ak_45, ak_46, ak_47, h0, mo, h29, h30, wt, w1, e0, e1, e2, eq, x0, x1, x2]
abbrev mi_X6_weights : Mi := (yX6_weights, cX6_weights, 1, some .int, 2)
theorem mf_X6_weights : am_mf mi_X6_weights 0 := ⟨w_co_X6_weights, w_in_X6, ⟨by decide +kernel, by decide +kernel⟩, by decide +kernel, by decide⟩
def tb_X6_weights : List (Nat × Tr) := [(0, tAld 0 1), (1, tIc 0 1), (2, tCv 6 1 fn_X6_weight), (5, tAld 0 1), (6, tIc 1 1), (7, tCv 6 1 fn_X6_weight), (10, tI2 (fun a b => a + b)), (11, tAld 0 1), (12, tIc 2 1), (13, tCv 6 1 fn_X6_weight), (16, tI2 (fun a b => a + b)), (17, tAld 0 1), (18, tIc 3 1), (19, tCv 6 1 fn_X6_weight), (22, tI2 (fun a b => a + b))]
theorem ok_X6_weights : Tok mi_X6_weights tb_X6_weights :=
  Tc (sd_aload_n dX6_weights_0) <|
  Tc (sd_iconst rfl dX6_weights_1) <|
  Tc (sd_cv (T := TX6) fok_X6_weight mf_X6_weight rfl w_ml_X6_214 w_im_X6_weight w_se_X6_weight (by decide) dX6_weights_2) <|
  Tc (sd_aload_n dX6_weights_5) <|
  Tc (sd_iconst rfl dX6_weights_6) <|
  Tc (sd_cv (T := TX6) fok_X6_weight mf_X6_weight rfl w_ml_X6_214 w_im_X6_weight w_se_X6_weight (by decide) dX6_weights_7) <|
  Tc (sd_iadd dX6_weights_10) <|
  Tc (sd_aload_n dX6_weights_11) <|
  Tc (sd_iconst rfl dX6_weights_12) <|
  Tc (sd_cv (T := TX6) fok_X6_weight mf_X6_weight rfl w_ml_X6_214 w_im_X6_weight w_se_X6_weight (by decide) dX6_weights_13) <|
  Tc (sd_iadd dX6_weights_16) <|
  Tc (sd_aload_n dX6_weights_17) <|
  Tc (sd_iconst rfl dX6_weights_18) <|
  Tc (sd_cv (T := TX6) fok_X6_weight mf_X6_weight rfl w_ml_X6_214 w_im_X6_weight w_se_X6_weight (by decide) dX6_weights_19) <|
  Tc (sd_iadd dX6_weights_22) <|
  Tn
theorem rk_X6_weights : Rok mi_X6_weights rI [23] := rk_i dX6_weights_23 <| rk_n
def rx_X6_weights : Nat → Nat → AL → List AV → List AC → Option (Option AV × List AC) := am_r tb_X6_weights rI [23]
theorem rs_X6_weights_0 (n : Nat) (L : AL) (st : List AV) (M : List AC) : rx_X6_weights (n + 1) 0 L st M = am_j (rx_X6_weights n) ((tAld 0 1) 0 L st M) := rfl
theorem rs_X6_weights_1 (n : Nat) (L : AL) (st : List AV) (M : List AC) : rx_X6_weights (n + 1) 1 L st M = am_j (rx_X6_weights n) ((tIc 0 1) 1 L st M) := rfl
theorem rs_X6_weights_2 (n : Nat) (L : AL) (st : List AV) (M : List AC) : rx_X6_weights (n + 1) 2 L st M = am_j (rx_X6_weights n) ((tCv 6 1 fn_X6_weight) 2 L st M) := rfl
theorem rs_X6_weights_5 (n : Nat) (L : AL) (st : List AV) (M : List AC) : rx_X6_weights (n + 1) 5 L st M = am_j (rx_X6_weights n) ((tAld 0 1) 5 L st M) := rfl
theorem rs_X6_weights_6 (n : Nat) (L : AL) (st : List AV) (M : List AC) : rx_X6_weights (n + 1) 6 L st M = am_j (rx_X6_weights n) ((tIc 1 1) 6 L st M) := rfl
theorem rs_X6_weights_7 (n : Nat) (L : AL) (st : List AV) (M : List AC) : rx_X6_weights (n + 1) 7 L st M = am_j (rx_X6_weights n) ((tCv 6 1 fn_X6_weight) 7 L st M) := rfl
theorem rs_X6_weights_10 (n : Nat) (L : AL) (st : List AV) (M : List AC) : rx_X6_weights (n + 1) 10 L st M = am_j (rx_X6_weights n) ((tI2 (fun a b => a + b)) 10 L st M) := rfl
theorem rs_X6_weights_11 (n : Nat) (L : AL) (st : List AV) (M : List AC) : rx_X6_weights (n + 1) 11 L st M = am_j (rx_X6_weights n) ((tAld 0 1) 11 L st M) := rfl
theorem rs_X6_weights_12 (n : Nat) (L : AL) (st : List AV) (M : List AC) : rx_X6_weights (n + 1) 12 L st M = am_j (rx_X6_weights n) ((tIc 2 1) 12 L st M) := rfl
theorem rs_X6_weights_13 (n : Nat) (L : AL) (st : List AV) (M : List AC) : rx_X6_weights (n + 1) 13 L st M = am_j (rx_X6_weights n) ((tCv 6 1 fn_X6_weight) 13 L st M) := rfl
theorem rs_X6_weights_16 (n : Nat) (L : AL) (st : List AV) (M : List AC) : rx_X6_weights (n + 1) 16 L st M = am_j (rx_X6_weights n) ((tI2 (fun a b => a + b)) 16 L st M) := rfl
theorem rs_X6_weights_17 (n : Nat) (L : AL) (st : List AV) (M : List AC) : rx_X6_weights (n + 1) 17 L st M = am_j (rx_X6_weights n) ((tAld 0 1) 17 L st M) := rfl
theorem rs_X6_weights_18 (n : Nat) (L : AL) (st : List AV) (M : List AC) : rx_X6_weights (n + 1) 18 L st M = am_j (rx_X6_weights n) ((tIc 3 1) 18 L st M) := rfl
theorem rs_X6_weights_19 (n : Nat) (L : AL) (st : List AV) (M : List AC) : rx_X6_weights (n + 1) 19 L st M = am_j (rx_X6_weights n) ((tCv 6 1 fn_X6_weight) 19 L st M) := rfl
theorem rs_X6_weights_22 (n : Nat) (L : AL) (st : List AV) (M : List AC) : rx_X6_weights (n + 1) 22 L st M = am_j (rx_X6_weights n) ((tI2 (fun a b => a + b)) 22 L st M) := rfl
theorem rs_X6_weights_23 (n : Nat) (L : AL) (st : List AV) (M : List AC) : rx_X6_weights (n + 1) 23 L st M = am_e rI st M := rfl
theorem ri_X6_weights (c : Prop) [Decidable c] (p q n : Nat) (L : AL) (st : List AV) (M : List AC) : rx_X6_weights n (if c then p else q) L st M = if c then rx_X6_weights n p L st M else rx_X6_weights n q L st M := by split <;> rfl
theorem rm_X6_weights {n k pc : Nat} {L : AL} {st : List AV} {M : List AC} {x : Option AV × List AC} (h : rx_X6_weights n pc L st M = some x) (hk : n ≤ k) : rx_X6_weights k pc L st M = some x := am_r_mono n k h hk
def fn_X6_weights : Fn := am_fn rx_X6_weights 1
theorem fok_X6_weights : Fok mi_X6_weights fn_X6_weights := fun _ _ _ _ h => am_fok ok_X6_weights rk_X6_weights rfl h
theorem sp_X6_weights {M : List AC} {st lk len ac nx rf lr en lm : Int} {sd : Int64} (h0 : M[26]? = some (mo st lk len ac nx rf lr en lm sd)) {c t : F3} (h29 : M[29]? = some (aI (l3 c))) (h30 : M[30]? = some (aI (l3 t))) (hn : 0 ≤ lk ∧ lk ≤ 3) (hc : i3 0 3 c) : fn_X6_weights [vR 26] M = some (some (vI (wa lk c t)), M) := by
  have q := sp_X6_weight h0 h29 h30 hn hc
  (refine am_fnI (tb := tb_X6_weights) (n := 60) (Nat.le_of_ble_eq_true rfl) (Nat.le_of_ble_eq_true rfl) ?_; show rx_X6_weights 60 0 _ _ _ = _)
  simp [↓ri_X6_weights, rs_X6_weights_0, rs_X6_weights_1, rs_X6_weights_2, rs_X6_weights_5, rs_X6_weights_6, rs_X6_weights_7, rs_X6_weights_10, rs_X6_weights_11, rs_X6_weights_12, rs_X6_weights_13, rs_X6_weights_16, rs_X6_weights_17, rs_X6_weights_18, rs_X6_weights_19, rs_X6_weights_22, rs_X6_weights_23, -List.getElem?_eq_getElem, am_js, am_e, am_in, am_sl, rI, rZ, rV, rJ, rA, rC, kI, kJ, kR, am_one, am_nl, am_w8, tIc, tLc, tNul, tIld, tLld, tAld, tIst, tLst, tAst, tIinc, tI2, tDv, tL2, tLrem, tLs, tLcmp, tI2l, tL2i, tI2c, tDup, tDup2, tPop, tGo, tIfeq, tIfne, tIflt, tIfge, tIfgt, tIfle, tCmeq, tCmne, tCmlt, tCmge, tCmgt, tCmle, tNu, tTs, tGf, tPf, tGs, tIal, tIas, tBal, tBas, tAln, tSv, tSc, tSb, tSl, tSk, tCv, tCs, tCt, tMx, tMn, wr_10000, wr_100000, wr_1000000, wr_10000000, wr_100000000, wr_2400, wr_9999, wr_0, wr_1, wr_2, wr_3, wr_4, wr_5, wr_6, wr_7, wr_8, wr_9, wr_10, wr_11, wr_12, wr_13, wr_14, wr_15, wr_16, wr_17, wr_18, wr_19, wr_20, wr_21, wr_22, wr_23, wr_24, wr_25, wr_26, wr_27, wr_28, wr_29, wr_30, wr_31, wr_32, wr_33, wr_34, wr_35, wr_36, wr_37, wr_38, wr_39, wr_40, wr_41, wr_42, wr_43, wr_44, wr_45, wr_46, wr_47, wr_48, wr_49, wr_50, wr_51, wr_52, wr_53, wr_54, wr_55, wr_56, wr_57, wr_58, wr_59, wr_60, wr_61, wr_62, wr_63, wr_99, wr_100, wr_192, wr_255, wr_256, wr_343, wr_999, wr_1000, wr_2401, wr_2147483647, wr_65535, wr_m1, wr_m2, wr_m3, wr_m4, wr_m9, ak_1000, ak_1001, ak_1002, ak_0, ak_1, ak_2, ak_3, ak_4, ak_5, ak_6, ak_7, ak_8, ak_9, ak_10, ak_11, ak_12, ak_13, ak_14, ak_15, ak_16, ak_17, ak_18, ak_19, ak_20, ak_21, ak_22, ak_23, ak_24, ak_25, ak_26, ak_27, ak_28, ak_29, ak_30, ak_31, ak_32, ak_33, ak_34, ak_35, ak_36, ak_37, ak_38, ak_39, ak_40, ak_41, ak_42, ak_43, ak_44, ak_45, ak_46, ak_47, h0, mo, q, wa]
abbrev mi_X6_common : Mi := (yX6_common, cX6_common, 5, some .int, 1)
theorem mf_X6_common : am_mf mi_X6_common 2 := ⟨w_co_X6_common, w_in_X6, ⟨by decide +kernel, by decide +kernel⟩, by decide +kernel, by decide⟩
def tb_X6_common : List (Nat × Tr) := [(0, tIld 0 1), (1, tIst 2 1), (2, tIld 1 1), (3, tIst 3 1), (4, tIld 3 1), (5, tIfeq 21), (8, tIld 2 1), (9, tIld 3 1), (10, tDv Int.tmod), (11, tIst 4 2), (13, tIld 3 1), (14, tIst 2 1), (15, tIld 4 2), (17, tIst 3 1), (18, tGo 4), (21, tIld 2 1)]
theorem ok_X6_common : Tok mi_X6_common tb_X6_common :=
  Tc (sd_iload_n dX6_common_0) <|
  Tc (sd_istore_n dX6_common_1) <|
  Tc (sd_iload_n dX6_common_2) <|
  Tc (sd_istore_n dX6_common_3) <|
  Tc (sd_iload_n dX6_common_4) <|
  Tc (sd_if_eq (by decide) dX6_common_5) <|
  Tc (sd_iload_n dX6_common_8) <|
  Tc (sd_iload_n dX6_common_9) <|
  Tc (sd_irem dX6_common_10) <|
  Tc (sd_istore dX6_common_11) <|
  Tc (sd_iload_n dX6_common_13) <|
  Tc (sd_istore_n dX6_common_14) <|
  Tc (sd_iload dX6_common_15) <|
  Tc (sd_istore_n dX6_common_17) <|
  Tc (sd_goto (by decide) dX6_common_18) <|
  Tc (sd_iload_n dX6_common_21) <|
  Tn
theorem rk_X6_common : Rok mi_X6_common rI [22] := rk_i dX6_common_22 <| rk_n
def rx_X6_common : Nat → Nat → AL → List AV → List AC → Option (Option AV × List AC) := am_r tb_X6_common rI [22]
theorem rs_X6_common_0 (n : Nat) (L : AL) (st : List AV) (M : List AC) : rx_X6_common (n + 1) 0 L st M = am_j (rx_X6_common n) ((tIld 0 1) 0 L st M) := rfl
theorem rs_X6_common_1 (n : Nat) (L : AL) (st : List AV) (M : List AC) : rx_X6_common (n + 1) 1 L st M = am_j (rx_X6_common n) ((tIst 2 1) 1 L st M) := rfl
theorem rs_X6_common_2 (n : Nat) (L : AL) (st : List AV) (M : List AC) : rx_X6_common (n + 1) 2 L st M = am_j (rx_X6_common n) ((tIld 1 1) 2 L st M) := rfl
theorem rs_X6_common_3 (n : Nat) (L : AL) (st : List AV) (M : List AC) : rx_X6_common (n + 1) 3 L st M = am_j (rx_X6_common n) ((tIst 3 1) 3 L st M) := rfl
theorem rs_X6_common_4 (n : Nat) (L : AL) (st : List AV) (M : List AC) : rx_X6_common (n + 1) 4 L st M = am_j (rx_X6_common n) ((tIld 3 1) 4 L st M) := rfl
theorem rs_X6_common_5 (n : Nat) (L : AL) (st : List AV) (M : List AC) : rx_X6_common (n + 1) 5 L st M = am_j (rx_X6_common n) ((tIfeq 21) 5 L st M) := rfl
theorem rs_X6_common_8 (n : Nat) (L : AL) (st : List AV) (M : List AC) : rx_X6_common (n + 1) 8 L st M = am_j (rx_X6_common n) ((tIld 2 1) 8 L st M) := rfl
theorem rs_X6_common_9 (n : Nat) (L : AL) (st : List AV) (M : List AC) : rx_X6_common (n + 1) 9 L st M = am_j (rx_X6_common n) ((tIld 3 1) 9 L st M) := rfl
theorem rs_X6_common_10 (n : Nat) (L : AL) (st : List AV) (M : List AC) : rx_X6_common (n + 1) 10 L st M = am_j (rx_X6_common n) ((tDv Int.tmod) 10 L st M) := rfl
theorem rs_X6_common_11 (n : Nat) (L : AL) (st : List AV) (M : List AC) : rx_X6_common (n + 1) 11 L st M = am_j (rx_X6_common n) ((tIst 4 2) 11 L st M) := rfl
theorem rs_X6_common_13 (n : Nat) (L : AL) (st : List AV) (M : List AC) : rx_X6_common (n + 1) 13 L st M = am_j (rx_X6_common n) ((tIld 3 1) 13 L st M) := rfl
theorem rs_X6_common_14 (n : Nat) (L : AL) (st : List AV) (M : List AC) : rx_X6_common (n + 1) 14 L st M = am_j (rx_X6_common n) ((tIst 2 1) 14 L st M) := rfl
theorem rs_X6_common_15 (n : Nat) (L : AL) (st : List AV) (M : List AC) : rx_X6_common (n + 1) 15 L st M = am_j (rx_X6_common n) ((tIld 4 2) 15 L st M) := rfl
theorem rs_X6_common_17 (n : Nat) (L : AL) (st : List AV) (M : List AC) : rx_X6_common (n + 1) 17 L st M = am_j (rx_X6_common n) ((tIst 3 1) 17 L st M) := rfl
theorem rs_X6_common_18 (n : Nat) (L : AL) (st : List AV) (M : List AC) : rx_X6_common (n + 1) 18 L st M = am_j (rx_X6_common n) ((tGo 4) 18 L st M) := rfl
theorem rs_X6_common_21 (n : Nat) (L : AL) (st : List AV) (M : List AC) : rx_X6_common (n + 1) 21 L st M = am_j (rx_X6_common n) ((tIld 2 1) 21 L st M) := rfl
theorem rs_X6_common_22 (n : Nat) (L : AL) (st : List AV) (M : List AC) : rx_X6_common (n + 1) 22 L st M = am_e rI st M := rfl
theorem ri_X6_common (c : Prop) [Decidable c] (p q n : Nat) (L : AL) (st : List AV) (M : List AC) : rx_X6_common n (if c then p else q) L st M = if c then rx_X6_common n p L st M else rx_X6_common n q L st M := by split <;> rfl
theorem rm_X6_common {n k pc : Nat} {L : AL} {st : List AV} {M : List AC} {x : Option AV × List AC} (h : rx_X6_common n pc L st M = some x) (hk : n ≤ k) : rx_X6_common k pc L st M = some x := am_r_mono n k h hk
def fn_X6_common : Fn := am_fn rx_X6_common 5
theorem fok_X6_common : Fok mi_X6_common fn_X6_common := fun _ _ _ _ h => am_fok ok_X6_common rk_X6_common rfl h
theorem lp_X6_common (a b : Int) (M : List AC) : ∀ (m : Nat) (p q : Nat) (x4 : Option AV), q ≤ p → p * q < 2 ^ m → p < 2147483648 →
    Ru rx_X6_common (20 * m + 20) 4 [some (vI a), some (vI b), some (vI (p : Int)), some (vI (q : Int)), x4] [] M (some (vI (Nat.gcd p q : Int)), M) := by
  intro m
  induction m with
  | zero =>
    intro p q x4 hqp hpq hp
    have hq : q = 0 := by
      rcases Nat.eq_zero_or_pos q with e | e
      · exact e
      · have := Nat.mul_pos (Nat.lt_of_lt_of_le e hqp) e
        omega
    subst hq
    rw [Nat.gcd_zero_right]
    refine ⟨19 + 1, by omega, ?_⟩
    rw [rs_X6_common_4]
    simp [↓ri_X6_common, rs_X6_common_0, rs_X6_common_1, rs_X6_common_2, rs_X6_common_3, rs_X6_common_5, rs_X6_common_8, rs_X6_common_9, rs_X6_common_10, rs_X6_common_11, rs_X6_common_13, rs_X6_common_14, rs_X6_common_15, rs_X6_common_17, rs_X6_common_18, rs_X6_common_21, rs_X6_common_22, -List.getElem?_eq_getElem, am_js, am_e, am_in, am_sl, rI, rZ, rV, rJ, rA, rC, kI, kJ, kR, am_one, am_nl, am_w8, tIc, tLc, tNul, tIld, tLld, tAld, tIst, tLst, tAst, tIinc, tI2, tDv, tL2, tLrem, tLs, tLcmp, tI2l, tL2i, tI2c, tDup, tDup2, tPop, tGo, tIfeq, tIfne, tIflt, tIfge, tIfgt, tIfle, tCmeq, tCmne, tCmlt, tCmge, tCmgt, tCmle, tNu, tTs, tGf, tPf, tGs, tIal, tIas, tBal, tBas, tAln, tSv, tSc, tSb, tSl, tSk, tCv, tCs, tCt, tMx, tMn, wr_10000, wr_100000, wr_1000000, wr_10000000, wr_100000000, wr_2400, wr_9999, wr_0, wr_1, wr_2, wr_3, wr_4, wr_5, wr_6, wr_7, wr_8, wr_9, wr_10, wr_11, wr_12, wr_13, wr_14, wr_15, wr_16, wr_17, wr_18, wr_19, wr_20, wr_21, wr_22, wr_23, wr_24, wr_25, wr_26, wr_27, wr_28, wr_29, wr_30, wr_31, wr_32, wr_33, wr_34, wr_35, wr_36, wr_37, wr_38, wr_39, wr_40, wr_41, wr_42, wr_43, wr_44, wr_45, wr_46, wr_47, wr_48, wr_49, wr_50, wr_51, wr_52, wr_53, wr_54, wr_55, wr_56, wr_57, wr_58, wr_59, wr_60, wr_61, wr_62, wr_63, wr_99, wr_100, wr_192, wr_255, wr_256, wr_343, wr_999, wr_1000, wr_2401, wr_2147483647, wr_65535, wr_m1, wr_m2, wr_m3, wr_m4, wr_m9, ak_1000, ak_1001, ak_1002, ak_0, ak_1, ak_2, ak_3, ak_4, ak_5, ak_6, ak_7, ak_8, ak_9, ak_10, ak_11, ak_12, ak_13, ak_14, ak_15, ak_16, ak_17, ak_18, ak_19, ak_20, ak_21, ak_22, ak_23, ak_24, ak_25, ak_26, ak_27, ak_28, ak_29, ak_30, ak_31, ak_32, ak_33, ak_34, ak_35, ak_36, ak_37, ak_38, ak_39, ak_40, ak_41, ak_42, ak_43, ak_44, ak_45, ak_46, ak_47]
  | succ m ih =>
    intro p q x4 hqp hpq hp
    rcases Nat.eq_zero_or_pos q with e | e
    · subst e
      rw [Nat.gcd_zero_right]
      refine ⟨19 + 1, by omega, ?_⟩
      rw [rs_X6_common_4]
      simp [↓ri_X6_common, rs_X6_common_0, rs_X6_common_1, rs_X6_common_2, rs_X6_common_3, rs_X6_common_5, rs_X6_common_8, rs_X6_common_9, rs_X6_common_10, rs_X6_common_11, rs_X6_common_13, rs_X6_common_14, rs_X6_common_15, rs_X6_common_17, rs_X6_common_18, rs_X6_common_21, rs_X6_common_22, -List.getElem?_eq_getElem, am_js, am_e, am_in, am_sl, rI, rZ, rV, rJ, rA, rC, kI, kJ, kR, am_one, am_nl, am_w8, tIc, tLc, tNul, tIld, tLld, tAld, tIst, tLst, tAst, tIinc, tI2, tDv, tL2, tLrem, tLs, tLcmp, tI2l, tL2i, tI2c, tDup, tDup2, tPop, tGo, tIfeq, tIfne, tIflt, tIfge, tIfgt, tIfle, tCmeq, tCmne, tCmlt, tCmge, tCmgt, tCmle, tNu, tTs, tGf, tPf, tGs, tIal, tIas, tBal, tBas, tAln, tSv, tSc, tSb, tSl, tSk, tCv, tCs, tCt, tMx, tMn, wr_10000, wr_100000, wr_1000000, wr_10000000, wr_100000000, wr_2400, wr_9999, wr_0, wr_1, wr_2, wr_3, wr_4, wr_5, wr_6, wr_7, wr_8, wr_9, wr_10, wr_11, wr_12, wr_13, wr_14, wr_15, wr_16, wr_17, wr_18, wr_19, wr_20, wr_21, wr_22, wr_23, wr_24, wr_25, wr_26, wr_27, wr_28, wr_29, wr_30, wr_31, wr_32, wr_33, wr_34, wr_35, wr_36, wr_37, wr_38, wr_39, wr_40, wr_41, wr_42, wr_43, wr_44, wr_45, wr_46, wr_47, wr_48, wr_49, wr_50, wr_51, wr_52, wr_53, wr_54, wr_55, wr_56, wr_57, wr_58, wr_59, wr_60, wr_61, wr_62, wr_63, wr_99, wr_100, wr_192, wr_255, wr_256, wr_343, wr_999, wr_1000, wr_2401, wr_2147483647, wr_65535, wr_m1, wr_m2, wr_m3, wr_m4, wr_m9, ak_1000, ak_1001, ak_1002, ak_0, ak_1, ak_2, ak_3, ak_4, ak_5, ak_6, ak_7, ak_8, ak_9, ak_10, ak_11, ak_12, ak_13, ak_14, ak_15, ak_16, ak_17, ak_18, ak_19, ak_20, ak_21, ak_22, ak_23, ak_24, ak_25, ak_26, ak_27, ak_28, ak_29, ak_30, ak_31, ak_32, ak_33, ak_34, ak_35, ak_36, ak_37, ak_38, ak_39, ak_40, ak_41, ak_42, ak_43, ak_44, ak_45, ak_46, ak_47]
    · have wp : wr (p : Int) = p := wr_id (by omega) (by omega)
      have wq : wr (q : Int) = q := wr_id (by omega) (by omega)
      have nq : ¬ q = 0 := by omega
      have hm : Int.tmod (p : Int) (q : Int) = ((p % q : Nat) : Int) := by
        rw [Int.tmod_eq_emod_of_nonneg (by omega)]; rfl
      have hlt : p % q < q := Nat.mod_lt _ e
      have hle : q + p % q ≤ p := by
        have h1 := Nat.div_add_mod p q
        have h2 : 1 ≤ p / q := Nat.div_pos hqp e
        have h3 : q * 1 ≤ q * (p / q) := Nat.mul_le_mul_left q h2
        omega
      have hpr : q * (p % q) < 2 ^ m := by
        have h1 : 2 * (p % q) ≤ p := by omega
        have h2 : q * (2 * (p % q)) ≤ q * p := Nat.mul_le_mul_left q h1
        have h3 : q * (2 * (p % q)) = 2 * (q * (p % q)) := by rw [Nat.mul_left_comm]
        have h4 : q * p = p * q := Nat.mul_comm q p
        have h5 : 2 ^ (m + 1) = 2 * 2 ^ m := by rw [Nat.pow_succ]; omega
        omega
      have hg : Nat.gcd p q = Nat.gcd q (p % q) := by rw [Nat.gcd_comm p q, Nat.gcd_rec q p, Nat.gcd_comm]
      rw [hg]
      obtain ⟨n, hn, h⟩ := ih q (p % q) (some (vI ((p % q : Nat) : Int))) (by omega) hpr (by omega)
      refine ⟨n + 19 + 1, by omega, ?_⟩
      rw [rs_X6_common_4]
      generalize Nat.gcd q (p % q) = g at h ⊢
      generalize p % q = r at hm h
      rcases x4 with _ | x4 <;>
      simp [↓ri_X6_common, rs_X6_common_0, rs_X6_common_1, rs_X6_common_2, rs_X6_common_3, rs_X6_common_5, rs_X6_common_8, rs_X6_common_9, rs_X6_common_10, rs_X6_common_11, rs_X6_common_13, rs_X6_common_14, rs_X6_common_15, rs_X6_common_17, rs_X6_common_18, rs_X6_common_21, rs_X6_common_22, -List.getElem?_eq_getElem, am_js, am_e, am_in, am_sl, rI, rZ, rV, rJ, rA, rC, kI, kJ, kR, am_one, am_nl, am_w8, tIc, tLc, tNul, tIld, tLld, tAld, tIst, tLst, tAst, tIinc, tI2, tDv, tL2, tLrem, tLs, tLcmp, tI2l, tL2i, tI2c, tDup, tDup2, tPop, tGo, tIfeq, tIfne, tIflt, tIfge, tIfgt, tIfle, tCmeq, tCmne, tCmlt, tCmge, tCmgt, tCmle, tNu, tTs, tGf, tPf, tGs, tIal, tIas, tBal, tBas, tAln, tSv, tSc, tSb, tSl, tSk, tCv, tCs, tCt, tMx, tMn, wr_10000, wr_100000, wr_1000000, wr_10000000, wr_100000000, wr_2400, wr_9999, wr_0, wr_1, wr_2, wr_3, wr_4, wr_5, wr_6, wr_7, wr_8, wr_9, wr_10, wr_11, wr_12, wr_13, wr_14, wr_15, wr_16, wr_17, wr_18, wr_19, wr_20, wr_21, wr_22, wr_23, wr_24, wr_25, wr_26, wr_27, wr_28, wr_29, wr_30, wr_31, wr_32, wr_33, wr_34, wr_35, wr_36, wr_37, wr_38, wr_39, wr_40, wr_41, wr_42, wr_43, wr_44, wr_45, wr_46, wr_47, wr_48, wr_49, wr_50, wr_51, wr_52, wr_53, wr_54, wr_55, wr_56, wr_57, wr_58, wr_59, wr_60, wr_61, wr_62, wr_63, wr_99, wr_100, wr_192, wr_255, wr_256, wr_343, wr_999, wr_1000, wr_2401, wr_2147483647, wr_65535, wr_m1, wr_m2, wr_m3, wr_m4, wr_m9, ak_1000, ak_1001, ak_1002, ak_0, ak_1, ak_2, ak_3, ak_4, ak_5, ak_6, ak_7, ak_8, ak_9, ak_10, ak_11, ak_12, ak_13, ak_14, ak_15, ak_16, ak_17, ak_18, ak_19, ak_20, ak_21, ak_22, ak_23, ak_24, ak_25, ak_26, ak_27, ak_28, ak_29, ak_30, ak_31, ak_32, ak_33, ak_34, ak_35, ak_36, ak_37, ak_38, ak_39, ak_40, ak_41, ak_42, ak_43, ak_44, ak_45, ak_46, ak_47, wp, wq, nq, hm] <;> exact rm_X6_common h (by omega)
theorem sp_X6_common (a b : Nat) (M : List AC) (ha : a < 1048576) (hb : 0 < b ∧ b < 1048576) : fn_X6_common [vI a, vI b] M = some (some (vI (Nat.gcd a b : Int)), M) := by
  have hpw : (2 : Nat) ^ 40 = 1099511627776 := by decide
  rcases Nat.lt_or_ge a b with hab | hab
  · have hmul : b * a < 2 ^ 40 := by
      have : b * a ≤ 1048575 * 1048575 := Nat.mul_le_mul (by omega) (by omega)
      omega
    obtain ⟨n, hn, h⟩ := lp_X6_common a b M 40 b a (some (vI a)) (by omega) hmul (by omega)
    rw [Nat.gcd_comm] at h
    have wa : wr (a : Int) = a := wr_id (by omega) (by omega)
    have wb : wr (b : Int) = b := wr_id (by omega) (by omega)
    have nb : ¬ b = 0 := by omega
    have hm : Int.tmod (a : Int) (b : Int) = (a : Int) := Int.tmod_eq_of_lt (by omega) (by omega)
    generalize Nat.gcd a b = g at h ⊢
    (refine am_fnR (tb := tb_X6_common) (N := 2000) (Nat.le_of_ble_eq_true rfl) (Nat.le_of_ble_eq_true rfl) ?_; show Ru rx_X6_common 2000 0 _ _ _ _)
    refine ⟨n + 30, by omega, ?_⟩
    have h8 : rx_X6_common (n + 20) 4 [some (vI a), some (vI b), some (vI a), some (vI b), none] [] M = some (some (vI (g : Int)), M) := by
      rw [show n + 20 = (n + 19) + 1 by omega, rs_X6_common_4]
      simp [↓ri_X6_common, rs_X6_common_0, rs_X6_common_1, rs_X6_common_2, rs_X6_common_3, rs_X6_common_5, rs_X6_common_8, rs_X6_common_9, rs_X6_common_10, rs_X6_common_11, rs_X6_common_13, rs_X6_common_14, rs_X6_common_15, rs_X6_common_17, rs_X6_common_18, rs_X6_common_21, rs_X6_common_22, -List.getElem?_eq_getElem, am_js, am_e, am_in, am_sl, rI, rZ, rV, rJ, rA, rC, kI, kJ, kR, am_one, am_nl, am_w8, tIc, tLc, tNul, tIld, tLld, tAld, tIst, tLst, tAst, tIinc, tI2, tDv, tL2, tLrem, tLs, tLcmp, tI2l, tL2i, tI2c, tDup, tDup2, tPop, tGo, tIfeq, tIfne, tIflt, tIfge, tIfgt, tIfle, tCmeq, tCmne, tCmlt, tCmge, tCmgt, tCmle, tNu, tTs, tGf, tPf, tGs, tIal, tIas, tBal, tBas, tAln, tSv, tSc, tSb, tSl, tSk, tCv, tCs, tCt, tMx, tMn, wr_10000, wr_100000, wr_1000000, wr_10000000, wr_100000000, wr_2400, wr_9999, wr_0, wr_1, wr_2, wr_3, wr_4, wr_5, wr_6, wr_7, wr_8, wr_9, wr_10, wr_11, wr_12, wr_13, wr_14, wr_15, wr_16, wr_17, wr_18, wr_19, wr_20, wr_21, wr_22, wr_23, wr_24, wr_25, wr_26, wr_27, wr_28, wr_29, wr_30, wr_31, wr_32, wr_33, wr_34, wr_35, wr_36, wr_37, wr_38, wr_39, wr_40, wr_41, wr_42, wr_43, wr_44, wr_45, wr_46, wr_47, wr_48, wr_49, wr_50, wr_51, wr_52, wr_53, wr_54, wr_55, wr_56, wr_57, wr_58, wr_59, wr_60, wr_61, wr_62, wr_63, wr_99, wr_100, wr_192, wr_255, wr_256, wr_343, wr_999, wr_1000, wr_2401, wr_2147483647, wr_65535, wr_m1, wr_m2, wr_m3, wr_m4, wr_m9, ak_1000, ak_1001, ak_1002, ak_0, ak_1, ak_2, ak_3, ak_4, ak_5, ak_6, ak_7, ak_8, ak_9, ak_10, ak_11, ak_12, ak_13, ak_14, ak_15, ak_16, ak_17, ak_18, ak_19, ak_20, ak_21, ak_22, ak_23, ak_24, ak_25, ak_26, ak_27, ak_28, ak_29, ak_30, ak_31, ak_32, ak_33, ak_34, ak_35, ak_36, ak_37, ak_38, ak_39, ak_40, ak_41, ak_42, ak_43, ak_44, ak_45, ak_46, ak_47, wa, wb, nb, hm]
      exact rm_X6_common h (by omega)
    simp [↓ri_X6_common, rs_X6_common_0, rs_X6_common_1, rs_X6_common_2, rs_X6_common_3, rs_X6_common_5, rs_X6_common_8, rs_X6_common_9, rs_X6_common_10, rs_X6_common_11, rs_X6_common_13, rs_X6_common_14, rs_X6_common_15, rs_X6_common_17, rs_X6_common_18, rs_X6_common_21, rs_X6_common_22, -List.getElem?_eq_getElem, am_js, am_e, am_in, am_sl, rI, rZ, rV, rJ, rA, rC, kI, kJ, kR, am_one, am_nl, am_w8, tIc, tLc, tNul, tIld, tLld, tAld, tIst, tLst, tAst, tIinc, tI2, tDv, tL2, tLrem, tLs, tLcmp, tI2l, tL2i, tI2c, tDup, tDup2, tPop, tGo, tIfeq, tIfne, tIflt, tIfge, tIfgt, tIfle, tCmeq, tCmne, tCmlt, tCmge, tCmgt, tCmle, tNu, tTs, tGf, tPf, tGs, tIal, tIas, tBal, tBas, tAln, tSv, tSc, tSb, tSl, tSk, tCv, tCs, tCt, tMx, tMn, wr_10000, wr_100000, wr_1000000, wr_10000000, wr_100000000, wr_2400, wr_9999, wr_0, wr_1, wr_2, wr_3, wr_4, wr_5, wr_6, wr_7, wr_8, wr_9, wr_10, wr_11, wr_12, wr_13, wr_14, wr_15, wr_16, wr_17, wr_18, wr_19, wr_20, wr_21, wr_22, wr_23, wr_24, wr_25, wr_26, wr_27, wr_28, wr_29, wr_30, wr_31, wr_32, wr_33, wr_34, wr_35, wr_36, wr_37, wr_38, wr_39, wr_40, wr_41, wr_42, wr_43, wr_44, wr_45, wr_46, wr_47, wr_48, wr_49, wr_50, wr_51, wr_52, wr_53, wr_54, wr_55, wr_56, wr_57, wr_58, wr_59, wr_60, wr_61, wr_62, wr_63, wr_99, wr_100, wr_192, wr_255, wr_256, wr_343, wr_999, wr_1000, wr_2401, wr_2147483647, wr_65535, wr_m1, wr_m2, wr_m3, wr_m4, wr_m9, ak_1000, ak_1001, ak_1002, ak_0, ak_1, ak_2, ak_3, ak_4, ak_5, ak_6, ak_7, ak_8, ak_9, ak_10, ak_11, ak_12, ak_13, ak_14, ak_15, ak_16, ak_17, ak_18, ak_19, ak_20, ak_21, ak_22, ak_23, ak_24, ak_25, ak_26, ak_27, ak_28, ak_29, ak_30, ak_31, ak_32, ak_33, ak_34, ak_35, ak_36, ak_37, ak_38, ak_39, ak_40, ak_41, ak_42, ak_43, ak_44, ak_45, ak_46, ak_47]
    exact rm_X6_common h8 (by omega)
  · have hmul : a * b < 2 ^ 40 := by
      have : a * b ≤ 1048575 * 1048575 := Nat.mul_le_mul (by omega) (by omega)
      omega
    obtain ⟨n, hn, h⟩ := lp_X6_common a b M 40 a b none hab hmul (by omega)
    generalize Nat.gcd a b = g at h ⊢
    (refine am_fnR (tb := tb_X6_common) (N := 2000) (Nat.le_of_ble_eq_true rfl) (Nat.le_of_ble_eq_true rfl) ?_; show Ru rx_X6_common 2000 0 _ _ _ _)
    refine ⟨n + 7, by omega, ?_⟩
    simp [↓ri_X6_common, rs_X6_common_0, rs_X6_common_1, rs_X6_common_2, rs_X6_common_3, rs_X6_common_5, rs_X6_common_8, rs_X6_common_9, rs_X6_common_10, rs_X6_common_11, rs_X6_common_13, rs_X6_common_14, rs_X6_common_15, rs_X6_common_17, rs_X6_common_18, rs_X6_common_21, rs_X6_common_22, -List.getElem?_eq_getElem, am_js, am_e, am_in, am_sl, rI, rZ, rV, rJ, rA, rC, kI, kJ, kR, am_one, am_nl, am_w8, tIc, tLc, tNul, tIld, tLld, tAld, tIst, tLst, tAst, tIinc, tI2, tDv, tL2, tLrem, tLs, tLcmp, tI2l, tL2i, tI2c, tDup, tDup2, tPop, tGo, tIfeq, tIfne, tIflt, tIfge, tIfgt, tIfle, tCmeq, tCmne, tCmlt, tCmge, tCmgt, tCmle, tNu, tTs, tGf, tPf, tGs, tIal, tIas, tBal, tBas, tAln, tSv, tSc, tSb, tSl, tSk, tCv, tCs, tCt, tMx, tMn, wr_10000, wr_100000, wr_1000000, wr_10000000, wr_100000000, wr_2400, wr_9999, wr_0, wr_1, wr_2, wr_3, wr_4, wr_5, wr_6, wr_7, wr_8, wr_9, wr_10, wr_11, wr_12, wr_13, wr_14, wr_15, wr_16, wr_17, wr_18, wr_19, wr_20, wr_21, wr_22, wr_23, wr_24, wr_25, wr_26, wr_27, wr_28, wr_29, wr_30, wr_31, wr_32, wr_33, wr_34, wr_35, wr_36, wr_37, wr_38, wr_39, wr_40, wr_41, wr_42, wr_43, wr_44, wr_45, wr_46, wr_47, wr_48, wr_49, wr_50, wr_51, wr_52, wr_53, wr_54, wr_55, wr_56, wr_57, wr_58, wr_59, wr_60, wr_61, wr_62, wr_63, wr_99, wr_100, wr_192, wr_255, wr_256, wr_343, wr_999, wr_1000, wr_2401, wr_2147483647, wr_65535, wr_m1, wr_m2, wr_m3, wr_m4, wr_m9, ak_1000, ak_1001, ak_1002, ak_0, ak_1, ak_2, ak_3, ak_4, ak_5, ak_6, ak_7, ak_8, ak_9, ak_10, ak_11, ak_12, ak_13, ak_14, ak_15, ak_16, ak_17, ak_18, ak_19, ak_20, ak_21, ak_22, ak_23, ak_24, ak_25, ak_26, ak_27, ak_28, ak_29, ak_30, ak_31, ak_32, ak_33, ak_34, ak_35, ak_36, ak_37, ak_38, ak_39, ak_40, ak_41, ak_42, ak_43, ak_44, ak_45, ak_46, ak_47]
    exact rm_X6_common h (by omega)
abbrev mi_X6_loosen : Mi := (yX6_loosen, cX6_loosen, 2, none, 1)
theorem mf_X6_loosen : am_mf mi_X6_loosen 0 := ⟨w_co_X6_loosen, w_in_X6, ⟨by decide +kernel, by decide +kernel⟩, by decide +kernel, by decide⟩
def tb_X6_loosen : List (Nat × Tr) := [(0, tIc 0 1), (1, tIst 1 1), (2, tIld 1 1), (3, tIc 4 1), (4, tCmge 20), (7, tAld 0 1), (8, tGf 6 22), (11, tIld 1 1), (12, tIc 0 1), (13, tIas), (14, tIinc 1 1), (17, tGo 2)]
theorem ok_X6_loosen : Tok mi_X6_loosen tb_X6_loosen :=
  Tc (sd_iconst rfl dX6_loosen_0) <|
  Tc (sd_istore_n dX6_loosen_1) <|
  Tc (sd_iload_n dX6_loosen_2) <|
  Tc (sd_iconst rfl dX6_loosen_3) <|
  Tc (sd_cm_ge (by decide) dX6_loosen_4) <|
  Tc (sd_aload_n dX6_loosen_7) <|
  Tc (sd_getf (T := TX6) rfl giX6 (by decide) w_fl_X6_49 dX6_loosen_8) <|
  Tc (sd_iload_n dX6_loosen_11) <|
  Tc (sd_iconst rfl dX6_loosen_12) <|
  Tc (sd_ias dX6_loosen_13) <|
  Tc (sd_iinc dX6_loosen_14) <|
  Tc (sd_goto (by decide) dX6_loosen_17) <|
  Tn
theorem rk_X6_loosen : Rok mi_X6_loosen rV [20] := rk_v dX6_loosen_20 <| rk_n
def rx_X6_loosen : Nat → Nat → AL → List AV → List AC → Option (Option AV × List AC) := am_r tb_X6_loosen rV [20]
theorem rs_X6_loosen_0 (n : Nat) (L : AL) (st : List AV) (M : List AC) : rx_X6_loosen (n + 1) 0 L st M = am_j (rx_X6_loosen n) ((tIc 0 1) 0 L st M) := rfl
theorem rs_X6_loosen_1 (n : Nat) (L : AL) (st : List AV) (M : List AC) : rx_X6_loosen (n + 1) 1 L st M = am_j (rx_X6_loosen n) ((tIst 1 1) 1 L st M) := rfl
theorem rs_X6_loosen_2 (n : Nat) (L : AL) (st : List AV) (M : List AC) : rx_X6_loosen (n + 1) 2 L st M = am_j (rx_X6_loosen n) ((tIld 1 1) 2 L st M) := rfl
theorem rs_X6_loosen_3 (n : Nat) (L : AL) (st : List AV) (M : List AC) : rx_X6_loosen (n + 1) 3 L st M = am_j (rx_X6_loosen n) ((tIc 4 1) 3 L st M) := rfl
theorem rs_X6_loosen_4 (n : Nat) (L : AL) (st : List AV) (M : List AC) : rx_X6_loosen (n + 1) 4 L st M = am_j (rx_X6_loosen n) ((tCmge 20) 4 L st M) := rfl
theorem rs_X6_loosen_7 (n : Nat) (L : AL) (st : List AV) (M : List AC) : rx_X6_loosen (n + 1) 7 L st M = am_j (rx_X6_loosen n) ((tAld 0 1) 7 L st M) := rfl
theorem rs_X6_loosen_8 (n : Nat) (L : AL) (st : List AV) (M : List AC) : rx_X6_loosen (n + 1) 8 L st M = am_j (rx_X6_loosen n) ((tGf 6 22) 8 L st M) := rfl
theorem rs_X6_loosen_11 (n : Nat) (L : AL) (st : List AV) (M : List AC) : rx_X6_loosen (n + 1) 11 L st M = am_j (rx_X6_loosen n) ((tIld 1 1) 11 L st M) := rfl
theorem rs_X6_loosen_12 (n : Nat) (L : AL) (st : List AV) (M : List AC) : rx_X6_loosen (n + 1) 12 L st M = am_j (rx_X6_loosen n) ((tIc 0 1) 12 L st M) := rfl
theorem rs_X6_loosen_13 (n : Nat) (L : AL) (st : List AV) (M : List AC) : rx_X6_loosen (n + 1) 13 L st M = am_j (rx_X6_loosen n) (tIas 13 L st M) := rfl
theorem rs_X6_loosen_14 (n : Nat) (L : AL) (st : List AV) (M : List AC) : rx_X6_loosen (n + 1) 14 L st M = am_j (rx_X6_loosen n) ((tIinc 1 1) 14 L st M) := rfl
theorem rs_X6_loosen_17 (n : Nat) (L : AL) (st : List AV) (M : List AC) : rx_X6_loosen (n + 1) 17 L st M = am_j (rx_X6_loosen n) ((tGo 2) 17 L st M) := rfl
theorem rs_X6_loosen_20 (n : Nat) (L : AL) (st : List AV) (M : List AC) : rx_X6_loosen (n + 1) 20 L st M = am_e rV st M := rfl
theorem ri_X6_loosen (c : Prop) [Decidable c] (p q n : Nat) (L : AL) (st : List AV) (M : List AC) : rx_X6_loosen n (if c then p else q) L st M = if c then rx_X6_loosen n p L st M else rx_X6_loosen n q L st M := by split <;> rfl
theorem rm_X6_loosen {n k pc : Nat} {L : AL} {st : List AV} {M : List AC} {x : Option AV × List AC} (h : rx_X6_loosen n pc L st M = some x) (hk : n ≤ k) : rx_X6_loosen k pc L st M = some x := am_r_mono n k h hk
def fn_X6_loosen : Fn := am_fn rx_X6_loosen 2
theorem fok_X6_loosen : Fok mi_X6_loosen fn_X6_loosen := fun _ _ _ _ h => am_fok ok_X6_loosen rk_X6_loosen rfl h
theorem sp_X6_loosen {M : List AC} {st lk len ac nx rf lr en lm : Int} {sd : Int64} (h0 : M[26]? = some (mo st lk len ac nx rf lr en lm sd)) {v : F4} (h40 : M[40]? = some (aI (l4 v))) : fn_X6_loosen [vR 26] M = some (none, M.set 40 (aI (l4 (0, 0, 0, 0)))) := by
  (refine am_fnI (tb := tb_X6_loosen) (n := 90) (Nat.le_of_ble_eq_true rfl) (Nat.le_of_ble_eq_true rfl) ?_; show rx_X6_loosen 90 0 _ _ _ = _)
  simp [↓ri_X6_loosen, rs_X6_loosen_0, rs_X6_loosen_1, rs_X6_loosen_2, rs_X6_loosen_3, rs_X6_loosen_4, rs_X6_loosen_7, rs_X6_loosen_8, rs_X6_loosen_11, rs_X6_loosen_12, rs_X6_loosen_13, rs_X6_loosen_14, rs_X6_loosen_17, rs_X6_loosen_20, -List.getElem?_eq_getElem, am_js, am_e, am_in, am_sl, rI, rZ, rV, rJ, rA, rC, kI, kJ, kR, am_one, am_nl, am_w8, tIc, tLc, tNul, tIld, tLld, tAld, tIst, tLst, tAst, tIinc, tI2, tDv, tL2, tLrem, tLs, tLcmp, tI2l, tL2i, tI2c, tDup, tDup2, tPop, tGo, tIfeq, tIfne, tIflt, tIfge, tIfgt, tIfle, tCmeq, tCmne, tCmlt, tCmge, tCmgt, tCmle, tNu, tTs, tGf, tPf, tGs, tIal, tIas, tBal, tBas, tAln, tSv, tSc, tSb, tSl, tSk, tCv, tCs, tCt, tMx, tMn, wr_10000, wr_100000, wr_1000000, wr_10000000, wr_100000000, wr_2400, wr_9999, wr_0, wr_1, wr_2, wr_3, wr_4, wr_5, wr_6, wr_7, wr_8, wr_9, wr_10, wr_11, wr_12, wr_13, wr_14, wr_15, wr_16, wr_17, wr_18, wr_19, wr_20, wr_21, wr_22, wr_23, wr_24, wr_25, wr_26, wr_27, wr_28, wr_29, wr_30, wr_31, wr_32, wr_33, wr_34, wr_35, wr_36, wr_37, wr_38, wr_39, wr_40, wr_41, wr_42, wr_43, wr_44, wr_45, wr_46, wr_47, wr_48, wr_49, wr_50, wr_51, wr_52, wr_53, wr_54, wr_55, wr_56, wr_57, wr_58, wr_59, wr_60, wr_61, wr_62, wr_63, wr_99, wr_100, wr_192, wr_255, wr_256, wr_343, wr_999, wr_1000, wr_2401, wr_2147483647, wr_65535, wr_m1, wr_m2, wr_m3, wr_m4, wr_m9, ak_1000, ak_1001, ak_1002, ak_0, ak_1, ak_2, ak_3, ak_4, ak_5, ak_6, ak_7, ak_8, ak_9, ak_10, ak_11, ak_12, ak_13, ak_14, ak_15, ak_16, ak_17, ak_18, ak_19, ak_20, ak_21, ak_22, ak_23, ak_24, ak_25, ak_26, ak_27, ak_28, ak_29, ak_30, ak_31, ak_32, ak_33, ak_34, ak_35, ak_36, ak_37, ak_38, ak_39, ak_40, ak_41, ak_42, ak_43, ak_44, ak_45, ak_46, ak_47, h0, mo, h40, gs h40]
abbrev mi_X6_tighten : Mi := (yX6_tighten, cX6_tighten, 4, none, 1)
theorem mf_X6_tighten : am_mf mi_X6_tighten 1 := ⟨w_co_X6_tighten, w_in_X6, ⟨by decide +kernel, by decide +kernel⟩, by decide +kernel, by decide⟩
def tb_X6_tighten : List (Nat × Tr) := [(0, tIld 1 1), (1, tIc 1 1), (2, tI2 (fun a b => a + b)), (3, tIc 4 1), (4, tDv Int.tmod), (5, tIst 2 1), (6, tIld 1 1), (7, tIc 3 1), (8, tI2 (fun a b => a + b)), (9, tIc 4 1), (10, tDv Int.tmod), (11, tIst 3 1), (12, tAld 0 1), (13, tGf 6 22), (16, tIld 1 1), (17, tDup2), (18, tIal), (19, tIc 4 1), (20, tI2 (fun a b => a + b)), (21, tIas), (22, tAld 0 1), (23, tGf 6 22), (26, tIld 2 1), (27, tDup2), (28, tIal), (29, tAld 0 1), (30, tGf 6 22), (33, tIld 2 1), (34, tIal), (35, tIfle 42), (38, tIc 1 1), (39, tGo 43), (42, tIc 0 1), (43, tI2 (fun a b => a - b)), (44, tIas), (45, tAld 0 1), (46, tGf 6 22), (49, tIld 3 1), (50, tDup2), (51, tIal), (52, tAld 0 1), (53, tGf 6 22), (56, tIld 3 1), (57, tIal), (58, tIfle 65), (61, tIc 1 1), (62, tGo 66), (65, tIc 0 1), (66, tI2 (fun a b => a - b)), (67, tIas)]
theorem ok_X6_tighten : Tok mi_X6_tighten tb_X6_tighten :=
  Tc (sd_iload_n dX6_tighten_0) <|
  Tc (sd_iconst rfl dX6_tighten_1) <|
  Tc (sd_iadd dX6_tighten_2) <|
  Tc (sd_iconst rfl dX6_tighten_3) <|
  Tc (sd_irem dX6_tighten_4) <|
  Tc (sd_istore_n dX6_tighten_5) <|
  Tc (sd_iload_n dX6_tighten_6) <|
  Tc (sd_iconst rfl dX6_tighten_7) <|
  Tc (sd_iadd dX6_tighten_8) <|
  Tc (sd_iconst rfl dX6_tighten_9) <|
  Tc (sd_irem dX6_tighten_10) <|
  Tc (sd_istore_n dX6_tighten_11) <|
  Tc (sd_aload_n dX6_tighten_12) <|
  Tc (sd_getf (T := TX6) rfl giX6 (by decide) w_fl_X6_49 dX6_tighten_13) <|
  Tc (sd_iload_n dX6_tighten_16) <|
  Tc (sd_dup2 dX6_tighten_17) <|
  Tc (sd_ial dX6_tighten_18) <|
  Tc (sd_iconst rfl dX6_tighten_19) <|
  Tc (sd_iadd dX6_tighten_20) <|
  Tc (sd_ias dX6_tighten_21) <|
  Tc (sd_aload_n dX6_tighten_22) <|
  Tc (sd_getf (T := TX6) rfl giX6 (by decide) w_fl_X6_49 dX6_tighten_23) <|
  Tc (sd_iload_n dX6_tighten_26) <|
  Tc (sd_dup2 dX6_tighten_27) <|
  Tc (sd_ial dX6_tighten_28) <|
  Tc (sd_aload_n dX6_tighten_29) <|
  Tc (sd_getf (T := TX6) rfl giX6 (by decide) w_fl_X6_49 dX6_tighten_30) <|
  Tc (sd_iload_n dX6_tighten_33) <|
  Tc (sd_ial dX6_tighten_34) <|
  Tc (sd_if_le (by decide) dX6_tighten_35) <|
  Tc (sd_iconst rfl dX6_tighten_38) <|
  Tc (sd_goto (by decide) dX6_tighten_39) <|
  Tc (sd_iconst rfl dX6_tighten_42) <|
  Tc (sd_isub dX6_tighten_43) <|
  Tc (sd_ias dX6_tighten_44) <|
  Tc (sd_aload_n dX6_tighten_45) <|
  Tc (sd_getf (T := TX6) rfl giX6 (by decide) w_fl_X6_49 dX6_tighten_46) <|
  Tc (sd_iload_n dX6_tighten_49) <|
  Tc (sd_dup2 dX6_tighten_50) <|
  Tc (sd_ial dX6_tighten_51) <|
  Tc (sd_aload_n dX6_tighten_52) <|
  Tc (sd_getf (T := TX6) rfl giX6 (by decide) w_fl_X6_49 dX6_tighten_53) <|
  Tc (sd_iload_n dX6_tighten_56) <|
  Tc (sd_ial dX6_tighten_57) <|
  Tc (sd_if_le (by decide) dX6_tighten_58) <|
  Tc (sd_iconst rfl dX6_tighten_61) <|
  Tc (sd_goto (by decide) dX6_tighten_62) <|
  Tc (sd_iconst rfl dX6_tighten_65) <|
  Tc (sd_isub dX6_tighten_66) <|
  Tc (sd_ias dX6_tighten_67) <|
  Tn
theorem rk_X6_tighten : Rok mi_X6_tighten rV [68] := rk_v dX6_tighten_68 <| rk_n
def rx_X6_tighten : Nat → Nat → AL → List AV → List AC → Option (Option AV × List AC) := am_r tb_X6_tighten rV [68]
theorem rs_X6_tighten_0 (n : Nat) (L : AL) (st : List AV) (M : List AC) : rx_X6_tighten (n + 1) 0 L st M = am_j (rx_X6_tighten n) ((tIld 1 1) 0 L st M) := rfl
theorem rs_X6_tighten_1 (n : Nat) (L : AL) (st : List AV) (M : List AC) : rx_X6_tighten (n + 1) 1 L st M = am_j (rx_X6_tighten n) ((tIc 1 1) 1 L st M) := rfl
theorem rs_X6_tighten_2 (n : Nat) (L : AL) (st : List AV) (M : List AC) : rx_X6_tighten (n + 1) 2 L st M = am_j (rx_X6_tighten n) ((tI2 (fun a b => a + b)) 2 L st M) := rfl
theorem rs_X6_tighten_3 (n : Nat) (L : AL) (st : List AV) (M : List AC) : rx_X6_tighten (n + 1) 3 L st M = am_j (rx_X6_tighten n) ((tIc 4 1) 3 L st M) := rfl
theorem rs_X6_tighten_4 (n : Nat) (L : AL) (st : List AV) (M : List AC) : rx_X6_tighten (n + 1) 4 L st M = am_j (rx_X6_tighten n) ((tDv Int.tmod) 4 L st M) := rfl
theorem rs_X6_tighten_5 (n : Nat) (L : AL) (st : List AV) (M : List AC) : rx_X6_tighten (n + 1) 5 L st M = am_j (rx_X6_tighten n) ((tIst 2 1) 5 L st M) := rfl
theorem rs_X6_tighten_6 (n : Nat) (L : AL) (st : List AV) (M : List AC) : rx_X6_tighten (n + 1) 6 L st M = am_j (rx_X6_tighten n) ((tIld 1 1) 6 L st M) := rfl
theorem rs_X6_tighten_7 (n : Nat) (L : AL) (st : List AV) (M : List AC) : rx_X6_tighten (n + 1) 7 L st M = am_j (rx_X6_tighten n) ((tIc 3 1) 7 L st M) := rfl
theorem rs_X6_tighten_8 (n : Nat) (L : AL) (st : List AV) (M : List AC) : rx_X6_tighten (n + 1) 8 L st M = am_j (rx_X6_tighten n) ((tI2 (fun a b => a + b)) 8 L st M) := rfl
theorem rs_X6_tighten_9 (n : Nat) (L : AL) (st : List AV) (M : List AC) : rx_X6_tighten (n + 1) 9 L st M = am_j (rx_X6_tighten n) ((tIc 4 1) 9 L st M) := rfl
theorem rs_X6_tighten_10 (n : Nat) (L : AL) (st : List AV) (M : List AC) : rx_X6_tighten (n + 1) 10 L st M = am_j (rx_X6_tighten n) ((tDv Int.tmod) 10 L st M) := rfl
theorem rs_X6_tighten_11 (n : Nat) (L : AL) (st : List AV) (M : List AC) : rx_X6_tighten (n + 1) 11 L st M = am_j (rx_X6_tighten n) ((tIst 3 1) 11 L st M) := rfl
theorem rs_X6_tighten_12 (n : Nat) (L : AL) (st : List AV) (M : List AC) : rx_X6_tighten (n + 1) 12 L st M = am_j (rx_X6_tighten n) ((tAld 0 1) 12 L st M) := rfl
theorem rs_X6_tighten_13 (n : Nat) (L : AL) (st : List AV) (M : List AC) : rx_X6_tighten (n + 1) 13 L st M = am_j (rx_X6_tighten n) ((tGf 6 22) 13 L st M) := rfl
theorem rs_X6_tighten_16 (n : Nat) (L : AL) (st : List AV) (M : List AC) : rx_X6_tighten (n + 1) 16 L st M = am_j (rx_X6_tighten n) ((tIld 1 1) 16 L st M) := rfl
theorem rs_X6_tighten_17 (n : Nat) (L : AL) (st : List AV) (M : List AC) : rx_X6_tighten (n + 1) 17 L st M = am_j (rx_X6_tighten n) (tDup2 17 L st M) := rfl
theorem rs_X6_tighten_18 (n : Nat) (L : AL) (st : List AV) (M : List AC) : rx_X6_tighten (n + 1) 18 L st M = am_j (rx_X6_tighten n) (tIal 18 L st M) := rfl
theorem rs_X6_tighten_19 (n : Nat) (L : AL) (st : List AV) (M : List AC) : rx_X6_tighten (n + 1) 19 L st M = am_j (rx_X6_tighten n) ((tIc 4 1) 19 L st M) := rfl
theorem rs_X6_tighten_20 (n : Nat) (L : AL) (st : List AV) (M : List AC) : rx_X6_tighten (n + 1) 20 L st M = am_j (rx_X6_tighten n) ((tI2 (fun a b => a + b)) 20 L st M) := rfl
theorem rs_X6_tighten_21 (n : Nat) (L : AL) (st : List AV) (M : List AC) : rx_X6_tighten (n + 1) 21 L st M = am_j (rx_X6_tighten n) (tIas 21 L st M) := rfl
theorem rs_X6_tighten_22 (n : Nat) (L : AL) (st : List AV) (M : List AC) : rx_X6_tighten (n + 1) 22 L st M = am_j (rx_X6_tighten n) ((tAld 0 1) 22 L st M) := rfl
theorem rs_X6_tighten_23 (n : Nat) (L : AL) (st : List AV) (M : List AC) : rx_X6_tighten (n + 1) 23 L st M = am_j (rx_X6_tighten n) ((tGf 6 22) 23 L st M) := rfl
theorem rs_X6_tighten_26 (n : Nat) (L : AL) (st : List AV) (M : List AC) : rx_X6_tighten (n + 1) 26 L st M = am_j (rx_X6_tighten n) ((tIld 2 1) 26 L st M) := rfl
theorem rs_X6_tighten_27 (n : Nat) (L : AL) (st : List AV) (M : List AC) : rx_X6_tighten (n + 1) 27 L st M = am_j (rx_X6_tighten n) (tDup2 27 L st M) := rfl
theorem rs_X6_tighten_28 (n : Nat) (L : AL) (st : List AV) (M : List AC) : rx_X6_tighten (n + 1) 28 L st M = am_j (rx_X6_tighten n) (tIal 28 L st M) := rfl
theorem rs_X6_tighten_29 (n : Nat) (L : AL) (st : List AV) (M : List AC) : rx_X6_tighten (n + 1) 29 L st M = am_j (rx_X6_tighten n) ((tAld 0 1) 29 L st M) := rfl
theorem rs_X6_tighten_30 (n : Nat) (L : AL) (st : List AV) (M : List AC) : rx_X6_tighten (n + 1) 30 L st M = am_j (rx_X6_tighten n) ((tGf 6 22) 30 L st M) := rfl
theorem rs_X6_tighten_33 (n : Nat) (L : AL) (st : List AV) (M : List AC) : rx_X6_tighten (n + 1) 33 L st M = am_j (rx_X6_tighten n) ((tIld 2 1) 33 L st M) := rfl
theorem rs_X6_tighten_34 (n : Nat) (L : AL) (st : List AV) (M : List AC) : rx_X6_tighten (n + 1) 34 L st M = am_j (rx_X6_tighten n) (tIal 34 L st M) := rfl
theorem rs_X6_tighten_35 (n : Nat) (L : AL) (st : List AV) (M : List AC) : rx_X6_tighten (n + 1) 35 L st M = am_j (rx_X6_tighten n) ((tIfle 42) 35 L st M) := rfl
theorem rs_X6_tighten_38 (n : Nat) (L : AL) (st : List AV) (M : List AC) : rx_X6_tighten (n + 1) 38 L st M = am_j (rx_X6_tighten n) ((tIc 1 1) 38 L st M) := rfl
theorem rs_X6_tighten_39 (n : Nat) (L : AL) (st : List AV) (M : List AC) : rx_X6_tighten (n + 1) 39 L st M = am_j (rx_X6_tighten n) ((tGo 43) 39 L st M) := rfl
theorem rs_X6_tighten_42 (n : Nat) (L : AL) (st : List AV) (M : List AC) : rx_X6_tighten (n + 1) 42 L st M = am_j (rx_X6_tighten n) ((tIc 0 1) 42 L st M) := rfl
theorem rs_X6_tighten_43 (n : Nat) (L : AL) (st : List AV) (M : List AC) : rx_X6_tighten (n + 1) 43 L st M = am_j (rx_X6_tighten n) ((tI2 (fun a b => a - b)) 43 L st M) := rfl
theorem rs_X6_tighten_44 (n : Nat) (L : AL) (st : List AV) (M : List AC) : rx_X6_tighten (n + 1) 44 L st M = am_j (rx_X6_tighten n) (tIas 44 L st M) := rfl
theorem rs_X6_tighten_45 (n : Nat) (L : AL) (st : List AV) (M : List AC) : rx_X6_tighten (n + 1) 45 L st M = am_j (rx_X6_tighten n) ((tAld 0 1) 45 L st M) := rfl
theorem rs_X6_tighten_46 (n : Nat) (L : AL) (st : List AV) (M : List AC) : rx_X6_tighten (n + 1) 46 L st M = am_j (rx_X6_tighten n) ((tGf 6 22) 46 L st M) := rfl
theorem rs_X6_tighten_49 (n : Nat) (L : AL) (st : List AV) (M : List AC) : rx_X6_tighten (n + 1) 49 L st M = am_j (rx_X6_tighten n) ((tIld 3 1) 49 L st M) := rfl
theorem rs_X6_tighten_50 (n : Nat) (L : AL) (st : List AV) (M : List AC) : rx_X6_tighten (n + 1) 50 L st M = am_j (rx_X6_tighten n) (tDup2 50 L st M) := rfl
theorem rs_X6_tighten_51 (n : Nat) (L : AL) (st : List AV) (M : List AC) : rx_X6_tighten (n + 1) 51 L st M = am_j (rx_X6_tighten n) (tIal 51 L st M) := rfl
theorem rs_X6_tighten_52 (n : Nat) (L : AL) (st : List AV) (M : List AC) : rx_X6_tighten (n + 1) 52 L st M = am_j (rx_X6_tighten n) ((tAld 0 1) 52 L st M) := rfl
theorem rs_X6_tighten_53 (n : Nat) (L : AL) (st : List AV) (M : List AC) : rx_X6_tighten (n + 1) 53 L st M = am_j (rx_X6_tighten n) ((tGf 6 22) 53 L st M) := rfl
theorem rs_X6_tighten_56 (n : Nat) (L : AL) (st : List AV) (M : List AC) : rx_X6_tighten (n + 1) 56 L st M = am_j (rx_X6_tighten n) ((tIld 3 1) 56 L st M) := rfl
theorem rs_X6_tighten_57 (n : Nat) (L : AL) (st : List AV) (M : List AC) : rx_X6_tighten (n + 1) 57 L st M = am_j (rx_X6_tighten n) (tIal 57 L st M) := rfl
theorem rs_X6_tighten_58 (n : Nat) (L : AL) (st : List AV) (M : List AC) : rx_X6_tighten (n + 1) 58 L st M = am_j (rx_X6_tighten n) ((tIfle 65) 58 L st M) := rfl
theorem rs_X6_tighten_61 (n : Nat) (L : AL) (st : List AV) (M : List AC) : rx_X6_tighten (n + 1) 61 L st M = am_j (rx_X6_tighten n) ((tIc 1 1) 61 L st M) := rfl
theorem rs_X6_tighten_62 (n : Nat) (L : AL) (st : List AV) (M : List AC) : rx_X6_tighten (n + 1) 62 L st M = am_j (rx_X6_tighten n) ((tGo 66) 62 L st M) := rfl
theorem rs_X6_tighten_65 (n : Nat) (L : AL) (st : List AV) (M : List AC) : rx_X6_tighten (n + 1) 65 L st M = am_j (rx_X6_tighten n) ((tIc 0 1) 65 L st M) := rfl
theorem rs_X6_tighten_66 (n : Nat) (L : AL) (st : List AV) (M : List AC) : rx_X6_tighten (n + 1) 66 L st M = am_j (rx_X6_tighten n) ((tI2 (fun a b => a - b)) 66 L st M) := rfl
theorem rs_X6_tighten_67 (n : Nat) (L : AL) (st : List AV) (M : List AC) : rx_X6_tighten (n + 1) 67 L st M = am_j (rx_X6_tighten n) (tIas 67 L st M) := rfl
theorem rs_X6_tighten_68 (n : Nat) (L : AL) (st : List AV) (M : List AC) : rx_X6_tighten (n + 1) 68 L st M = am_e rV st M := rfl
theorem ri_X6_tighten (c : Prop) [Decidable c] (p q n : Nat) (L : AL) (st : List AV) (M : List AC) : rx_X6_tighten n (if c then p else q) L st M = if c then rx_X6_tighten n p L st M else rx_X6_tighten n q L st M := by split <;> rfl
theorem rm_X6_tighten {n k pc : Nat} {L : AL} {st : List AV} {M : List AC} {x : Option AV × List AC} (h : rx_X6_tighten n pc L st M = some x) (hk : n ≤ k) : rx_X6_tighten k pc L st M = some x := am_r_mono n k h hk
def fn_X6_tighten : Fn := am_fn rx_X6_tighten 4
theorem fok_X6_tighten : Fok mi_X6_tighten fn_X6_tighten := fun _ _ _ _ h => am_fok ok_X6_tighten rk_X6_tighten rfl h
theorem sp_X6_tighten {M : List AC} {st lk len ac nx rf lr en lm : Int} {sd : Int64} (h0 : M[26]? = some (mo st lk len ac nx rf lr en lm sd)) {v : F4} (h40 : M[40]? = some (aI (l4 v))) (hv : i4 0 900 v) (c : Int) (hc : 0 ≤ c ∧ c < 4) : fn_X6_tighten [vR 26, vI c] M = some (none, M.set 40 (aI (l4 (tg v c.toNat)))) := by
  obtain ⟨w0, w1', w2, w3⟩ := i4_wr hv (by decide) (by decide)
  obtain ⟨⟨r0, -⟩, ⟨r1, -⟩, ⟨r2, -⟩, r3, -⟩ := hv
  (refine am_fnI (tb := tb_X6_tighten) (n := 90) (Nat.le_of_ble_eq_true rfl) (Nat.le_of_ble_eq_true rfl) ?_; show rx_X6_tighten 90 0 _ _ _ = _)
  rcases c4 hc with rfl | rfl | rfl | rfl
  · rcases ps v.2.1 with ⟨a1, b1⟩ | ⟨a1, b1⟩ <;> rcases ps v.2.2.2 with ⟨a3, b3⟩ | ⟨a3, b3⟩ <;>
    simp [↓ri_X6_tighten, rs_X6_tighten_0, rs_X6_tighten_1, rs_X6_tighten_2, rs_X6_tighten_3, rs_X6_tighten_4, rs_X6_tighten_5, rs_X6_tighten_6, rs_X6_tighten_7, rs_X6_tighten_8, rs_X6_tighten_9, rs_X6_tighten_10, rs_X6_tighten_11, rs_X6_tighten_12, rs_X6_tighten_13, rs_X6_tighten_16, rs_X6_tighten_17, rs_X6_tighten_18, rs_X6_tighten_19, rs_X6_tighten_20, rs_X6_tighten_21, rs_X6_tighten_22, rs_X6_tighten_23, rs_X6_tighten_26, rs_X6_tighten_27, rs_X6_tighten_28, rs_X6_tighten_29, rs_X6_tighten_30, rs_X6_tighten_33, rs_X6_tighten_34, rs_X6_tighten_35, rs_X6_tighten_38, rs_X6_tighten_39, rs_X6_tighten_42, rs_X6_tighten_43, rs_X6_tighten_44, rs_X6_tighten_45, rs_X6_tighten_46, rs_X6_tighten_49, rs_X6_tighten_50, rs_X6_tighten_51, rs_X6_tighten_52, rs_X6_tighten_53, rs_X6_tighten_56, rs_X6_tighten_57, rs_X6_tighten_58, rs_X6_tighten_61, rs_X6_tighten_62, rs_X6_tighten_65, rs_X6_tighten_66, rs_X6_tighten_67, rs_X6_tighten_68, -List.getElem?_eq_getElem, am_js, am_e, am_in, am_sl, rI, rZ, rV, rJ, rA, rC, kI, kJ, kR, am_one, am_nl, am_w8, tIc, tLc, tNul, tIld, tLld, tAld, tIst, tLst, tAst, tIinc, tI2, tDv, tL2, tLrem, tLs, tLcmp, tI2l, tL2i, tI2c, tDup, tDup2, tPop, tGo, tIfeq, tIfne, tIflt, tIfge, tIfgt, tIfle, tCmeq, tCmne, tCmlt, tCmge, tCmgt, tCmle, tNu, tTs, tGf, tPf, tGs, tIal, tIas, tBal, tBas, tAln, tSv, tSc, tSb, tSl, tSk, tCv, tCs, tCt, tMx, tMn, wr_10000, wr_100000, wr_1000000, wr_10000000, wr_100000000, wr_2400, wr_9999, wr_0, wr_1, wr_2, wr_3, wr_4, wr_5, wr_6, wr_7, wr_8, wr_9, wr_10, wr_11, wr_12, wr_13, wr_14, wr_15, wr_16, wr_17, wr_18, wr_19, wr_20, wr_21, wr_22, wr_23, wr_24, wr_25, wr_26, wr_27, wr_28, wr_29, wr_30, wr_31, wr_32, wr_33, wr_34, wr_35, wr_36, wr_37, wr_38, wr_39, wr_40, wr_41, wr_42, wr_43, wr_44, wr_45, wr_46, wr_47, wr_48, wr_49, wr_50, wr_51, wr_52, wr_53, wr_54, wr_55, wr_56, wr_57, wr_58, wr_59, wr_60, wr_61, wr_62, wr_63, wr_99, wr_100, wr_192, wr_255, wr_256, wr_343, wr_999, wr_1000, wr_2401, wr_2147483647, wr_65535, wr_m1, wr_m2, wr_m3, wr_m4, wr_m9, ak_1000, ak_1001, ak_1002, ak_0, ak_1, ak_2, ak_3, ak_4, ak_5, ak_6, ak_7, ak_8, ak_9, ak_10, ak_11, ak_12, ak_13, ak_14, ak_15, ak_16, ak_17, ak_18, ak_19, ak_20, ak_21, ak_22, ak_23, ak_24, ak_25, ak_26, ak_27, ak_28, ak_29, ak_30, ak_31, ak_32, ak_33, ak_34, ak_35, ak_36, ak_37, ak_38, ak_39, ak_40, ak_41, ak_42, ak_43, ak_44, ak_45, ak_46, ak_47, h0, mo, h40, gs h40, tg, w0, w1', w2, w3, a1, b1, a3, b3, r0, r1, r2, r3, wz_s, wz_n]
  · rcases ps v.2.2.1 with ⟨a1, b1⟩ | ⟨a1, b1⟩ <;> rcases ps v.1 with ⟨a3, b3⟩ | ⟨a3, b3⟩ <;>
    simp [↓ri_X6_tighten, rs_X6_tighten_0, rs_X6_tighten_1, rs_X6_tighten_2, rs_X6_tighten_3, rs_X6_tighten_4, rs_X6_tighten_5, rs_X6_tighten_6, rs_X6_tighten_7, rs_X6_tighten_8, rs_X6_tighten_9, rs_X6_tighten_10, rs_X6_tighten_11, rs_X6_tighten_12, rs_X6_tighten_13, rs_X6_tighten_16, rs_X6_tighten_17, rs_X6_tighten_18, rs_X6_tighten_19, rs_X6_tighten_20, rs_X6_tighten_21, rs_X6_tighten_22, rs_X6_tighten_23, rs_X6_tighten_26, rs_X6_tighten_27, rs_X6_tighten_28, rs_X6_tighten_29, rs_X6_tighten_30, rs_X6_tighten_33, rs_X6_tighten_34, rs_X6_tighten_35, rs_X6_tighten_38, rs_X6_tighten_39, rs_X6_tighten_42, rs_X6_tighten_43, rs_X6_tighten_44, rs_X6_tighten_45, rs_X6_tighten_46, rs_X6_tighten_49, rs_X6_tighten_50, rs_X6_tighten_51, rs_X6_tighten_52, rs_X6_tighten_53, rs_X6_tighten_56, rs_X6_tighten_57, rs_X6_tighten_58, rs_X6_tighten_61, rs_X6_tighten_62, rs_X6_tighten_65, rs_X6_tighten_66, rs_X6_tighten_67, rs_X6_tighten_68, -List.getElem?_eq_getElem, am_js, am_e, am_in, am_sl, rI, rZ, rV, rJ, rA, rC, kI, kJ, kR, am_one, am_nl, am_w8, tIc, tLc, tNul, tIld, tLld, tAld, tIst, tLst, tAst, tIinc, tI2, tDv, tL2, tLrem, tLs, tLcmp, tI2l, tL2i, tI2c, tDup, tDup2, tPop, tGo, tIfeq, tIfne, tIflt, tIfge, tIfgt, tIfle, tCmeq, tCmne, tCmlt, tCmge, tCmgt, tCmle, tNu, tTs, tGf, tPf, tGs, tIal, tIas, tBal, tBas, tAln, tSv, tSc, tSb, tSl, tSk, tCv, tCs, tCt, tMx, tMn, wr_10000, wr_100000, wr_1000000, wr_10000000, wr_100000000, wr_2400, wr_9999, wr_0, wr_1, wr_2, wr_3, wr_4, wr_5, wr_6, wr_7, wr_8, wr_9, wr_10, wr_11, wr_12, wr_13, wr_14, wr_15, wr_16, wr_17, wr_18, wr_19, wr_20, wr_21, wr_22, wr_23, wr_24, wr_25, wr_26, wr_27, wr_28, wr_29, wr_30, wr_31, wr_32, wr_33, wr_34, wr_35, wr_36, wr_37, wr_38, wr_39, wr_40, wr_41, wr_42, wr_43, wr_44, wr_45, wr_46, wr_47, wr_48, wr_49, wr_50, wr_51, wr_52, wr_53, wr_54, wr_55, wr_56, wr_57, wr_58, wr_59, wr_60, wr_61, wr_62, wr_63, wr_99, wr_100, wr_192, wr_255, wr_256, wr_343, wr_999, wr_1000, wr_2401, wr_2147483647, wr_65535, wr_m1, wr_m2, wr_m3, wr_m4, wr_m9, ak_1000, ak_1001, ak_1002, ak_0, ak_1, ak_2, ak_3, ak_4, ak_5, ak_6, ak_7, ak_8, ak_9, ak_10, ak_11, ak_12, ak_13, ak_14, ak_15, ak_16, ak_17, ak_18, ak_19, ak_20, ak_21, ak_22, ak_23, ak_24, ak_25, ak_26, ak_27, ak_28, ak_29, ak_30, ak_31, ak_32, ak_33, ak_34, ak_35, ak_36, ak_37, ak_38, ak_39, ak_40, ak_41, ak_42, ak_43, ak_44, ak_45, ak_46, ak_47, h0, mo, h40, gs h40, tg, w0, w1', w2, w3, a1, b1, a3, b3, r0, r1, r2, r3, wz_s, wz_n]
  · rcases ps v.2.2.2 with ⟨a1, b1⟩ | ⟨a1, b1⟩ <;> rcases ps v.2.1 with ⟨a3, b3⟩ | ⟨a3, b3⟩ <;>
    simp [↓ri_X6_tighten, rs_X6_tighten_0, rs_X6_tighten_1, rs_X6_tighten_2, rs_X6_tighten_3, rs_X6_tighten_4, rs_X6_tighten_5, rs_X6_tighten_6, rs_X6_tighten_7, rs_X6_tighten_8, rs_X6_tighten_9, rs_X6_tighten_10, rs_X6_tighten_11, rs_X6_tighten_12, rs_X6_tighten_13, rs_X6_tighten_16, rs_X6_tighten_17, rs_X6_tighten_18, rs_X6_tighten_19, rs_X6_tighten_20, rs_X6_tighten_21, rs_X6_tighten_22, rs_X6_tighten_23, rs_X6_tighten_26, rs_X6_tighten_27, rs_X6_tighten_28, rs_X6_tighten_29, rs_X6_tighten_30, rs_X6_tighten_33, rs_X6_tighten_34, rs_X6_tighten_35, rs_X6_tighten_38, rs_X6_tighten_39, rs_X6_tighten_42, rs_X6_tighten_43, rs_X6_tighten_44, rs_X6_tighten_45, rs_X6_tighten_46, rs_X6_tighten_49, rs_X6_tighten_50, rs_X6_tighten_51, rs_X6_tighten_52, rs_X6_tighten_53, rs_X6_tighten_56, rs_X6_tighten_57, rs_X6_tighten_58, rs_X6_tighten_61, rs_X6_tighten_62, rs_X6_tighten_65, rs_X6_tighten_66, rs_X6_tighten_67, rs_X6_tighten_68, -List.getElem?_eq_getElem, am_js, am_e, am_in, am_sl, rI, rZ, rV, rJ, rA, rC, kI, kJ, kR, am_one, am_nl, am_w8, tIc, tLc, tNul, tIld, tLld, tAld, tIst, tLst, tAst, tIinc, tI2, tDv, tL2, tLrem, tLs, tLcmp, tI2l, tL2i, tI2c, tDup, tDup2, tPop, tGo, tIfeq, tIfne, tIflt, tIfge, tIfgt, tIfle, tCmeq, tCmne, tCmlt, tCmge, tCmgt, tCmle, tNu, tTs, tGf, tPf, tGs, tIal, tIas, tBal, tBas, tAln, tSv, tSc, tSb, tSl, tSk, tCv, tCs, tCt, tMx, tMn, wr_10000, wr_100000, wr_1000000, wr_10000000, wr_100000000, wr_2400, wr_9999, wr_0, wr_1, wr_2, wr_3, wr_4, wr_5, wr_6, wr_7, wr_8, wr_9, wr_10, wr_11, wr_12, wr_13, wr_14, wr_15, wr_16, wr_17, wr_18, wr_19, wr_20, wr_21, wr_22, wr_23, wr_24, wr_25, wr_26, wr_27, wr_28, wr_29, wr_30, wr_31, wr_32, wr_33, wr_34, wr_35, wr_36, wr_37, wr_38, wr_39, wr_40, wr_41, wr_42, wr_43, wr_44, wr_45, wr_46, wr_47, wr_48, wr_49, wr_50, wr_51, wr_52, wr_53, wr_54, wr_55, wr_56, wr_57, wr_58, wr_59, wr_60, wr_61, wr_62, wr_63, wr_99, wr_100, wr_192, wr_255, wr_256, wr_343, wr_999, wr_1000, wr_2401, wr_2147483647, wr_65535, wr_m1, wr_m2, wr_m3, wr_m4, wr_m9, ak_1000, ak_1001, ak_1002, ak_0, ak_1, ak_2, ak_3, ak_4, ak_5, ak_6, ak_7, ak_8, ak_9, ak_10, ak_11, ak_12, ak_13, ak_14, ak_15, ak_16, ak_17, ak_18, ak_19, ak_20, ak_21, ak_22, ak_23, ak_24, ak_25, ak_26, ak_27, ak_28, ak_29, ak_30, ak_31, ak_32, ak_33, ak_34, ak_35, ak_36, ak_37, ak_38, ak_39, ak_40, ak_41, ak_42, ak_43, ak_44, ak_45, ak_46, ak_47, h0, mo, h40, gs h40, tg, w0, w1', w2, w3, a1, b1, a3, b3, r0, r1, r2, r3, wz_s, wz_n]
  · rcases ps v.1 with ⟨a1, b1⟩ | ⟨a1, b1⟩ <;> rcases ps v.2.2.1 with ⟨a3, b3⟩ | ⟨a3, b3⟩ <;>
    simp [↓ri_X6_tighten, rs_X6_tighten_0, rs_X6_tighten_1, rs_X6_tighten_2, rs_X6_tighten_3, rs_X6_tighten_4, rs_X6_tighten_5, rs_X6_tighten_6, rs_X6_tighten_7, rs_X6_tighten_8, rs_X6_tighten_9, rs_X6_tighten_10, rs_X6_tighten_11, rs_X6_tighten_12, rs_X6_tighten_13, rs_X6_tighten_16, rs_X6_tighten_17, rs_X6_tighten_18, rs_X6_tighten_19, rs_X6_tighten_20, rs_X6_tighten_21, rs_X6_tighten_22, rs_X6_tighten_23, rs_X6_tighten_26, rs_X6_tighten_27, rs_X6_tighten_28, rs_X6_tighten_29, rs_X6_tighten_30, rs_X6_tighten_33, rs_X6_tighten_34, rs_X6_tighten_35, rs_X6_tighten_38, rs_X6_tighten_39, rs_X6_tighten_42, rs_X6_tighten_43, rs_X6_tighten_44, rs_X6_tighten_45, rs_X6_tighten_46, rs_X6_tighten_49, rs_X6_tighten_50, rs_X6_tighten_51, rs_X6_tighten_52, rs_X6_tighten_53, rs_X6_tighten_56, rs_X6_tighten_57, rs_X6_tighten_58, rs_X6_tighten_61, rs_X6_tighten_62, rs_X6_tighten_65, rs_X6_tighten_66, rs_X6_tighten_67, rs_X6_tighten_68, -List.getElem?_eq_getElem, am_js, am_e, am_in, am_sl, rI, rZ, rV, rJ, rA, rC, kI, kJ, kR, am_one, am_nl, am_w8, tIc, tLc, tNul, tIld, tLld, tAld, tIst, tLst, tAst, tIinc, tI2, tDv, tL2, tLrem, tLs, tLcmp, tI2l, tL2i, tI2c, tDup, tDup2, tPop, tGo, tIfeq, tIfne, tIflt, tIfge, tIfgt, tIfle, tCmeq, tCmne, tCmlt, tCmge, tCmgt, tCmle, tNu, tTs, tGf, tPf, tGs, tIal, tIas, tBal, tBas, tAln, tSv, tSc, tSb, tSl, tSk, tCv, tCs, tCt, tMx, tMn, wr_10000, wr_100000, wr_1000000, wr_10000000, wr_100000000, wr_2400, wr_9999, wr_0, wr_1, wr_2, wr_3, wr_4, wr_5, wr_6, wr_7, wr_8, wr_9, wr_10, wr_11, wr_12, wr_13, wr_14, wr_15, wr_16, wr_17, wr_18, wr_19, wr_20, wr_21, wr_22, wr_23, wr_24, wr_25, wr_26, wr_27, wr_28, wr_29, wr_30, wr_31, wr_32, wr_33, wr_34, wr_35, wr_36, wr_37, wr_38, wr_39, wr_40, wr_41, wr_42, wr_43, wr_44, wr_45, wr_46, wr_47, wr_48, wr_49, wr_50, wr_51, wr_52, wr_53, wr_54, wr_55, wr_56, wr_57, wr_58, wr_59, wr_60, wr_61, wr_62, wr_63, wr_99, wr_100, wr_192, wr_255, wr_256, wr_343, wr_999, wr_1000, wr_2401, wr_2147483647, wr_65535, wr_m1, wr_m2, wr_m3, wr_m4, wr_m9, ak_1000, ak_1001, ak_1002, ak_0, ak_1, ak_2, ak_3, ak_4, ak_5, ak_6, ak_7, ak_8, ak_9, ak_10, ak_11, ak_12, ak_13, ak_14, ak_15, ak_16, ak_17, ak_18, ak_19, ak_20, ak_21, ak_22, ak_23, ak_24, ak_25, ak_26, ak_27, ak_28, ak_29, ak_30, ak_31, ak_32, ak_33, ak_34, ak_35, ak_36, ak_37, ak_38, ak_39, ak_40, ak_41, ak_42, ak_43, ak_44, ak_45, ak_46, ak_47, h0, mo, h40, gs h40, tg, w0, w1', w2, w3, a1, b1, a3, b3, r0, r1, r2, r3, wz_s, wz_n]
def o2 (o i : Int) : Int := oAnd (oShr o i) 3
def os (o : Int) : Int := oOr (oOr (oOr (oOr 0 (oShl 1 (o2 o 6))) (oShl 1 (o2 o 4))) (oShl 1 (o2 o 2))) (oShl 1 (o2 o 0))
theorem wr_toInt (x : Int32) : wr x.toInt = x.toInt := by rw [← wr_eq, Int32.ofInt_toInt]
theorem wr_or (a b : Int) : wr (oOr a b) = oOr a b := wr_toInt _
abbrev mi_X6_ordered : Mi := (yX6_ordered, cX6_ordered, 4, some .int, 1)
theorem mf_X6_ordered : am_mf mi_X6_ordered 2 := ⟨w_co_X6_ordered, w_in_X6, ⟨by decide +kernel, by decide +kernel⟩, by decide +kernel, by decide⟩
def tb_X6_ordered : List (Nat × Tr) := [(0, tIc 0 1), (1, tIst 2 1), (2, tIc 0 1), (3, tIst 3 1), (4, tIld 3 1), (5, tIc 4 1), (6, tCmge 30), (9, tIld 2 1), (10, tIc 1 1), (11, tIld 0 1), (12, tIc 6 2), (14, tIc 2 1), (15, tIld 3 1), (16, tI2 (fun a b => a * b)), (17, tI2 (fun a b => a - b)), (18, tI2 oShr), (19, tIc 3 1), (20, tI2 oAnd), (21, tI2 oShl), (22, tI2 oOr), (23, tIst 2 1), (24, tIinc 3 1), (27, tGo 4), (30, tIld 2 1), (31, tIc 15 2), (33, tCmne 49), (36, tIld 0 1), (37, tIc 6 2), (39, tIc 2 1), (40, tIld 1 1), (41, tI2 (fun a b => a * b)), (42, tI2 (fun a b => a - b)), (43, tI2 oShr), (44, tIc 3 1), (45, tI2 oAnd), (46, tGo 51), (49, tIc (-9) 2)]
theorem ok_X6_ordered : Tok mi_X6_ordered tb_X6_ordered :=
  Tc (sd_iconst rfl dX6_ordered_0) <|
  Tc (sd_istore_n dX6_ordered_1) <|
  Tc (sd_iconst rfl dX6_ordered_2) <|
  Tc (sd_istore_n dX6_ordered_3) <|
  Tc (sd_iload_n dX6_ordered_4) <|
  Tc (sd_iconst rfl dX6_ordered_5) <|
  Tc (sd_cm_ge (by decide) dX6_ordered_6) <|
  Tc (sd_iload_n dX6_ordered_9) <|
  Tc (sd_iconst rfl dX6_ordered_10) <|
  Tc (sd_iload_n dX6_ordered_11) <|
  Tc (sd_bipush (by decide +kernel) dX6_ordered_12) <|
  Tc (sd_iconst rfl dX6_ordered_14) <|
  Tc (sd_iload_n dX6_ordered_15) <|
  Tc (sd_imul dX6_ordered_16) <|
  Tc (sd_isub dX6_ordered_17) <|
  Tc (sd_ishr dX6_ordered_18) <|
  Tc (sd_iconst rfl dX6_ordered_19) <|
  Tc (sd_iand dX6_ordered_20) <|
  Tc (sd_ishl dX6_ordered_21) <|
  Tc (sd_ior dX6_ordered_22) <|
  Tc (sd_istore_n dX6_ordered_23) <|
  Tc (sd_iinc dX6_ordered_24) <|
  Tc (sd_goto (by decide) dX6_ordered_27) <|
  Tc (sd_iload_n dX6_ordered_30) <|
  Tc (sd_bipush (by decide +kernel) dX6_ordered_31) <|
  Tc (sd_cm_ne (by decide) dX6_ordered_33) <|
  Tc (sd_iload_n dX6_ordered_36) <|
  Tc (sd_bipush (by decide +kernel) dX6_ordered_37) <|
  Tc (sd_iconst rfl dX6_ordered_39) <|
  Tc (sd_iload_n dX6_ordered_40) <|
  Tc (sd_imul dX6_ordered_41) <|
  Tc (sd_isub dX6_ordered_42) <|
  Tc (sd_ishr dX6_ordered_43) <|
  Tc (sd_iconst rfl dX6_ordered_44) <|
  Tc (sd_iand dX6_ordered_45) <|
  Tc (sd_goto (by decide) dX6_ordered_46) <|
  Tc (sd_bipush (by decide +kernel) dX6_ordered_49) <|
  Tn
theorem rk_X6_ordered : Rok mi_X6_ordered rI [51] := rk_i dX6_ordered_51 <| rk_n
def rx_X6_ordered : Nat → Nat → AL → List AV → List AC → Option (Option AV × List AC) := am_r tb_X6_ordered rI [51]
theorem rs_X6_ordered_0 (n : Nat) (L : AL) (st : List AV) (M : List AC) : rx_X6_ordered (n + 1) 0 L st M = am_j (rx_X6_ordered n) ((tIc 0 1) 0 L st M) := rfl
theorem rs_X6_ordered_1 (n : Nat) (L : AL) (st : List AV) (M : List AC) : rx_X6_ordered (n + 1) 1 L st M = am_j (rx_X6_ordered n) ((tIst 2 1) 1 L st M) := rfl
theorem rs_X6_ordered_2 (n : Nat) (L : AL) (st : List AV) (M : List AC) : rx_X6_ordered (n + 1) 2 L st M = am_j (rx_X6_ordered n) ((tIc 0 1) 2 L st M) := rfl
theorem rs_X6_ordered_3 (n : Nat) (L : AL) (st : List AV) (M : List AC) : rx_X6_ordered (n + 1) 3 L st M = am_j (rx_X6_ordered n) ((tIst 3 1) 3 L st M) := rfl
theorem rs_X6_ordered_4 (n : Nat) (L : AL) (st : List AV) (M : List AC) : rx_X6_ordered (n + 1) 4 L st M = am_j (rx_X6_ordered n) ((tIld 3 1) 4 L st M) := rfl
theorem rs_X6_ordered_5 (n : Nat) (L : AL) (st : List AV) (M : List AC) : rx_X6_ordered (n + 1) 5 L st M = am_j (rx_X6_ordered n) ((tIc 4 1) 5 L st M) := rfl
theorem rs_X6_ordered_6 (n : Nat) (L : AL) (st : List AV) (M : List AC) : rx_X6_ordered (n + 1) 6 L st M = am_j (rx_X6_ordered n) ((tCmge 30) 6 L st M) := rfl
theorem rs_X6_ordered_9 (n : Nat) (L : AL) (st : List AV) (M : List AC) : rx_X6_ordered (n + 1) 9 L st M = am_j (rx_X6_ordered n) ((tIld 2 1) 9 L st M) := rfl
theorem rs_X6_ordered_10 (n : Nat) (L : AL) (st : List AV) (M : List AC) : rx_X6_ordered (n + 1) 10 L st M = am_j (rx_X6_ordered n) ((tIc 1 1) 10 L st M) := rfl
theorem rs_X6_ordered_11 (n : Nat) (L : AL) (st : List AV) (M : List AC) : rx_X6_ordered (n + 1) 11 L st M = am_j (rx_X6_ordered n) ((tIld 0 1) 11 L st M) := rfl
theorem rs_X6_ordered_12 (n : Nat) (L : AL) (st : List AV) (M : List AC) : rx_X6_ordered (n + 1) 12 L st M = am_j (rx_X6_ordered n) ((tIc 6 2) 12 L st M) := rfl
theorem rs_X6_ordered_14 (n : Nat) (L : AL) (st : List AV) (M : List AC) : rx_X6_ordered (n + 1) 14 L st M = am_j (rx_X6_ordered n) ((tIc 2 1) 14 L st M) := rfl
theorem rs_X6_ordered_15 (n : Nat) (L : AL) (st : List AV) (M : List AC) : rx_X6_ordered (n + 1) 15 L st M = am_j (rx_X6_ordered n) ((tIld 3 1) 15 L st M) := rfl
theorem rs_X6_ordered_16 (n : Nat) (L : AL) (st : List AV) (M : List AC) : rx_X6_ordered (n + 1) 16 L st M = am_j (rx_X6_ordered n) ((tI2 (fun a b => a * b)) 16 L st M) := rfl
theorem rs_X6_ordered_17 (n : Nat) (L : AL) (st : List AV) (M : List AC) : rx_X6_ordered (n + 1) 17 L st M = am_j (rx_X6_ordered n) ((tI2 (fun a b => a - b)) 17 L st M) := rfl
theorem rs_X6_ordered_18 (n : Nat) (L : AL) (st : List AV) (M : List AC) : rx_X6_ordered (n + 1) 18 L st M = am_j (rx_X6_ordered n) ((tI2 oShr) 18 L st M) := rfl
theorem rs_X6_ordered_19 (n : Nat) (L : AL) (st : List AV) (M : List AC) : rx_X6_ordered (n + 1) 19 L st M = am_j (rx_X6_ordered n) ((tIc 3 1) 19 L st M) := rfl
theorem rs_X6_ordered_20 (n : Nat) (L : AL) (st : List AV) (M : List AC) : rx_X6_ordered (n + 1) 20 L st M = am_j (rx_X6_ordered n) ((tI2 oAnd) 20 L st M) := rfl
theorem rs_X6_ordered_21 (n : Nat) (L : AL) (st : List AV) (M : List AC) : rx_X6_ordered (n + 1) 21 L st M = am_j (rx_X6_ordered n) ((tI2 oShl) 21 L st M) := rfl
theorem rs_X6_ordered_22 (n : Nat) (L : AL) (st : List AV) (M : List AC) : rx_X6_ordered (n + 1) 22 L st M = am_j (rx_X6_ordered n) ((tI2 oOr) 22 L st M) := rfl
theorem rs_X6_ordered_23 (n : Nat) (L : AL) (st : List AV) (M : List AC) : rx_X6_ordered (n + 1) 23 L st M = am_j (rx_X6_ordered n) ((tIst 2 1) 23 L st M) := rfl
theorem rs_X6_ordered_24 (n : Nat) (L : AL) (st : List AV) (M : List AC) : rx_X6_ordered (n + 1) 24 L st M = am_j (rx_X6_ordered n) ((tIinc 3 1) 24 L st M) := rfl
theorem rs_X6_ordered_27 (n : Nat) (L : AL) (st : List AV) (M : List AC) : rx_X6_ordered (n + 1) 27 L st M = am_j (rx_X6_ordered n) ((tGo 4) 27 L st M) := rfl
theorem rs_X6_ordered_30 (n : Nat) (L : AL) (st : List AV) (M : List AC) : rx_X6_ordered (n + 1) 30 L st M = am_j (rx_X6_ordered n) ((tIld 2 1) 30 L st M) := rfl
theorem rs_X6_ordered_31 (n : Nat) (L : AL) (st : List AV) (M : List AC) : rx_X6_ordered (n + 1) 31 L st M = am_j (rx_X6_ordered n) ((tIc 15 2) 31 L st M) := rfl
theorem rs_X6_ordered_33 (n : Nat) (L : AL) (st : List AV) (M : List AC) : rx_X6_ordered (n + 1) 33 L st M = am_j (rx_X6_ordered n) ((tCmne 49) 33 L st M) := rfl
theorem rs_X6_ordered_36 (n : Nat) (L : AL) (st : List AV) (M : List AC) : rx_X6_ordered (n + 1) 36 L st M = am_j (rx_X6_ordered n) ((tIld 0 1) 36 L st M) := rfl
theorem rs_X6_ordered_37 (n : Nat) (L : AL) (st : List AV) (M : List AC) : rx_X6_ordered (n + 1) 37 L st M = am_j (rx_X6_ordered n) ((tIc 6 2) 37 L st M) := rfl
theorem rs_X6_ordered_39 (n : Nat) (L : AL) (st : List AV) (M : List AC) : rx_X6_ordered (n + 1) 39 L st M = am_j (rx_X6_ordered n) ((tIc 2 1) 39 L st M) := rfl
theorem rs_X6_ordered_40 (n : Nat) (L : AL) (st : List AV) (M : List AC) : rx_X6_ordered (n + 1) 40 L st M = am_j (rx_X6_ordered n) ((tIld 1 1) 40 L st M) := rfl
theorem rs_X6_ordered_41 (n : Nat) (L : AL) (st : List AV) (M : List AC) : rx_X6_ordered (n + 1) 41 L st M = am_j (rx_X6_ordered n) ((tI2 (fun a b => a * b)) 41 L st M) := rfl
theorem rs_X6_ordered_42 (n : Nat) (L : AL) (st : List AV) (M : List AC) : rx_X6_ordered (n + 1) 42 L st M = am_j (rx_X6_ordered n) ((tI2 (fun a b => a - b)) 42 L st M) := rfl
theorem rs_X6_ordered_43 (n : Nat) (L : AL) (st : List AV) (M : List AC) : rx_X6_ordered (n + 1) 43 L st M = am_j (rx_X6_ordered n) ((tI2 oShr) 43 L st M) := rfl
theorem rs_X6_ordered_44 (n : Nat) (L : AL) (st : List AV) (M : List AC) : rx_X6_ordered (n + 1) 44 L st M = am_j (rx_X6_ordered n) ((tIc 3 1) 44 L st M) := rfl
theorem rs_X6_ordered_45 (n : Nat) (L : AL) (st : List AV) (M : List AC) : rx_X6_ordered (n + 1) 45 L st M = am_j (rx_X6_ordered n) ((tI2 oAnd) 45 L st M) := rfl
theorem rs_X6_ordered_46 (n : Nat) (L : AL) (st : List AV) (M : List AC) : rx_X6_ordered (n + 1) 46 L st M = am_j (rx_X6_ordered n) ((tGo 51) 46 L st M) := rfl
theorem rs_X6_ordered_49 (n : Nat) (L : AL) (st : List AV) (M : List AC) : rx_X6_ordered (n + 1) 49 L st M = am_j (rx_X6_ordered n) ((tIc (-9) 2) 49 L st M) := rfl
theorem rs_X6_ordered_51 (n : Nat) (L : AL) (st : List AV) (M : List AC) : rx_X6_ordered (n + 1) 51 L st M = am_e rI st M := rfl
theorem ri_X6_ordered (c : Prop) [Decidable c] (p q n : Nat) (L : AL) (st : List AV) (M : List AC) : rx_X6_ordered n (if c then p else q) L st M = if c then rx_X6_ordered n p L st M else rx_X6_ordered n q L st M := by split <;> rfl
theorem rm_X6_ordered {n k pc : Nat} {L : AL} {st : List AV} {M : List AC} {x : Option AV × List AC} (h : rx_X6_ordered n pc L st M = some x) (hk : n ≤ k) : rx_X6_ordered k pc L st M = some x := am_r_mono n k h hk
def fn_X6_ordered : Fn := am_fn rx_X6_ordered 4
theorem fok_X6_ordered : Fok mi_X6_ordered fn_X6_ordered := fun _ _ _ _ h => am_fok ok_X6_ordered rk_X6_ordered rfl h
theorem sp_X6_ordered (o k : Int) (hk : 0 ≤ k ∧ k < 4) (M : List AC) : fn_X6_ordered [vI o, vI k] M = some (some (vI (if os o = 15 then o2 o (6 - 2 * k) else -9)), M) := by
  have ho : wr (os o) = os o := wr_or _ _
  have hd : os o = oOr (oOr (oOr (oOr 0 (oShl 1 (o2 o 6))) (oShl 1 (o2 o 4))) (oShl 1 (o2 o 2))) (oShl 1 (o2 o 0)) := rfl
  unfold o2 at hd ⊢
  generalize os o = w at ho hd ⊢
  by_cases h : w = 15
  · (refine am_fnI (tb := tb_X6_ordered) (n := 150) (Nat.le_of_ble_eq_true rfl) (Nat.le_of_ble_eq_true rfl) ?_; show rx_X6_ordered 150 0 _ _ _ = _)
    rcases c4 hk with rfl | rfl | rfl | rfl <;>
    simp [↓ri_X6_ordered, rs_X6_ordered_0, rs_X6_ordered_1, rs_X6_ordered_2, rs_X6_ordered_3, rs_X6_ordered_4, rs_X6_ordered_5, rs_X6_ordered_6, rs_X6_ordered_9, rs_X6_ordered_10, rs_X6_ordered_11, rs_X6_ordered_12, rs_X6_ordered_14, rs_X6_ordered_15, rs_X6_ordered_16, rs_X6_ordered_17, rs_X6_ordered_18, rs_X6_ordered_19, rs_X6_ordered_20, rs_X6_ordered_21, rs_X6_ordered_22, rs_X6_ordered_23, rs_X6_ordered_24, rs_X6_ordered_27, rs_X6_ordered_30, rs_X6_ordered_31, rs_X6_ordered_33, rs_X6_ordered_36, rs_X6_ordered_37, rs_X6_ordered_39, rs_X6_ordered_40, rs_X6_ordered_41, rs_X6_ordered_42, rs_X6_ordered_43, rs_X6_ordered_44, rs_X6_ordered_45, rs_X6_ordered_46, rs_X6_ordered_49, rs_X6_ordered_51, -List.getElem?_eq_getElem, am_js, am_e, am_in, am_sl, rI, rZ, rV, rJ, rA, rC, kI, kJ, kR, am_one, am_nl, am_w8, tIc, tLc, tNul, tIld, tLld, tAld, tIst, tLst, tAst, tIinc, tI2, tDv, tL2, tLrem, tLs, tLcmp, tI2l, tL2i, tI2c, tDup, tDup2, tPop, tGo, tIfeq, tIfne, tIflt, tIfge, tIfgt, tIfle, tCmeq, tCmne, tCmlt, tCmge, tCmgt, tCmle, tNu, tTs, tGf, tPf, tGs, tIal, tIas, tBal, tBas, tAln, tSv, tSc, tSb, tSl, tSk, tCv, tCs, tCt, tMx, tMn, wr_10000, wr_100000, wr_1000000, wr_10000000, wr_100000000, wr_2400, wr_9999, wr_0, wr_1, wr_2, wr_3, wr_4, wr_5, wr_6, wr_7, wr_8, wr_9, wr_10, wr_11, wr_12, wr_13, wr_14, wr_15, wr_16, wr_17, wr_18, wr_19, wr_20, wr_21, wr_22, wr_23, wr_24, wr_25, wr_26, wr_27, wr_28, wr_29, wr_30, wr_31, wr_32, wr_33, wr_34, wr_35, wr_36, wr_37, wr_38, wr_39, wr_40, wr_41, wr_42, wr_43, wr_44, wr_45, wr_46, wr_47, wr_48, wr_49, wr_50, wr_51, wr_52, wr_53, wr_54, wr_55, wr_56, wr_57, wr_58, wr_59, wr_60, wr_61, wr_62, wr_63, wr_99, wr_100, wr_192, wr_255, wr_256, wr_343, wr_999, wr_1000, wr_2401, wr_2147483647, wr_65535, wr_m1, wr_m2, wr_m3, wr_m4, wr_m9, ak_1000, ak_1001, ak_1002, ak_0, ak_1, ak_2, ak_3, ak_4, ak_5, ak_6, ak_7, ak_8, ak_9, ak_10, ak_11, ak_12, ak_13, ak_14, ak_15, ak_16, ak_17, ak_18, ak_19, ak_20, ak_21, ak_22, ak_23, ak_24, ak_25, ak_26, ak_27, ak_28, ak_29, ak_30, ak_31, ak_32, ak_33, ak_34, ak_35, ak_36, ak_37, ak_38, ak_39, ak_40, ak_41, ak_42, ak_43, ak_44, ak_45, ak_46, ak_47, ← hd, ho, h]
  · (refine am_fnI (tb := tb_X6_ordered) (n := 150) (Nat.le_of_ble_eq_true rfl) (Nat.le_of_ble_eq_true rfl) ?_; show rx_X6_ordered 150 0 _ _ _ = _)
    rcases c4 hk with rfl | rfl | rfl | rfl <;>
    simp [↓ri_X6_ordered, rs_X6_ordered_0, rs_X6_ordered_1, rs_X6_ordered_2, rs_X6_ordered_3, rs_X6_ordered_4, rs_X6_ordered_5, rs_X6_ordered_6, rs_X6_ordered_9, rs_X6_ordered_10, rs_X6_ordered_11, rs_X6_ordered_12, rs_X6_ordered_14, rs_X6_ordered_15, rs_X6_ordered_16, rs_X6_ordered_17, rs_X6_ordered_18, rs_X6_ordered_19, rs_X6_ordered_20, rs_X6_ordered_21, rs_X6_ordered_22, rs_X6_ordered_23, rs_X6_ordered_24, rs_X6_ordered_27, rs_X6_ordered_30, rs_X6_ordered_31, rs_X6_ordered_33, rs_X6_ordered_36, rs_X6_ordered_37, rs_X6_ordered_39, rs_X6_ordered_40, rs_X6_ordered_41, rs_X6_ordered_42, rs_X6_ordered_43, rs_X6_ordered_44, rs_X6_ordered_45, rs_X6_ordered_46, rs_X6_ordered_49, rs_X6_ordered_51, -List.getElem?_eq_getElem, am_js, am_e, am_in, am_sl, rI, rZ, rV, rJ, rA, rC, kI, kJ, kR, am_one, am_nl, am_w8, tIc, tLc, tNul, tIld, tLld, tAld, tIst, tLst, tAst, tIinc, tI2, tDv, tL2, tLrem, tLs, tLcmp, tI2l, tL2i, tI2c, tDup, tDup2, tPop, tGo, tIfeq, tIfne, tIflt, tIfge, tIfgt, tIfle, tCmeq, tCmne, tCmlt, tCmge, tCmgt, tCmle, tNu, tTs, tGf, tPf, tGs, tIal, tIas, tBal, tBas, tAln, tSv, tSc, tSb, tSl, tSk, tCv, tCs, tCt, tMx, tMn, wr_10000, wr_100000, wr_1000000, wr_10000000, wr_100000000, wr_2400, wr_9999, wr_0, wr_1, wr_2, wr_3, wr_4, wr_5, wr_6, wr_7, wr_8, wr_9, wr_10, wr_11, wr_12, wr_13, wr_14, wr_15, wr_16, wr_17, wr_18, wr_19, wr_20, wr_21, wr_22, wr_23, wr_24, wr_25, wr_26, wr_27, wr_28, wr_29, wr_30, wr_31, wr_32, wr_33, wr_34, wr_35, wr_36, wr_37, wr_38, wr_39, wr_40, wr_41, wr_42, wr_43, wr_44, wr_45, wr_46, wr_47, wr_48, wr_49, wr_50, wr_51, wr_52, wr_53, wr_54, wr_55, wr_56, wr_57, wr_58, wr_59, wr_60, wr_61, wr_62, wr_63, wr_99, wr_100, wr_192, wr_255, wr_256, wr_343, wr_999, wr_1000, wr_2401, wr_2147483647, wr_65535, wr_m1, wr_m2, wr_m3, wr_m4, wr_m9, ak_1000, ak_1001, ak_1002, ak_0, ak_1, ak_2, ak_3, ak_4, ak_5, ak_6, ak_7, ak_8, ak_9, ak_10, ak_11, ak_12, ak_13, ak_14, ak_15, ak_16, ak_17, ak_18, ak_19, ak_20, ak_21, ak_22, ak_23, ak_24, ak_25, ak_26, ak_27, ak_28, ak_29, ak_30, ak_31, ak_32, ak_33, ak_34, ak_35, ak_36, ak_37, ak_38, ak_39, ak_40, ak_41, ak_42, ak_43, ak_44, ak_45, ak_46, ak_47, ← hd, ho, h]
abbrev mi_X6_toldOrder : Mi := (yX6_toldOrder, cX6_toldOrder, 1, some .int, 1)
theorem mf_X6_toldOrder : am_mf mi_X6_toldOrder 1 := ⟨w_co_X6_toldOrder, w_in_X6, ⟨by decide +kernel, by decide +kernel⟩, by decide +kernel, by decide⟩
def tb_X6_toldOrder : List (Nat × Tr) := [(0, tIc 1000 3), (3, tIld 0 1), (4, tIc 6 2), (6, tI2 oShr), (7, tIc 3 1), (8, tI2 oAnd), (9, tI2 (fun a b => a * b)), (10, tIc 100 2), (12, tIld 0 1), (13, tIc 4 1), (14, tI2 oShr), (15, tIc 3 1), (16, tI2 oAnd), (17, tI2 (fun a b => a * b)), (18, tI2 (fun a b => a + b)), (19, tIc 10 2), (21, tIld 0 1), (22, tIc 2 1), (23, tI2 oShr), (24, tIc 3 1), (25, tI2 oAnd), (26, tI2 (fun a b => a * b)), (27, tI2 (fun a b => a + b)), (28, tIld 0 1), (29, tIc 3 1), (30, tI2 oAnd), (31, tI2 (fun a b => a + b))]
theorem ok_X6_toldOrder : Tok mi_X6_toldOrder tb_X6_toldOrder :=
  Tc (sd_sipush (by decide +kernel) dX6_toldOrder_0) <|
  Tc (sd_iload_n dX6_toldOrder_3) <|
  Tc (sd_bipush (by decide +kernel) dX6_toldOrder_4) <|
  Tc (sd_ishr dX6_toldOrder_6) <|
  Tc (sd_iconst rfl dX6_toldOrder_7) <|
  Tc (sd_iand dX6_toldOrder_8) <|
  Tc (sd_imul dX6_toldOrder_9) <|
  Tc (sd_bipush (by decide +kernel) dX6_toldOrder_10) <|
  Tc (sd_iload_n dX6_toldOrder_12) <|
  Tc (sd_iconst rfl dX6_toldOrder_13) <|
  Tc (sd_ishr dX6_toldOrder_14) <|
  Tc (sd_iconst rfl dX6_toldOrder_15) <|
  Tc (sd_iand dX6_toldOrder_16) <|
  Tc (sd_imul dX6_toldOrder_17) <|
  Tc (sd_iadd dX6_toldOrder_18) <|
  Tc (sd_bipush (by decide +kernel) dX6_toldOrder_19) <|
  Tc (sd_iload_n dX6_toldOrder_21) <|
  Tc (sd_iconst rfl dX6_toldOrder_22) <|
  Tc (sd_ishr dX6_toldOrder_23) <|
  Tc (sd_iconst rfl dX6_toldOrder_24) <|
  Tc (sd_iand dX6_toldOrder_25) <|
  Tc (sd_imul dX6_toldOrder_26) <|
  Tc (sd_iadd dX6_toldOrder_27) <|
  Tc (sd_iload_n dX6_toldOrder_28) <|
  Tc (sd_iconst rfl dX6_toldOrder_29) <|
  Tc (sd_iand dX6_toldOrder_30) <|
  Tc (sd_iadd dX6_toldOrder_31) <|
  Tn
theorem rk_X6_toldOrder : Rok mi_X6_toldOrder rI [32] := rk_i dX6_toldOrder_32 <| rk_n
def rx_X6_toldOrder : Nat → Nat → AL → List AV → List AC → Option (Option AV × List AC) := am_r tb_X6_toldOrder rI [32]
theorem rs_X6_toldOrder_0 (n : Nat) (L : AL) (st : List AV) (M : List AC) : rx_X6_toldOrder (n + 1) 0 L st M = am_j (rx_X6_toldOrder n) ((tIc 1000 3) 0 L st M) := rfl
theorem rs_X6_toldOrder_3 (n : Nat) (L : AL) (st : List AV) (M : List AC) : rx_X6_toldOrder (n + 1) 3 L st M = am_j (rx_X6_toldOrder n) ((tIld 0 1) 3 L st M) := rfl
theorem rs_X6_toldOrder_4 (n : Nat) (L : AL) (st : List AV) (M : List AC) : rx_X6_toldOrder (n + 1) 4 L st M = am_j (rx_X6_toldOrder n) ((tIc 6 2) 4 L st M) := rfl
theorem rs_X6_toldOrder_6 (n : Nat) (L : AL) (st : List AV) (M : List AC) : rx_X6_toldOrder (n + 1) 6 L st M = am_j (rx_X6_toldOrder n) ((tI2 oShr) 6 L st M) := rfl
theorem rs_X6_toldOrder_7 (n : Nat) (L : AL) (st : List AV) (M : List AC) : rx_X6_toldOrder (n + 1) 7 L st M = am_j (rx_X6_toldOrder n) ((tIc 3 1) 7 L st M) := rfl
theorem rs_X6_toldOrder_8 (n : Nat) (L : AL) (st : List AV) (M : List AC) : rx_X6_toldOrder (n + 1) 8 L st M = am_j (rx_X6_toldOrder n) ((tI2 oAnd) 8 L st M) := rfl
theorem rs_X6_toldOrder_9 (n : Nat) (L : AL) (st : List AV) (M : List AC) : rx_X6_toldOrder (n + 1) 9 L st M = am_j (rx_X6_toldOrder n) ((tI2 (fun a b => a * b)) 9 L st M) := rfl
theorem rs_X6_toldOrder_10 (n : Nat) (L : AL) (st : List AV) (M : List AC) : rx_X6_toldOrder (n + 1) 10 L st M = am_j (rx_X6_toldOrder n) ((tIc 100 2) 10 L st M) := rfl
theorem rs_X6_toldOrder_12 (n : Nat) (L : AL) (st : List AV) (M : List AC) : rx_X6_toldOrder (n + 1) 12 L st M = am_j (rx_X6_toldOrder n) ((tIld 0 1) 12 L st M) := rfl
theorem rs_X6_toldOrder_13 (n : Nat) (L : AL) (st : List AV) (M : List AC) : rx_X6_toldOrder (n + 1) 13 L st M = am_j (rx_X6_toldOrder n) ((tIc 4 1) 13 L st M) := rfl
theorem rs_X6_toldOrder_14 (n : Nat) (L : AL) (st : List AV) (M : List AC) : rx_X6_toldOrder (n + 1) 14 L st M = am_j (rx_X6_toldOrder n) ((tI2 oShr) 14 L st M) := rfl
theorem rs_X6_toldOrder_15 (n : Nat) (L : AL) (st : List AV) (M : List AC) : rx_X6_toldOrder (n + 1) 15 L st M = am_j (rx_X6_toldOrder n) ((tIc 3 1) 15 L st M) := rfl
theorem rs_X6_toldOrder_16 (n : Nat) (L : AL) (st : List AV) (M : List AC) : rx_X6_toldOrder (n + 1) 16 L st M = am_j (rx_X6_toldOrder n) ((tI2 oAnd) 16 L st M) := rfl
theorem rs_X6_toldOrder_17 (n : Nat) (L : AL) (st : List AV) (M : List AC) : rx_X6_toldOrder (n + 1) 17 L st M = am_j (rx_X6_toldOrder n) ((tI2 (fun a b => a * b)) 17 L st M) := rfl
theorem rs_X6_toldOrder_18 (n : Nat) (L : AL) (st : List AV) (M : List AC) : rx_X6_toldOrder (n + 1) 18 L st M = am_j (rx_X6_toldOrder n) ((tI2 (fun a b => a + b)) 18 L st M) := rfl
theorem rs_X6_toldOrder_19 (n : Nat) (L : AL) (st : List AV) (M : List AC) : rx_X6_toldOrder (n + 1) 19 L st M = am_j (rx_X6_toldOrder n) ((tIc 10 2) 19 L st M) := rfl
theorem rs_X6_toldOrder_21 (n : Nat) (L : AL) (st : List AV) (M : List AC) : rx_X6_toldOrder (n + 1) 21 L st M = am_j (rx_X6_toldOrder n) ((tIld 0 1) 21 L st M) := rfl
theorem rs_X6_toldOrder_22 (n : Nat) (L : AL) (st : List AV) (M : List AC) : rx_X6_toldOrder (n + 1) 22 L st M = am_j (rx_X6_toldOrder n) ((tIc 2 1) 22 L st M) := rfl
theorem rs_X6_toldOrder_23 (n : Nat) (L : AL) (st : List AV) (M : List AC) : rx_X6_toldOrder (n + 1) 23 L st M = am_j (rx_X6_toldOrder n) ((tI2 oShr) 23 L st M) := rfl
theorem rs_X6_toldOrder_24 (n : Nat) (L : AL) (st : List AV) (M : List AC) : rx_X6_toldOrder (n + 1) 24 L st M = am_j (rx_X6_toldOrder n) ((tIc 3 1) 24 L st M) := rfl
theorem rs_X6_toldOrder_25 (n : Nat) (L : AL) (st : List AV) (M : List AC) : rx_X6_toldOrder (n + 1) 25 L st M = am_j (rx_X6_toldOrder n) ((tI2 oAnd) 25 L st M) := rfl
theorem rs_X6_toldOrder_26 (n : Nat) (L : AL) (st : List AV) (M : List AC) : rx_X6_toldOrder (n + 1) 26 L st M = am_j (rx_X6_toldOrder n) ((tI2 (fun a b => a * b)) 26 L st M) := rfl
theorem rs_X6_toldOrder_27 (n : Nat) (L : AL) (st : List AV) (M : List AC) : rx_X6_toldOrder (n + 1) 27 L st M = am_j (rx_X6_toldOrder n) ((tI2 (fun a b => a + b)) 27 L st M) := rfl
theorem rs_X6_toldOrder_28 (n : Nat) (L : AL) (st : List AV) (M : List AC) : rx_X6_toldOrder (n + 1) 28 L st M = am_j (rx_X6_toldOrder n) ((tIld 0 1) 28 L st M) := rfl
theorem rs_X6_toldOrder_29 (n : Nat) (L : AL) (st : List AV) (M : List AC) : rx_X6_toldOrder (n + 1) 29 L st M = am_j (rx_X6_toldOrder n) ((tIc 3 1) 29 L st M) := rfl
theorem rs_X6_toldOrder_30 (n : Nat) (L : AL) (st : List AV) (M : List AC) : rx_X6_toldOrder (n + 1) 30 L st M = am_j (rx_X6_toldOrder n) ((tI2 oAnd) 30 L st M) := rfl
theorem rs_X6_toldOrder_31 (n : Nat) (L : AL) (st : List AV) (M : List AC) : rx_X6_toldOrder (n + 1) 31 L st M = am_j (rx_X6_toldOrder n) ((tI2 (fun a b => a + b)) 31 L st M) := rfl
theorem rs_X6_toldOrder_32 (n : Nat) (L : AL) (st : List AV) (M : List AC) : rx_X6_toldOrder (n + 1) 32 L st M = am_e rI st M := rfl
theorem ri_X6_toldOrder (c : Prop) [Decidable c] (p q n : Nat) (L : AL) (st : List AV) (M : List AC) : rx_X6_toldOrder n (if c then p else q) L st M = if c then rx_X6_toldOrder n p L st M else rx_X6_toldOrder n q L st M := by split <;> rfl
theorem rm_X6_toldOrder {n k pc : Nat} {L : AL} {st : List AV} {M : List AC} {x : Option AV × List AC} (h : rx_X6_toldOrder n pc L st M = some x) (hk : n ≤ k) : rx_X6_toldOrder k pc L st M = some x := am_r_mono n k h hk
def fn_X6_toldOrder : Fn := am_fn rx_X6_toldOrder 1
theorem fok_X6_toldOrder : Fok mi_X6_toldOrder fn_X6_toldOrder := fun _ _ _ _ h => am_fok ok_X6_toldOrder rk_X6_toldOrder rfl h
def to4 (o : Int) : Int := 1000 * o2 o 6 + 100 * o2 o 4 + 10 * o2 o 2 + oAnd o 3
theorem sp_X6_toldOrder (o : Int) (M : List AC) : fn_X6_toldOrder [vI o] M = some (some (vI (to4 o)), M) := by
  (refine am_fnI (tb := tb_X6_toldOrder) (n := 60) (Nat.le_of_ble_eq_true rfl) (Nat.le_of_ble_eq_true rfl) ?_; show rx_X6_toldOrder 60 0 _ _ _ = _)
  simp [↓ri_X6_toldOrder, rs_X6_toldOrder_0, rs_X6_toldOrder_3, rs_X6_toldOrder_4, rs_X6_toldOrder_6, rs_X6_toldOrder_7, rs_X6_toldOrder_8, rs_X6_toldOrder_9, rs_X6_toldOrder_10, rs_X6_toldOrder_12, rs_X6_toldOrder_13, rs_X6_toldOrder_14, rs_X6_toldOrder_15, rs_X6_toldOrder_16, rs_X6_toldOrder_17, rs_X6_toldOrder_18, rs_X6_toldOrder_19, rs_X6_toldOrder_21, rs_X6_toldOrder_22, rs_X6_toldOrder_23, rs_X6_toldOrder_24, rs_X6_toldOrder_25, rs_X6_toldOrder_26, rs_X6_toldOrder_27, rs_X6_toldOrder_28, rs_X6_toldOrder_29, rs_X6_toldOrder_30, rs_X6_toldOrder_31, rs_X6_toldOrder_32, -List.getElem?_eq_getElem, am_js, am_e, am_in, am_sl, rI, rZ, rV, rJ, rA, rC, kI, kJ, kR, am_one, am_nl, am_w8, tIc, tLc, tNul, tIld, tLld, tAld, tIst, tLst, tAst, tIinc, tI2, tDv, tL2, tLrem, tLs, tLcmp, tI2l, tL2i, tI2c, tDup, tDup2, tPop, tGo, tIfeq, tIfne, tIflt, tIfge, tIfgt, tIfle, tCmeq, tCmne, tCmlt, tCmge, tCmgt, tCmle, tNu, tTs, tGf, tPf, tGs, tIal, tIas, tBal, tBas, tAln, tSv, tSc, tSb, tSl, tSk, tCv, tCs, tCt, tMx, tMn, wr_10000, wr_100000, wr_1000000, wr_10000000, wr_100000000, wr_2400, wr_9999, wr_0, wr_1, wr_2, wr_3, wr_4, wr_5, wr_6, wr_7, wr_8, wr_9, wr_10, wr_11, wr_12, wr_13, wr_14, wr_15, wr_16, wr_17, wr_18, wr_19, wr_20, wr_21, wr_22, wr_23, wr_24, wr_25, wr_26, wr_27, wr_28, wr_29, wr_30, wr_31, wr_32, wr_33, wr_34, wr_35, wr_36, wr_37, wr_38, wr_39, wr_40, wr_41, wr_42, wr_43, wr_44, wr_45, wr_46, wr_47, wr_48, wr_49, wr_50, wr_51, wr_52, wr_53, wr_54, wr_55, wr_56, wr_57, wr_58, wr_59, wr_60, wr_61, wr_62, wr_63, wr_99, wr_100, wr_192, wr_255, wr_256, wr_343, wr_999, wr_1000, wr_2401, wr_2147483647, wr_65535, wr_m1, wr_m2, wr_m3, wr_m4, wr_m9, ak_1000, ak_1001, ak_1002, ak_0, ak_1, ak_2, ak_3, ak_4, ak_5, ak_6, ak_7, ak_8, ak_9, ak_10, ak_11, ak_12, ak_13, ak_14, ak_15, ak_16, ak_17, ak_18, ak_19, ak_20, ak_21, ak_22, ak_23, ak_24, ak_25, ak_26, ak_27, ak_28, ak_29, ak_30, ak_31, ak_32, ak_33, ak_34, ak_35, ak_36, ak_37, ak_38, ak_39, ak_40, ak_41, ak_42, ak_43, ak_44, ak_45, ak_46, ak_47, to4, o2]
end
