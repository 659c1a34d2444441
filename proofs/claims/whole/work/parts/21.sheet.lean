noncomputable section
abbrev mi_X4_counting : Mi := (yX4_counting, cX4_counting, 2, some .int, 1)
theorem mf_X4_counting : am_mf mi_X4_counting 1 := ⟨w_co_X4_counting, w_in_X4, ⟨by decide +kernel, by decide +kernel⟩, by decide +kernel, by decide⟩
def tb_X4_counting : List (Nat × Tr) := [(0, tAld 0 1), (1, tGf 4 3), (4, tIld 1 1), (5, tIal), (6, tAld 0 1), (7, tGf 4 4), (10, tIld 1 1), (11, tIal), (12, tCmle 31), (15, tAld 0 1), (16, tGf 4 3), (19, tIld 1 1), (20, tIal), (21, tAld 0 1), (22, tGf 4 4), (25, tIld 1 1), (26, tIal), (27, tI2 (fun a b => a - b)), (28, tGo 32), (31, tIc 0 1)]
theorem ok_X4_counting : Tok mi_X4_counting tb_X4_counting :=
  Tc (sd_aload_n dX4_counting_0) <|
  Tc (sd_getf (T := TX4) rfl giX4 (by decide) w_fl_X4_22 dX4_counting_1) <|
  Tc (sd_iload_n dX4_counting_4) <|
  Tc (sd_ial dX4_counting_5) <|
  Tc (sd_aload_n dX4_counting_6) <|
  Tc (sd_getf (T := TX4) rfl giX4 (by decide) w_fl_X4_25 dX4_counting_7) <|
  Tc (sd_iload_n dX4_counting_10) <|
  Tc (sd_ial dX4_counting_11) <|
  Tc (sd_cm_le (by decide) dX4_counting_12) <|
  Tc (sd_aload_n dX4_counting_15) <|
  Tc (sd_getf (T := TX4) rfl giX4 (by decide) w_fl_X4_22 dX4_counting_16) <|
  Tc (sd_iload_n dX4_counting_19) <|
  Tc (sd_ial dX4_counting_20) <|
  Tc (sd_aload_n dX4_counting_21) <|
  Tc (sd_getf (T := TX4) rfl giX4 (by decide) w_fl_X4_25 dX4_counting_22) <|
  Tc (sd_iload_n dX4_counting_25) <|
  Tc (sd_ial dX4_counting_26) <|
  Tc (sd_isub dX4_counting_27) <|
  Tc (sd_goto (by decide) dX4_counting_28) <|
  Tc (sd_iconst rfl dX4_counting_31) <|
  Tn
theorem rk_X4_counting : Rok mi_X4_counting rI [32] := rk_i dX4_counting_32 <| rk_n
def rx_X4_counting : Nat → Nat → AL → List AV → List AC → Option (Option AV × List AC) := am_r tb_X4_counting rI [32]
theorem rs_X4_counting_0 (n : Nat) (L : AL) (st : List AV) (M : List AC) : rx_X4_counting (n + 1) 0 L st M = am_j (rx_X4_counting n) ((tAld 0 1) 0 L st M) := rfl
theorem rs_X4_counting_1 (n : Nat) (L : AL) (st : List AV) (M : List AC) : rx_X4_counting (n + 1) 1 L st M = am_j (rx_X4_counting n) ((tGf 4 3) 1 L st M) := rfl
theorem rs_X4_counting_4 (n : Nat) (L : AL) (st : List AV) (M : List AC) : rx_X4_counting (n + 1) 4 L st M = am_j (rx_X4_counting n) ((tIld 1 1) 4 L st M) := rfl
theorem rs_X4_counting_5 (n : Nat) (L : AL) (st : List AV) (M : List AC) : rx_X4_counting (n + 1) 5 L st M = am_j (rx_X4_counting n) (tIal 5 L st M) := rfl
theorem rs_X4_counting_6 (n : Nat) (L : AL) (st : List AV) (M : List AC) : rx_X4_counting (n + 1) 6 L st M = am_j (rx_X4_counting n) ((tAld 0 1) 6 L st M) := rfl
theorem rs_X4_counting_7 (n : Nat) (L : AL) (st : List AV) (M : List AC) : rx_X4_counting (n + 1) 7 L st M = am_j (rx_X4_counting n) ((tGf 4 4) 7 L st M) := rfl
theorem rs_X4_counting_10 (n : Nat) (L : AL) (st : List AV) (M : List AC) : rx_X4_counting (n + 1) 10 L st M = am_j (rx_X4_counting n) ((tIld 1 1) 10 L st M) := rfl
theorem rs_X4_counting_11 (n : Nat) (L : AL) (st : List AV) (M : List AC) : rx_X4_counting (n + 1) 11 L st M = am_j (rx_X4_counting n) (tIal 11 L st M) := rfl
theorem rs_X4_counting_12 (n : Nat) (L : AL) (st : List AV) (M : List AC) : rx_X4_counting (n + 1) 12 L st M = am_j (rx_X4_counting n) ((tCmle 31) 12 L st M) := rfl
theorem rs_X4_counting_15 (n : Nat) (L : AL) (st : List AV) (M : List AC) : rx_X4_counting (n + 1) 15 L st M = am_j (rx_X4_counting n) ((tAld 0 1) 15 L st M) := rfl
theorem rs_X4_counting_16 (n : Nat) (L : AL) (st : List AV) (M : List AC) : rx_X4_counting (n + 1) 16 L st M = am_j (rx_X4_counting n) ((tGf 4 3) 16 L st M) := rfl
theorem rs_X4_counting_19 (n : Nat) (L : AL) (st : List AV) (M : List AC) : rx_X4_counting (n + 1) 19 L st M = am_j (rx_X4_counting n) ((tIld 1 1) 19 L st M) := rfl
theorem rs_X4_counting_20 (n : Nat) (L : AL) (st : List AV) (M : List AC) : rx_X4_counting (n + 1) 20 L st M = am_j (rx_X4_counting n) (tIal 20 L st M) := rfl
theorem rs_X4_counting_21 (n : Nat) (L : AL) (st : List AV) (M : List AC) : rx_X4_counting (n + 1) 21 L st M = am_j (rx_X4_counting n) ((tAld 0 1) 21 L st M) := rfl
theorem rs_X4_counting_22 (n : Nat) (L : AL) (st : List AV) (M : List AC) : rx_X4_counting (n + 1) 22 L st M = am_j (rx_X4_counting n) ((tGf 4 4) 22 L st M) := rfl
theorem rs_X4_counting_25 (n : Nat) (L : AL) (st : List AV) (M : List AC) : rx_X4_counting (n + 1) 25 L st M = am_j (rx_X4_counting n) ((tIld 1 1) 25 L st M) := rfl
theorem rs_X4_counting_26 (n : Nat) (L : AL) (st : List AV) (M : List AC) : rx_X4_counting (n + 1) 26 L st M = am_j (rx_X4_counting n) (tIal 26 L st M) := rfl
theorem rs_X4_counting_27 (n : Nat) (L : AL) (st : List AV) (M : List AC) : rx_X4_counting (n + 1) 27 L st M = am_j (rx_X4_counting n) ((tI2 (fun a b => a - b)) 27 L st M) := rfl
theorem rs_X4_counting_28 (n : Nat) (L : AL) (st : List AV) (M : List AC) : rx_X4_counting (n + 1) 28 L st M = am_j (rx_X4_counting n) ((tGo 32) 28 L st M) := rfl
theorem rs_X4_counting_31 (n : Nat) (L : AL) (st : List AV) (M : List AC) : rx_X4_counting (n + 1) 31 L st M = am_j (rx_X4_counting n) ((tIc 0 1) 31 L st M) := rfl
theorem rs_X4_counting_32 (n : Nat) (L : AL) (st : List AV) (M : List AC) : rx_X4_counting (n + 1) 32 L st M = am_e rI st M := rfl
theorem ri_X4_counting (c : Prop) [Decidable c] (p q n : Nat) (L : AL) (st : List AV) (M : List AC) : rx_X4_counting n (if c then p else q) L st M = if c then rx_X4_counting n p L st M else rx_X4_counting n q L st M := by split <;> rfl
theorem rm_X4_counting {n k pc : Nat} {L : AL} {st : List AV} {M : List AC} {x : Option AV × List AC} (h : rx_X4_counting n pc L st M = some x) (hk : n ≤ k) : rx_X4_counting k pc L st M = some x := am_r_mono n k h hk
def fn_X4_counting : Fn := am_fn rx_X4_counting 2
theorem fok_X4_counting : Fok mi_X4_counting fn_X4_counting := fun _ _ _ _ h => am_fok ok_X4_counting rk_X4_counting rfl h
theorem sp_X4_counting {M : List AC} {k : Nat} {st : Int} {g s d b : F4} (hs : HS M k st g s d b) (hr : SR st g s d b) (c : Int) (hc : 0 ≤ c ∧ c < 4) : fn_X4_counting [vR k, vI c] M = some (some (vI (cn (g4 d c.toNat) (g4 b c.toNat))), M) := by
  obtain ⟨hk, h0, h1, h2, h3, h4⟩ := id hs
  obtain ⟨n1, n2, n3, n4⟩ := hs.nk
  obtain ⟨w0, ⟨wg0, wg1, wg2, wg3⟩, ⟨ws0, ws1, ws2, ws3⟩, ⟨wd0, wd1, wd2, wd3⟩, wb0, wb1, wb2, wb3⟩ := hr.wr
  (refine am_fnI (tb := tb_X4_counting) (n := 40) (Nat.le_of_ble_eq_true rfl) (Nat.le_of_ble_eq_true rfl) ?_; show rx_X4_counting 40 0 _ _ _ = _)
  rcases c4 hc with rfl | rfl | rfl | rfl <;>
    simp [↓ri_X4_counting, rs_X4_counting_0, rs_X4_counting_1, rs_X4_counting_4, rs_X4_counting_5, rs_X4_counting_6, rs_X4_counting_7, rs_X4_counting_10, rs_X4_counting_11, rs_X4_counting_12, rs_X4_counting_15, rs_X4_counting_16, rs_X4_counting_19, rs_X4_counting_20, rs_X4_counting_21, rs_X4_counting_22, rs_X4_counting_25, rs_X4_counting_26, rs_X4_counting_27, rs_X4_counting_28, rs_X4_counting_31, rs_X4_counting_32, -List.getElem?_eq_getElem, am_js, am_e, am_in, am_sl, rI, rZ, rV, rJ, rA, rC, kI, kJ, kR, am_one, am_nl, am_w8, tIc, tLc, tNul, tIld, tLld, tAld, tIst, tLst, tAst, tIinc, tI2, tDv, tL2, tLrem, tLs, tLcmp, tI2l, tL2i, tI2c, tDup, tDup2, tPop, tGo, tIfeq, tIfne, tIflt, tIfge, tIfgt, tIfle, tCmeq, tCmne, tCmlt, tCmge, tCmgt, tCmle, tNu, tTs, tGf, tPf, tGs, tIal, tIas, tBal, tBas, tAln, tSv, tSc, tSb, tSl, tSk, tCv, tCs, tCt, tMx, tMn, wr_10000, wr_100000, wr_1000000, wr_10000000, wr_100000000, wr_2400, wr_9999, wr_0, wr_1, wr_2, wr_3, wr_4, wr_5, wr_6, wr_7, wr_8, wr_9, wr_10, wr_11, wr_12, wr_13, wr_14, wr_15, wr_16, wr_17, wr_18, wr_19, wr_20, wr_21, wr_22, wr_23, wr_24, wr_25, wr_26, wr_27, wr_28, wr_29, wr_30, wr_31, wr_32, wr_33, wr_34, wr_35, wr_36, wr_37, wr_38, wr_39, wr_40, wr_41, wr_42, wr_43, wr_44, wr_45, wr_46, wr_47, wr_48, wr_49, wr_50, wr_51, wr_52, wr_53, wr_54, wr_55, wr_56, wr_57, wr_58, wr_59, wr_60, wr_61, wr_62, wr_63, wr_99, wr_100, wr_192, wr_255, wr_256, wr_343, wr_999, wr_1000, wr_2401, wr_2147483647, wr_65535, wr_m1, wr_m2, wr_m3, wr_m4, wr_m9, ak_1000, ak_1001, ak_1002, ak_0, ak_1, ak_2, ak_3, ak_4, ak_5, ak_6, ak_7, ak_8, ak_9, ak_10, ak_11, ak_12, ak_13, ak_14, ak_15, ak_16, ak_17, ak_18, ak_19, ak_20, ak_21, ak_22, ak_23, ak_24, ak_25, ak_26, ak_27, ak_28, ak_29, ak_30, ak_31, ak_32, ak_33, ak_34, ak_35, ak_36, ak_37, ak_38, ak_39, ak_40, ak_41, ak_42, ak_43, ak_44, ak_45, ak_46, ak_47, h0, h3, h4, n3, n4, wd0, wd1, wd2, wd3, wb0, wb1, wb2, wb3, g4, cn] <;>
    (repeat' split) <;> first | rfl | omega
abbrev mi_X4_pullOf : Mi := (yX4_pullOf, cX4_pullOf, 4, some .int, 2)
theorem mf_X4_pullOf : am_mf mi_X4_pullOf 1 := ⟨w_co_X4_pullOf, w_in_X4, ⟨by decide +kernel, by decide +kernel⟩, by decide +kernel, by decide⟩
def tb_X4_pullOf : List (Nat × Tr) := [(0, tIld 1 1), (1, tIc 1 1), (2, tI2 (fun a b => a + b)), (3, tIc 4 1), (4, tDv Int.tmod), (5, tIst 2 1), (6, tAld 0 1), (7, tGf 4 3), (10, tIld 1 1), (11, tIal), (12, tIfeq 24), (15, tAld 0 1), (16, tGf 4 3), (19, tIld 2 1), (20, tIal), (21, tIfne 26), (24, tIc 0 1), (26, tAld 0 1), (27, tIld 1 1), (28, tCv 4 1 fn_X4_counting), (31, tAld 0 1), (32, tIld 2 1), (33, tCv 4 1 fn_X4_counting), (36, tI2 (fun a b => a + b)), (37, tAld 0 1), (38, tGf 4 2), (41, tIld 1 1), (42, tIal), (43, tI2 (fun a b => a - b)), (44, tIst 3 1), (45, tIld 3 1), (46, tIfle 58), (49, tAld 0 1), (50, tGf 4 0), (53, tIld 3 1), (54, tI2 (fun a b => a * b)), (55, tGo 59), (58, tIc 0 1)]
theorem ok_X4_pullOf : Tok mi_X4_pullOf tb_X4_pullOf :=
  Tc (sd_iload_n dX4_pullOf_0) <|
  Tc (sd_iconst rfl dX4_pullOf_1) <|
  Tc (sd_iadd dX4_pullOf_2) <|
  Tc (sd_iconst rfl dX4_pullOf_3) <|
  Tc (sd_irem dX4_pullOf_4) <|
  Tc (sd_istore_n dX4_pullOf_5) <|
  Tc (sd_aload_n dX4_pullOf_6) <|
  Tc (sd_getf (T := TX4) rfl giX4 (by decide) w_fl_X4_22 dX4_pullOf_7) <|
  Tc (sd_iload_n dX4_pullOf_10) <|
  Tc (sd_ial dX4_pullOf_11) <|
  Tc (sd_if_eq (by decide) dX4_pullOf_12) <|
  Tc (sd_aload_n dX4_pullOf_15) <|
  Tc (sd_getf (T := TX4) rfl giX4 (by decide) w_fl_X4_22 dX4_pullOf_16) <|
  Tc (sd_iload_n dX4_pullOf_19) <|
  Tc (sd_ial dX4_pullOf_20) <|
  Tc (sd_if_ne (by decide) dX4_pullOf_21) <|
  Tc (sd_iconst rfl dX4_pullOf_24) <|
  Tc (sd_aload_n dX4_pullOf_26) <|
  Tc (sd_iload_n dX4_pullOf_27) <|
  Tc (sd_cv (T := TX4) fok_X4_counting mf_X4_counting rfl w_ml_X4_28 w_im_X4_counting w_se_X4_counting (by decide) dX4_pullOf_28) <|
  Tc (sd_aload_n dX4_pullOf_31) <|
  Tc (sd_iload_n dX4_pullOf_32) <|
  Tc (sd_cv (T := TX4) fok_X4_counting mf_X4_counting rfl w_ml_X4_28 w_im_X4_counting w_se_X4_counting (by decide) dX4_pullOf_33) <|
  Tc (sd_iadd dX4_pullOf_36) <|
  Tc (sd_aload_n dX4_pullOf_37) <|
  Tc (sd_getf (T := TX4) rfl giX4 (by decide) w_fl_X4_19 dX4_pullOf_38) <|
  Tc (sd_iload_n dX4_pullOf_41) <|
  Tc (sd_ial dX4_pullOf_42) <|
  Tc (sd_isub dX4_pullOf_43) <|
  Tc (sd_istore_n dX4_pullOf_44) <|
  Tc (sd_iload_n dX4_pullOf_45) <|
  Tc (sd_if_le (by decide) dX4_pullOf_46) <|
  Tc (sd_aload_n dX4_pullOf_49) <|
  Tc (sd_getf (T := TX4) rfl giX4 (by decide) w_fl_X4_9 dX4_pullOf_50) <|
  Tc (sd_iload_n dX4_pullOf_53) <|
  Tc (sd_imul dX4_pullOf_54) <|
  Tc (sd_goto (by decide) dX4_pullOf_55) <|
  Tc (sd_iconst rfl dX4_pullOf_58) <|
  Tn
theorem rk_X4_pullOf : Rok mi_X4_pullOf rI [25, 59] := rk_i dX4_pullOf_25 <| rk_i dX4_pullOf_59 <| rk_n
def rx_X4_pullOf : Nat → Nat → AL → List AV → List AC → Option (Option AV × List AC) := am_r tb_X4_pullOf rI [25, 59]
theorem rs_X4_pullOf_0 (n : Nat) (L : AL) (st : List AV) (M : List AC) : rx_X4_pullOf (n + 1) 0 L st M = am_j (rx_X4_pullOf n) ((tIld 1 1) 0 L st M) := rfl
theorem rs_X4_pullOf_1 (n : Nat) (L : AL) (st : List AV) (M : List AC) : rx_X4_pullOf (n + 1) 1 L st M = am_j (rx_X4_pullOf n) ((tIc 1 1) 1 L st M) := rfl
theorem rs_X4_pullOf_2 (n : Nat) (L : AL) (st : List AV) (M : List AC) : rx_X4_pullOf (n + 1) 2 L st M = am_j (rx_X4_pullOf n) ((tI2 (fun a b => a + b)) 2 L st M) := rfl
theorem rs_X4_pullOf_3 (n : Nat) (L : AL) (st : List AV) (M : List AC) : rx_X4_pullOf (n + 1) 3 L st M = am_j (rx_X4_pullOf n) ((tIc 4 1) 3 L st M) := rfl
theorem rs_X4_pullOf_4 (n : Nat) (L : AL) (st : List AV) (M : List AC) : rx_X4_pullOf (n + 1) 4 L st M = am_j (rx_X4_pullOf n) ((tDv Int.tmod) 4 L st M) := rfl
theorem rs_X4_pullOf_5 (n : Nat) (L : AL) (st : List AV) (M : List AC) : rx_X4_pullOf (n + 1) 5 L st M = am_j (rx_X4_pullOf n) ((tIst 2 1) 5 L st M) := rfl
theorem rs_X4_pullOf_6 (n : Nat) (L : AL) (st : List AV) (M : List AC) : rx_X4_pullOf (n + 1) 6 L st M = am_j (rx_X4_pullOf n) ((tAld 0 1) 6 L st M) := rfl
theorem rs_X4_pullOf_7 (n : Nat) (L : AL) (st : List AV) (M : List AC) : rx_X4_pullOf (n + 1) 7 L st M = am_j (rx_X4_pullOf n) ((tGf 4 3) 7 L st M) := rfl
theorem rs_X4_pullOf_10 (n : Nat) (L : AL) (st : List AV) (M : List AC) : rx_X4_pullOf (n + 1) 10 L st M = am_j (rx_X4_pullOf n) ((tIld 1 1) 10 L st M) := rfl
theorem rs_X4_pullOf_11 (n : Nat) (L : AL) (st : List AV) (M : List AC) : rx_X4_pullOf (n + 1) 11 L st M = am_j (rx_X4_pullOf n) (tIal 11 L st M) := rfl
theorem rs_X4_pullOf_12 (n : Nat) (L : AL) (st : List AV) (M : List AC) : rx_X4_pullOf (n + 1) 12 L st M = am_j (rx_X4_pullOf n) ((tIfeq 24) 12 L st M) := rfl
theorem rs_X4_pullOf_15 (n : Nat) (L : AL) (st : List AV) (M : List AC) : rx_X4_pullOf (n + 1) 15 L st M = am_j (rx_X4_pullOf n) ((tAld 0 1) 15 L st M) := rfl
theorem rs_X4_pullOf_16 (n : Nat) (L : AL) (st : List AV) (M : List AC) : rx_X4_pullOf (n + 1) 16 L st M = am_j (rx_X4_pullOf n) ((tGf 4 3) 16 L st M) := rfl
theorem rs_X4_pullOf_19 (n : Nat) (L : AL) (st : List AV) (M : List AC) : rx_X4_pullOf (n + 1) 19 L st M = am_j (rx_X4_pullOf n) ((tIld 2 1) 19 L st M) := rfl
theorem rs_X4_pullOf_20 (n : Nat) (L : AL) (st : List AV) (M : List AC) : rx_X4_pullOf (n + 1) 20 L st M = am_j (rx_X4_pullOf n) (tIal 20 L st M) := rfl
theorem rs_X4_pullOf_21 (n : Nat) (L : AL) (st : List AV) (M : List AC) : rx_X4_pullOf (n + 1) 21 L st M = am_j (rx_X4_pullOf n) ((tIfne 26) 21 L st M) := rfl
theorem rs_X4_pullOf_24 (n : Nat) (L : AL) (st : List AV) (M : List AC) : rx_X4_pullOf (n + 1) 24 L st M = am_j (rx_X4_pullOf n) ((tIc 0 1) 24 L st M) := rfl
theorem rs_X4_pullOf_26 (n : Nat) (L : AL) (st : List AV) (M : List AC) : rx_X4_pullOf (n + 1) 26 L st M = am_j (rx_X4_pullOf n) ((tAld 0 1) 26 L st M) := rfl
theorem rs_X4_pullOf_27 (n : Nat) (L : AL) (st : List AV) (M : List AC) : rx_X4_pullOf (n + 1) 27 L st M = am_j (rx_X4_pullOf n) ((tIld 1 1) 27 L st M) := rfl
theorem rs_X4_pullOf_28 (n : Nat) (L : AL) (st : List AV) (M : List AC) : rx_X4_pullOf (n + 1) 28 L st M = am_j (rx_X4_pullOf n) ((tCv 4 1 fn_X4_counting) 28 L st M) := rfl
theorem rs_X4_pullOf_31 (n : Nat) (L : AL) (st : List AV) (M : List AC) : rx_X4_pullOf (n + 1) 31 L st M = am_j (rx_X4_pullOf n) ((tAld 0 1) 31 L st M) := rfl
theorem rs_X4_pullOf_32 (n : Nat) (L : AL) (st : List AV) (M : List AC) : rx_X4_pullOf (n + 1) 32 L st M = am_j (rx_X4_pullOf n) ((tIld 2 1) 32 L st M) := rfl
theorem rs_X4_pullOf_33 (n : Nat) (L : AL) (st : List AV) (M : List AC) : rx_X4_pullOf (n + 1) 33 L st M = am_j (rx_X4_pullOf n) ((tCv 4 1 fn_X4_counting) 33 L st M) := rfl
theorem rs_X4_pullOf_36 (n : Nat) (L : AL) (st : List AV) (M : List AC) : rx_X4_pullOf (n + 1) 36 L st M = am_j (rx_X4_pullOf n) ((tI2 (fun a b => a + b)) 36 L st M) := rfl
theorem rs_X4_pullOf_37 (n : Nat) (L : AL) (st : List AV) (M : List AC) : rx_X4_pullOf (n + 1) 37 L st M = am_j (rx_X4_pullOf n) ((tAld 0 1) 37 L st M) := rfl
theorem rs_X4_pullOf_38 (n : Nat) (L : AL) (st : List AV) (M : List AC) : rx_X4_pullOf (n + 1) 38 L st M = am_j (rx_X4_pullOf n) ((tGf 4 2) 38 L st M) := rfl
theorem rs_X4_pullOf_41 (n : Nat) (L : AL) (st : List AV) (M : List AC) : rx_X4_pullOf (n + 1) 41 L st M = am_j (rx_X4_pullOf n) ((tIld 1 1) 41 L st M) := rfl
theorem rs_X4_pullOf_42 (n : Nat) (L : AL) (st : List AV) (M : List AC) : rx_X4_pullOf (n + 1) 42 L st M = am_j (rx_X4_pullOf n) (tIal 42 L st M) := rfl
theorem rs_X4_pullOf_43 (n : Nat) (L : AL) (st : List AV) (M : List AC) : rx_X4_pullOf (n + 1) 43 L st M = am_j (rx_X4_pullOf n) ((tI2 (fun a b => a - b)) 43 L st M) := rfl
theorem rs_X4_pullOf_44 (n : Nat) (L : AL) (st : List AV) (M : List AC) : rx_X4_pullOf (n + 1) 44 L st M = am_j (rx_X4_pullOf n) ((tIst 3 1) 44 L st M) := rfl
theorem rs_X4_pullOf_45 (n : Nat) (L : AL) (st : List AV) (M : List AC) : rx_X4_pullOf (n + 1) 45 L st M = am_j (rx_X4_pullOf n) ((tIld 3 1) 45 L st M) := rfl
theorem rs_X4_pullOf_46 (n : Nat) (L : AL) (st : List AV) (M : List AC) : rx_X4_pullOf (n + 1) 46 L st M = am_j (rx_X4_pullOf n) ((tIfle 58) 46 L st M) := rfl
theorem rs_X4_pullOf_49 (n : Nat) (L : AL) (st : List AV) (M : List AC) : rx_X4_pullOf (n + 1) 49 L st M = am_j (rx_X4_pullOf n) ((tAld 0 1) 49 L st M) := rfl
theorem rs_X4_pullOf_50 (n : Nat) (L : AL) (st : List AV) (M : List AC) : rx_X4_pullOf (n + 1) 50 L st M = am_j (rx_X4_pullOf n) ((tGf 4 0) 50 L st M) := rfl
theorem rs_X4_pullOf_53 (n : Nat) (L : AL) (st : List AV) (M : List AC) : rx_X4_pullOf (n + 1) 53 L st M = am_j (rx_X4_pullOf n) ((tIld 3 1) 53 L st M) := rfl
theorem rs_X4_pullOf_54 (n : Nat) (L : AL) (st : List AV) (M : List AC) : rx_X4_pullOf (n + 1) 54 L st M = am_j (rx_X4_pullOf n) ((tI2 (fun a b => a * b)) 54 L st M) := rfl
theorem rs_X4_pullOf_55 (n : Nat) (L : AL) (st : List AV) (M : List AC) : rx_X4_pullOf (n + 1) 55 L st M = am_j (rx_X4_pullOf n) ((tGo 59) 55 L st M) := rfl
theorem rs_X4_pullOf_58 (n : Nat) (L : AL) (st : List AV) (M : List AC) : rx_X4_pullOf (n + 1) 58 L st M = am_j (rx_X4_pullOf n) ((tIc 0 1) 58 L st M) := rfl
theorem rs_X4_pullOf_25 (n : Nat) (L : AL) (st : List AV) (M : List AC) : rx_X4_pullOf (n + 1) 25 L st M = am_e rI st M := rfl
theorem rs_X4_pullOf_59 (n : Nat) (L : AL) (st : List AV) (M : List AC) : rx_X4_pullOf (n + 1) 59 L st M = am_e rI st M := rfl
theorem ri_X4_pullOf (c : Prop) [Decidable c] (p q n : Nat) (L : AL) (st : List AV) (M : List AC) : rx_X4_pullOf n (if c then p else q) L st M = if c then rx_X4_pullOf n p L st M else rx_X4_pullOf n q L st M := by split <;> rfl
theorem rm_X4_pullOf {n k pc : Nat} {L : AL} {st : List AV} {M : List AC} {x : Option AV × List AC} (h : rx_X4_pullOf n pc L st M = some x) (hk : n ≤ k) : rx_X4_pullOf k pc L st M = some x := am_r_mono n k h hk
def fn_X4_pullOf : Fn := am_fn rx_X4_pullOf 4
theorem fok_X4_pullOf : Fok mi_X4_pullOf fn_X4_pullOf := fun _ _ _ _ h => am_fok ok_X4_pullOf rk_X4_pullOf rfl h
theorem sp_X4_pullOf {M : List AC} {k : Nat} {st : Int} {g s d b : F4} (hs : HS M k st g s d b) (hr : SR st g s d b) (e : Int) (hc : 0 ≤ e ∧ e < 4) : fn_X4_pullOf [vR k, vI e] M = some (some (vI (pu st s d b e.toNat)), M) := by
  obtain ⟨hk, h0, h1, h2, h3, h4⟩ := id hs
  obtain ⟨n1, n2, n3, n4⟩ := hs.nk
  obtain ⟨w0, ⟨wg0, wg1, wg2, wg3⟩, ⟨ws0, ws1, ws2, ws3⟩, ⟨wd0, wd1, wd2, wd3⟩, wb0, wb1, wb2, wb3⟩ := hr.wr
  obtain ⟨-, -, ⟨rs0, rs1, rs2, rs3⟩, ⟨rd0, rd1, rd2, rd3⟩, rb0, rb1, rb2, rb3⟩ := id hr
  have c0 := cn_rng rd0 rb0
  have c1 := cn_rng rd1 rb1
  have c2 := cn_rng rd2 rb2
  have c3 := cn_rng rd3 rb3
  have y0 : wr (cn d.1 b.1 + cn d.2.1 b.2.1 - s.1) = cn d.1 b.1 + cn d.2.1 b.2.1 - s.1 := wr_id (by omega) (by omega)
  have y1 : wr (cn d.2.1 b.2.1 + cn d.2.2.1 b.2.2.1 - s.2.1) = cn d.2.1 b.2.1 + cn d.2.2.1 b.2.2.1 - s.2.1 := wr_id (by omega) (by omega)
  have y2 : wr (cn d.2.2.1 b.2.2.1 + cn d.2.2.2 b.2.2.2 - s.2.2.1) = cn d.2.2.1 b.2.2.1 + cn d.2.2.2 b.2.2.2 - s.2.2.1 := wr_id (by omega) (by omega)
  have y3 : wr (cn d.2.2.2 b.2.2.2 + cn d.1 b.1 - s.2.2.2) = cn d.2.2.2 b.2.2.2 + cn d.1 b.1 - s.2.2.2 := wr_id (by omega) (by omega)
  (refine am_fnI (tb := tb_X4_pullOf) (n := 60) (Nat.le_of_ble_eq_true rfl) (Nat.le_of_ble_eq_true rfl) ?_; show rx_X4_pullOf 60 0 _ _ _ = _)
  rcases c4 hc with rfl | rfl | rfl | rfl <;>
    simp [↓ri_X4_pullOf, rs_X4_pullOf_0, rs_X4_pullOf_1, rs_X4_pullOf_2, rs_X4_pullOf_3, rs_X4_pullOf_4, rs_X4_pullOf_5, rs_X4_pullOf_6, rs_X4_pullOf_7, rs_X4_pullOf_10, rs_X4_pullOf_11, rs_X4_pullOf_12, rs_X4_pullOf_15, rs_X4_pullOf_16, rs_X4_pullOf_19, rs_X4_pullOf_20, rs_X4_pullOf_21, rs_X4_pullOf_24, rs_X4_pullOf_26, rs_X4_pullOf_27, rs_X4_pullOf_28, rs_X4_pullOf_31, rs_X4_pullOf_32, rs_X4_pullOf_33, rs_X4_pullOf_36, rs_X4_pullOf_37, rs_X4_pullOf_38, rs_X4_pullOf_41, rs_X4_pullOf_42, rs_X4_pullOf_43, rs_X4_pullOf_44, rs_X4_pullOf_45, rs_X4_pullOf_46, rs_X4_pullOf_49, rs_X4_pullOf_50, rs_X4_pullOf_53, rs_X4_pullOf_54, rs_X4_pullOf_55, rs_X4_pullOf_58, rs_X4_pullOf_25, rs_X4_pullOf_59, -List.getElem?_eq_getElem, am_js, am_e, am_in, am_sl, rI, rZ, rV, rJ, rA, rC, kI, kJ, kR, am_one, am_nl, am_w8, tIc, tLc, tNul, tIld, tLld, tAld, tIst, tLst, tAst, tIinc, tI2, tDv, tL2, tLrem, tLs, tLcmp, tI2l, tL2i, tI2c, tDup, tDup2, tPop, tGo, tIfeq, tIfne, tIflt, tIfge, tIfgt, tIfle, tCmeq, tCmne, tCmlt, tCmge, tCmgt, tCmle, tNu, tTs, tGf, tPf, tGs, tIal, tIas, tBal, tBas, tAln, tSv, tSc, tSb, tSl, tSk, tCv, tCs, tCt, tMx, tMn, wr_10000, wr_100000, wr_1000000, wr_10000000, wr_100000000, wr_2400, wr_9999, wr_0, wr_1, wr_2, wr_3, wr_4, wr_5, wr_6, wr_7, wr_8, wr_9, wr_10, wr_11, wr_12, wr_13, wr_14, wr_15, wr_16, wr_17, wr_18, wr_19, wr_20, wr_21, wr_22, wr_23, wr_24, wr_25, wr_26, wr_27, wr_28, wr_29, wr_30, wr_31, wr_32, wr_33, wr_34, wr_35, wr_36, wr_37, wr_38, wr_39, wr_40, wr_41, wr_42, wr_43, wr_44, wr_45, wr_46, wr_47, wr_48, wr_49, wr_50, wr_51, wr_52, wr_53, wr_54, wr_55, wr_56, wr_57, wr_58, wr_59, wr_60, wr_61, wr_62, wr_63, wr_99, wr_100, wr_192, wr_255, wr_256, wr_343, wr_999, wr_1000, wr_2401, wr_2147483647, wr_65535, wr_m1, wr_m2, wr_m3, wr_m4, wr_m9, ak_1000, ak_1001, ak_1002, ak_0, ak_1, ak_2, ak_3, ak_4, ak_5, ak_6, ak_7, ak_8, ak_9, ak_10, ak_11, ak_12, ak_13, ak_14, ak_15, ak_16, ak_17, ak_18, ak_19, ak_20, ak_21, ak_22, ak_23, ak_24, ak_25, ak_26, ak_27, ak_28, ak_29, ak_30, ak_31, ak_32, ak_33, ak_34, ak_35, ak_36, ak_37, ak_38, ak_39, ak_40, ak_41, ak_42, ak_43, ak_44, ak_45, ak_46, ak_47, h0, h1, h2, h3, h4, n1, n2, n3, n4, wg0, wg1, wg2, wg3, ws0, ws1, ws2, ws3, wd0, wd1, wd2, wd3, wb0, wb1, wb2, wb3, w0, g4, pu, pl, sp_X4_counting hs hr, y0, y1, y2, y3] <;>
    (repeat' split) <;> first | rfl | omega
abbrev mi_X4_pullAt : Mi := (yX4_pullAt, cX4_pullAt, 2, some .int, 3)
theorem mf_X4_pullAt : am_mf mi_X4_pullAt 1 := ⟨w_co_X4_pullAt, w_in_X4, ⟨by decide +kernel, by decide +kernel⟩, by decide +kernel, by decide⟩
def tb_X4_pullAt : List (Nat × Tr) := [(0, tAld 0 1), (1, tIld 1 1), (2, tIc 4 1), (3, tI2 (fun a b => a + b)), (4, tIc 1 1), (5, tI2 (fun a b => a - b)), (6, tIc 4 1), (7, tDv Int.tmod), (8, tCv 4 1 fn_X4_pullOf), (11, tAld 0 1), (12, tIld 1 1), (13, tCv 4 1 fn_X4_pullOf), (16, tI2 (fun a b => a + b))]
theorem ok_X4_pullAt : Tok mi_X4_pullAt tb_X4_pullAt :=
  Tc (sd_aload_n dX4_pullAt_0) <|
  Tc (sd_iload_n dX4_pullAt_1) <|
  Tc (sd_iconst rfl dX4_pullAt_2) <|
  Tc (sd_iadd dX4_pullAt_3) <|
  Tc (sd_iconst rfl dX4_pullAt_4) <|
  Tc (sd_isub dX4_pullAt_5) <|
  Tc (sd_iconst rfl dX4_pullAt_6) <|
  Tc (sd_irem dX4_pullAt_7) <|
  Tc (sd_cv (T := TX4) fok_X4_pullOf mf_X4_pullOf rfl w_ml_X4_32 w_im_X4_pullOf w_se_X4_pullOf (by decide) dX4_pullAt_8) <|
  Tc (sd_aload_n dX4_pullAt_11) <|
  Tc (sd_iload_n dX4_pullAt_12) <|
  Tc (sd_cv (T := TX4) fok_X4_pullOf mf_X4_pullOf rfl w_ml_X4_32 w_im_X4_pullOf w_se_X4_pullOf (by decide) dX4_pullAt_13) <|
  Tc (sd_iadd dX4_pullAt_16) <|
  Tn
theorem rk_X4_pullAt : Rok mi_X4_pullAt rI [17] := rk_i dX4_pullAt_17 <| rk_n
def rx_X4_pullAt : Nat → Nat → AL → List AV → List AC → Option (Option AV × List AC) := am_r tb_X4_pullAt rI [17]
theorem rs_X4_pullAt_0 (n : Nat) (L : AL) (st : List AV) (M : List AC) : rx_X4_pullAt (n + 1) 0 L st M = am_j (rx_X4_pullAt n) ((tAld 0 1) 0 L st M) := rfl
theorem rs_X4_pullAt_1 (n : Nat) (L : AL) (st : List AV) (M : List AC) : rx_X4_pullAt (n + 1) 1 L st M = am_j (rx_X4_pullAt n) ((tIld 1 1) 1 L st M) := rfl
theorem rs_X4_pullAt_2 (n : Nat) (L : AL) (st : List AV) (M : List AC) : rx_X4_pullAt (n + 1) 2 L st M = am_j (rx_X4_pullAt n) ((tIc 4 1) 2 L st M) := rfl
theorem rs_X4_pullAt_3 (n : Nat) (L : AL) (st : List AV) (M : List AC) : rx_X4_pullAt (n + 1) 3 L st M = am_j (rx_X4_pullAt n) ((tI2 (fun a b => a + b)) 3 L st M) := rfl
theorem rs_X4_pullAt_4 (n : Nat) (L : AL) (st : List AV) (M : List AC) : rx_X4_pullAt (n + 1) 4 L st M = am_j (rx_X4_pullAt n) ((tIc 1 1) 4 L st M) := rfl
theorem rs_X4_pullAt_5 (n : Nat) (L : AL) (st : List AV) (M : List AC) : rx_X4_pullAt (n + 1) 5 L st M = am_j (rx_X4_pullAt n) ((tI2 (fun a b => a - b)) 5 L st M) := rfl
theorem rs_X4_pullAt_6 (n : Nat) (L : AL) (st : List AV) (M : List AC) : rx_X4_pullAt (n + 1) 6 L st M = am_j (rx_X4_pullAt n) ((tIc 4 1) 6 L st M) := rfl
theorem rs_X4_pullAt_7 (n : Nat) (L : AL) (st : List AV) (M : List AC) : rx_X4_pullAt (n + 1) 7 L st M = am_j (rx_X4_pullAt n) ((tDv Int.tmod) 7 L st M) := rfl
theorem rs_X4_pullAt_8 (n : Nat) (L : AL) (st : List AV) (M : List AC) : rx_X4_pullAt (n + 1) 8 L st M = am_j (rx_X4_pullAt n) ((tCv 4 1 fn_X4_pullOf) 8 L st M) := rfl
theorem rs_X4_pullAt_11 (n : Nat) (L : AL) (st : List AV) (M : List AC) : rx_X4_pullAt (n + 1) 11 L st M = am_j (rx_X4_pullAt n) ((tAld 0 1) 11 L st M) := rfl
theorem rs_X4_pullAt_12 (n : Nat) (L : AL) (st : List AV) (M : List AC) : rx_X4_pullAt (n + 1) 12 L st M = am_j (rx_X4_pullAt n) ((tIld 1 1) 12 L st M) := rfl
theorem rs_X4_pullAt_13 (n : Nat) (L : AL) (st : List AV) (M : List AC) : rx_X4_pullAt (n + 1) 13 L st M = am_j (rx_X4_pullAt n) ((tCv 4 1 fn_X4_pullOf) 13 L st M) := rfl
theorem rs_X4_pullAt_16 (n : Nat) (L : AL) (st : List AV) (M : List AC) : rx_X4_pullAt (n + 1) 16 L st M = am_j (rx_X4_pullAt n) ((tI2 (fun a b => a + b)) 16 L st M) := rfl
theorem rs_X4_pullAt_17 (n : Nat) (L : AL) (st : List AV) (M : List AC) : rx_X4_pullAt (n + 1) 17 L st M = am_e rI st M := rfl
theorem ri_X4_pullAt (c : Prop) [Decidable c] (p q n : Nat) (L : AL) (st : List AV) (M : List AC) : rx_X4_pullAt n (if c then p else q) L st M = if c then rx_X4_pullAt n p L st M else rx_X4_pullAt n q L st M := by split <;> rfl
theorem rm_X4_pullAt {n k pc : Nat} {L : AL} {st : List AV} {M : List AC} {x : Option AV × List AC} (h : rx_X4_pullAt n pc L st M = some x) (hk : n ≤ k) : rx_X4_pullAt k pc L st M = some x := am_r_mono n k h hk
def fn_X4_pullAt : Fn := am_fn rx_X4_pullAt 2
theorem fok_X4_pullAt : Fok mi_X4_pullAt fn_X4_pullAt := fun _ _ _ _ h => am_fok ok_X4_pullAt rk_X4_pullAt rfl h
theorem sp_X4_pullAt {M : List AC} {k : Nat} {st : Int} {g s d b : F4} (hs : HS M k st g s d b) (hr : SR st g s d b) (c : Int) (hc : 0 ≤ c ∧ c < 4) : fn_X4_pullAt [vR k, vI c] M = some (some (vI (pa st s d b c.toNat)), M) := by
  obtain ⟨hk, h0, h1, h2, h3, h4⟩ := id hs
  obtain ⟨n1, n2, n3, n4⟩ := hs.nk
  obtain ⟨w0, ⟨wg0, wg1, wg2, wg3⟩, ⟨ws0, ws1, ws2, ws3⟩, ⟨wd0, wd1, wd2, wd3⟩, wb0, wb1, wb2, wb3⟩ := hr.wr
  (refine am_fnI (tb := tb_X4_pullAt) (n := 60) (Nat.le_of_ble_eq_true rfl) (Nat.le_of_ble_eq_true rfl) ?_; show rx_X4_pullAt 60 0 _ _ _ = _)
  rcases c4 hc with rfl | rfl | rfl | rfl <;>
    simp [↓ri_X4_pullAt, rs_X4_pullAt_0, rs_X4_pullAt_1, rs_X4_pullAt_2, rs_X4_pullAt_3, rs_X4_pullAt_4, rs_X4_pullAt_5, rs_X4_pullAt_6, rs_X4_pullAt_7, rs_X4_pullAt_8, rs_X4_pullAt_11, rs_X4_pullAt_12, rs_X4_pullAt_13, rs_X4_pullAt_16, rs_X4_pullAt_17, -List.getElem?_eq_getElem, am_js, am_e, am_in, am_sl, rI, rZ, rV, rJ, rA, rC, kI, kJ, kR, am_one, am_nl, am_w8, tIc, tLc, tNul, tIld, tLld, tAld, tIst, tLst, tAst, tIinc, tI2, tDv, tL2, tLrem, tLs, tLcmp, tI2l, tL2i, tI2c, tDup, tDup2, tPop, tGo, tIfeq, tIfne, tIflt, tIfge, tIfgt, tIfle, tCmeq, tCmne, tCmlt, tCmge, tCmgt, tCmle, tNu, tTs, tGf, tPf, tGs, tIal, tIas, tBal, tBas, tAln, tSv, tSc, tSb, tSl, tSk, tCv, tCs, tCt, tMx, tMn, wr_10000, wr_100000, wr_1000000, wr_10000000, wr_100000000, wr_2400, wr_9999, wr_0, wr_1, wr_2, wr_3, wr_4, wr_5, wr_6, wr_7, wr_8, wr_9, wr_10, wr_11, wr_12, wr_13, wr_14, wr_15, wr_16, wr_17, wr_18, wr_19, wr_20, wr_21, wr_22, wr_23, wr_24, wr_25, wr_26, wr_27, wr_28, wr_29, wr_30, wr_31, wr_32, wr_33, wr_34, wr_35, wr_36, wr_37, wr_38, wr_39, wr_40, wr_41, wr_42, wr_43, wr_44, wr_45, wr_46, wr_47, wr_48, wr_49, wr_50, wr_51, wr_52, wr_53, wr_54, wr_55, wr_56, wr_57, wr_58, wr_59, wr_60, wr_61, wr_62, wr_63, wr_99, wr_100, wr_192, wr_255, wr_256, wr_343, wr_999, wr_1000, wr_2401, wr_2147483647, wr_65535, wr_m1, wr_m2, wr_m3, wr_m4, wr_m9, ak_1000, ak_1001, ak_1002, ak_0, ak_1, ak_2, ak_3, ak_4, ak_5, ak_6, ak_7, ak_8, ak_9, ak_10, ak_11, ak_12, ak_13, ak_14, ak_15, ak_16, ak_17, ak_18, ak_19, ak_20, ak_21, ak_22, ak_23, ak_24, ak_25, ak_26, ak_27, ak_28, ak_29, ak_30, ak_31, ak_32, ak_33, ak_34, ak_35, ak_36, ak_37, ak_38, ak_39, ak_40, ak_41, ak_42, ak_43, ak_44, ak_45, ak_46, ak_47, h0, h1, h2, h3, h4, n1, n2, n3, n4, sp_X4_pullOf hs hr, pa]
abbrev mi_X4_holds : Mi := (yX4_holds, cX4_holds, 2, some .boolean, 4)
theorem mf_X4_holds : am_mf mi_X4_holds 1 := ⟨w_co_X4_holds, w_in_X4, ⟨by decide +kernel, by decide +kernel⟩, by decide +kernel, by decide⟩
def tb_X4_holds : List (Nat × Tr) := [(0, tAld 0 1), (1, tIld 1 1), (2, tCv 4 1 fn_X4_pullAt), (5, tAld 0 1), (6, tGf 4 1), (9, tIld 1 1), (10, tIal), (11, tAld 0 1), (12, tGf 4 3), (15, tIld 1 1), (16, tIal), (17, tI2 (fun a b => a * b)), (18, tCmgt 25), (21, tIc 1 1), (22, tGo 26), (25, tIc 0 1)]
theorem ok_X4_holds : Tok mi_X4_holds tb_X4_holds :=
  Tc (sd_aload_n dX4_holds_0) <|
  Tc (sd_iload_n dX4_holds_1) <|
  Tc (sd_cv (T := TX4) fok_X4_pullAt mf_X4_pullAt rfl w_ml_X4_35 w_im_X4_pullAt w_se_X4_pullAt (by decide) dX4_holds_2) <|
  Tc (sd_aload_n dX4_holds_5) <|
  Tc (sd_getf (T := TX4) rfl giX4 (by decide) w_fl_X4_15 dX4_holds_6) <|
  Tc (sd_iload_n dX4_holds_9) <|
  Tc (sd_ial dX4_holds_10) <|
  Tc (sd_aload_n dX4_holds_11) <|
  Tc (sd_getf (T := TX4) rfl giX4 (by decide) w_fl_X4_22 dX4_holds_12) <|
  Tc (sd_iload_n dX4_holds_15) <|
  Tc (sd_ial dX4_holds_16) <|
  Tc (sd_imul dX4_holds_17) <|
  Tc (sd_cm_gt (by decide) dX4_holds_18) <|
  Tc (sd_iconst rfl dX4_holds_21) <|
  Tc (sd_goto (by decide) dX4_holds_22) <|
  Tc (sd_iconst rfl dX4_holds_25) <|
  Tn
theorem rk_X4_holds : Rok mi_X4_holds rZ [26] := rk_z dX4_holds_26 <| rk_n
def rx_X4_holds : Nat → Nat → AL → List AV → List AC → Option (Option AV × List AC) := am_r tb_X4_holds rZ [26]
theorem rs_X4_holds_0 (n : Nat) (L : AL) (st : List AV) (M : List AC) : rx_X4_holds (n + 1) 0 L st M = am_j (rx_X4_holds n) ((tAld 0 1) 0 L st M) := rfl
theorem rs_X4_holds_1 (n : Nat) (L : AL) (st : List AV) (M : List AC) : rx_X4_holds (n + 1) 1 L st M = am_j (rx_X4_holds n) ((tIld 1 1) 1 L st M) := rfl
theorem rs_X4_holds_2 (n : Nat) (L : AL) (st : List AV) (M : List AC) : rx_X4_holds (n + 1) 2 L st M = am_j (rx_X4_holds n) ((tCv 4 1 fn_X4_pullAt) 2 L st M) := rfl
theorem rs_X4_holds_5 (n : Nat) (L : AL) (st : List AV) (M : List AC) : rx_X4_holds (n + 1) 5 L st M = am_j (rx_X4_holds n) ((tAld 0 1) 5 L st M) := rfl
theorem rs_X4_holds_6 (n : Nat) (L : AL) (st : List AV) (M : List AC) : rx_X4_holds (n + 1) 6 L st M = am_j (rx_X4_holds n) ((tGf 4 1) 6 L st M) := rfl
theorem rs_X4_holds_9 (n : Nat) (L : AL) (st : List AV) (M : List AC) : rx_X4_holds (n + 1) 9 L st M = am_j (rx_X4_holds n) ((tIld 1 1) 9 L st M) := rfl
theorem rs_X4_holds_10 (n : Nat) (L : AL) (st : List AV) (M : List AC) : rx_X4_holds (n + 1) 10 L st M = am_j (rx_X4_holds n) (tIal 10 L st M) := rfl
theorem rs_X4_holds_11 (n : Nat) (L : AL) (st : List AV) (M : List AC) : rx_X4_holds (n + 1) 11 L st M = am_j (rx_X4_holds n) ((tAld 0 1) 11 L st M) := rfl
theorem rs_X4_holds_12 (n : Nat) (L : AL) (st : List AV) (M : List AC) : rx_X4_holds (n + 1) 12 L st M = am_j (rx_X4_holds n) ((tGf 4 3) 12 L st M) := rfl
theorem rs_X4_holds_15 (n : Nat) (L : AL) (st : List AV) (M : List AC) : rx_X4_holds (n + 1) 15 L st M = am_j (rx_X4_holds n) ((tIld 1 1) 15 L st M) := rfl
theorem rs_X4_holds_16 (n : Nat) (L : AL) (st : List AV) (M : List AC) : rx_X4_holds (n + 1) 16 L st M = am_j (rx_X4_holds n) (tIal 16 L st M) := rfl
theorem rs_X4_holds_17 (n : Nat) (L : AL) (st : List AV) (M : List AC) : rx_X4_holds (n + 1) 17 L st M = am_j (rx_X4_holds n) ((tI2 (fun a b => a * b)) 17 L st M) := rfl
theorem rs_X4_holds_18 (n : Nat) (L : AL) (st : List AV) (M : List AC) : rx_X4_holds (n + 1) 18 L st M = am_j (rx_X4_holds n) ((tCmgt 25) 18 L st M) := rfl
theorem rs_X4_holds_21 (n : Nat) (L : AL) (st : List AV) (M : List AC) : rx_X4_holds (n + 1) 21 L st M = am_j (rx_X4_holds n) ((tIc 1 1) 21 L st M) := rfl
theorem rs_X4_holds_22 (n : Nat) (L : AL) (st : List AV) (M : List AC) : rx_X4_holds (n + 1) 22 L st M = am_j (rx_X4_holds n) ((tGo 26) 22 L st M) := rfl
theorem rs_X4_holds_25 (n : Nat) (L : AL) (st : List AV) (M : List AC) : rx_X4_holds (n + 1) 25 L st M = am_j (rx_X4_holds n) ((tIc 0 1) 25 L st M) := rfl
theorem rs_X4_holds_26 (n : Nat) (L : AL) (st : List AV) (M : List AC) : rx_X4_holds (n + 1) 26 L st M = am_e rZ st M := rfl
theorem ri_X4_holds (c : Prop) [Decidable c] (p q n : Nat) (L : AL) (st : List AV) (M : List AC) : rx_X4_holds n (if c then p else q) L st M = if c then rx_X4_holds n p L st M else rx_X4_holds n q L st M := by split <;> rfl
theorem rm_X4_holds {n k pc : Nat} {L : AL} {st : List AV} {M : List AC} {x : Option AV × List AC} (h : rx_X4_holds n pc L st M = some x) (hk : n ≤ k) : rx_X4_holds k pc L st M = some x := am_r_mono n k h hk
def fn_X4_holds : Fn := am_fn rx_X4_holds 2
theorem fok_X4_holds : Fok mi_X4_holds fn_X4_holds := fun _ _ _ _ h => am_fok ok_X4_holds rk_X4_holds rfl h
theorem sp_X4_holds {M : List AC} {k : Nat} {st : Int} {g s d b : F4} (hs : HS M k st g s d b) (hr : SR st g s d b) (c : Int) (hc : 0 ≤ c ∧ c < 4) : fn_X4_holds [vR k, vI c] M = some (some (vI (if ex st g s d b c.toNat ≤ 0 then 1 else 0)), M) := by
  obtain ⟨hk, h0, h1, h2, h3, h4⟩ := id hs
  obtain ⟨n1, n2, n3, n4⟩ := hs.nk
  obtain ⟨w0, ⟨wg0, wg1, wg2, wg3⟩, ⟨ws0, ws1, ws2, ws3⟩, ⟨wd0, wd1, wd2, wd3⟩, wb0, wb1, wb2, wb3⟩ := hr.wr
  have p0 := pa_rng hr c.toNat
  have p1 := gd_rng (i4_g hr.2.1 c.toNat) (i4_g hr.2.2.2.1 c.toNat)
  have z0 : wr (pa st s d b c.toNat) = pa st s d b c.toNat := wr_id (by omega) (by omega)
  have z1 : wr (g4 g c.toNat * g4 d c.toNat) = g4 g c.toNat * g4 d c.toNat := wr_id (by omega) (by omega)
  unfold ex
  (refine am_fnI (tb := tb_X4_holds) (n := 60) (Nat.le_of_ble_eq_true rfl) (Nat.le_of_ble_eq_true rfl) ?_; show rx_X4_holds 60 0 _ _ _ = _)
  rcases c4 hc with rfl | rfl | rfl | rfl <;>
    simp only [Int.toNat_zero, Int.toNat_one, show Int.toNat 2 = 2 from rfl, show Int.toNat 3 = 3 from rfl, g4] at z0 z1 ⊢ <;>
    simp [↓ri_X4_holds, rs_X4_holds_0, rs_X4_holds_1, rs_X4_holds_2, rs_X4_holds_5, rs_X4_holds_6, rs_X4_holds_9, rs_X4_holds_10, rs_X4_holds_11, rs_X4_holds_12, rs_X4_holds_15, rs_X4_holds_16, rs_X4_holds_17, rs_X4_holds_18, rs_X4_holds_21, rs_X4_holds_22, rs_X4_holds_25, rs_X4_holds_26, -List.getElem?_eq_getElem, am_js, am_e, am_in, am_sl, rI, rZ, rV, rJ, rA, rC, kI, kJ, kR, am_one, am_nl, am_w8, tIc, tLc, tNul, tIld, tLld, tAld, tIst, tLst, tAst, tIinc, tI2, tDv, tL2, tLrem, tLs, tLcmp, tI2l, tL2i, tI2c, tDup, tDup2, tPop, tGo, tIfeq, tIfne, tIflt, tIfge, tIfgt, tIfle, tCmeq, tCmne, tCmlt, tCmge, tCmgt, tCmle, tNu, tTs, tGf, tPf, tGs, tIal, tIas, tBal, tBas, tAln, tSv, tSc, tSb, tSl, tSk, tCv, tCs, tCt, tMx, tMn, wr_10000, wr_100000, wr_1000000, wr_10000000, wr_100000000, wr_2400, wr_9999, wr_0, wr_1, wr_2, wr_3, wr_4, wr_5, wr_6, wr_7, wr_8, wr_9, wr_10, wr_11, wr_12, wr_13, wr_14, wr_15, wr_16, wr_17, wr_18, wr_19, wr_20, wr_21, wr_22, wr_23, wr_24, wr_25, wr_26, wr_27, wr_28, wr_29, wr_30, wr_31, wr_32, wr_33, wr_34, wr_35, wr_36, wr_37, wr_38, wr_39, wr_40, wr_41, wr_42, wr_43, wr_44, wr_45, wr_46, wr_47, wr_48, wr_49, wr_50, wr_51, wr_52, wr_53, wr_54, wr_55, wr_56, wr_57, wr_58, wr_59, wr_60, wr_61, wr_62, wr_63, wr_99, wr_100, wr_192, wr_255, wr_256, wr_343, wr_999, wr_1000, wr_2401, wr_2147483647, wr_65535, wr_m1, wr_m2, wr_m3, wr_m4, wr_m9, ak_1000, ak_1001, ak_1002, ak_0, ak_1, ak_2, ak_3, ak_4, ak_5, ak_6, ak_7, ak_8, ak_9, ak_10, ak_11, ak_12, ak_13, ak_14, ak_15, ak_16, ak_17, ak_18, ak_19, ak_20, ak_21, ak_22, ak_23, ak_24, ak_25, ak_26, ak_27, ak_28, ak_29, ak_30, ak_31, ak_32, ak_33, ak_34, ak_35, ak_36, ak_37, ak_38, ak_39, ak_40, ak_41, ak_42, ak_43, ak_44, ak_45, ak_46, ak_47, h0, h1, h2, h3, h4, n1, n2, n3, n4, sp_X4_pullAt hs hr, z0, z1] <;>
    (repeat' split) <;> first | rfl | omega
abbrev mi_X4_firstToSlip : Mi := (yX4_firstToSlip, cX4_firstToSlip, 7, some .int, 3)
theorem mf_X4_firstToSlip : am_mf mi_X4_firstToSlip 0 := ⟨w_co_X4_firstToSlip, w_in_X4, ⟨by decide +kernel, by decide +kernel⟩, by decide +kernel, by decide⟩
def tb_X4_firstToSlip : List (Nat × Tr) := [(0, tIc (-9) 2), (2, tIst 1 1), (3, tIc 0 1), (4, tIst 2 1), (5, tAld 0 1), (6, tIc 3 1), (7, tCv 4 1 fn_X4_pullOf), (10, tIst 3 1), (11, tIc 0 1), (12, tIst 4 2), (14, tIld 4 2), (16, tIc 4 1), (17, tCmge 71), (20, tAld 0 1), (21, tIld 4 2), (23, tCv 4 1 fn_X4_pullOf), (26, tIst 5 2), (28, tIld 3 1), (29, tIld 5 2), (31, tI2 (fun a b => a + b)), (32, tAld 0 1), (33, tGf 4 1), (36, tIld 4 2), (38, tIal), (39, tAld 0 1), (40, tGf 4 3), (43, tIld 4 2), (45, tIal), (46, tI2 (fun a b => a * b)), (47, tI2 (fun a b => a - b)), (48, tIst 6 2), (50, tIld 6 2), (52, tIld 2 1), (53, tCmle 62), (56, tIld 6 2), (58, tIst 2 1), (59, tIld 4 2), (61, tIst 1 1), (62, tIld 5 2), (64, tIst 3 1), (65, tIinc 4 1), (68, tGo 14), (71, tIld 1 1)]
theorem ok_X4_firstToSlip : Tok mi_X4_firstToSlip tb_X4_firstToSlip :=
  Tc (sd_bipush (by decide +kernel) dX4_firstToSlip_0) <|
  Tc (sd_istore_n dX4_firstToSlip_2) <|
  Tc (sd_iconst rfl dX4_firstToSlip_3) <|
  Tc (sd_istore_n dX4_firstToSlip_4) <|
  Tc (sd_aload_n dX4_firstToSlip_5) <|
  Tc (sd_iconst rfl dX4_firstToSlip_6) <|
  Tc (sd_cv (T := TX4) fok_X4_pullOf mf_X4_pullOf rfl w_ml_X4_32 w_im_X4_pullOf w_se_X4_pullOf (by decide) dX4_firstToSlip_7) <|
  Tc (sd_istore_n dX4_firstToSlip_10) <|
  Tc (sd_iconst rfl dX4_firstToSlip_11) <|
  Tc (sd_istore dX4_firstToSlip_12) <|
  Tc (sd_iload dX4_firstToSlip_14) <|
  Tc (sd_iconst rfl dX4_firstToSlip_16) <|
  Tc (sd_cm_ge (by decide) dX4_firstToSlip_17) <|
  Tc (sd_aload_n dX4_firstToSlip_20) <|
  Tc (sd_iload dX4_firstToSlip_21) <|
  Tc (sd_cv (T := TX4) fok_X4_pullOf mf_X4_pullOf rfl w_ml_X4_32 w_im_X4_pullOf w_se_X4_pullOf (by decide) dX4_firstToSlip_23) <|
  Tc (sd_istore dX4_firstToSlip_26) <|
  Tc (sd_iload_n dX4_firstToSlip_28) <|
  Tc (sd_iload dX4_firstToSlip_29) <|
  Tc (sd_iadd dX4_firstToSlip_31) <|
  Tc (sd_aload_n dX4_firstToSlip_32) <|
  Tc (sd_getf (T := TX4) rfl giX4 (by decide) w_fl_X4_15 dX4_firstToSlip_33) <|
  Tc (sd_iload dX4_firstToSlip_36) <|
  Tc (sd_ial dX4_firstToSlip_38) <|
  Tc (sd_aload_n dX4_firstToSlip_39) <|
  Tc (sd_getf (T := TX4) rfl giX4 (by decide) w_fl_X4_22 dX4_firstToSlip_40) <|
  Tc (sd_iload dX4_firstToSlip_43) <|
  Tc (sd_ial dX4_firstToSlip_45) <|
  Tc (sd_imul dX4_firstToSlip_46) <|
  Tc (sd_isub dX4_firstToSlip_47) <|
  Tc (sd_istore dX4_firstToSlip_48) <|
  Tc (sd_iload dX4_firstToSlip_50) <|
  Tc (sd_iload_n dX4_firstToSlip_52) <|
  Tc (sd_cm_le (by decide) dX4_firstToSlip_53) <|
  Tc (sd_iload dX4_firstToSlip_56) <|
  Tc (sd_istore_n dX4_firstToSlip_58) <|
  Tc (sd_iload dX4_firstToSlip_59) <|
  Tc (sd_istore_n dX4_firstToSlip_61) <|
  Tc (sd_iload dX4_firstToSlip_62) <|
  Tc (sd_istore_n dX4_firstToSlip_64) <|
  Tc (sd_iinc dX4_firstToSlip_65) <|
  Tc (sd_goto (by decide) dX4_firstToSlip_68) <|
  Tc (sd_iload_n dX4_firstToSlip_71) <|
  Tn
theorem rk_X4_firstToSlip : Rok mi_X4_firstToSlip rI [72] := rk_i dX4_firstToSlip_72 <| rk_n
def rx_X4_firstToSlip : Nat → Nat → AL → List AV → List AC → Option (Option AV × List AC) := am_r tb_X4_firstToSlip rI [72]
theorem rs_X4_firstToSlip_0 (n : Nat) (L : AL) (st : List AV) (M : List AC) : rx_X4_firstToSlip (n + 1) 0 L st M = am_j (rx_X4_firstToSlip n) ((tIc (-9) 2) 0 L st M) := rfl
theorem rs_X4_firstToSlip_2 (n : Nat) (L : AL) (st : List AV) (M : List AC) : rx_X4_firstToSlip (n + 1) 2 L st M = am_j (rx_X4_firstToSlip n) ((tIst 1 1) 2 L st M) := rfl
theorem rs_X4_firstToSlip_3 (n : Nat) (L : AL) (st : List AV) (M : List AC) : rx_X4_firstToSlip (n + 1) 3 L st M = am_j (rx_X4_firstToSlip n) ((tIc 0 1) 3 L st M) := rfl
theorem rs_X4_firstToSlip_4 (n : Nat) (L : AL) (st : List AV) (M : List AC) : rx_X4_firstToSlip (n + 1) 4 L st M = am_j (rx_X4_firstToSlip n) ((tIst 2 1) 4 L st M) := rfl
theorem rs_X4_firstToSlip_5 (n : Nat) (L : AL) (st : List AV) (M : List AC) : rx_X4_firstToSlip (n + 1) 5 L st M = am_j (rx_X4_firstToSlip n) ((tAld 0 1) 5 L st M) := rfl
theorem rs_X4_firstToSlip_6 (n : Nat) (L : AL) (st : List AV) (M : List AC) : rx_X4_firstToSlip (n + 1) 6 L st M = am_j (rx_X4_firstToSlip n) ((tIc 3 1) 6 L st M) := rfl
theorem rs_X4_firstToSlip_7 (n : Nat) (L : AL) (st : List AV) (M : List AC) : rx_X4_firstToSlip (n + 1) 7 L st M = am_j (rx_X4_firstToSlip n) ((tCv 4 1 fn_X4_pullOf) 7 L st M) := rfl
theorem rs_X4_firstToSlip_10 (n : Nat) (L : AL) (st : List AV) (M : List AC) : rx_X4_firstToSlip (n + 1) 10 L st M = am_j (rx_X4_firstToSlip n) ((tIst 3 1) 10 L st M) := rfl
theorem rs_X4_firstToSlip_11 (n : Nat) (L : AL) (st : List AV) (M : List AC) : rx_X4_firstToSlip (n + 1) 11 L st M = am_j (rx_X4_firstToSlip n) ((tIc 0 1) 11 L st M) := rfl
theorem rs_X4_firstToSlip_12 (n : Nat) (L : AL) (st : List AV) (M : List AC) : rx_X4_firstToSlip (n + 1) 12 L st M = am_j (rx_X4_firstToSlip n) ((tIst 4 2) 12 L st M) := rfl
theorem rs_X4_firstToSlip_14 (n : Nat) (L : AL) (st : List AV) (M : List AC) : rx_X4_firstToSlip (n + 1) 14 L st M = am_j (rx_X4_firstToSlip n) ((tIld 4 2) 14 L st M) := rfl
theorem rs_X4_firstToSlip_16 (n : Nat) (L : AL) (st : List AV) (M : List AC) : rx_X4_firstToSlip (n + 1) 16 L st M = am_j (rx_X4_firstToSlip n) ((tIc 4 1) 16 L st M) := rfl
theorem rs_X4_firstToSlip_17 (n : Nat) (L : AL) (st : List AV) (M : List AC) : rx_X4_firstToSlip (n + 1) 17 L st M = am_j (rx_X4_firstToSlip n) ((tCmge 71) 17 L st M) := rfl
theorem rs_X4_firstToSlip_20 (n : Nat) (L : AL) (st : List AV) (M : List AC) : rx_X4_firstToSlip (n + 1) 20 L st M = am_j (rx_X4_firstToSlip n) ((tAld 0 1) 20 L st M) := rfl
theorem rs_X4_firstToSlip_21 (n : Nat) (L : AL) (st : List AV) (M : List AC) : rx_X4_firstToSlip (n + 1) 21 L st M = am_j (rx_X4_firstToSlip n) ((tIld 4 2) 21 L st M) := rfl
theorem rs_X4_firstToSlip_23 (n : Nat) (L : AL) (st : List AV) (M : List AC) : rx_X4_firstToSlip (n + 1) 23 L st M = am_j (rx_X4_firstToSlip n) ((tCv 4 1 fn_X4_pullOf) 23 L st M) := rfl
theorem rs_X4_firstToSlip_26 (n : Nat) (L : AL) (st : List AV) (M : List AC) : rx_X4_firstToSlip (n + 1) 26 L st M = am_j (rx_X4_firstToSlip n) ((tIst 5 2) 26 L st M) := rfl
theorem rs_X4_firstToSlip_28 (n : Nat) (L : AL) (st : List AV) (M : List AC) : rx_X4_firstToSlip (n + 1) 28 L st M = am_j (rx_X4_firstToSlip n) ((tIld 3 1) 28 L st M) := rfl
theorem rs_X4_firstToSlip_29 (n : Nat) (L : AL) (st : List AV) (M : List AC) : rx_X4_firstToSlip (n + 1) 29 L st M = am_j (rx_X4_firstToSlip n) ((tIld 5 2) 29 L st M) := rfl
theorem rs_X4_firstToSlip_31 (n : Nat) (L : AL) (st : List AV) (M : List AC) : rx_X4_firstToSlip (n + 1) 31 L st M = am_j (rx_X4_firstToSlip n) ((tI2 (fun a b => a + b)) 31 L st M) := rfl
theorem rs_X4_firstToSlip_32 (n : Nat) (L : AL) (st : List AV) (M : List AC) : rx_X4_firstToSlip (n + 1) 32 L st M = am_j (rx_X4_firstToSlip n) ((tAld 0 1) 32 L st M) := rfl
theorem rs_X4_firstToSlip_33 (n : Nat) (L : AL) (st : List AV) (M : List AC) : rx_X4_firstToSlip (n + 1) 33 L st M = am_j (rx_X4_firstToSlip n) ((tGf 4 1) 33 L st M) := rfl
theorem rs_X4_firstToSlip_36 (n : Nat) (L : AL) (st : List AV) (M : List AC) : rx_X4_firstToSlip (n + 1) 36 L st M = am_j (rx_X4_firstToSlip n) ((tIld 4 2) 36 L st M) := rfl
theorem rs_X4_firstToSlip_38 (n : Nat) (L : AL) (st : List AV) (M : List AC) : rx_X4_firstToSlip (n + 1) 38 L st M = am_j (rx_X4_firstToSlip n) (tIal 38 L st M) := rfl
theorem rs_X4_firstToSlip_39 (n : Nat) (L : AL) (st : List AV) (M : List AC) : rx_X4_firstToSlip (n + 1) 39 L st M = am_j (rx_X4_firstToSlip n) ((tAld 0 1) 39 L st M) := rfl
theorem rs_X4_firstToSlip_40 (n : Nat) (L : AL) (st : List AV) (M : List AC) : rx_X4_firstToSlip (n + 1) 40 L st M = am_j (rx_X4_firstToSlip n) ((tGf 4 3) 40 L st M) := rfl
theorem rs_X4_firstToSlip_43 (n : Nat) (L : AL) (st : List AV) (M : List AC) : rx_X4_firstToSlip (n + 1) 43 L st M = am_j (rx_X4_firstToSlip n) ((tIld 4 2) 43 L st M) := rfl
theorem rs_X4_firstToSlip_45 (n : Nat) (L : AL) (st : List AV) (M : List AC) : rx_X4_firstToSlip (n + 1) 45 L st M = am_j (rx_X4_firstToSlip n) (tIal 45 L st M) := rfl
theorem rs_X4_firstToSlip_46 (n : Nat) (L : AL) (st : List AV) (M : List AC) : rx_X4_firstToSlip (n + 1) 46 L st M = am_j (rx_X4_firstToSlip n) ((tI2 (fun a b => a * b)) 46 L st M) := rfl
theorem rs_X4_firstToSlip_47 (n : Nat) (L : AL) (st : List AV) (M : List AC) : rx_X4_firstToSlip (n + 1) 47 L st M = am_j (rx_X4_firstToSlip n) ((tI2 (fun a b => a - b)) 47 L st M) := rfl
theorem rs_X4_firstToSlip_48 (n : Nat) (L : AL) (st : List AV) (M : List AC) : rx_X4_firstToSlip (n + 1) 48 L st M = am_j (rx_X4_firstToSlip n) ((tIst 6 2) 48 L st M) := rfl
theorem rs_X4_firstToSlip_50 (n : Nat) (L : AL) (st : List AV) (M : List AC) : rx_X4_firstToSlip (n + 1) 50 L st M = am_j (rx_X4_firstToSlip n) ((tIld 6 2) 50 L st M) := rfl
theorem rs_X4_firstToSlip_52 (n : Nat) (L : AL) (st : List AV) (M : List AC) : rx_X4_firstToSlip (n + 1) 52 L st M = am_j (rx_X4_firstToSlip n) ((tIld 2 1) 52 L st M) := rfl
theorem rs_X4_firstToSlip_53 (n : Nat) (L : AL) (st : List AV) (M : List AC) : rx_X4_firstToSlip (n + 1) 53 L st M = am_j (rx_X4_firstToSlip n) ((tCmle 62) 53 L st M) := rfl
theorem rs_X4_firstToSlip_56 (n : Nat) (L : AL) (st : List AV) (M : List AC) : rx_X4_firstToSlip (n + 1) 56 L st M = am_j (rx_X4_firstToSlip n) ((tIld 6 2) 56 L st M) := rfl
theorem rs_X4_firstToSlip_58 (n : Nat) (L : AL) (st : List AV) (M : List AC) : rx_X4_firstToSlip (n + 1) 58 L st M = am_j (rx_X4_firstToSlip n) ((tIst 2 1) 58 L st M) := rfl
theorem rs_X4_firstToSlip_59 (n : Nat) (L : AL) (st : List AV) (M : List AC) : rx_X4_firstToSlip (n + 1) 59 L st M = am_j (rx_X4_firstToSlip n) ((tIld 4 2) 59 L st M) := rfl
theorem rs_X4_firstToSlip_61 (n : Nat) (L : AL) (st : List AV) (M : List AC) : rx_X4_firstToSlip (n + 1) 61 L st M = am_j (rx_X4_firstToSlip n) ((tIst 1 1) 61 L st M) := rfl
theorem rs_X4_firstToSlip_62 (n : Nat) (L : AL) (st : List AV) (M : List AC) : rx_X4_firstToSlip (n + 1) 62 L st M = am_j (rx_X4_firstToSlip n) ((tIld 5 2) 62 L st M) := rfl
theorem rs_X4_firstToSlip_64 (n : Nat) (L : AL) (st : List AV) (M : List AC) : rx_X4_firstToSlip (n + 1) 64 L st M = am_j (rx_X4_firstToSlip n) ((tIst 3 1) 64 L st M) := rfl
theorem rs_X4_firstToSlip_65 (n : Nat) (L : AL) (st : List AV) (M : List AC) : rx_X4_firstToSlip (n + 1) 65 L st M = am_j (rx_X4_firstToSlip n) ((tIinc 4 1) 65 L st M) := rfl
theorem rs_X4_firstToSlip_68 (n : Nat) (L : AL) (st : List AV) (M : List AC) : rx_X4_firstToSlip (n + 1) 68 L st M = am_j (rx_X4_firstToSlip n) ((tGo 14) 68 L st M) := rfl
theorem rs_X4_firstToSlip_71 (n : Nat) (L : AL) (st : List AV) (M : List AC) : rx_X4_firstToSlip (n + 1) 71 L st M = am_j (rx_X4_firstToSlip n) ((tIld 1 1) 71 L st M) := rfl
theorem rs_X4_firstToSlip_72 (n : Nat) (L : AL) (st : List AV) (M : List AC) : rx_X4_firstToSlip (n + 1) 72 L st M = am_e rI st M := rfl
theorem ri_X4_firstToSlip (c : Prop) [Decidable c] (p q n : Nat) (L : AL) (st : List AV) (M : List AC) : rx_X4_firstToSlip n (if c then p else q) L st M = if c then rx_X4_firstToSlip n p L st M else rx_X4_firstToSlip n q L st M := by split <;> rfl
theorem rm_X4_firstToSlip {n k pc : Nat} {L : AL} {st : List AV} {M : List AC} {x : Option AV × List AC} (h : rx_X4_firstToSlip n pc L st M = some x) (hk : n ≤ k) : rx_X4_firstToSlip k pc L st M = some x := am_r_mono n k h hk
def fn_X4_firstToSlip : Fn := am_fn rx_X4_firstToSlip 7
theorem fok_X4_firstToSlip : Fok mi_X4_firstToSlip fn_X4_firstToSlip := fun _ _ _ _ h => am_fok ok_X4_firstToSlip rk_X4_firstToSlip rfl h
theorem sp_X4_firstToSlip {M : List AC} {k : Nat} {st : Int} {g s d b : F4} (hs : HS M k st g s d b) (hr : SR st g s d b) : fn_X4_firstToSlip [vR k] M = some (some (vI (fs st g s d b)), M) := by
  obtain ⟨hk, h0, h1, h2, h3, h4⟩ := id hs
  obtain ⟨n1, n2, n3, n4⟩ := hs.nk
  obtain ⟨w0, ⟨wg0, wg1, wg2, wg3⟩, ⟨ws0, ws1, ws2, ws3⟩, ⟨wd0, wd1, wd2, wd3⟩, wb0, wb1, wb2, wb3⟩ := hr.wr
  have x0 := ex_rng hr 0
  have x1 := ex_rng hr 1
  have x2 := ex_rng hr 2
  have x3 := ex_rng hr 3
  have z0 : wr (ex st g s d b 0) = ex st g s d b 0 := wr_id (by omega) (by omega)
  have z1 : wr (ex st g s d b 1) = ex st g s d b 1 := wr_id (by omega) (by omega)
  have z2 : wr (ex st g s d b 2) = ex st g s d b 2 := wr_id (by omega) (by omega)
  have z3 : wr (ex st g s d b 3) = ex st g s d b 3 := wr_id (by omega) (by omega)
  have q0 : pu st s d b 3 + pu st s d b 0 - g.1 * d.1 = ex st g s d b 0 := rfl
  have q1 : pu st s d b 0 + pu st s d b 1 - g.2.1 * d.2.1 = ex st g s d b 1 := rfl
  have q2 : pu st s d b 1 + pu st s d b 2 - g.2.2.1 * d.2.2.1 = ex st g s d b 2 := rfl
  have q3 : pu st s d b 2 + pu st s d b 3 - g.2.2.2 * d.2.2.2 = ex st g s d b 3 := rfl
  unfold fs
  generalize ex st g s d b 0 = e0 at z0 q0 ⊢
  generalize ex st g s d b 1 = e1 at z1 q1 ⊢
  generalize ex st g s d b 2 = e2 at z2 q2 ⊢
  generalize ex st g s d b 3 = e3 at z3 q3 ⊢
  (refine am_fnI (tb := tb_X4_firstToSlip) (n := 300) (Nat.le_of_ble_eq_true rfl) (Nat.le_of_ble_eq_true rfl) ?_; show rx_X4_firstToSlip 300 0 _ _ _ = _)
  simp [↓ri_X4_firstToSlip, rs_X4_firstToSlip_0, rs_X4_firstToSlip_2, rs_X4_firstToSlip_3, rs_X4_firstToSlip_4, rs_X4_firstToSlip_5, rs_X4_firstToSlip_6, rs_X4_firstToSlip_7, rs_X4_firstToSlip_10, rs_X4_firstToSlip_11, rs_X4_firstToSlip_12, rs_X4_firstToSlip_14, rs_X4_firstToSlip_16, rs_X4_firstToSlip_17, rs_X4_firstToSlip_20, rs_X4_firstToSlip_21, rs_X4_firstToSlip_23, rs_X4_firstToSlip_26, rs_X4_firstToSlip_28, rs_X4_firstToSlip_29, rs_X4_firstToSlip_31, rs_X4_firstToSlip_32, rs_X4_firstToSlip_33, rs_X4_firstToSlip_36, rs_X4_firstToSlip_38, rs_X4_firstToSlip_39, rs_X4_firstToSlip_40, rs_X4_firstToSlip_43, rs_X4_firstToSlip_45, rs_X4_firstToSlip_46, rs_X4_firstToSlip_47, rs_X4_firstToSlip_48, rs_X4_firstToSlip_50, rs_X4_firstToSlip_52, rs_X4_firstToSlip_53, rs_X4_firstToSlip_56, rs_X4_firstToSlip_58, rs_X4_firstToSlip_59, rs_X4_firstToSlip_61, rs_X4_firstToSlip_62, rs_X4_firstToSlip_64, rs_X4_firstToSlip_65, rs_X4_firstToSlip_68, rs_X4_firstToSlip_71, rs_X4_firstToSlip_72, -List.getElem?_eq_getElem, am_js, am_e, am_in, am_sl, rI, rZ, rV, rJ, rA, rC, kI, kJ, kR, am_one, am_nl, am_w8, tIc, tLc, tNul, tIld, tLld, tAld, tIst, tLst, tAst, tIinc, tI2, tDv, tL2, tLrem, tLs, tLcmp, tI2l, tL2i, tI2c, tDup, tDup2, tPop, tGo, tIfeq, tIfne, tIflt, tIfge, tIfgt, tIfle, tCmeq, tCmne, tCmlt, tCmge, tCmgt, tCmle, tNu, tTs, tGf, tPf, tGs, tIal, tIas, tBal, tBas, tAln, tSv, tSc, tSb, tSl, tSk, tCv, tCs, tCt, tMx, tMn, wr_10000, wr_100000, wr_1000000, wr_10000000, wr_100000000, wr_2400, wr_9999, wr_0, wr_1, wr_2, wr_3, wr_4, wr_5, wr_6, wr_7, wr_8, wr_9, wr_10, wr_11, wr_12, wr_13, wr_14, wr_15, wr_16, wr_17, wr_18, wr_19, wr_20, wr_21, wr_22, wr_23, wr_24, wr_25, wr_26, wr_27, wr_28, wr_29, wr_30, wr_31, wr_32, wr_33, wr_34, wr_35, wr_36, wr_37, wr_38, wr_39, wr_40, wr_41, wr_42, wr_43, wr_44, wr_45, wr_46, wr_47, wr_48, wr_49, wr_50, wr_51, wr_52, wr_53, wr_54, wr_55, wr_56, wr_57, wr_58, wr_59, wr_60, wr_61, wr_62, wr_63, wr_99, wr_100, wr_192, wr_255, wr_256, wr_343, wr_999, wr_1000, wr_2401, wr_2147483647, wr_65535, wr_m1, wr_m2, wr_m3, wr_m4, wr_m9, ak_1000, ak_1001, ak_1002, ak_0, ak_1, ak_2, ak_3, ak_4, ak_5, ak_6, ak_7, ak_8, ak_9, ak_10, ak_11, ak_12, ak_13, ak_14, ak_15, ak_16, ak_17, ak_18, ak_19, ak_20, ak_21, ak_22, ak_23, ak_24, ak_25, ak_26, ak_27, ak_28, ak_29, ak_30, ak_31, ak_32, ak_33, ak_34, ak_35, ak_36, ak_37, ak_38, ak_39, ak_40, ak_41, ak_42, ak_43, ak_44, ak_45, ak_46, ak_47, h0, h1, h2, h3, h4, n1, n2, n3, n4, sp_X4_pullOf hs hr, q0, q1, q2, q3, z0, z1, z2, z3]
  unfold fm
  dsimp only
  (repeat' split) <;> first | rfl | omega
end
