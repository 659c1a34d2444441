noncomputable section
abbrev mi_X4_rowsFrom : Mi := (yX4_rowsFrom, cX4_rowsFrom, 7, some .int, 4)
theorem mf_X4_rowsFrom : am_mf mi_X4_rowsFrom 1 := ⟨w_co_X4_rowsFrom, w_in_X4, ⟨by decide +kernel, by decide +kernel⟩, by decide +kernel, by decide⟩
def tb_X4_rowsFrom : List (Nat × Tr) := [(0, tIc 0 1), (1, tIst 2 1), (2, tIld 1 1), (3, tIst 3 1), (4, tIld 3 1), (5, tIc 6 2), (7, tCmgt 112), (10, tAld 0 1), (11, tGf 4 3), (14, tIc 0 1), (15, tIld 3 1), (16, tIas), (17, tIld 1 1), (18, tIst 4 2), (20, tIld 4 2), (22, tIc 6 2), (24, tCmgt 106), (27, tAld 0 1), (28, tGf 4 3), (31, tIc 1 1), (32, tIld 4 2), (34, tIas), (35, tIld 1 1), (36, tIst 5 2), (38, tIld 5 2), (40, tIc 6 2), (42, tCmgt 100), (45, tAld 0 1), (46, tGf 4 3), (49, tIc 2 1), (50, tIld 5 2), (52, tIas), (53, tIld 1 1), (54, tIst 6 2), (56, tIld 6 2), (58, tIc 6 2), (60, tCmgt 94), (63, tAld 0 1), (64, tGf 4 3), (67, tIc 3 1), (68, tIld 6 2), (70, tIas), (71, tIld 2 1), (72, tAld 0 1), (73, tCv 4 0 fn_X4_firstToSlip), (76, tIc (-9) 2), (78, tCmne 85), (81, tIc 1 1), (82, tGo 86), (85, tIc 0 1), (86, tI2 (fun a b => a + b)), (87, tIst 2 1), (88, tIinc 6 1), (91, tGo 56), (94, tIinc 5 1), (97, tGo 38), (100, tIinc 4 1), (103, tGo 20), (106, tIinc 3 1), (109, tGo 4), (112, tIld 2 1)]
theorem ok_X4_rowsFrom : Tok mi_X4_rowsFrom tb_X4_rowsFrom :=
  Tc (sd_iconst rfl dX4_rowsFrom_0) <|
  Tc (sd_istore_n dX4_rowsFrom_1) <|
  Tc (sd_iload_n dX4_rowsFrom_2) <|
  Tc (sd_istore_n dX4_rowsFrom_3) <|
  Tc (sd_iload_n dX4_rowsFrom_4) <|
  Tc (sd_bipush (by decide +kernel) dX4_rowsFrom_5) <|
  Tc (sd_cm_gt (by decide) dX4_rowsFrom_7) <|
  Tc (sd_aload_n dX4_rowsFrom_10) <|
  Tc (sd_getf (T := TX4) rfl giX4 (by decide) w_fl_X4_22 dX4_rowsFrom_11) <|
  Tc (sd_iconst rfl dX4_rowsFrom_14) <|
  Tc (sd_iload_n dX4_rowsFrom_15) <|
  Tc (sd_ias dX4_rowsFrom_16) <|
  Tc (sd_iload_n dX4_rowsFrom_17) <|
  Tc (sd_istore dX4_rowsFrom_18) <|
  Tc (sd_iload dX4_rowsFrom_20) <|
  Tc (sd_bipush (by decide +kernel) dX4_rowsFrom_22) <|
  Tc (sd_cm_gt (by decide) dX4_rowsFrom_24) <|
  Tc (sd_aload_n dX4_rowsFrom_27) <|
  Tc (sd_getf (T := TX4) rfl giX4 (by decide) w_fl_X4_22 dX4_rowsFrom_28) <|
  Tc (sd_iconst rfl dX4_rowsFrom_31) <|
  Tc (sd_iload dX4_rowsFrom_32) <|
  Tc (sd_ias dX4_rowsFrom_34) <|
  Tc (sd_iload_n dX4_rowsFrom_35) <|
  Tc (sd_istore dX4_rowsFrom_36) <|
  Tc (sd_iload dX4_rowsFrom_38) <|
  Tc (sd_bipush (by decide +kernel) dX4_rowsFrom_40) <|
  Tc (sd_cm_gt (by decide) dX4_rowsFrom_42) <|
  Tc (sd_aload_n dX4_rowsFrom_45) <|
  Tc (sd_getf (T := TX4) rfl giX4 (by decide) w_fl_X4_22 dX4_rowsFrom_46) <|
  Tc (sd_iconst rfl dX4_rowsFrom_49) <|
  Tc (sd_iload dX4_rowsFrom_50) <|
  Tc (sd_ias dX4_rowsFrom_52) <|
  Tc (sd_iload_n dX4_rowsFrom_53) <|
  Tc (sd_istore dX4_rowsFrom_54) <|
  Tc (sd_iload dX4_rowsFrom_56) <|
  Tc (sd_bipush (by decide +kernel) dX4_rowsFrom_58) <|
  Tc (sd_cm_gt (by decide) dX4_rowsFrom_60) <|
  Tc (sd_aload_n dX4_rowsFrom_63) <|
  Tc (sd_getf (T := TX4) rfl giX4 (by decide) w_fl_X4_22 dX4_rowsFrom_64) <|
  Tc (sd_iconst rfl dX4_rowsFrom_67) <|
  Tc (sd_iload dX4_rowsFrom_68) <|
  Tc (sd_ias dX4_rowsFrom_70) <|
  Tc (sd_iload_n dX4_rowsFrom_71) <|
  Tc (sd_aload_n dX4_rowsFrom_72) <|
  Tc (sd_cv (T := TX4) fok_X4_firstToSlip mf_X4_firstToSlip rfl w_ml_X4_42 w_im_X4_firstToSlip w_se_X4_firstToSlip (by decide) dX4_rowsFrom_73) <|
  Tc (sd_bipush (by decide +kernel) dX4_rowsFrom_76) <|
  Tc (sd_cm_ne (by decide) dX4_rowsFrom_78) <|
  Tc (sd_iconst rfl dX4_rowsFrom_81) <|
  Tc (sd_goto (by decide) dX4_rowsFrom_82) <|
  Tc (sd_iconst rfl dX4_rowsFrom_85) <|
  Tc (sd_iadd dX4_rowsFrom_86) <|
  Tc (sd_istore_n dX4_rowsFrom_87) <|
  Tc (sd_iinc dX4_rowsFrom_88) <|
  Tc (sd_goto (by decide) dX4_rowsFrom_91) <|
  Tc (sd_iinc dX4_rowsFrom_94) <|
  Tc (sd_goto (by decide) dX4_rowsFrom_97) <|
  Tc (sd_iinc dX4_rowsFrom_100) <|
  Tc (sd_goto (by decide) dX4_rowsFrom_103) <|
  Tc (sd_iinc dX4_rowsFrom_106) <|
  Tc (sd_goto (by decide) dX4_rowsFrom_109) <|
  Tc (sd_iload_n dX4_rowsFrom_112) <|
  Tn
theorem rk_X4_rowsFrom : Rok mi_X4_rowsFrom rI [113] := rk_i dX4_rowsFrom_113 <| rk_n
def rx_X4_rowsFrom : Nat → Nat → AL → List AV → List AC → Option (Option AV × List AC) := am_r tb_X4_rowsFrom rI [113]
theorem rs_X4_rowsFrom_0 (n : Nat) (L : AL) (st : List AV) (M : List AC) : rx_X4_rowsFrom (n + 1) 0 L st M = am_j (rx_X4_rowsFrom n) ((tIc 0 1) 0 L st M) := rfl
theorem rs_X4_rowsFrom_1 (n : Nat) (L : AL) (st : List AV) (M : List AC) : rx_X4_rowsFrom (n + 1) 1 L st M = am_j (rx_X4_rowsFrom n) ((tIst 2 1) 1 L st M) := rfl
theorem rs_X4_rowsFrom_2 (n : Nat) (L : AL) (st : List AV) (M : List AC) : rx_X4_rowsFrom (n + 1) 2 L st M = am_j (rx_X4_rowsFrom n) ((tIld 1 1) 2 L st M) := rfl
theorem rs_X4_rowsFrom_3 (n : Nat) (L : AL) (st : List AV) (M : List AC) : rx_X4_rowsFrom (n + 1) 3 L st M = am_j (rx_X4_rowsFrom n) ((tIst 3 1) 3 L st M) := rfl
theorem rs_X4_rowsFrom_4 (n : Nat) (L : AL) (st : List AV) (M : List AC) : rx_X4_rowsFrom (n + 1) 4 L st M = am_j (rx_X4_rowsFrom n) ((tIld 3 1) 4 L st M) := rfl
theorem rs_X4_rowsFrom_5 (n : Nat) (L : AL) (st : List AV) (M : List AC) : rx_X4_rowsFrom (n + 1) 5 L st M = am_j (rx_X4_rowsFrom n) ((tIc 6 2) 5 L st M) := rfl
theorem rs_X4_rowsFrom_7 (n : Nat) (L : AL) (st : List AV) (M : List AC) : rx_X4_rowsFrom (n + 1) 7 L st M = am_j (rx_X4_rowsFrom n) ((tCmgt 112) 7 L st M) := rfl
theorem rs_X4_rowsFrom_10 (n : Nat) (L : AL) (st : List AV) (M : List AC) : rx_X4_rowsFrom (n + 1) 10 L st M = am_j (rx_X4_rowsFrom n) ((tAld 0 1) 10 L st M) := rfl
theorem rs_X4_rowsFrom_11 (n : Nat) (L : AL) (st : List AV) (M : List AC) : rx_X4_rowsFrom (n + 1) 11 L st M = am_j (rx_X4_rowsFrom n) ((tGf 4 3) 11 L st M) := rfl
theorem rs_X4_rowsFrom_14 (n : Nat) (L : AL) (st : List AV) (M : List AC) : rx_X4_rowsFrom (n + 1) 14 L st M = am_j (rx_X4_rowsFrom n) ((tIc 0 1) 14 L st M) := rfl
theorem rs_X4_rowsFrom_15 (n : Nat) (L : AL) (st : List AV) (M : List AC) : rx_X4_rowsFrom (n + 1) 15 L st M = am_j (rx_X4_rowsFrom n) ((tIld 3 1) 15 L st M) := rfl
theorem rs_X4_rowsFrom_16 (n : Nat) (L : AL) (st : List AV) (M : List AC) : rx_X4_rowsFrom (n + 1) 16 L st M = am_j (rx_X4_rowsFrom n) (tIas 16 L st M) := rfl
theorem rs_X4_rowsFrom_17 (n : Nat) (L : AL) (st : List AV) (M : List AC) : rx_X4_rowsFrom (n + 1) 17 L st M = am_j (rx_X4_rowsFrom n) ((tIld 1 1) 17 L st M) := rfl
theorem rs_X4_rowsFrom_18 (n : Nat) (L : AL) (st : List AV) (M : List AC) : rx_X4_rowsFrom (n + 1) 18 L st M = am_j (rx_X4_rowsFrom n) ((tIst 4 2) 18 L st M) := rfl
theorem rs_X4_rowsFrom_20 (n : Nat) (L : AL) (st : List AV) (M : List AC) : rx_X4_rowsFrom (n + 1) 20 L st M = am_j (rx_X4_rowsFrom n) ((tIld 4 2) 20 L st M) := rfl
theorem rs_X4_rowsFrom_22 (n : Nat) (L : AL) (st : List AV) (M : List AC) : rx_X4_rowsFrom (n + 1) 22 L st M = am_j (rx_X4_rowsFrom n) ((tIc 6 2) 22 L st M) := rfl
theorem rs_X4_rowsFrom_24 (n : Nat) (L : AL) (st : List AV) (M : List AC) : rx_X4_rowsFrom (n + 1) 24 L st M = am_j (rx_X4_rowsFrom n) ((tCmgt 106) 24 L st M) := rfl
theorem rs_X4_rowsFrom_27 (n : Nat) (L : AL) (st : List AV) (M : List AC) : rx_X4_rowsFrom (n + 1) 27 L st M = am_j (rx_X4_rowsFrom n) ((tAld 0 1) 27 L st M) := rfl
theorem rs_X4_rowsFrom_28 (n : Nat) (L : AL) (st : List AV) (M : List AC) : rx_X4_rowsFrom (n + 1) 28 L st M = am_j (rx_X4_rowsFrom n) ((tGf 4 3) 28 L st M) := rfl
theorem rs_X4_rowsFrom_31 (n : Nat) (L : AL) (st : List AV) (M : List AC) : rx_X4_rowsFrom (n + 1) 31 L st M = am_j (rx_X4_rowsFrom n) ((tIc 1 1) 31 L st M) := rfl
theorem rs_X4_rowsFrom_32 (n : Nat) (L : AL) (st : List AV) (M : List AC) : rx_X4_rowsFrom (n + 1) 32 L st M = am_j (rx_X4_rowsFrom n) ((tIld 4 2) 32 L st M) := rfl
theorem rs_X4_rowsFrom_34 (n : Nat) (L : AL) (st : List AV) (M : List AC) : rx_X4_rowsFrom (n + 1) 34 L st M = am_j (rx_X4_rowsFrom n) (tIas 34 L st M) := rfl
theorem rs_X4_rowsFrom_35 (n : Nat) (L : AL) (st : List AV) (M : List AC) : rx_X4_rowsFrom (n + 1) 35 L st M = am_j (rx_X4_rowsFrom n) ((tIld 1 1) 35 L st M) := rfl
theorem rs_X4_rowsFrom_36 (n : Nat) (L : AL) (st : List AV) (M : List AC) : rx_X4_rowsFrom (n + 1) 36 L st M = am_j (rx_X4_rowsFrom n) ((tIst 5 2) 36 L st M) := rfl
theorem rs_X4_rowsFrom_38 (n : Nat) (L : AL) (st : List AV) (M : List AC) : rx_X4_rowsFrom (n + 1) 38 L st M = am_j (rx_X4_rowsFrom n) ((tIld 5 2) 38 L st M) := rfl
theorem rs_X4_rowsFrom_40 (n : Nat) (L : AL) (st : List AV) (M : List AC) : rx_X4_rowsFrom (n + 1) 40 L st M = am_j (rx_X4_rowsFrom n) ((tIc 6 2) 40 L st M) := rfl
theorem rs_X4_rowsFrom_42 (n : Nat) (L : AL) (st : List AV) (M : List AC) : rx_X4_rowsFrom (n + 1) 42 L st M = am_j (rx_X4_rowsFrom n) ((tCmgt 100) 42 L st M) := rfl
theorem rs_X4_rowsFrom_45 (n : Nat) (L : AL) (st : List AV) (M : List AC) : rx_X4_rowsFrom (n + 1) 45 L st M = am_j (rx_X4_rowsFrom n) ((tAld 0 1) 45 L st M) := rfl
theorem rs_X4_rowsFrom_46 (n : Nat) (L : AL) (st : List AV) (M : List AC) : rx_X4_rowsFrom (n + 1) 46 L st M = am_j (rx_X4_rowsFrom n) ((tGf 4 3) 46 L st M) := rfl
theorem rs_X4_rowsFrom_49 (n : Nat) (L : AL) (st : List AV) (M : List AC) : rx_X4_rowsFrom (n + 1) 49 L st M = am_j (rx_X4_rowsFrom n) ((tIc 2 1) 49 L st M) := rfl
theorem rs_X4_rowsFrom_50 (n : Nat) (L : AL) (st : List AV) (M : List AC) : rx_X4_rowsFrom (n + 1) 50 L st M = am_j (rx_X4_rowsFrom n) ((tIld 5 2) 50 L st M) := rfl
theorem rs_X4_rowsFrom_52 (n : Nat) (L : AL) (st : List AV) (M : List AC) : rx_X4_rowsFrom (n + 1) 52 L st M = am_j (rx_X4_rowsFrom n) (tIas 52 L st M) := rfl
theorem rs_X4_rowsFrom_53 (n : Nat) (L : AL) (st : List AV) (M : List AC) : rx_X4_rowsFrom (n + 1) 53 L st M = am_j (rx_X4_rowsFrom n) ((tIld 1 1) 53 L st M) := rfl
theorem rs_X4_rowsFrom_54 (n : Nat) (L : AL) (st : List AV) (M : List AC) : rx_X4_rowsFrom (n + 1) 54 L st M = am_j (rx_X4_rowsFrom n) ((tIst 6 2) 54 L st M) := rfl
theorem rs_X4_rowsFrom_56 (n : Nat) (L : AL) (st : List AV) (M : List AC) : rx_X4_rowsFrom (n + 1) 56 L st M = am_j (rx_X4_rowsFrom n) ((tIld 6 2) 56 L st M) := rfl
theorem rs_X4_rowsFrom_58 (n : Nat) (L : AL) (st : List AV) (M : List AC) : rx_X4_rowsFrom (n + 1) 58 L st M = am_j (rx_X4_rowsFrom n) ((tIc 6 2) 58 L st M) := rfl
theorem rs_X4_rowsFrom_60 (n : Nat) (L : AL) (st : List AV) (M : List AC) : rx_X4_rowsFrom (n + 1) 60 L st M = am_j (rx_X4_rowsFrom n) ((tCmgt 94) 60 L st M) := rfl
theorem rs_X4_rowsFrom_63 (n : Nat) (L : AL) (st : List AV) (M : List AC) : rx_X4_rowsFrom (n + 1) 63 L st M = am_j (rx_X4_rowsFrom n) ((tAld 0 1) 63 L st M) := rfl
theorem rs_X4_rowsFrom_64 (n : Nat) (L : AL) (st : List AV) (M : List AC) : rx_X4_rowsFrom (n + 1) 64 L st M = am_j (rx_X4_rowsFrom n) ((tGf 4 3) 64 L st M) := rfl
theorem rs_X4_rowsFrom_67 (n : Nat) (L : AL) (st : List AV) (M : List AC) : rx_X4_rowsFrom (n + 1) 67 L st M = am_j (rx_X4_rowsFrom n) ((tIc 3 1) 67 L st M) := rfl
theorem rs_X4_rowsFrom_68 (n : Nat) (L : AL) (st : List AV) (M : List AC) : rx_X4_rowsFrom (n + 1) 68 L st M = am_j (rx_X4_rowsFrom n) ((tIld 6 2) 68 L st M) := rfl
theorem rs_X4_rowsFrom_70 (n : Nat) (L : AL) (st : List AV) (M : List AC) : rx_X4_rowsFrom (n + 1) 70 L st M = am_j (rx_X4_rowsFrom n) (tIas 70 L st M) := rfl
theorem rs_X4_rowsFrom_71 (n : Nat) (L : AL) (st : List AV) (M : List AC) : rx_X4_rowsFrom (n + 1) 71 L st M = am_j (rx_X4_rowsFrom n) ((tIld 2 1) 71 L st M) := rfl
theorem rs_X4_rowsFrom_72 (n : Nat) (L : AL) (st : List AV) (M : List AC) : rx_X4_rowsFrom (n + 1) 72 L st M = am_j (rx_X4_rowsFrom n) ((tAld 0 1) 72 L st M) := rfl
theorem rs_X4_rowsFrom_73 (n : Nat) (L : AL) (st : List AV) (M : List AC) : rx_X4_rowsFrom (n + 1) 73 L st M = am_j (rx_X4_rowsFrom n) ((tCv 4 0 fn_X4_firstToSlip) 73 L st M) := rfl
theorem rs_X4_rowsFrom_76 (n : Nat) (L : AL) (st : List AV) (M : List AC) : rx_X4_rowsFrom (n + 1) 76 L st M = am_j (rx_X4_rowsFrom n) ((tIc (-9) 2) 76 L st M) := rfl
theorem rs_X4_rowsFrom_78 (n : Nat) (L : AL) (st : List AV) (M : List AC) : rx_X4_rowsFrom (n + 1) 78 L st M = am_j (rx_X4_rowsFrom n) ((tCmne 85) 78 L st M) := rfl
theorem rs_X4_rowsFrom_81 (n : Nat) (L : AL) (st : List AV) (M : List AC) : rx_X4_rowsFrom (n + 1) 81 L st M = am_j (rx_X4_rowsFrom n) ((tIc 1 1) 81 L st M) := rfl
theorem rs_X4_rowsFrom_82 (n : Nat) (L : AL) (st : List AV) (M : List AC) : rx_X4_rowsFrom (n + 1) 82 L st M = am_j (rx_X4_rowsFrom n) ((tGo 86) 82 L st M) := rfl
theorem rs_X4_rowsFrom_85 (n : Nat) (L : AL) (st : List AV) (M : List AC) : rx_X4_rowsFrom (n + 1) 85 L st M = am_j (rx_X4_rowsFrom n) ((tIc 0 1) 85 L st M) := rfl
theorem rs_X4_rowsFrom_86 (n : Nat) (L : AL) (st : List AV) (M : List AC) : rx_X4_rowsFrom (n + 1) 86 L st M = am_j (rx_X4_rowsFrom n) ((tI2 (fun a b => a + b)) 86 L st M) := rfl
theorem rs_X4_rowsFrom_87 (n : Nat) (L : AL) (st : List AV) (M : List AC) : rx_X4_rowsFrom (n + 1) 87 L st M = am_j (rx_X4_rowsFrom n) ((tIst 2 1) 87 L st M) := rfl
theorem rs_X4_rowsFrom_88 (n : Nat) (L : AL) (st : List AV) (M : List AC) : rx_X4_rowsFrom (n + 1) 88 L st M = am_j (rx_X4_rowsFrom n) ((tIinc 6 1) 88 L st M) := rfl
theorem rs_X4_rowsFrom_91 (n : Nat) (L : AL) (st : List AV) (M : List AC) : rx_X4_rowsFrom (n + 1) 91 L st M = am_j (rx_X4_rowsFrom n) ((tGo 56) 91 L st M) := rfl
theorem rs_X4_rowsFrom_94 (n : Nat) (L : AL) (st : List AV) (M : List AC) : rx_X4_rowsFrom (n + 1) 94 L st M = am_j (rx_X4_rowsFrom n) ((tIinc 5 1) 94 L st M) := rfl
theorem rs_X4_rowsFrom_97 (n : Nat) (L : AL) (st : List AV) (M : List AC) : rx_X4_rowsFrom (n + 1) 97 L st M = am_j (rx_X4_rowsFrom n) ((tGo 38) 97 L st M) := rfl
theorem rs_X4_rowsFrom_100 (n : Nat) (L : AL) (st : List AV) (M : List AC) : rx_X4_rowsFrom (n + 1) 100 L st M = am_j (rx_X4_rowsFrom n) ((tIinc 4 1) 100 L st M) := rfl
theorem rs_X4_rowsFrom_103 (n : Nat) (L : AL) (st : List AV) (M : List AC) : rx_X4_rowsFrom (n + 1) 103 L st M = am_j (rx_X4_rowsFrom n) ((tGo 20) 103 L st M) := rfl
theorem rs_X4_rowsFrom_106 (n : Nat) (L : AL) (st : List AV) (M : List AC) : rx_X4_rowsFrom (n + 1) 106 L st M = am_j (rx_X4_rowsFrom n) ((tIinc 3 1) 106 L st M) := rfl
theorem rs_X4_rowsFrom_109 (n : Nat) (L : AL) (st : List AV) (M : List AC) : rx_X4_rowsFrom (n + 1) 109 L st M = am_j (rx_X4_rowsFrom n) ((tGo 4) 109 L st M) := rfl
theorem rs_X4_rowsFrom_112 (n : Nat) (L : AL) (st : List AV) (M : List AC) : rx_X4_rowsFrom (n + 1) 112 L st M = am_j (rx_X4_rowsFrom n) ((tIld 2 1) 112 L st M) := rfl
theorem rs_X4_rowsFrom_113 (n : Nat) (L : AL) (st : List AV) (M : List AC) : rx_X4_rowsFrom (n + 1) 113 L st M = am_e rI st M := rfl
theorem ri_X4_rowsFrom (c : Prop) [Decidable c] (p q n : Nat) (L : AL) (st : List AV) (M : List AC) : rx_X4_rowsFrom n (if c then p else q) L st M = if c then rx_X4_rowsFrom n p L st M else rx_X4_rowsFrom n q L st M := by split <;> rfl
theorem rm_X4_rowsFrom {n k pc : Nat} {L : AL} {st : List AV} {M : List AC} {x : Option AV × List AC} (h : rx_X4_rowsFrom n pc L st M = some x) (hk : n ≤ k) : rx_X4_rowsFrom k pc L st M = some x := am_r_mono n k h hk
def fn_X4_rowsFrom : Fn := am_fn rx_X4_rowsFrom 7
theorem fok_X4_rowsFrom : Fok mi_X4_rowsFrom fn_X4_rowsFrom := fun _ _ _ _ h => am_fok ok_X4_rowsFrom rk_X4_rowsFrom rfl h
def hd (st : Int) (g s b : F4) (a c e f : Int) : Int := if fs st g s (a, c, e, f) b = -9 then 1 else 0
theorem l3_X4_rowsFrom {k : Nat} {st : Int} {g s b : F4} (m : Int) (hm : 1 ≤ m ∧ m ≤ 6) (a c e : Int) (ha : m ≤ a ∧ a ≤ 6) (hc : m ≤ c ∧ c ≤ 6) (he : m ≤ e ∧ e ≤ 6) (x : Option AV × List AC) (N : Nat) : ∀ (n : Nat) (f f' : Int) (M : List AC) (z : Int), HS M k st g s (a, c, e, f') b → (1 ≤ st ∧ st ≤ 3) ∧ i4 1 9 g ∧ i4 0 9 s ∧ i4 0 3 b → f + n = 7 → m ≤ f →
    (∀ M', HS M' k st g s (a, c, e, if n = 0 then f' else 6) b → M' = M.set (k + 3) (aI (l4 (a, c, e, if n = 0 then f' else 6))) → Ru rx_X4_rowsFrom N 94 [some (vR k), some (vI m), some (vI (z + sm (hd st g s b a c e) n f)), some (vI a), some (vI c), some (vI e), some (vI 7)] [] M' x) →
    Ru rx_X4_rowsFrom (N + 40 * n + 10) 56 [some (vR k), some (vI m), some (vI z), some (vI a), some (vI c), some (vI e), some (vI f)] [] M x
  | 0, f, f', M, z, hs, hr, hf, hmf, kk => by
    have e0 : f = 7 := by omega
    subst e0
    obtain ⟨n, hn, h⟩ := kk M hs (set_same hs.2.2.2.2.1).symm
    refine ⟨n + 9 + 1, by omega, ?_⟩
    rw [rs_X4_rowsFrom_56]
    simp only [sm, Int.add_zero] at h
    simp [↓ri_X4_rowsFrom, rs_X4_rowsFrom_0, rs_X4_rowsFrom_1, rs_X4_rowsFrom_2, rs_X4_rowsFrom_3, rs_X4_rowsFrom_4, rs_X4_rowsFrom_5, rs_X4_rowsFrom_7, rs_X4_rowsFrom_10, rs_X4_rowsFrom_11, rs_X4_rowsFrom_14, rs_X4_rowsFrom_15, rs_X4_rowsFrom_16, rs_X4_rowsFrom_17, rs_X4_rowsFrom_18, rs_X4_rowsFrom_20, rs_X4_rowsFrom_22, rs_X4_rowsFrom_24, rs_X4_rowsFrom_27, rs_X4_rowsFrom_28, rs_X4_rowsFrom_31, rs_X4_rowsFrom_32, rs_X4_rowsFrom_34, rs_X4_rowsFrom_35, rs_X4_rowsFrom_36, rs_X4_rowsFrom_38, rs_X4_rowsFrom_40, rs_X4_rowsFrom_42, rs_X4_rowsFrom_45, rs_X4_rowsFrom_46, rs_X4_rowsFrom_49, rs_X4_rowsFrom_50, rs_X4_rowsFrom_52, rs_X4_rowsFrom_53, rs_X4_rowsFrom_54, rs_X4_rowsFrom_58, rs_X4_rowsFrom_60, rs_X4_rowsFrom_63, rs_X4_rowsFrom_64, rs_X4_rowsFrom_67, rs_X4_rowsFrom_68, rs_X4_rowsFrom_70, rs_X4_rowsFrom_71, rs_X4_rowsFrom_72, rs_X4_rowsFrom_73, rs_X4_rowsFrom_76, rs_X4_rowsFrom_78, rs_X4_rowsFrom_81, rs_X4_rowsFrom_82, rs_X4_rowsFrom_85, rs_X4_rowsFrom_86, rs_X4_rowsFrom_87, rs_X4_rowsFrom_88, rs_X4_rowsFrom_91, rs_X4_rowsFrom_97, rs_X4_rowsFrom_100, rs_X4_rowsFrom_103, rs_X4_rowsFrom_106, rs_X4_rowsFrom_109, rs_X4_rowsFrom_112, rs_X4_rowsFrom_113, -List.getElem?_eq_getElem, am_js, am_e, am_in, am_sl, rI, rZ, rV, rJ, rA, rC, kI, kJ, kR, am_one, am_nl, am_w8, tIc, tLc, tNul, tIld, tLld, tAld, tIst, tLst, tAst, tIinc, tI2, tDv, tL2, tLrem, tLs, tLcmp, tI2l, tL2i, tI2c, tDup, tDup2, tPop, tGo, tIfeq, tIfne, tIflt, tIfge, tIfgt, tIfle, tCmeq, tCmne, tCmlt, tCmge, tCmgt, tCmle, tNu, tTs, tGf, tPf, tGs, tIal, tIas, tBal, tBas, tAln, tSv, tSc, tSb, tSl, tSk, tCv, tCs, tCt, tMx, tMn, wr_10000, wr_100000, wr_1000000, wr_10000000, wr_100000000, wr_2400, wr_9999, wr_0, wr_1, wr_2, wr_3, wr_4, wr_5, wr_6, wr_7, wr_8, wr_9, wr_10, wr_11, wr_12, wr_13, wr_14, wr_15, wr_16, wr_17, wr_18, wr_19, wr_20, wr_21, wr_22, wr_23, wr_24, wr_25, wr_26, wr_27, wr_28, wr_29, wr_30, wr_31, wr_32, wr_33, wr_34, wr_35, wr_36, wr_37, wr_38, wr_39, wr_40, wr_41, wr_42, wr_43, wr_44, wr_45, wr_46, wr_47, wr_48, wr_49, wr_50, wr_51, wr_52, wr_53, wr_54, wr_55, wr_56, wr_57, wr_58, wr_59, wr_60, wr_61, wr_62, wr_63, wr_99, wr_100, wr_192, wr_255, wr_256, wr_343, wr_999, wr_1000, wr_2401, wr_2147483647, wr_65535, wr_m1, wr_m2, wr_m3, wr_m4, wr_m9, ak_1000, ak_1001, ak_1002, ak_0, ak_1, ak_2, ak_3, ak_4, ak_5, ak_6, ak_7, ak_8, ak_9, ak_10, ak_11, ak_12, ak_13, ak_14, ak_15, ak_16, ak_17, ak_18, ak_19, ak_20, ak_21, ak_22, ak_23, ak_24, ak_25, ak_26, ak_27, ak_28, ak_29, ak_30, ak_31, ak_32, ak_33, ak_34, ak_35, ak_36, ak_37, ak_38, ak_39, ak_40, ak_41, ak_42, ak_43, ak_44, ak_45, ak_46, ak_47]
    exact rm_X4_rowsFrom h (by omega)
  | n + 1, f, f', M, z, hs, hr, hf, hmf, kk => by
    have wf : wr f = f := wr_id (by omega) (by omega)
    have nf : ¬ 6 < f := by omega
    obtain ⟨hk, h0', h1, h2, h3, h4⟩ := id hs
    obtain ⟨n1, n2, n3, n4⟩ := hs.nk
    have hs' := hs.setD (a, c, e, f)
    have hr' : SR st g s (a, c, e, f) b := ⟨hr.1, hr.2.1, hr.2.2.1, ⟨(⟨by omega, by omega⟩ : 0 ≤ a ∧ a ≤ 6), (⟨by omega, by omega⟩ : 0 ≤ c ∧ c ≤ 6), (⟨by omega, by omega⟩ : 0 ≤ e ∧ e ≤ 6), (⟨by omega, by omega⟩ : 0 ≤ f ∧ f ≤ 6)⟩, hr.2.2.2⟩
    have ih := l3_X4_rowsFrom m hm a c e ha hc he x N n (f + 1) f (M.set (k + 3) (aI (l4 (a, c, e, f)))) (z + hd st g s b a c e f) hs' hr (by omega) (by omega) (by
      intro M' q1 q2
      rw [List.set_set] at q2
      have e6 : (if n = 0 then f else 6) = (if n + 1 = 0 then f' else 6) := by
        by_cases h : n = 0
        · rw [if_pos h, if_neg (by omega)]; omega
        · rw [if_neg h, if_neg (by omega)]
      rw [e6] at q1 q2
      have := kk M' q1 q2
      simpa only [sm, Int.add_assoc] using this)
    obtain ⟨n', hn, h⟩ := ih
    refine ⟨n' + 39 + 1, by omega, ?_⟩
    rw [rs_X4_rowsFrom_56]
    have hfs := sp_X4_firstToSlip hs' hr'
    by_cases hq : fs st g s (a, c, e, f) b = -9
    · have hh : hd st g s b a c e f = 1 := by rw [hd, if_pos hq]
      rw [hh] at h
      rw [hq] at hfs
      simp [↓ri_X4_rowsFrom, rs_X4_rowsFrom_0, rs_X4_rowsFrom_1, rs_X4_rowsFrom_2, rs_X4_rowsFrom_3, rs_X4_rowsFrom_4, rs_X4_rowsFrom_5, rs_X4_rowsFrom_7, rs_X4_rowsFrom_10, rs_X4_rowsFrom_11, rs_X4_rowsFrom_14, rs_X4_rowsFrom_15, rs_X4_rowsFrom_16, rs_X4_rowsFrom_17, rs_X4_rowsFrom_18, rs_X4_rowsFrom_20, rs_X4_rowsFrom_22, rs_X4_rowsFrom_24, rs_X4_rowsFrom_27, rs_X4_rowsFrom_28, rs_X4_rowsFrom_31, rs_X4_rowsFrom_32, rs_X4_rowsFrom_34, rs_X4_rowsFrom_35, rs_X4_rowsFrom_36, rs_X4_rowsFrom_38, rs_X4_rowsFrom_40, rs_X4_rowsFrom_42, rs_X4_rowsFrom_45, rs_X4_rowsFrom_46, rs_X4_rowsFrom_49, rs_X4_rowsFrom_50, rs_X4_rowsFrom_52, rs_X4_rowsFrom_53, rs_X4_rowsFrom_54, rs_X4_rowsFrom_58, rs_X4_rowsFrom_60, rs_X4_rowsFrom_63, rs_X4_rowsFrom_64, rs_X4_rowsFrom_67, rs_X4_rowsFrom_68, rs_X4_rowsFrom_70, rs_X4_rowsFrom_71, rs_X4_rowsFrom_72, rs_X4_rowsFrom_73, rs_X4_rowsFrom_76, rs_X4_rowsFrom_78, rs_X4_rowsFrom_81, rs_X4_rowsFrom_82, rs_X4_rowsFrom_85, rs_X4_rowsFrom_86, rs_X4_rowsFrom_87, rs_X4_rowsFrom_88, rs_X4_rowsFrom_91, rs_X4_rowsFrom_97, rs_X4_rowsFrom_100, rs_X4_rowsFrom_103, rs_X4_rowsFrom_106, rs_X4_rowsFrom_109, rs_X4_rowsFrom_112, rs_X4_rowsFrom_113, -List.getElem?_eq_getElem, am_js, am_e, am_in, am_sl, rI, rZ, rV, rJ, rA, rC, kI, kJ, kR, am_one, am_nl, am_w8, tIc, tLc, tNul, tIld, tLld, tAld, tIst, tLst, tAst, tIinc, tI2, tDv, tL2, tLrem, tLs, tLcmp, tI2l, tL2i, tI2c, tDup, tDup2, tPop, tGo, tIfeq, tIfne, tIflt, tIfge, tIfgt, tIfle, tCmeq, tCmne, tCmlt, tCmge, tCmgt, tCmle, tNu, tTs, tGf, tPf, tGs, tIal, tIas, tBal, tBas, tAln, tSv, tSc, tSb, tSl, tSk, tCv, tCs, tCt, tMx, tMn, wr_10000, wr_100000, wr_1000000, wr_10000000, wr_100000000, wr_2400, wr_9999, wr_0, wr_1, wr_2, wr_3, wr_4, wr_5, wr_6, wr_7, wr_8, wr_9, wr_10, wr_11, wr_12, wr_13, wr_14, wr_15, wr_16, wr_17, wr_18, wr_19, wr_20, wr_21, wr_22, wr_23, wr_24, wr_25, wr_26, wr_27, wr_28, wr_29, wr_30, wr_31, wr_32, wr_33, wr_34, wr_35, wr_36, wr_37, wr_38, wr_39, wr_40, wr_41, wr_42, wr_43, wr_44, wr_45, wr_46, wr_47, wr_48, wr_49, wr_50, wr_51, wr_52, wr_53, wr_54, wr_55, wr_56, wr_57, wr_58, wr_59, wr_60, wr_61, wr_62, wr_63, wr_99, wr_100, wr_192, wr_255, wr_256, wr_343, wr_999, wr_1000, wr_2401, wr_2147483647, wr_65535, wr_m1, wr_m2, wr_m3, wr_m4, wr_m9, ak_1000, ak_1001, ak_1002, ak_0, ak_1, ak_2, ak_3, ak_4, ak_5, ak_6, ak_7, ak_8, ak_9, ak_10, ak_11, ak_12, ak_13, ak_14, ak_15, ak_16, ak_17, ak_18, ak_19, ak_20, ak_21, ak_22, ak_23, ak_24, ak_25, ak_26, ak_27, ak_28, ak_29, ak_30, ak_31, ak_32, ak_33, ak_34, ak_35, ak_36, ak_37, ak_38, ak_39, ak_40, ak_41, ak_42, ak_43, ak_44, ak_45, ak_46, ak_47, wf, nf, h0', h3, n3, hfs]
      exact rm_X4_rowsFrom h (by omega)
    · have hh : hd st g s b a c e f = 0 := by rw [hd, if_neg hq]
      rw [hh] at h
      have wq : wr (fs st g s (a, c, e, f) b) = fs st g s (a, c, e, f) b := by
        rcases fm_rng (ex st g s (a, c, e, f) b 0) (ex st g s (a, c, e, f) b 1) (ex st g s (a, c, e, f) b 2) (ex st g s (a, c, e, f) b 3) with h | h
        · exact absurd h hq
        · have h : 0 ≤ fs st g s (a, c, e, f) b ∧ fs st g s (a, c, e, f) b < 4 := h
          exact wr_id (by omega) (by omega)
      simp [↓ri_X4_rowsFrom, rs_X4_rowsFrom_0, rs_X4_rowsFrom_1, rs_X4_rowsFrom_2, rs_X4_rowsFrom_3, rs_X4_rowsFrom_4, rs_X4_rowsFrom_5, rs_X4_rowsFrom_7, rs_X4_rowsFrom_10, rs_X4_rowsFrom_11, rs_X4_rowsFrom_14, rs_X4_rowsFrom_15, rs_X4_rowsFrom_16, rs_X4_rowsFrom_17, rs_X4_rowsFrom_18, rs_X4_rowsFrom_20, rs_X4_rowsFrom_22, rs_X4_rowsFrom_24, rs_X4_rowsFrom_27, rs_X4_rowsFrom_28, rs_X4_rowsFrom_31, rs_X4_rowsFrom_32, rs_X4_rowsFrom_34, rs_X4_rowsFrom_35, rs_X4_rowsFrom_36, rs_X4_rowsFrom_38, rs_X4_rowsFrom_40, rs_X4_rowsFrom_42, rs_X4_rowsFrom_45, rs_X4_rowsFrom_46, rs_X4_rowsFrom_49, rs_X4_rowsFrom_50, rs_X4_rowsFrom_52, rs_X4_rowsFrom_53, rs_X4_rowsFrom_54, rs_X4_rowsFrom_58, rs_X4_rowsFrom_60, rs_X4_rowsFrom_63, rs_X4_rowsFrom_64, rs_X4_rowsFrom_67, rs_X4_rowsFrom_68, rs_X4_rowsFrom_70, rs_X4_rowsFrom_71, rs_X4_rowsFrom_72, rs_X4_rowsFrom_73, rs_X4_rowsFrom_76, rs_X4_rowsFrom_78, rs_X4_rowsFrom_81, rs_X4_rowsFrom_82, rs_X4_rowsFrom_85, rs_X4_rowsFrom_86, rs_X4_rowsFrom_87, rs_X4_rowsFrom_88, rs_X4_rowsFrom_91, rs_X4_rowsFrom_97, rs_X4_rowsFrom_100, rs_X4_rowsFrom_103, rs_X4_rowsFrom_106, rs_X4_rowsFrom_109, rs_X4_rowsFrom_112, rs_X4_rowsFrom_113, -List.getElem?_eq_getElem, am_js, am_e, am_in, am_sl, rI, rZ, rV, rJ, rA, rC, kI, kJ, kR, am_one, am_nl, am_w8, tIc, tLc, tNul, tIld, tLld, tAld, tIst, tLst, tAst, tIinc, tI2, tDv, tL2, tLrem, tLs, tLcmp, tI2l, tL2i, tI2c, tDup, tDup2, tPop, tGo, tIfeq, tIfne, tIflt, tIfge, tIfgt, tIfle, tCmeq, tCmne, tCmlt, tCmge, tCmgt, tCmle, tNu, tTs, tGf, tPf, tGs, tIal, tIas, tBal, tBas, tAln, tSv, tSc, tSb, tSl, tSk, tCv, tCs, tCt, tMx, tMn, wr_10000, wr_100000, wr_1000000, wr_10000000, wr_100000000, wr_2400, wr_9999, wr_0, wr_1, wr_2, wr_3, wr_4, wr_5, wr_6, wr_7, wr_8, wr_9, wr_10, wr_11, wr_12, wr_13, wr_14, wr_15, wr_16, wr_17, wr_18, wr_19, wr_20, wr_21, wr_22, wr_23, wr_24, wr_25, wr_26, wr_27, wr_28, wr_29, wr_30, wr_31, wr_32, wr_33, wr_34, wr_35, wr_36, wr_37, wr_38, wr_39, wr_40, wr_41, wr_42, wr_43, wr_44, wr_45, wr_46, wr_47, wr_48, wr_49, wr_50, wr_51, wr_52, wr_53, wr_54, wr_55, wr_56, wr_57, wr_58, wr_59, wr_60, wr_61, wr_62, wr_63, wr_99, wr_100, wr_192, wr_255, wr_256, wr_343, wr_999, wr_1000, wr_2401, wr_2147483647, wr_65535, wr_m1, wr_m2, wr_m3, wr_m4, wr_m9, ak_1000, ak_1001, ak_1002, ak_0, ak_1, ak_2, ak_3, ak_4, ak_5, ak_6, ak_7, ak_8, ak_9, ak_10, ak_11, ak_12, ak_13, ak_14, ak_15, ak_16, ak_17, ak_18, ak_19, ak_20, ak_21, ak_22, ak_23, ak_24, ak_25, ak_26, ak_27, ak_28, ak_29, ak_30, ak_31, ak_32, ak_33, ak_34, ak_35, ak_36, ak_37, ak_38, ak_39, ak_40, ak_41, ak_42, ak_43, ak_44, ak_45, ak_46, ak_47, wf, nf, h0', h3, n3, hfs, wq, hq]
      simp only [Int.add_zero] at h
      exact rm_X4_rowsFrom h (by omega)
theorem l2_X4_rowsFrom {k : Nat} {st : Int} {g s b : F4} (m : Int) (hm : 1 ≤ m ∧ m ≤ 6) (a c : Int) (ha : m ≤ a ∧ a ≤ 6) (hc : m ≤ c ∧ c ≤ 6) (x : Option AV × List AC) (N : Nat) : ∀ (n : Nat) (e e' f' : Int) (x6 : Option AV) (M : List AC) (z : Int), HS M k st g s (a, c, e', f') b → (1 ≤ st ∧ st ≤ 3) ∧ i4 1 9 g ∧ i4 0 9 s ∧ i4 0 3 b → e + n = 7 → m ≤ e →
    (∀ (M' : List AC) (x6' : Option AV), HS M' k st g s (a, c, if n = 0 then e' else 6, if n = 0 then f' else 6) b → M' = M.set (k + 3) (aI (l4 (a, c, if n = 0 then e' else 6, if n = 0 then f' else 6))) → Ru rx_X4_rowsFrom N 100 [some (vR k), some (vI m), some (vI (z + sm (fun e => sm (hd st g s b a c e) (7 - m).toNat m) n e)), some (vI a), some (vI c), some (vI 7), x6'] [] M' x) →
    Ru rx_X4_rowsFrom (N + 320 * n + 10) 38 [some (vR k), some (vI m), some (vI z), some (vI a), some (vI c), some (vI e), x6] [] M x
  | 0, e, e', f', x6, M, z, hs, hr, hf, hmf, kk => by
    have e0 : e = 7 := by omega
    subst e0
    obtain ⟨n, hn, h⟩ := kk M x6 hs (set_same hs.2.2.2.2.1).symm
    refine ⟨n + 9 + 1, by omega, ?_⟩
    rw [rs_X4_rowsFrom_38]
    simp only [sm, Int.add_zero] at h
    simp [↓ri_X4_rowsFrom, rs_X4_rowsFrom_0, rs_X4_rowsFrom_1, rs_X4_rowsFrom_2, rs_X4_rowsFrom_3, rs_X4_rowsFrom_4, rs_X4_rowsFrom_5, rs_X4_rowsFrom_7, rs_X4_rowsFrom_10, rs_X4_rowsFrom_11, rs_X4_rowsFrom_14, rs_X4_rowsFrom_15, rs_X4_rowsFrom_16, rs_X4_rowsFrom_17, rs_X4_rowsFrom_18, rs_X4_rowsFrom_20, rs_X4_rowsFrom_22, rs_X4_rowsFrom_24, rs_X4_rowsFrom_27, rs_X4_rowsFrom_28, rs_X4_rowsFrom_31, rs_X4_rowsFrom_32, rs_X4_rowsFrom_34, rs_X4_rowsFrom_35, rs_X4_rowsFrom_36, rs_X4_rowsFrom_40, rs_X4_rowsFrom_42, rs_X4_rowsFrom_45, rs_X4_rowsFrom_46, rs_X4_rowsFrom_49, rs_X4_rowsFrom_50, rs_X4_rowsFrom_52, rs_X4_rowsFrom_53, rs_X4_rowsFrom_54, rs_X4_rowsFrom_56, rs_X4_rowsFrom_58, rs_X4_rowsFrom_60, rs_X4_rowsFrom_63, rs_X4_rowsFrom_64, rs_X4_rowsFrom_67, rs_X4_rowsFrom_68, rs_X4_rowsFrom_70, rs_X4_rowsFrom_71, rs_X4_rowsFrom_72, rs_X4_rowsFrom_73, rs_X4_rowsFrom_76, rs_X4_rowsFrom_78, rs_X4_rowsFrom_81, rs_X4_rowsFrom_82, rs_X4_rowsFrom_85, rs_X4_rowsFrom_86, rs_X4_rowsFrom_87, rs_X4_rowsFrom_88, rs_X4_rowsFrom_91, rs_X4_rowsFrom_94, rs_X4_rowsFrom_97, rs_X4_rowsFrom_103, rs_X4_rowsFrom_106, rs_X4_rowsFrom_109, rs_X4_rowsFrom_112, rs_X4_rowsFrom_113, -List.getElem?_eq_getElem, am_js, am_e, am_in, am_sl, rI, rZ, rV, rJ, rA, rC, kI, kJ, kR, am_one, am_nl, am_w8, tIc, tLc, tNul, tIld, tLld, tAld, tIst, tLst, tAst, tIinc, tI2, tDv, tL2, tLrem, tLs, tLcmp, tI2l, tL2i, tI2c, tDup, tDup2, tPop, tGo, tIfeq, tIfne, tIflt, tIfge, tIfgt, tIfle, tCmeq, tCmne, tCmlt, tCmge, tCmgt, tCmle, tNu, tTs, tGf, tPf, tGs, tIal, tIas, tBal, tBas, tAln, tSv, tSc, tSb, tSl, tSk, tCv, tCs, tCt, tMx, tMn, wr_10000, wr_100000, wr_1000000, wr_10000000, wr_100000000, wr_2400, wr_9999, wr_0, wr_1, wr_2, wr_3, wr_4, wr_5, wr_6, wr_7, wr_8, wr_9, wr_10, wr_11, wr_12, wr_13, wr_14, wr_15, wr_16, wr_17, wr_18, wr_19, wr_20, wr_21, wr_22, wr_23, wr_24, wr_25, wr_26, wr_27, wr_28, wr_29, wr_30, wr_31, wr_32, wr_33, wr_34, wr_35, wr_36, wr_37, wr_38, wr_39, wr_40, wr_41, wr_42, wr_43, wr_44, wr_45, wr_46, wr_47, wr_48, wr_49, wr_50, wr_51, wr_52, wr_53, wr_54, wr_55, wr_56, wr_57, wr_58, wr_59, wr_60, wr_61, wr_62, wr_63, wr_99, wr_100, wr_192, wr_255, wr_256, wr_343, wr_999, wr_1000, wr_2401, wr_2147483647, wr_65535, wr_m1, wr_m2, wr_m3, wr_m4, wr_m9, ak_1000, ak_1001, ak_1002, ak_0, ak_1, ak_2, ak_3, ak_4, ak_5, ak_6, ak_7, ak_8, ak_9, ak_10, ak_11, ak_12, ak_13, ak_14, ak_15, ak_16, ak_17, ak_18, ak_19, ak_20, ak_21, ak_22, ak_23, ak_24, ak_25, ak_26, ak_27, ak_28, ak_29, ak_30, ak_31, ak_32, ak_33, ak_34, ak_35, ak_36, ak_37, ak_38, ak_39, ak_40, ak_41, ak_42, ak_43, ak_44, ak_45, ak_46, ak_47]
    exact rm_X4_rowsFrom h (by omega)
  | n + 1, e, e', f', x6, M, z, hs, hr, hf, hmf, kk => by
    have wf : wr e = e := wr_id (by omega) (by omega)
    have nf : ¬ 6 < e := by omega
    obtain ⟨hk, h0', h1, h2, h3, h4⟩ := id hs
    obtain ⟨n1, n2, n3, n4⟩ := hs.nk
    have hs' := hs.setD (a, c, e, f')
    have ih := l3_X4_rowsFrom m hm a c e ha hc ⟨hmf, by omega⟩ x (N + 320 * n + 10 + 10) (7 - m).toNat m f' (M.set (k + 3) (aI (l4 (a, c, e, f')))) z hs' hr (by omega) (by omega) (by
      intro M' q1 q2
      rw [List.set_set] at q2
      have hn7 : ¬ (7 - m).toNat = 0 := by omega
      simp only [hn7, if_false] at q1 q2
      obtain ⟨n2, hn2, h2⟩ := l2_X4_rowsFrom m hm a c ha hc x N n (e + 1) e 6 (some (vI 7)) M' (z + sm (hd st g s b a c e) (7 - m).toNat m) q1 hr (by omega) (by omega) (by
        intro M2 x62 p1 p2
        rw [q2, List.set_set] at p2
        have e6 : (if n = 0 then e else 6) = (6 : Int) := by
          by_cases h : n = 0
          · rw [if_pos h]; omega
          · rw [if_neg h]
        rw [e6] at p1 p2
        simp only [ite_self] at p1 p2
        have hn1 : ¬ n + 1 = 0 := by omega
        have := kk M2 x62 (by simp only [hn1, if_false]; exact p1) (by simp only [hn1, if_false]; exact p2)
        simpa only [sm, Int.add_assoc] using this)
      refine ⟨n2 + 9 + 1, by omega, ?_⟩
      rw [rs_X4_rowsFrom_94]
      simp [↓ri_X4_rowsFrom, rs_X4_rowsFrom_0, rs_X4_rowsFrom_1, rs_X4_rowsFrom_2, rs_X4_rowsFrom_3, rs_X4_rowsFrom_4, rs_X4_rowsFrom_5, rs_X4_rowsFrom_7, rs_X4_rowsFrom_10, rs_X4_rowsFrom_11, rs_X4_rowsFrom_14, rs_X4_rowsFrom_15, rs_X4_rowsFrom_16, rs_X4_rowsFrom_17, rs_X4_rowsFrom_18, rs_X4_rowsFrom_20, rs_X4_rowsFrom_22, rs_X4_rowsFrom_24, rs_X4_rowsFrom_27, rs_X4_rowsFrom_28, rs_X4_rowsFrom_31, rs_X4_rowsFrom_32, rs_X4_rowsFrom_34, rs_X4_rowsFrom_35, rs_X4_rowsFrom_36, rs_X4_rowsFrom_40, rs_X4_rowsFrom_42, rs_X4_rowsFrom_45, rs_X4_rowsFrom_46, rs_X4_rowsFrom_49, rs_X4_rowsFrom_50, rs_X4_rowsFrom_52, rs_X4_rowsFrom_53, rs_X4_rowsFrom_54, rs_X4_rowsFrom_56, rs_X4_rowsFrom_58, rs_X4_rowsFrom_60, rs_X4_rowsFrom_63, rs_X4_rowsFrom_64, rs_X4_rowsFrom_67, rs_X4_rowsFrom_68, rs_X4_rowsFrom_70, rs_X4_rowsFrom_71, rs_X4_rowsFrom_72, rs_X4_rowsFrom_73, rs_X4_rowsFrom_76, rs_X4_rowsFrom_78, rs_X4_rowsFrom_81, rs_X4_rowsFrom_82, rs_X4_rowsFrom_85, rs_X4_rowsFrom_86, rs_X4_rowsFrom_87, rs_X4_rowsFrom_88, rs_X4_rowsFrom_91, rs_X4_rowsFrom_97, rs_X4_rowsFrom_100, rs_X4_rowsFrom_103, rs_X4_rowsFrom_106, rs_X4_rowsFrom_109, rs_X4_rowsFrom_112, rs_X4_rowsFrom_113, -List.getElem?_eq_getElem, am_js, am_e, am_in, am_sl, rI, rZ, rV, rJ, rA, rC, kI, kJ, kR, am_one, am_nl, am_w8, tIc, tLc, tNul, tIld, tLld, tAld, tIst, tLst, tAst, tIinc, tI2, tDv, tL2, tLrem, tLs, tLcmp, tI2l, tL2i, tI2c, tDup, tDup2, tPop, tGo, tIfeq, tIfne, tIflt, tIfge, tIfgt, tIfle, tCmeq, tCmne, tCmlt, tCmge, tCmgt, tCmle, tNu, tTs, tGf, tPf, tGs, tIal, tIas, tBal, tBas, tAln, tSv, tSc, tSb, tSl, tSk, tCv, tCs, tCt, tMx, tMn, wr_10000, wr_100000, wr_1000000, wr_10000000, wr_100000000, wr_2400, wr_9999, wr_0, wr_1, wr_2, wr_3, wr_4, wr_5, wr_6, wr_7, wr_8, wr_9, wr_10, wr_11, wr_12, wr_13, wr_14, wr_15, wr_16, wr_17, wr_18, wr_19, wr_20, wr_21, wr_22, wr_23, wr_24, wr_25, wr_26, wr_27, wr_28, wr_29, wr_30, wr_31, wr_32, wr_33, wr_34, wr_35, wr_36, wr_37, wr_38, wr_39, wr_40, wr_41, wr_42, wr_43, wr_44, wr_45, wr_46, wr_47, wr_48, wr_49, wr_50, wr_51, wr_52, wr_53, wr_54, wr_55, wr_56, wr_57, wr_58, wr_59, wr_60, wr_61, wr_62, wr_63, wr_99, wr_100, wr_192, wr_255, wr_256, wr_343, wr_999, wr_1000, wr_2401, wr_2147483647, wr_65535, wr_m1, wr_m2, wr_m3, wr_m4, wr_m9, ak_1000, ak_1001, ak_1002, ak_0, ak_1, ak_2, ak_3, ak_4, ak_5, ak_6, ak_7, ak_8, ak_9, ak_10, ak_11, ak_12, ak_13, ak_14, ak_15, ak_16, ak_17, ak_18, ak_19, ak_20, ak_21, ak_22, ak_23, ak_24, ak_25, ak_26, ak_27, ak_28, ak_29, ak_30, ak_31, ak_32, ak_33, ak_34, ak_35, ak_36, ak_37, ak_38, ak_39, ak_40, ak_41, ak_42, ak_43, ak_44, ak_45, ak_46, ak_47]
      exact rm_X4_rowsFrom h2 (by omega))
    obtain ⟨n', hn, h⟩ := ih
    refine ⟨n' + 29 + 1, by omega, ?_⟩
    rw [rs_X4_rowsFrom_38]
    simp [↓ri_X4_rowsFrom, rs_X4_rowsFrom_0, rs_X4_rowsFrom_1, rs_X4_rowsFrom_2, rs_X4_rowsFrom_3, rs_X4_rowsFrom_4, rs_X4_rowsFrom_5, rs_X4_rowsFrom_7, rs_X4_rowsFrom_10, rs_X4_rowsFrom_11, rs_X4_rowsFrom_14, rs_X4_rowsFrom_15, rs_X4_rowsFrom_16, rs_X4_rowsFrom_17, rs_X4_rowsFrom_18, rs_X4_rowsFrom_20, rs_X4_rowsFrom_22, rs_X4_rowsFrom_24, rs_X4_rowsFrom_27, rs_X4_rowsFrom_28, rs_X4_rowsFrom_31, rs_X4_rowsFrom_32, rs_X4_rowsFrom_34, rs_X4_rowsFrom_35, rs_X4_rowsFrom_36, rs_X4_rowsFrom_40, rs_X4_rowsFrom_42, rs_X4_rowsFrom_45, rs_X4_rowsFrom_46, rs_X4_rowsFrom_49, rs_X4_rowsFrom_50, rs_X4_rowsFrom_52, rs_X4_rowsFrom_53, rs_X4_rowsFrom_54, rs_X4_rowsFrom_58, rs_X4_rowsFrom_60, rs_X4_rowsFrom_63, rs_X4_rowsFrom_64, rs_X4_rowsFrom_67, rs_X4_rowsFrom_68, rs_X4_rowsFrom_70, rs_X4_rowsFrom_71, rs_X4_rowsFrom_72, rs_X4_rowsFrom_73, rs_X4_rowsFrom_76, rs_X4_rowsFrom_78, rs_X4_rowsFrom_81, rs_X4_rowsFrom_82, rs_X4_rowsFrom_85, rs_X4_rowsFrom_86, rs_X4_rowsFrom_87, rs_X4_rowsFrom_88, rs_X4_rowsFrom_91, rs_X4_rowsFrom_94, rs_X4_rowsFrom_97, rs_X4_rowsFrom_100, rs_X4_rowsFrom_103, rs_X4_rowsFrom_106, rs_X4_rowsFrom_109, rs_X4_rowsFrom_112, rs_X4_rowsFrom_113, -List.getElem?_eq_getElem, am_js, am_e, am_in, am_sl, rI, rZ, rV, rJ, rA, rC, kI, kJ, kR, am_one, am_nl, am_w8, tIc, tLc, tNul, tIld, tLld, tAld, tIst, tLst, tAst, tIinc, tI2, tDv, tL2, tLrem, tLs, tLcmp, tI2l, tL2i, tI2c, tDup, tDup2, tPop, tGo, tIfeq, tIfne, tIflt, tIfge, tIfgt, tIfle, tCmeq, tCmne, tCmlt, tCmge, tCmgt, tCmle, tNu, tTs, tGf, tPf, tGs, tIal, tIas, tBal, tBas, tAln, tSv, tSc, tSb, tSl, tSk, tCv, tCs, tCt, tMx, tMn, wr_10000, wr_100000, wr_1000000, wr_10000000, wr_100000000, wr_2400, wr_9999, wr_0, wr_1, wr_2, wr_3, wr_4, wr_5, wr_6, wr_7, wr_8, wr_9, wr_10, wr_11, wr_12, wr_13, wr_14, wr_15, wr_16, wr_17, wr_18, wr_19, wr_20, wr_21, wr_22, wr_23, wr_24, wr_25, wr_26, wr_27, wr_28, wr_29, wr_30, wr_31, wr_32, wr_33, wr_34, wr_35, wr_36, wr_37, wr_38, wr_39, wr_40, wr_41, wr_42, wr_43, wr_44, wr_45, wr_46, wr_47, wr_48, wr_49, wr_50, wr_51, wr_52, wr_53, wr_54, wr_55, wr_56, wr_57, wr_58, wr_59, wr_60, wr_61, wr_62, wr_63, wr_99, wr_100, wr_192, wr_255, wr_256, wr_343, wr_999, wr_1000, wr_2401, wr_2147483647, wr_65535, wr_m1, wr_m2, wr_m3, wr_m4, wr_m9, ak_1000, ak_1001, ak_1002, ak_0, ak_1, ak_2, ak_3, ak_4, ak_5, ak_6, ak_7, ak_8, ak_9, ak_10, ak_11, ak_12, ak_13, ak_14, ak_15, ak_16, ak_17, ak_18, ak_19, ak_20, ak_21, ak_22, ak_23, ak_24, ak_25, ak_26, ak_27, ak_28, ak_29, ak_30, ak_31, ak_32, ak_33, ak_34, ak_35, ak_36, ak_37, ak_38, ak_39, ak_40, ak_41, ak_42, ak_43, ak_44, ak_45, ak_46, ak_47, wf, nf, h0', h3, n3]
    exact rm_X4_rowsFrom h (by omega)
theorem l1_X4_rowsFrom {k : Nat} {st : Int} {g s b : F4} (m : Int) (hm : 1 ≤ m ∧ m ≤ 6) (a : Int) (ha : m ≤ a ∧ a ≤ 6) (x : Option AV × List AC) (N : Nat) : ∀ (n : Nat) (c c' e' f' : Int) (x5 x6 : Option AV) (M : List AC) (z : Int), HS M k st g s (a, c', e', f') b → (1 ≤ st ∧ st ≤ 3) ∧ i4 1 9 g ∧ i4 0 9 s ∧ i4 0 3 b → c + n = 7 → m ≤ c →
    (∀ (M' : List AC) (x5' x6' : Option AV), HS M' k st g s (a, if n = 0 then c' else 6, if n = 0 then e' else 6, if n = 0 then f' else 6) b → M' = M.set (k + 3) (aI (l4 (a, if n = 0 then c' else 6, if n = 0 then e' else 6, if n = 0 then f' else 6))) → Ru rx_X4_rowsFrom N 106 [some (vR k), some (vI m), some (vI (z + sm (fun c => sm (fun e => sm (hd st g s b a c e) (7 - m).toNat m) (7 - m).toNat m) n c)), some (vI a), some (vI 7), x5', x6'] [] M' x) →
    Ru rx_X4_rowsFrom (N + 2000 * n + 10) 20 [some (vR k), some (vI m), some (vI z), some (vI a), some (vI c), x5, x6] [] M x
  | 0, c, c', e', f', x5, x6, M, z, hs, hr, hf, hmf, kk => by
    have e0 : c = 7 := by omega
    subst e0
    obtain ⟨n, hn, h⟩ := kk M x5 x6 hs (set_same hs.2.2.2.2.1).symm
    refine ⟨n + 9 + 1, by omega, ?_⟩
    rw [rs_X4_rowsFrom_20]
    simp only [sm, Int.add_zero] at h
    simp [↓ri_X4_rowsFrom, rs_X4_rowsFrom_0, rs_X4_rowsFrom_1, rs_X4_rowsFrom_2, rs_X4_rowsFrom_3, rs_X4_rowsFrom_4, rs_X4_rowsFrom_5, rs_X4_rowsFrom_7, rs_X4_rowsFrom_10, rs_X4_rowsFrom_11, rs_X4_rowsFrom_14, rs_X4_rowsFrom_15, rs_X4_rowsFrom_16, rs_X4_rowsFrom_17, rs_X4_rowsFrom_18, rs_X4_rowsFrom_22, rs_X4_rowsFrom_24, rs_X4_rowsFrom_27, rs_X4_rowsFrom_28, rs_X4_rowsFrom_31, rs_X4_rowsFrom_32, rs_X4_rowsFrom_34, rs_X4_rowsFrom_35, rs_X4_rowsFrom_36, rs_X4_rowsFrom_38, rs_X4_rowsFrom_40, rs_X4_rowsFrom_42, rs_X4_rowsFrom_45, rs_X4_rowsFrom_46, rs_X4_rowsFrom_49, rs_X4_rowsFrom_50, rs_X4_rowsFrom_52, rs_X4_rowsFrom_53, rs_X4_rowsFrom_54, rs_X4_rowsFrom_56, rs_X4_rowsFrom_58, rs_X4_rowsFrom_60, rs_X4_rowsFrom_63, rs_X4_rowsFrom_64, rs_X4_rowsFrom_67, rs_X4_rowsFrom_68, rs_X4_rowsFrom_70, rs_X4_rowsFrom_71, rs_X4_rowsFrom_72, rs_X4_rowsFrom_73, rs_X4_rowsFrom_76, rs_X4_rowsFrom_78, rs_X4_rowsFrom_81, rs_X4_rowsFrom_82, rs_X4_rowsFrom_85, rs_X4_rowsFrom_86, rs_X4_rowsFrom_87, rs_X4_rowsFrom_88, rs_X4_rowsFrom_91, rs_X4_rowsFrom_94, rs_X4_rowsFrom_97, rs_X4_rowsFrom_100, rs_X4_rowsFrom_103, rs_X4_rowsFrom_109, rs_X4_rowsFrom_112, rs_X4_rowsFrom_113, -List.getElem?_eq_getElem, am_js, am_e, am_in, am_sl, rI, rZ, rV, rJ, rA, rC, kI, kJ, kR, am_one, am_nl, am_w8, tIc, tLc, tNul, tIld, tLld, tAld, tIst, tLst, tAst, tIinc, tI2, tDv, tL2, tLrem, tLs, tLcmp, tI2l, tL2i, tI2c, tDup, tDup2, tPop, tGo, tIfeq, tIfne, tIflt, tIfge, tIfgt, tIfle, tCmeq, tCmne, tCmlt, tCmge, tCmgt, tCmle, tNu, tTs, tGf, tPf, tGs, tIal, tIas, tBal, tBas, tAln, tSv, tSc, tSb, tSl, tSk, tCv, tCs, tCt, tMx, tMn, wr_10000, wr_100000, wr_1000000, wr_10000000, wr_100000000, wr_2400, wr_9999, wr_0, wr_1, wr_2, wr_3, wr_4, wr_5, wr_6, wr_7, wr_8, wr_9, wr_10, wr_11, wr_12, wr_13, wr_14, wr_15, wr_16, wr_17, wr_18, wr_19, wr_20, wr_21, wr_22, wr_23, wr_24, wr_25, wr_26, wr_27, wr_28, wr_29, wr_30, wr_31, wr_32, wr_33, wr_34, wr_35, wr_36, wr_37, wr_38, wr_39, wr_40, wr_41, wr_42, wr_43, wr_44, wr_45, wr_46, wr_47, wr_48, wr_49, wr_50, wr_51, wr_52, wr_53, wr_54, wr_55, wr_56, wr_57, wr_58, wr_59, wr_60, wr_61, wr_62, wr_63, wr_99, wr_100, wr_192, wr_255, wr_256, wr_343, wr_999, wr_1000, wr_2401, wr_2147483647, wr_65535, wr_m1, wr_m2, wr_m3, wr_m4, wr_m9, ak_1000, ak_1001, ak_1002, ak_0, ak_1, ak_2, ak_3, ak_4, ak_5, ak_6, ak_7, ak_8, ak_9, ak_10, ak_11, ak_12, ak_13, ak_14, ak_15, ak_16, ak_17, ak_18, ak_19, ak_20, ak_21, ak_22, ak_23, ak_24, ak_25, ak_26, ak_27, ak_28, ak_29, ak_30, ak_31, ak_32, ak_33, ak_34, ak_35, ak_36, ak_37, ak_38, ak_39, ak_40, ak_41, ak_42, ak_43, ak_44, ak_45, ak_46, ak_47]
    exact rm_X4_rowsFrom h (by omega)
  | n + 1, c, c', e', f', x5, x6, M, z, hs, hr, hf, hmf, kk => by
    have wf : wr c = c := wr_id (by omega) (by omega)
    have nf : ¬ 6 < c := by omega
    obtain ⟨hk, h0', h1, h2, h3, h4⟩ := id hs
    obtain ⟨n1, n2, n3, n4⟩ := hs.nk
    have hs' := hs.setD (a, c, e', f')
    have ih := l2_X4_rowsFrom m hm a c ha ⟨hmf, by omega⟩ x (N + 2000 * n + 10 + 10) (7 - m).toNat m e' f' x6 (M.set (k + 3) (aI (l4 (a, c, e', f')))) z hs' hr (by omega) (by omega) (by
      intro M' y6 q1 q2
      rw [List.set_set] at q2
      have hn7 : ¬ (7 - m).toNat = 0 := by omega
      simp only [hn7, if_false] at q1 q2
      obtain ⟨n2, hn2, h2⟩ := l1_X4_rowsFrom m hm a ha x N n (c + 1) c 6 6 (some (vI 7)) (y6) M' (z + sm (fun e => sm (hd st g s b a c e) (7 - m).toNat m) (7 - m).toNat m) q1 hr (by omega) (by omega) (by
        intro M2 x52 x62 p1 p2
        rw [q2, List.set_set] at p2
        have e6 : (if n = 0 then c else 6) = (6 : Int) := by
          by_cases h : n = 0
          · rw [if_pos h]; omega
          · rw [if_neg h]
        rw [e6] at p1 p2
        simp only [ite_self] at p1 p2
        have hn1 : ¬ n + 1 = 0 := by omega
        have := kk M2 x52 x62 (by simp only [hn1, if_false]; exact p1) (by simp only [hn1, if_false]; exact p2)
        simpa only [sm, Int.add_assoc] using this)
      refine ⟨n2 + 9 + 1, by omega, ?_⟩
      rw [rs_X4_rowsFrom_100]
      simp [↓ri_X4_rowsFrom, rs_X4_rowsFrom_0, rs_X4_rowsFrom_1, rs_X4_rowsFrom_2, rs_X4_rowsFrom_3, rs_X4_rowsFrom_4, rs_X4_rowsFrom_5, rs_X4_rowsFrom_7, rs_X4_rowsFrom_10, rs_X4_rowsFrom_11, rs_X4_rowsFrom_14, rs_X4_rowsFrom_15, rs_X4_rowsFrom_16, rs_X4_rowsFrom_17, rs_X4_rowsFrom_18, rs_X4_rowsFrom_22, rs_X4_rowsFrom_24, rs_X4_rowsFrom_27, rs_X4_rowsFrom_28, rs_X4_rowsFrom_31, rs_X4_rowsFrom_32, rs_X4_rowsFrom_34, rs_X4_rowsFrom_35, rs_X4_rowsFrom_36, rs_X4_rowsFrom_38, rs_X4_rowsFrom_40, rs_X4_rowsFrom_42, rs_X4_rowsFrom_45, rs_X4_rowsFrom_46, rs_X4_rowsFrom_49, rs_X4_rowsFrom_50, rs_X4_rowsFrom_52, rs_X4_rowsFrom_53, rs_X4_rowsFrom_54, rs_X4_rowsFrom_56, rs_X4_rowsFrom_58, rs_X4_rowsFrom_60, rs_X4_rowsFrom_63, rs_X4_rowsFrom_64, rs_X4_rowsFrom_67, rs_X4_rowsFrom_68, rs_X4_rowsFrom_70, rs_X4_rowsFrom_71, rs_X4_rowsFrom_72, rs_X4_rowsFrom_73, rs_X4_rowsFrom_76, rs_X4_rowsFrom_78, rs_X4_rowsFrom_81, rs_X4_rowsFrom_82, rs_X4_rowsFrom_85, rs_X4_rowsFrom_86, rs_X4_rowsFrom_87, rs_X4_rowsFrom_88, rs_X4_rowsFrom_91, rs_X4_rowsFrom_94, rs_X4_rowsFrom_97, rs_X4_rowsFrom_103, rs_X4_rowsFrom_106, rs_X4_rowsFrom_109, rs_X4_rowsFrom_112, rs_X4_rowsFrom_113, -List.getElem?_eq_getElem, am_js, am_e, am_in, am_sl, rI, rZ, rV, rJ, rA, rC, kI, kJ, kR, am_one, am_nl, am_w8, tIc, tLc, tNul, tIld, tLld, tAld, tIst, tLst, tAst, tIinc, tI2, tDv, tL2, tLrem, tLs, tLcmp, tI2l, tL2i, tI2c, tDup, tDup2, tPop, tGo, tIfeq, tIfne, tIflt, tIfge, tIfgt, tIfle, tCmeq, tCmne, tCmlt, tCmge, tCmgt, tCmle, tNu, tTs, tGf, tPf, tGs, tIal, tIas, tBal, tBas, tAln, tSv, tSc, tSb, tSl, tSk, tCv, tCs, tCt, tMx, tMn, wr_10000, wr_100000, wr_1000000, wr_10000000, wr_100000000, wr_2400, wr_9999, wr_0, wr_1, wr_2, wr_3, wr_4, wr_5, wr_6, wr_7, wr_8, wr_9, wr_10, wr_11, wr_12, wr_13, wr_14, wr_15, wr_16, wr_17, wr_18, wr_19, wr_20, wr_21, wr_22, wr_23, wr_24, wr_25, wr_26, wr_27, wr_28, wr_29, wr_30, wr_31, wr_32, wr_33, wr_34, wr_35, wr_36, wr_37, wr_38, wr_39, wr_40, wr_41, wr_42, wr_43, wr_44, wr_45, wr_46, wr_47, wr_48, wr_49, wr_50, wr_51, wr_52, wr_53, wr_54, wr_55, wr_56, wr_57, wr_58, wr_59, wr_60, wr_61, wr_62, wr_63, wr_99, wr_100, wr_192, wr_255, wr_256, wr_343, wr_999, wr_1000, wr_2401, wr_2147483647, wr_65535, wr_m1, wr_m2, wr_m3, wr_m4, wr_m9, ak_1000, ak_1001, ak_1002, ak_0, ak_1, ak_2, ak_3, ak_4, ak_5, ak_6, ak_7, ak_8, ak_9, ak_10, ak_11, ak_12, ak_13, ak_14, ak_15, ak_16, ak_17, ak_18, ak_19, ak_20, ak_21, ak_22, ak_23, ak_24, ak_25, ak_26, ak_27, ak_28, ak_29, ak_30, ak_31, ak_32, ak_33, ak_34, ak_35, ak_36, ak_37, ak_38, ak_39, ak_40, ak_41, ak_42, ak_43, ak_44, ak_45, ak_46, ak_47]
      exact rm_X4_rowsFrom h2 (by omega))
    obtain ⟨n', hn, h⟩ := ih
    refine ⟨n' + 29 + 1, by omega, ?_⟩
    rw [rs_X4_rowsFrom_20]
    simp [↓ri_X4_rowsFrom, rs_X4_rowsFrom_0, rs_X4_rowsFrom_1, rs_X4_rowsFrom_2, rs_X4_rowsFrom_3, rs_X4_rowsFrom_4, rs_X4_rowsFrom_5, rs_X4_rowsFrom_7, rs_X4_rowsFrom_10, rs_X4_rowsFrom_11, rs_X4_rowsFrom_14, rs_X4_rowsFrom_15, rs_X4_rowsFrom_16, rs_X4_rowsFrom_17, rs_X4_rowsFrom_18, rs_X4_rowsFrom_22, rs_X4_rowsFrom_24, rs_X4_rowsFrom_27, rs_X4_rowsFrom_28, rs_X4_rowsFrom_31, rs_X4_rowsFrom_32, rs_X4_rowsFrom_34, rs_X4_rowsFrom_35, rs_X4_rowsFrom_36, rs_X4_rowsFrom_40, rs_X4_rowsFrom_42, rs_X4_rowsFrom_45, rs_X4_rowsFrom_46, rs_X4_rowsFrom_49, rs_X4_rowsFrom_50, rs_X4_rowsFrom_52, rs_X4_rowsFrom_53, rs_X4_rowsFrom_54, rs_X4_rowsFrom_56, rs_X4_rowsFrom_58, rs_X4_rowsFrom_60, rs_X4_rowsFrom_63, rs_X4_rowsFrom_64, rs_X4_rowsFrom_67, rs_X4_rowsFrom_68, rs_X4_rowsFrom_70, rs_X4_rowsFrom_71, rs_X4_rowsFrom_72, rs_X4_rowsFrom_73, rs_X4_rowsFrom_76, rs_X4_rowsFrom_78, rs_X4_rowsFrom_81, rs_X4_rowsFrom_82, rs_X4_rowsFrom_85, rs_X4_rowsFrom_86, rs_X4_rowsFrom_87, rs_X4_rowsFrom_88, rs_X4_rowsFrom_91, rs_X4_rowsFrom_94, rs_X4_rowsFrom_97, rs_X4_rowsFrom_100, rs_X4_rowsFrom_103, rs_X4_rowsFrom_106, rs_X4_rowsFrom_109, rs_X4_rowsFrom_112, rs_X4_rowsFrom_113, -List.getElem?_eq_getElem, am_js, am_e, am_in, am_sl, rI, rZ, rV, rJ, rA, rC, kI, kJ, kR, am_one, am_nl, am_w8, tIc, tLc, tNul, tIld, tLld, tAld, tIst, tLst, tAst, tIinc, tI2, tDv, tL2, tLrem, tLs, tLcmp, tI2l, tL2i, tI2c, tDup, tDup2, tPop, tGo, tIfeq, tIfne, tIflt, tIfge, tIfgt, tIfle, tCmeq, tCmne, tCmlt, tCmge, tCmgt, tCmle, tNu, tTs, tGf, tPf, tGs, tIal, tIas, tBal, tBas, tAln, tSv, tSc, tSb, tSl, tSk, tCv, tCs, tCt, tMx, tMn, wr_10000, wr_100000, wr_1000000, wr_10000000, wr_100000000, wr_2400, wr_9999, wr_0, wr_1, wr_2, wr_3, wr_4, wr_5, wr_6, wr_7, wr_8, wr_9, wr_10, wr_11, wr_12, wr_13, wr_14, wr_15, wr_16, wr_17, wr_18, wr_19, wr_20, wr_21, wr_22, wr_23, wr_24, wr_25, wr_26, wr_27, wr_28, wr_29, wr_30, wr_31, wr_32, wr_33, wr_34, wr_35, wr_36, wr_37, wr_38, wr_39, wr_40, wr_41, wr_42, wr_43, wr_44, wr_45, wr_46, wr_47, wr_48, wr_49, wr_50, wr_51, wr_52, wr_53, wr_54, wr_55, wr_56, wr_57, wr_58, wr_59, wr_60, wr_61, wr_62, wr_63, wr_99, wr_100, wr_192, wr_255, wr_256, wr_343, wr_999, wr_1000, wr_2401, wr_2147483647, wr_65535, wr_m1, wr_m2, wr_m3, wr_m4, wr_m9, ak_1000, ak_1001, ak_1002, ak_0, ak_1, ak_2, ak_3, ak_4, ak_5, ak_6, ak_7, ak_8, ak_9, ak_10, ak_11, ak_12, ak_13, ak_14, ak_15, ak_16, ak_17, ak_18, ak_19, ak_20, ak_21, ak_22, ak_23, ak_24, ak_25, ak_26, ak_27, ak_28, ak_29, ak_30, ak_31, ak_32, ak_33, ak_34, ak_35, ak_36, ak_37, ak_38, ak_39, ak_40, ak_41, ak_42, ak_43, ak_44, ak_45, ak_46, ak_47, wf, nf, h0', h3, n3]
    exact rm_X4_rowsFrom h (by omega)
theorem l0_X4_rowsFrom {k : Nat} {st : Int} {g s b : F4} (m : Int) (hm : 1 ≤ m ∧ m ≤ 6)  (x : Option AV × List AC) (N : Nat) : ∀ (n : Nat) (a a' c' e' f' : Int) (x4 x5 x6 : Option AV) (M : List AC) (z : Int), HS M k st g s (a', c', e', f') b → (1 ≤ st ∧ st ≤ 3) ∧ i4 1 9 g ∧ i4 0 9 s ∧ i4 0 3 b → a + n = 7 → m ≤ a →
    (∀ (M' : List AC) (x4' x5' x6' : Option AV), HS M' k st g s (if n = 0 then a' else 6, if n = 0 then c' else 6, if n = 0 then e' else 6, if n = 0 then f' else 6) b → M' = M.set (k + 3) (aI (l4 (if n = 0 then a' else 6, if n = 0 then c' else 6, if n = 0 then e' else 6, if n = 0 then f' else 6))) → Ru rx_X4_rowsFrom N 112 [some (vR k), some (vI m), some (vI (z + sm (fun a => sm (fun c => sm (fun e => sm (hd st g s b a c e) (7 - m).toNat m) (7 - m).toNat m) (7 - m).toNat m) n a)), some (vI 7), x4', x5', x6'] [] M' x) →
    Ru rx_X4_rowsFrom (N + 13000 * n + 10) 4 [some (vR k), some (vI m), some (vI z), some (vI a), x4, x5, x6] [] M x
  | 0, a, a', c', e', f', x4, x5, x6, M, z, hs, hr, hf, hmf, kk => by
    have e0 : a = 7 := by omega
    subst e0
    obtain ⟨n, hn, h⟩ := kk M x4 x5 x6 hs (set_same hs.2.2.2.2.1).symm
    refine ⟨n + 9 + 1, by omega, ?_⟩
    rw [rs_X4_rowsFrom_4]
    simp only [sm, Int.add_zero] at h
    simp [↓ri_X4_rowsFrom, rs_X4_rowsFrom_0, rs_X4_rowsFrom_1, rs_X4_rowsFrom_2, rs_X4_rowsFrom_3, rs_X4_rowsFrom_5, rs_X4_rowsFrom_7, rs_X4_rowsFrom_10, rs_X4_rowsFrom_11, rs_X4_rowsFrom_14, rs_X4_rowsFrom_15, rs_X4_rowsFrom_16, rs_X4_rowsFrom_17, rs_X4_rowsFrom_18, rs_X4_rowsFrom_20, rs_X4_rowsFrom_22, rs_X4_rowsFrom_24, rs_X4_rowsFrom_27, rs_X4_rowsFrom_28, rs_X4_rowsFrom_31, rs_X4_rowsFrom_32, rs_X4_rowsFrom_34, rs_X4_rowsFrom_35, rs_X4_rowsFrom_36, rs_X4_rowsFrom_38, rs_X4_rowsFrom_40, rs_X4_rowsFrom_42, rs_X4_rowsFrom_45, rs_X4_rowsFrom_46, rs_X4_rowsFrom_49, rs_X4_rowsFrom_50, rs_X4_rowsFrom_52, rs_X4_rowsFrom_53, rs_X4_rowsFrom_54, rs_X4_rowsFrom_56, rs_X4_rowsFrom_58, rs_X4_rowsFrom_60, rs_X4_rowsFrom_63, rs_X4_rowsFrom_64, rs_X4_rowsFrom_67, rs_X4_rowsFrom_68, rs_X4_rowsFrom_70, rs_X4_rowsFrom_71, rs_X4_rowsFrom_72, rs_X4_rowsFrom_73, rs_X4_rowsFrom_76, rs_X4_rowsFrom_78, rs_X4_rowsFrom_81, rs_X4_rowsFrom_82, rs_X4_rowsFrom_85, rs_X4_rowsFrom_86, rs_X4_rowsFrom_87, rs_X4_rowsFrom_88, rs_X4_rowsFrom_91, rs_X4_rowsFrom_94, rs_X4_rowsFrom_97, rs_X4_rowsFrom_100, rs_X4_rowsFrom_103, rs_X4_rowsFrom_106, rs_X4_rowsFrom_109, rs_X4_rowsFrom_113, -List.getElem?_eq_getElem, am_js, am_e, am_in, am_sl, rI, rZ, rV, rJ, rA, rC, kI, kJ, kR, am_one, am_nl, am_w8, tIc, tLc, tNul, tIld, tLld, tAld, tIst, tLst, tAst, tIinc, tI2, tDv, tL2, tLrem, tLs, tLcmp, tI2l, tL2i, tI2c, tDup, tDup2, tPop, tGo, tIfeq, tIfne, tIflt, tIfge, tIfgt, tIfle, tCmeq, tCmne, tCmlt, tCmge, tCmgt, tCmle, tNu, tTs, tGf, tPf, tGs, tIal, tIas, tBal, tBas, tAln, tSv, tSc, tSb, tSl, tSk, tCv, tCs, tCt, tMx, tMn, wr_10000, wr_100000, wr_1000000, wr_10000000, wr_100000000, wr_2400, wr_9999, wr_0, wr_1, wr_2, wr_3, wr_4, wr_5, wr_6, wr_7, wr_8, wr_9, wr_10, wr_11, wr_12, wr_13, wr_14, wr_15, wr_16, wr_17, wr_18, wr_19, wr_20, wr_21, wr_22, wr_23, wr_24, wr_25, wr_26, wr_27, wr_28, wr_29, wr_30, wr_31, wr_32, wr_33, wr_34, wr_35, wr_36, wr_37, wr_38, wr_39, wr_40, wr_41, wr_42, wr_43, wr_44, wr_45, wr_46, wr_47, wr_48, wr_49, wr_50, wr_51, wr_52, wr_53, wr_54, wr_55, wr_56, wr_57, wr_58, wr_59, wr_60, wr_61, wr_62, wr_63, wr_99, wr_100, wr_192, wr_255, wr_256, wr_343, wr_999, wr_1000, wr_2401, wr_2147483647, wr_65535, wr_m1, wr_m2, wr_m3, wr_m4, wr_m9, ak_1000, ak_1001, ak_1002, ak_0, ak_1, ak_2, ak_3, ak_4, ak_5, ak_6, ak_7, ak_8, ak_9, ak_10, ak_11, ak_12, ak_13, ak_14, ak_15, ak_16, ak_17, ak_18, ak_19, ak_20, ak_21, ak_22, ak_23, ak_24, ak_25, ak_26, ak_27, ak_28, ak_29, ak_30, ak_31, ak_32, ak_33, ak_34, ak_35, ak_36, ak_37, ak_38, ak_39, ak_40, ak_41, ak_42, ak_43, ak_44, ak_45, ak_46, ak_47]
    exact rm_X4_rowsFrom h (by omega)
  | n + 1, a, a', c', e', f', x4, x5, x6, M, z, hs, hr, hf, hmf, kk => by
    have wf : wr a = a := wr_id (by omega) (by omega)
    have nf : ¬ 6 < a := by omega
    obtain ⟨hk, h0', h1, h2, h3, h4⟩ := id hs
    obtain ⟨n1, n2, n3, n4⟩ := hs.nk
    have hs' := hs.setD (a, c', e', f')
    have ih := l1_X4_rowsFrom m hm a ⟨hmf, by omega⟩ x (N + 13000 * n + 10 + 10) (7 - m).toNat m c' e' f' x5 x6 (M.set (k + 3) (aI (l4 (a, c', e', f')))) z hs' hr (by omega) (by omega) (by
      intro M' y5 y6 q1 q2
      rw [List.set_set] at q2
      have hn7 : ¬ (7 - m).toNat = 0 := by omega
      simp only [hn7, if_false] at q1 q2
      obtain ⟨n2, hn2, h2⟩ := l0_X4_rowsFrom m hm  x N n (a + 1) a 6 6 6 (some (vI 7)) (y5) (y6) M' (z + sm (fun c => sm (fun e => sm (hd st g s b a c e) (7 - m).toNat m) (7 - m).toNat m) (7 - m).toNat m) q1 hr (by omega) (by omega) (by
        intro M2 x42 x52 x62 p1 p2
        rw [q2, List.set_set] at p2
        have e6 : (if n = 0 then a else 6) = (6 : Int) := by
          by_cases h : n = 0
          · rw [if_pos h]; omega
          · rw [if_neg h]
        rw [e6] at p1 p2
        simp only [ite_self] at p1 p2
        have hn1 : ¬ n + 1 = 0 := by omega
        have := kk M2 x42 x52 x62 (by simp only [hn1, if_false]; exact p1) (by simp only [hn1, if_false]; exact p2)
        simpa only [sm, Int.add_assoc] using this)
      refine ⟨n2 + 9 + 1, by omega, ?_⟩
      rw [rs_X4_rowsFrom_106]
      simp [↓ri_X4_rowsFrom, rs_X4_rowsFrom_0, rs_X4_rowsFrom_1, rs_X4_rowsFrom_2, rs_X4_rowsFrom_3, rs_X4_rowsFrom_5, rs_X4_rowsFrom_7, rs_X4_rowsFrom_10, rs_X4_rowsFrom_11, rs_X4_rowsFrom_14, rs_X4_rowsFrom_15, rs_X4_rowsFrom_16, rs_X4_rowsFrom_17, rs_X4_rowsFrom_18, rs_X4_rowsFrom_20, rs_X4_rowsFrom_22, rs_X4_rowsFrom_24, rs_X4_rowsFrom_27, rs_X4_rowsFrom_28, rs_X4_rowsFrom_31, rs_X4_rowsFrom_32, rs_X4_rowsFrom_34, rs_X4_rowsFrom_35, rs_X4_rowsFrom_36, rs_X4_rowsFrom_38, rs_X4_rowsFrom_40, rs_X4_rowsFrom_42, rs_X4_rowsFrom_45, rs_X4_rowsFrom_46, rs_X4_rowsFrom_49, rs_X4_rowsFrom_50, rs_X4_rowsFrom_52, rs_X4_rowsFrom_53, rs_X4_rowsFrom_54, rs_X4_rowsFrom_56, rs_X4_rowsFrom_58, rs_X4_rowsFrom_60, rs_X4_rowsFrom_63, rs_X4_rowsFrom_64, rs_X4_rowsFrom_67, rs_X4_rowsFrom_68, rs_X4_rowsFrom_70, rs_X4_rowsFrom_71, rs_X4_rowsFrom_72, rs_X4_rowsFrom_73, rs_X4_rowsFrom_76, rs_X4_rowsFrom_78, rs_X4_rowsFrom_81, rs_X4_rowsFrom_82, rs_X4_rowsFrom_85, rs_X4_rowsFrom_86, rs_X4_rowsFrom_87, rs_X4_rowsFrom_88, rs_X4_rowsFrom_91, rs_X4_rowsFrom_94, rs_X4_rowsFrom_97, rs_X4_rowsFrom_100, rs_X4_rowsFrom_103, rs_X4_rowsFrom_109, rs_X4_rowsFrom_112, rs_X4_rowsFrom_113, -List.getElem?_eq_getElem, am_js, am_e, am_in, am_sl, rI, rZ, rV, rJ, rA, rC, kI, kJ, kR, am_one, am_nl, am_w8, tIc, tLc, tNul, tIld, tLld, tAld, tIst, tLst, tAst, tIinc, tI2, tDv, tL2, tLrem, tLs, tLcmp, tI2l, tL2i, tI2c, tDup, tDup2, tPop, tGo, tIfeq, tIfne, tIflt, tIfge, tIfgt, tIfle, tCmeq, tCmne, tCmlt, tCmge, tCmgt, tCmle, tNu, tTs, tGf, tPf, tGs, tIal, tIas, tBal, tBas, tAln, tSv, tSc, tSb, tSl, tSk, tCv, tCs, tCt, tMx, tMn, wr_10000, wr_100000, wr_1000000, wr_10000000, wr_100000000, wr_2400, wr_9999, wr_0, wr_1, wr_2, wr_3, wr_4, wr_5, wr_6, wr_7, wr_8, wr_9, wr_10, wr_11, wr_12, wr_13, wr_14, wr_15, wr_16, wr_17, wr_18, wr_19, wr_20, wr_21, wr_22, wr_23, wr_24, wr_25, wr_26, wr_27, wr_28, wr_29, wr_30, wr_31, wr_32, wr_33, wr_34, wr_35, wr_36, wr_37, wr_38, wr_39, wr_40, wr_41, wr_42, wr_43, wr_44, wr_45, wr_46, wr_47, wr_48, wr_49, wr_50, wr_51, wr_52, wr_53, wr_54, wr_55, wr_56, wr_57, wr_58, wr_59, wr_60, wr_61, wr_62, wr_63, wr_99, wr_100, wr_192, wr_255, wr_256, wr_343, wr_999, wr_1000, wr_2401, wr_2147483647, wr_65535, wr_m1, wr_m2, wr_m3, wr_m4, wr_m9, ak_1000, ak_1001, ak_1002, ak_0, ak_1, ak_2, ak_3, ak_4, ak_5, ak_6, ak_7, ak_8, ak_9, ak_10, ak_11, ak_12, ak_13, ak_14, ak_15, ak_16, ak_17, ak_18, ak_19, ak_20, ak_21, ak_22, ak_23, ak_24, ak_25, ak_26, ak_27, ak_28, ak_29, ak_30, ak_31, ak_32, ak_33, ak_34, ak_35, ak_36, ak_37, ak_38, ak_39, ak_40, ak_41, ak_42, ak_43, ak_44, ak_45, ak_46, ak_47]
      exact rm_X4_rowsFrom h2 (by omega))
    obtain ⟨n', hn, h⟩ := ih
    refine ⟨n' + 29 + 1, by omega, ?_⟩
    rw [rs_X4_rowsFrom_4]
    simp [↓ri_X4_rowsFrom, rs_X4_rowsFrom_0, rs_X4_rowsFrom_1, rs_X4_rowsFrom_2, rs_X4_rowsFrom_3, rs_X4_rowsFrom_5, rs_X4_rowsFrom_7, rs_X4_rowsFrom_10, rs_X4_rowsFrom_11, rs_X4_rowsFrom_14, rs_X4_rowsFrom_15, rs_X4_rowsFrom_16, rs_X4_rowsFrom_17, rs_X4_rowsFrom_18, rs_X4_rowsFrom_22, rs_X4_rowsFrom_24, rs_X4_rowsFrom_27, rs_X4_rowsFrom_28, rs_X4_rowsFrom_31, rs_X4_rowsFrom_32, rs_X4_rowsFrom_34, rs_X4_rowsFrom_35, rs_X4_rowsFrom_36, rs_X4_rowsFrom_38, rs_X4_rowsFrom_40, rs_X4_rowsFrom_42, rs_X4_rowsFrom_45, rs_X4_rowsFrom_46, rs_X4_rowsFrom_49, rs_X4_rowsFrom_50, rs_X4_rowsFrom_52, rs_X4_rowsFrom_53, rs_X4_rowsFrom_54, rs_X4_rowsFrom_56, rs_X4_rowsFrom_58, rs_X4_rowsFrom_60, rs_X4_rowsFrom_63, rs_X4_rowsFrom_64, rs_X4_rowsFrom_67, rs_X4_rowsFrom_68, rs_X4_rowsFrom_70, rs_X4_rowsFrom_71, rs_X4_rowsFrom_72, rs_X4_rowsFrom_73, rs_X4_rowsFrom_76, rs_X4_rowsFrom_78, rs_X4_rowsFrom_81, rs_X4_rowsFrom_82, rs_X4_rowsFrom_85, rs_X4_rowsFrom_86, rs_X4_rowsFrom_87, rs_X4_rowsFrom_88, rs_X4_rowsFrom_91, rs_X4_rowsFrom_94, rs_X4_rowsFrom_97, rs_X4_rowsFrom_100, rs_X4_rowsFrom_103, rs_X4_rowsFrom_106, rs_X4_rowsFrom_109, rs_X4_rowsFrom_112, rs_X4_rowsFrom_113, -List.getElem?_eq_getElem, am_js, am_e, am_in, am_sl, rI, rZ, rV, rJ, rA, rC, kI, kJ, kR, am_one, am_nl, am_w8, tIc, tLc, tNul, tIld, tLld, tAld, tIst, tLst, tAst, tIinc, tI2, tDv, tL2, tLrem, tLs, tLcmp, tI2l, tL2i, tI2c, tDup, tDup2, tPop, tGo, tIfeq, tIfne, tIflt, tIfge, tIfgt, tIfle, tCmeq, tCmne, tCmlt, tCmge, tCmgt, tCmle, tNu, tTs, tGf, tPf, tGs, tIal, tIas, tBal, tBas, tAln, tSv, tSc, tSb, tSl, tSk, tCv, tCs, tCt, tMx, tMn, wr_10000, wr_100000, wr_1000000, wr_10000000, wr_100000000, wr_2400, wr_9999, wr_0, wr_1, wr_2, wr_3, wr_4, wr_5, wr_6, wr_7, wr_8, wr_9, wr_10, wr_11, wr_12, wr_13, wr_14, wr_15, wr_16, wr_17, wr_18, wr_19, wr_20, wr_21, wr_22, wr_23, wr_24, wr_25, wr_26, wr_27, wr_28, wr_29, wr_30, wr_31, wr_32, wr_33, wr_34, wr_35, wr_36, wr_37, wr_38, wr_39, wr_40, wr_41, wr_42, wr_43, wr_44, wr_45, wr_46, wr_47, wr_48, wr_49, wr_50, wr_51, wr_52, wr_53, wr_54, wr_55, wr_56, wr_57, wr_58, wr_59, wr_60, wr_61, wr_62, wr_63, wr_99, wr_100, wr_192, wr_255, wr_256, wr_343, wr_999, wr_1000, wr_2401, wr_2147483647, wr_65535, wr_m1, wr_m2, wr_m3, wr_m4, wr_m9, ak_1000, ak_1001, ak_1002, ak_0, ak_1, ak_2, ak_3, ak_4, ak_5, ak_6, ak_7, ak_8, ak_9, ak_10, ak_11, ak_12, ak_13, ak_14, ak_15, ak_16, ak_17, ak_18, ak_19, ak_20, ak_21, ak_22, ak_23, ak_24, ak_25, ak_26, ak_27, ak_28, ak_29, ak_30, ak_31, ak_32, ak_33, ak_34, ak_35, ak_36, ak_37, ak_38, ak_39, ak_40, ak_41, ak_42, ak_43, ak_44, ak_45, ak_46, ak_47, wf, nf, h0', h3, n3]
    exact rm_X4_rowsFrom h (by omega)
def rw4 (st : Int) (g s b : F4) (m : Int) : Int := sm (fun a => sm (fun c => sm (fun e => sm (hd st g s b a c e) (7 - m).toNat m) (7 - m).toNat m) (7 - m).toNat m) (7 - m).toNat m
theorem sp_X4_rowsFrom {M : List AC} {k : Nat} {st : Int} {g s d b : F4} (hs : HS M k st g s d b) (hr : SR st g s d b) (m : Int) (hm : 1 ≤ m ∧ m ≤ 6) : fn_X4_rowsFrom [vR k, vI m] M = some (some (vI (rw4 st g s b m)), M.set (k + 3) (aI (l4 (6, 6, 6, 6)))) := by
  obtain ⟨d0, d1, d2, d3⟩ := d
  obtain ⟨n, hn, h⟩ := l0_X4_rowsFrom m hm (some (vI (rw4 st g s b m)), M.set (k + 3) (aI (l4 (6, 6, 6, 6)))) 10 (7 - m).toNat m d0 d1 d2 d3 none none none M 0 hs ⟨hr.1, hr.2.1, hr.2.2.1, hr.2.2.2.2⟩ (by omega) (by omega) (by
    intro M' x4 x5 x6 q1 q2
    have hn7 : ¬ (7 - m).toNat = 0 := by omega
    simp only [hn7, if_false] at q1 q2
    refine ⟨9 + 1, by omega, ?_⟩
    rw [rs_X4_rowsFrom_112, q2]
    simp only [Int.zero_add]
    simp [↓ri_X4_rowsFrom, rs_X4_rowsFrom_0, rs_X4_rowsFrom_1, rs_X4_rowsFrom_2, rs_X4_rowsFrom_3, rs_X4_rowsFrom_5, rs_X4_rowsFrom_7, rs_X4_rowsFrom_10, rs_X4_rowsFrom_11, rs_X4_rowsFrom_14, rs_X4_rowsFrom_15, rs_X4_rowsFrom_16, rs_X4_rowsFrom_17, rs_X4_rowsFrom_18, rs_X4_rowsFrom_20, rs_X4_rowsFrom_22, rs_X4_rowsFrom_24, rs_X4_rowsFrom_27, rs_X4_rowsFrom_28, rs_X4_rowsFrom_31, rs_X4_rowsFrom_32, rs_X4_rowsFrom_34, rs_X4_rowsFrom_35, rs_X4_rowsFrom_36, rs_X4_rowsFrom_38, rs_X4_rowsFrom_40, rs_X4_rowsFrom_42, rs_X4_rowsFrom_45, rs_X4_rowsFrom_46, rs_X4_rowsFrom_49, rs_X4_rowsFrom_50, rs_X4_rowsFrom_52, rs_X4_rowsFrom_53, rs_X4_rowsFrom_54, rs_X4_rowsFrom_56, rs_X4_rowsFrom_58, rs_X4_rowsFrom_60, rs_X4_rowsFrom_63, rs_X4_rowsFrom_64, rs_X4_rowsFrom_67, rs_X4_rowsFrom_68, rs_X4_rowsFrom_70, rs_X4_rowsFrom_71, rs_X4_rowsFrom_72, rs_X4_rowsFrom_73, rs_X4_rowsFrom_76, rs_X4_rowsFrom_78, rs_X4_rowsFrom_81, rs_X4_rowsFrom_82, rs_X4_rowsFrom_85, rs_X4_rowsFrom_86, rs_X4_rowsFrom_87, rs_X4_rowsFrom_88, rs_X4_rowsFrom_91, rs_X4_rowsFrom_94, rs_X4_rowsFrom_97, rs_X4_rowsFrom_100, rs_X4_rowsFrom_103, rs_X4_rowsFrom_106, rs_X4_rowsFrom_109, rs_X4_rowsFrom_113, -List.getElem?_eq_getElem, am_js, am_e, am_in, am_sl, rI, rZ, rV, rJ, rA, rC, kI, kJ, kR, am_one, am_nl, am_w8, tIc, tLc, tNul, tIld, tLld, tAld, tIst, tLst, tAst, tIinc, tI2, tDv, tL2, tLrem, tLs, tLcmp, tI2l, tL2i, tI2c, tDup, tDup2, tPop, tGo, tIfeq, tIfne, tIflt, tIfge, tIfgt, tIfle, tCmeq, tCmne, tCmlt, tCmge, tCmgt, tCmle, tNu, tTs, tGf, tPf, tGs, tIal, tIas, tBal, tBas, tAln, tSv, tSc, tSb, tSl, tSk, tCv, tCs, tCt, tMx, tMn, wr_10000, wr_100000, wr_1000000, wr_10000000, wr_100000000, wr_2400, wr_9999, wr_0, wr_1, wr_2, wr_3, wr_4, wr_5, wr_6, wr_7, wr_8, wr_9, wr_10, wr_11, wr_12, wr_13, wr_14, wr_15, wr_16, wr_17, wr_18, wr_19, wr_20, wr_21, wr_22, wr_23, wr_24, wr_25, wr_26, wr_27, wr_28, wr_29, wr_30, wr_31, wr_32, wr_33, wr_34, wr_35, wr_36, wr_37, wr_38, wr_39, wr_40, wr_41, wr_42, wr_43, wr_44, wr_45, wr_46, wr_47, wr_48, wr_49, wr_50, wr_51, wr_52, wr_53, wr_54, wr_55, wr_56, wr_57, wr_58, wr_59, wr_60, wr_61, wr_62, wr_63, wr_99, wr_100, wr_192, wr_255, wr_256, wr_343, wr_999, wr_1000, wr_2401, wr_2147483647, wr_65535, wr_m1, wr_m2, wr_m3, wr_m4, wr_m9, ak_1000, ak_1001, ak_1002, ak_0, ak_1, ak_2, ak_3, ak_4, ak_5, ak_6, ak_7, ak_8, ak_9, ak_10, ak_11, ak_12, ak_13, ak_14, ak_15, ak_16, ak_17, ak_18, ak_19, ak_20, ak_21, ak_22, ak_23, ak_24, ak_25, ak_26, ak_27, ak_28, ak_29, ak_30, ak_31, ak_32, ak_33, ak_34, ak_35, ak_36, ak_37, ak_38, ak_39, ak_40, ak_41, ak_42, ak_43, ak_44, ak_45, ak_46, ak_47, rw4])
  (refine am_fnR (tb := tb_X4_rowsFrom) (N := 200000) (Nat.le_of_ble_eq_true rfl) (Nat.le_of_ble_eq_true rfl) ?_; show Ru rx_X4_rowsFrom 200000 0 _ _ _ _)
  refine ⟨n + 10, by omega, ?_⟩
  simp [↓ri_X4_rowsFrom, rs_X4_rowsFrom_0, rs_X4_rowsFrom_1, rs_X4_rowsFrom_2, rs_X4_rowsFrom_3, rs_X4_rowsFrom_5, rs_X4_rowsFrom_7, rs_X4_rowsFrom_10, rs_X4_rowsFrom_11, rs_X4_rowsFrom_14, rs_X4_rowsFrom_15, rs_X4_rowsFrom_16, rs_X4_rowsFrom_17, rs_X4_rowsFrom_18, rs_X4_rowsFrom_20, rs_X4_rowsFrom_22, rs_X4_rowsFrom_24, rs_X4_rowsFrom_27, rs_X4_rowsFrom_28, rs_X4_rowsFrom_31, rs_X4_rowsFrom_32, rs_X4_rowsFrom_34, rs_X4_rowsFrom_35, rs_X4_rowsFrom_36, rs_X4_rowsFrom_38, rs_X4_rowsFrom_40, rs_X4_rowsFrom_42, rs_X4_rowsFrom_45, rs_X4_rowsFrom_46, rs_X4_rowsFrom_49, rs_X4_rowsFrom_50, rs_X4_rowsFrom_52, rs_X4_rowsFrom_53, rs_X4_rowsFrom_54, rs_X4_rowsFrom_56, rs_X4_rowsFrom_58, rs_X4_rowsFrom_60, rs_X4_rowsFrom_63, rs_X4_rowsFrom_64, rs_X4_rowsFrom_67, rs_X4_rowsFrom_68, rs_X4_rowsFrom_70, rs_X4_rowsFrom_71, rs_X4_rowsFrom_72, rs_X4_rowsFrom_73, rs_X4_rowsFrom_76, rs_X4_rowsFrom_78, rs_X4_rowsFrom_81, rs_X4_rowsFrom_82, rs_X4_rowsFrom_85, rs_X4_rowsFrom_86, rs_X4_rowsFrom_87, rs_X4_rowsFrom_88, rs_X4_rowsFrom_91, rs_X4_rowsFrom_94, rs_X4_rowsFrom_97, rs_X4_rowsFrom_100, rs_X4_rowsFrom_103, rs_X4_rowsFrom_106, rs_X4_rowsFrom_109, rs_X4_rowsFrom_112, rs_X4_rowsFrom_113, -List.getElem?_eq_getElem, am_js, am_e, am_in, am_sl, rI, rZ, rV, rJ, rA, rC, kI, kJ, kR, am_one, am_nl, am_w8, tIc, tLc, tNul, tIld, tLld, tAld, tIst, tLst, tAst, tIinc, tI2, tDv, tL2, tLrem, tLs, tLcmp, tI2l, tL2i, tI2c, tDup, tDup2, tPop, tGo, tIfeq, tIfne, tIflt, tIfge, tIfgt, tIfle, tCmeq, tCmne, tCmlt, tCmge, tCmgt, tCmle, tNu, tTs, tGf, tPf, tGs, tIal, tIas, tBal, tBas, tAln, tSv, tSc, tSb, tSl, tSk, tCv, tCs, tCt, tMx, tMn, wr_10000, wr_100000, wr_1000000, wr_10000000, wr_100000000, wr_2400, wr_9999, wr_0, wr_1, wr_2, wr_3, wr_4, wr_5, wr_6, wr_7, wr_8, wr_9, wr_10, wr_11, wr_12, wr_13, wr_14, wr_15, wr_16, wr_17, wr_18, wr_19, wr_20, wr_21, wr_22, wr_23, wr_24, wr_25, wr_26, wr_27, wr_28, wr_29, wr_30, wr_31, wr_32, wr_33, wr_34, wr_35, wr_36, wr_37, wr_38, wr_39, wr_40, wr_41, wr_42, wr_43, wr_44, wr_45, wr_46, wr_47, wr_48, wr_49, wr_50, wr_51, wr_52, wr_53, wr_54, wr_55, wr_56, wr_57, wr_58, wr_59, wr_60, wr_61, wr_62, wr_63, wr_99, wr_100, wr_192, wr_255, wr_256, wr_343, wr_999, wr_1000, wr_2401, wr_2147483647, wr_65535, wr_m1, wr_m2, wr_m3, wr_m4, wr_m9, ak_1000, ak_1001, ak_1002, ak_0, ak_1, ak_2, ak_3, ak_4, ak_5, ak_6, ak_7, ak_8, ak_9, ak_10, ak_11, ak_12, ak_13, ak_14, ak_15, ak_16, ak_17, ak_18, ak_19, ak_20, ak_21, ak_22, ak_23, ak_24, ak_25, ak_26, ak_27, ak_28, ak_29, ak_30, ak_31, ak_32, ak_33, ak_34, ak_35, ak_36, ak_37, ak_38, ak_39, ak_40, ak_41, ak_42, ak_43, ak_44, ak_45, ak_46, ak_47]
  exact rm_X4_rowsFrom h (by omega)
end
