noncomputable section
theorem onc_dp1 {d : F4} (h : i4 0 6 d) : onc d = 4 ↔ dp1 d = 1 := by
  obtain ⟨a, b, c, e⟩ := h
  unfold onc on1 dp1
  constructor
  · intro z
    rw [if_pos]
    (repeat' split at z) <;> omega
  · intro z
    split at z
    · next q =>
      rw [if_pos (by omega), if_pos (by omega), if_pos (by omega), if_pos (by omega)]
      rfl
    · cases z
theorem onc_r4 (d : F4) : 0 ≤ onc d ∧ onc d ≤ 4 := by
  unfold onc on1
  (repeat' split) <;> omega
abbrev mi_X5_ward : Mi := (yX5_ward, cX5_ward, 5, some .int, 5)
theorem mf_X5_ward : am_mf mi_X5_ward 1 := ⟨w_co_X5_ward, w_in_X5, ⟨by decide +kernel, by decide +kernel⟩, by decide +kernel, by decide⟩
def tb_X5_ward : List (Nat × Tr) := [(0, tIld 1 1), (1, tIc 1 1), (2, tCmlt 11), (5, tIld 1 1), (6, tIc 30 2), (8, tCmle 14), (11, tIc (-2) 2), (14, tAld 0 1), (15, tGf 5 3), (18, tAld 0 1), (19, tGf 5 2), (22, tCv 4 1 fn_X4_become), (25, tIc 0 1), (26, tIst 2 1), (27, tIc 0 1), (28, tIst 3 1), (29, tIld 3 1), (30, tIld 1 1), (31, tCmge 129), (34, tAld 0 1), (35, tGf 5 3), (38, tCv 4 0 fn_X4_takeOff), (41, tIc 0 1), (42, tIst 4 2), (44, tIld 4 2), (46, tIc 4 1), (47, tCmge 104), (50, tAld 0 1), (51, tAld 0 1), (52, tGf 5 12), (55, tLc 6364136223846793005 3), (58, tL2 (fun a b => a * b)), (59, tLc 1442695040888963407 3), (62, tL2 (fun a b => a + b)), (63, tPf kJ 5 12), (66, tAld 0 1), (67, tGf 5 3), (70, tGf 4 3), (73, tIld 4 2), (75, tAld 0 1), (76, tGf 5 12), (79, tIc 33 2), (81, tLs oLushr), (82, tLc 6 3), (85, tLrem), (86, tL2i), (87, tIc 1 1), (88, tI2 (fun a b => a + b)), (89, tIas), (90, tAld 0 1), (91, tGf 5 3), (94, tCv 4 0 fn_X4_settle), (97, tPop), (98, tIinc 4 1), (101, tGo 44), (104, tIld 2 1), (105, tAld 0 1), (106, tGf 5 3), (109, tCv 4 0 fn_X4_cornersOn), (112, tIc 4 1), (113, tCmne 120), (116, tIc 1 1), (117, tGo 121), (120, tIc 0 1), (121, tI2 (fun a b => a + b)), (122, tIst 2 1), (123, tIinc 3 1), (126, tGo 29), (129, tIld 2 1)]
theorem ok_X5_ward : Tok mi_X5_ward tb_X5_ward :=
  Tc (sd_iload_n dX5_ward_0) <|
  Tc (sd_iconst rfl dX5_ward_1) <|
  Tc (sd_cm_lt (by decide) dX5_ward_2) <|
  Tc (sd_iload_n dX5_ward_5) <|
  Tc (sd_bipush (by decide +kernel) dX5_ward_6) <|
  Tc (sd_cm_le (by decide) dX5_ward_8) <|
  Tc (sd_bipush (by decide +kernel) dX5_ward_11) <|
  Tc (sd_aload_n dX5_ward_14) <|
  Tc (sd_getf (T := TX5) rfl giX5 (by decide) w_fl_X5_24 dX5_ward_15) <|
  Tc (sd_aload_n dX5_ward_18) <|
  Tc (sd_getf (T := TX5) rfl giX5 (by decide) w_fl_X5_20 dX5_ward_19) <|
  Tc (sd_cv (T := TX4) fok_X4_become mf_X4_become rfl w_ml_X5_124 w_im_X4_become w_se_X4_become (by decide) dX5_ward_22) <|
  Tc (sd_iconst rfl dX5_ward_25) <|
  Tc (sd_istore_n dX5_ward_26) <|
  Tc (sd_iconst rfl dX5_ward_27) <|
  Tc (sd_istore_n dX5_ward_28) <|
  Tc (sd_iload_n dX5_ward_29) <|
  Tc (sd_iload_n dX5_ward_30) <|
  Tc (sd_cm_ge (by decide) dX5_ward_31) <|
  Tc (sd_aload_n dX5_ward_34) <|
  Tc (sd_getf (T := TX5) rfl giX5 (by decide) w_fl_X5_24 dX5_ward_35) <|
  Tc (sd_cv (T := TX4) fok_X4_takeOff mf_X4_takeOff rfl w_ml_X5_228 w_im_X4_takeOff w_se_X4_takeOff (by decide) dX5_ward_38) <|
  Tc (sd_iconst rfl dX5_ward_41) <|
  Tc (sd_istore dX5_ward_42) <|
  Tc (sd_iload dX5_ward_44) <|
  Tc (sd_iconst rfl dX5_ward_46) <|
  Tc (sd_cm_ge (by decide) dX5_ward_47) <|
  Tc (sd_aload_n dX5_ward_50) <|
  Tc (sd_aload_n dX5_ward_51) <|
  Tc (sd_getf (T := TX5) rfl giX5 (by decide) w_fl_X5_67 dX5_ward_52) <|
  Tc (sd_ldc2 w_cl_X5_231 dX5_ward_55) <|
  Tc (sd_lmul dX5_ward_58) <|
  Tc (sd_ldc2 w_cl_X5_233 dX5_ward_59) <|
  Tc (sd_ladd dX5_ward_62) <|
  Tc (sd_putf (T := TX5) rfl giX5 (by decide) w_fl_X5_67 tyX5 tyX5_ok nmX5 (kJ_ok) rfl dX5_ward_63) <|
  Tc (sd_aload_n dX5_ward_66) <|
  Tc (sd_getf (T := TX5) rfl giX5 (by decide) w_fl_X5_24 dX5_ward_67) <|
  Tc (sd_getf (T := TX4) rfl giX4 (by decide) w_fl_X5_92 dX5_ward_70) <|
  Tc (sd_iload dX5_ward_73) <|
  Tc (sd_aload_n dX5_ward_75) <|
  Tc (sd_getf (T := TX5) rfl giX5 (by decide) w_fl_X5_67 dX5_ward_76) <|
  Tc (sd_bipush (by decide +kernel) dX5_ward_79) <|
  Tc (sd_lushr dX5_ward_81) <|
  Tc (sd_ldc2 w_cl_X5_235 dX5_ward_82) <|
  Tc (sd_lrem dX5_ward_85) <|
  Tc (sd_l2i dX5_ward_86) <|
  Tc (sd_iconst rfl dX5_ward_87) <|
  Tc (sd_iadd dX5_ward_88) <|
  Tc (sd_ias dX5_ward_89) <|
  Tc (sd_aload_n dX5_ward_90) <|
  Tc (sd_getf (T := TX5) rfl giX5 (by decide) w_fl_X5_24 dX5_ward_91) <|
  Tc (sd_cv (T := TX4) fok_X4_settle mf_X4_settle rfl w_ml_X5_138 w_im_X4_settle w_se_X4_settle (by decide) dX5_ward_94) <|
  Tc (sd_pop dX5_ward_97) <|
  Tc (sd_iinc dX5_ward_98) <|
  Tc (sd_goto (by decide) dX5_ward_101) <|
  Tc (sd_iload_n dX5_ward_104) <|
  Tc (sd_aload_n dX5_ward_105) <|
  Tc (sd_getf (T := TX5) rfl giX5 (by decide) w_fl_X5_24 dX5_ward_106) <|
  Tc (sd_cv (T := TX4) fok_X4_cornersOn mf_X4_cornersOn rfl w_ml_X5_151 w_im_X4_cornersOn w_se_X4_cornersOn (by decide) dX5_ward_109) <|
  Tc (sd_iconst rfl dX5_ward_112) <|
  Tc (sd_cm_ne (by decide) dX5_ward_113) <|
  Tc (sd_iconst rfl dX5_ward_116) <|
  Tc (sd_goto (by decide) dX5_ward_117) <|
  Tc (sd_iconst rfl dX5_ward_120) <|
  Tc (sd_iadd dX5_ward_121) <|
  Tc (sd_istore_n dX5_ward_122) <|
  Tc (sd_iinc dX5_ward_123) <|
  Tc (sd_goto (by decide) dX5_ward_126) <|
  Tc (sd_iload_n dX5_ward_129) <|
  Tn
theorem rk_X5_ward : Rok mi_X5_ward rI [13, 130] := rk_i dX5_ward_13 <| rk_i dX5_ward_130 <| rk_n
def rx_X5_ward : Nat → Nat → AL → List AV → List AC → Option (Option AV × List AC) := am_r tb_X5_ward rI [13, 130]
theorem rs_X5_ward_0 (n : Nat) (L : AL) (st : List AV) (M : List AC) : rx_X5_ward (n + 1) 0 L st M = am_j (rx_X5_ward n) ((tIld 1 1) 0 L st M) := rfl
theorem rs_X5_ward_1 (n : Nat) (L : AL) (st : List AV) (M : List AC) : rx_X5_ward (n + 1) 1 L st M = am_j (rx_X5_ward n) ((tIc 1 1) 1 L st M) := rfl
theorem rs_X5_ward_2 (n : Nat) (L : AL) (st : List AV) (M : List AC) : rx_X5_ward (n + 1) 2 L st M = am_j (rx_X5_ward n) ((tCmlt 11) 2 L st M) := rfl
theorem rs_X5_ward_5 (n : Nat) (L : AL) (st : List AV) (M : List AC) : rx_X5_ward (n + 1) 5 L st M = am_j (rx_X5_ward n) ((tIld 1 1) 5 L st M) := rfl
theorem rs_X5_ward_6 (n : Nat) (L : AL) (st : List AV) (M : List AC) : rx_X5_ward (n + 1) 6 L st M = am_j (rx_X5_ward n) ((tIc 30 2) 6 L st M) := rfl
theorem rs_X5_ward_8 (n : Nat) (L : AL) (st : List AV) (M : List AC) : rx_X5_ward (n + 1) 8 L st M = am_j (rx_X5_ward n) ((tCmle 14) 8 L st M) := rfl
theorem rs_X5_ward_11 (n : Nat) (L : AL) (st : List AV) (M : List AC) : rx_X5_ward (n + 1) 11 L st M = am_j (rx_X5_ward n) ((tIc (-2) 2) 11 L st M) := rfl
theorem rs_X5_ward_14 (n : Nat) (L : AL) (st : List AV) (M : List AC) : rx_X5_ward (n + 1) 14 L st M = am_j (rx_X5_ward n) ((tAld 0 1) 14 L st M) := rfl
theorem rs_X5_ward_15 (n : Nat) (L : AL) (st : List AV) (M : List AC) : rx_X5_ward (n + 1) 15 L st M = am_j (rx_X5_ward n) ((tGf 5 3) 15 L st M) := rfl
theorem rs_X5_ward_18 (n : Nat) (L : AL) (st : List AV) (M : List AC) : rx_X5_ward (n + 1) 18 L st M = am_j (rx_X5_ward n) ((tAld 0 1) 18 L st M) := rfl
theorem rs_X5_ward_19 (n : Nat) (L : AL) (st : List AV) (M : List AC) : rx_X5_ward (n + 1) 19 L st M = am_j (rx_X5_ward n) ((tGf 5 2) 19 L st M) := rfl
theorem rs_X5_ward_22 (n : Nat) (L : AL) (st : List AV) (M : List AC) : rx_X5_ward (n + 1) 22 L st M = am_j (rx_X5_ward n) ((tCv 4 1 fn_X4_become) 22 L st M) := rfl
theorem rs_X5_ward_25 (n : Nat) (L : AL) (st : List AV) (M : List AC) : rx_X5_ward (n + 1) 25 L st M = am_j (rx_X5_ward n) ((tIc 0 1) 25 L st M) := rfl
theorem rs_X5_ward_26 (n : Nat) (L : AL) (st : List AV) (M : List AC) : rx_X5_ward (n + 1) 26 L st M = am_j (rx_X5_ward n) ((tIst 2 1) 26 L st M) := rfl
theorem rs_X5_ward_27 (n : Nat) (L : AL) (st : List AV) (M : List AC) : rx_X5_ward (n + 1) 27 L st M = am_j (rx_X5_ward n) ((tIc 0 1) 27 L st M) := rfl
theorem rs_X5_ward_28 (n : Nat) (L : AL) (st : List AV) (M : List AC) : rx_X5_ward (n + 1) 28 L st M = am_j (rx_X5_ward n) ((tIst 3 1) 28 L st M) := rfl
theorem rs_X5_ward_29 (n : Nat) (L : AL) (st : List AV) (M : List AC) : rx_X5_ward (n + 1) 29 L st M = am_j (rx_X5_ward n) ((tIld 3 1) 29 L st M) := rfl
theorem rs_X5_ward_30 (n : Nat) (L : AL) (st : List AV) (M : List AC) : rx_X5_ward (n + 1) 30 L st M = am_j (rx_X5_ward n) ((tIld 1 1) 30 L st M) := rfl
theorem rs_X5_ward_31 (n : Nat) (L : AL) (st : List AV) (M : List AC) : rx_X5_ward (n + 1) 31 L st M = am_j (rx_X5_ward n) ((tCmge 129) 31 L st M) := rfl
theorem rs_X5_ward_34 (n : Nat) (L : AL) (st : List AV) (M : List AC) : rx_X5_ward (n + 1) 34 L st M = am_j (rx_X5_ward n) ((tAld 0 1) 34 L st M) := rfl
theorem rs_X5_ward_35 (n : Nat) (L : AL) (st : List AV) (M : List AC) : rx_X5_ward (n + 1) 35 L st M = am_j (rx_X5_ward n) ((tGf 5 3) 35 L st M) := rfl
theorem rs_X5_ward_38 (n : Nat) (L : AL) (st : List AV) (M : List AC) : rx_X5_ward (n + 1) 38 L st M = am_j (rx_X5_ward n) ((tCv 4 0 fn_X4_takeOff) 38 L st M) := rfl
theorem rs_X5_ward_41 (n : Nat) (L : AL) (st : List AV) (M : List AC) : rx_X5_ward (n + 1) 41 L st M = am_j (rx_X5_ward n) ((tIc 0 1) 41 L st M) := rfl
theorem rs_X5_ward_42 (n : Nat) (L : AL) (st : List AV) (M : List AC) : rx_X5_ward (n + 1) 42 L st M = am_j (rx_X5_ward n) ((tIst 4 2) 42 L st M) := rfl
theorem rs_X5_ward_44 (n : Nat) (L : AL) (st : List AV) (M : List AC) : rx_X5_ward (n + 1) 44 L st M = am_j (rx_X5_ward n) ((tIld 4 2) 44 L st M) := rfl
theorem rs_X5_ward_46 (n : Nat) (L : AL) (st : List AV) (M : List AC) : rx_X5_ward (n + 1) 46 L st M = am_j (rx_X5_ward n) ((tIc 4 1) 46 L st M) := rfl
theorem rs_X5_ward_47 (n : Nat) (L : AL) (st : List AV) (M : List AC) : rx_X5_ward (n + 1) 47 L st M = am_j (rx_X5_ward n) ((tCmge 104) 47 L st M) := rfl
theorem rs_X5_ward_50 (n : Nat) (L : AL) (st : List AV) (M : List AC) : rx_X5_ward (n + 1) 50 L st M = am_j (rx_X5_ward n) ((tAld 0 1) 50 L st M) := rfl
theorem rs_X5_ward_51 (n : Nat) (L : AL) (st : List AV) (M : List AC) : rx_X5_ward (n + 1) 51 L st M = am_j (rx_X5_ward n) ((tAld 0 1) 51 L st M) := rfl
theorem rs_X5_ward_52 (n : Nat) (L : AL) (st : List AV) (M : List AC) : rx_X5_ward (n + 1) 52 L st M = am_j (rx_X5_ward n) ((tGf 5 12) 52 L st M) := rfl
theorem rs_X5_ward_55 (n : Nat) (L : AL) (st : List AV) (M : List AC) : rx_X5_ward (n + 1) 55 L st M = am_j (rx_X5_ward n) ((tLc 6364136223846793005 3) 55 L st M) := rfl
theorem rs_X5_ward_58 (n : Nat) (L : AL) (st : List AV) (M : List AC) : rx_X5_ward (n + 1) 58 L st M = am_j (rx_X5_ward n) ((tL2 (fun a b => a * b)) 58 L st M) := rfl
theorem rs_X5_ward_59 (n : Nat) (L : AL) (st : List AV) (M : List AC) : rx_X5_ward (n + 1) 59 L st M = am_j (rx_X5_ward n) ((tLc 1442695040888963407 3) 59 L st M) := rfl
theorem rs_X5_ward_62 (n : Nat) (L : AL) (st : List AV) (M : List AC) : rx_X5_ward (n + 1) 62 L st M = am_j (rx_X5_ward n) ((tL2 (fun a b => a + b)) 62 L st M) := rfl
theorem rs_X5_ward_63 (n : Nat) (L : AL) (st : List AV) (M : List AC) : rx_X5_ward (n + 1) 63 L st M = am_j (rx_X5_ward n) ((tPf kJ 5 12) 63 L st M) := rfl
theorem rs_X5_ward_66 (n : Nat) (L : AL) (st : List AV) (M : List AC) : rx_X5_ward (n + 1) 66 L st M = am_j (rx_X5_ward n) ((tAld 0 1) 66 L st M) := rfl
theorem rs_X5_ward_67 (n : Nat) (L : AL) (st : List AV) (M : List AC) : rx_X5_ward (n + 1) 67 L st M = am_j (rx_X5_ward n) ((tGf 5 3) 67 L st M) := rfl
theorem rs_X5_ward_70 (n : Nat) (L : AL) (st : List AV) (M : List AC) : rx_X5_ward (n + 1) 70 L st M = am_j (rx_X5_ward n) ((tGf 4 3) 70 L st M) := rfl
theorem rs_X5_ward_73 (n : Nat) (L : AL) (st : List AV) (M : List AC) : rx_X5_ward (n + 1) 73 L st M = am_j (rx_X5_ward n) ((tIld 4 2) 73 L st M) := rfl
theorem rs_X5_ward_75 (n : Nat) (L : AL) (st : List AV) (M : List AC) : rx_X5_ward (n + 1) 75 L st M = am_j (rx_X5_ward n) ((tAld 0 1) 75 L st M) := rfl
theorem rs_X5_ward_76 (n : Nat) (L : AL) (st : List AV) (M : List AC) : rx_X5_ward (n + 1) 76 L st M = am_j (rx_X5_ward n) ((tGf 5 12) 76 L st M) := rfl
theorem rs_X5_ward_79 (n : Nat) (L : AL) (st : List AV) (M : List AC) : rx_X5_ward (n + 1) 79 L st M = am_j (rx_X5_ward n) ((tIc 33 2) 79 L st M) := rfl
theorem rs_X5_ward_81 (n : Nat) (L : AL) (st : List AV) (M : List AC) : rx_X5_ward (n + 1) 81 L st M = am_j (rx_X5_ward n) ((tLs oLushr) 81 L st M) := rfl
theorem rs_X5_ward_82 (n : Nat) (L : AL) (st : List AV) (M : List AC) : rx_X5_ward (n + 1) 82 L st M = am_j (rx_X5_ward n) ((tLc 6 3) 82 L st M) := rfl
theorem rs_X5_ward_85 (n : Nat) (L : AL) (st : List AV) (M : List AC) : rx_X5_ward (n + 1) 85 L st M = am_j (rx_X5_ward n) (tLrem 85 L st M) := rfl
theorem rs_X5_ward_86 (n : Nat) (L : AL) (st : List AV) (M : List AC) : rx_X5_ward (n + 1) 86 L st M = am_j (rx_X5_ward n) (tL2i 86 L st M) := rfl
theorem rs_X5_ward_87 (n : Nat) (L : AL) (st : List AV) (M : List AC) : rx_X5_ward (n + 1) 87 L st M = am_j (rx_X5_ward n) ((tIc 1 1) 87 L st M) := rfl
theorem rs_X5_ward_88 (n : Nat) (L : AL) (st : List AV) (M : List AC) : rx_X5_ward (n + 1) 88 L st M = am_j (rx_X5_ward n) ((tI2 (fun a b => a + b)) 88 L st M) := rfl
theorem rs_X5_ward_89 (n : Nat) (L : AL) (st : List AV) (M : List AC) : rx_X5_ward (n + 1) 89 L st M = am_j (rx_X5_ward n) (tIas 89 L st M) := rfl
theorem rs_X5_ward_90 (n : Nat) (L : AL) (st : List AV) (M : List AC) : rx_X5_ward (n + 1) 90 L st M = am_j (rx_X5_ward n) ((tAld 0 1) 90 L st M) := rfl
theorem rs_X5_ward_91 (n : Nat) (L : AL) (st : List AV) (M : List AC) : rx_X5_ward (n + 1) 91 L st M = am_j (rx_X5_ward n) ((tGf 5 3) 91 L st M) := rfl
theorem rs_X5_ward_94 (n : Nat) (L : AL) (st : List AV) (M : List AC) : rx_X5_ward (n + 1) 94 L st M = am_j (rx_X5_ward n) ((tCv 4 0 fn_X4_settle) 94 L st M) := rfl
theorem rs_X5_ward_97 (n : Nat) (L : AL) (st : List AV) (M : List AC) : rx_X5_ward (n + 1) 97 L st M = am_j (rx_X5_ward n) (tPop 97 L st M) := rfl
theorem rs_X5_ward_98 (n : Nat) (L : AL) (st : List AV) (M : List AC) : rx_X5_ward (n + 1) 98 L st M = am_j (rx_X5_ward n) ((tIinc 4 1) 98 L st M) := rfl
theorem rs_X5_ward_101 (n : Nat) (L : AL) (st : List AV) (M : List AC) : rx_X5_ward (n + 1) 101 L st M = am_j (rx_X5_ward n) ((tGo 44) 101 L st M) := rfl
theorem rs_X5_ward_104 (n : Nat) (L : AL) (st : List AV) (M : List AC) : rx_X5_ward (n + 1) 104 L st M = am_j (rx_X5_ward n) ((tIld 2 1) 104 L st M) := rfl
theorem rs_X5_ward_105 (n : Nat) (L : AL) (st : List AV) (M : List AC) : rx_X5_ward (n + 1) 105 L st M = am_j (rx_X5_ward n) ((tAld 0 1) 105 L st M) := rfl
theorem rs_X5_ward_106 (n : Nat) (L : AL) (st : List AV) (M : List AC) : rx_X5_ward (n + 1) 106 L st M = am_j (rx_X5_ward n) ((tGf 5 3) 106 L st M) := rfl
theorem rs_X5_ward_109 (n : Nat) (L : AL) (st : List AV) (M : List AC) : rx_X5_ward (n + 1) 109 L st M = am_j (rx_X5_ward n) ((tCv 4 0 fn_X4_cornersOn) 109 L st M) := rfl
theorem rs_X5_ward_112 (n : Nat) (L : AL) (st : List AV) (M : List AC) : rx_X5_ward (n + 1) 112 L st M = am_j (rx_X5_ward n) ((tIc 4 1) 112 L st M) := rfl
theorem rs_X5_ward_113 (n : Nat) (L : AL) (st : List AV) (M : List AC) : rx_X5_ward (n + 1) 113 L st M = am_j (rx_X5_ward n) ((tCmne 120) 113 L st M) := rfl
theorem rs_X5_ward_116 (n : Nat) (L : AL) (st : List AV) (M : List AC) : rx_X5_ward (n + 1) 116 L st M = am_j (rx_X5_ward n) ((tIc 1 1) 116 L st M) := rfl
theorem rs_X5_ward_117 (n : Nat) (L : AL) (st : List AV) (M : List AC) : rx_X5_ward (n + 1) 117 L st M = am_j (rx_X5_ward n) ((tGo 121) 117 L st M) := rfl
theorem rs_X5_ward_120 (n : Nat) (L : AL) (st : List AV) (M : List AC) : rx_X5_ward (n + 1) 120 L st M = am_j (rx_X5_ward n) ((tIc 0 1) 120 L st M) := rfl
theorem rs_X5_ward_121 (n : Nat) (L : AL) (st : List AV) (M : List AC) : rx_X5_ward (n + 1) 121 L st M = am_j (rx_X5_ward n) ((tI2 (fun a b => a + b)) 121 L st M) := rfl
theorem rs_X5_ward_122 (n : Nat) (L : AL) (st : List AV) (M : List AC) : rx_X5_ward (n + 1) 122 L st M = am_j (rx_X5_ward n) ((tIst 2 1) 122 L st M) := rfl
theorem rs_X5_ward_123 (n : Nat) (L : AL) (st : List AV) (M : List AC) : rx_X5_ward (n + 1) 123 L st M = am_j (rx_X5_ward n) ((tIinc 3 1) 123 L st M) := rfl
theorem rs_X5_ward_126 (n : Nat) (L : AL) (st : List AV) (M : List AC) : rx_X5_ward (n + 1) 126 L st M = am_j (rx_X5_ward n) ((tGo 29) 126 L st M) := rfl
theorem rs_X5_ward_129 (n : Nat) (L : AL) (st : List AV) (M : List AC) : rx_X5_ward (n + 1) 129 L st M = am_j (rx_X5_ward n) ((tIld 2 1) 129 L st M) := rfl
theorem rs_X5_ward_13 (n : Nat) (L : AL) (st : List AV) (M : List AC) : rx_X5_ward (n + 1) 13 L st M = am_e rI st M := rfl
theorem rs_X5_ward_130 (n : Nat) (L : AL) (st : List AV) (M : List AC) : rx_X5_ward (n + 1) 130 L st M = am_e rI st M := rfl
theorem ri_X5_ward (c : Prop) [Decidable c] (p q n : Nat) (L : AL) (st : List AV) (M : List AC) : rx_X5_ward n (if c then p else q) L st M = if c then rx_X5_ward n p L st M else rx_X5_ward n q L st M := by split <;> rfl
theorem rm_X5_ward {n k pc : Nat} {L : AL} {st : List AV} {M : List AC} {x : Option AV × List AC} (h : rx_X5_ward n pc L st M = some x) (hk : n ≤ k) : rx_X5_ward k pc L st M = some x := am_r_mono n k h hk
def fn_X5_ward : Fn := am_fn rx_X5_ward 5
theorem fok_X5_ward : Fok mi_X5_ward fn_X5_ward := fun _ _ _ _ h => am_fok ok_X5_ward rk_X5_ward rfl h
theorem seed_X5_ward {len fa ac : Int} {sr : AV} {sd : Int64} {M : List AC} (h0 : M[0]? = some (co len fa ac sr sd)) (n : Nat) (m z k c : Int) : rx_X5_ward (n + 8) 50 [some (vR 0), some (vI m), some (vI z), some (vI k), some (vI c)] [] M = rx_X5_ward n 66 [some (vR 0), some (vI m), some (vI z), some (vI k), some (vI c)] [] (M.set 0 (co len fa ac sr (nxs sd))) := by
  rw [nxs_def]
  simp [↓ri_X5_ward, rs_X5_ward_0, rs_X5_ward_1, rs_X5_ward_2, rs_X5_ward_5, rs_X5_ward_6, rs_X5_ward_8, rs_X5_ward_11, rs_X5_ward_14, rs_X5_ward_15, rs_X5_ward_18, rs_X5_ward_19, rs_X5_ward_22, rs_X5_ward_25, rs_X5_ward_26, rs_X5_ward_27, rs_X5_ward_28, rs_X5_ward_29, rs_X5_ward_30, rs_X5_ward_31, rs_X5_ward_34, rs_X5_ward_35, rs_X5_ward_38, rs_X5_ward_41, rs_X5_ward_42, rs_X5_ward_46, rs_X5_ward_47, rs_X5_ward_50, rs_X5_ward_51, rs_X5_ward_52, rs_X5_ward_55, rs_X5_ward_58, rs_X5_ward_59, rs_X5_ward_62, rs_X5_ward_63, rs_X5_ward_67, rs_X5_ward_70, rs_X5_ward_73, rs_X5_ward_75, rs_X5_ward_76, rs_X5_ward_79, rs_X5_ward_81, rs_X5_ward_82, rs_X5_ward_85, rs_X5_ward_86, rs_X5_ward_87, rs_X5_ward_88, rs_X5_ward_89, rs_X5_ward_90, rs_X5_ward_91, rs_X5_ward_94, rs_X5_ward_97, rs_X5_ward_98, rs_X5_ward_101, rs_X5_ward_104, rs_X5_ward_105, rs_X5_ward_106, rs_X5_ward_109, rs_X5_ward_112, rs_X5_ward_113, rs_X5_ward_116, rs_X5_ward_117, rs_X5_ward_120, rs_X5_ward_121, rs_X5_ward_122, rs_X5_ward_123, rs_X5_ward_126, rs_X5_ward_129, rs_X5_ward_13, rs_X5_ward_130, -List.getElem?_eq_getElem, am_js, am_e, am_in, am_sl, rI, rZ, rV, rJ, rA, rC, kI, kJ, kR, am_one, am_nl, am_w8, tIc, tLc, tNul, tIld, tLld, tAld, tIst, tLst, tAst, tIinc, tI2, tDv, tL2, tLrem, tLs, tLcmp, tI2l, tL2i, tI2c, tDup, tDup2, tPop, tGo, tIfeq, tIfne, tIflt, tIfge, tIfgt, tIfle, tCmeq, tCmne, tCmlt, tCmge, tCmgt, tCmle, tNu, tTs, tGf, tPf, tGs, tIal, tIas, tBal, tBas, tAln, tSv, tSc, tSb, tSl, tSk, tCv, tCs, tCt, tMx, tMn, wr_10000, wr_100000, wr_1000000, wr_10000000, wr_100000000, wr_2400, wr_9999, wr_0, wr_1, wr_2, wr_3, wr_4, wr_5, wr_6, wr_7, wr_8, wr_9, wr_10, wr_11, wr_12, wr_13, wr_14, wr_15, wr_16, wr_17, wr_18, wr_19, wr_20, wr_21, wr_22, wr_23, wr_24, wr_25, wr_26, wr_27, wr_28, wr_29, wr_30, wr_31, wr_32, wr_33, wr_34, wr_35, wr_36, wr_37, wr_38, wr_39, wr_40, wr_41, wr_42, wr_43, wr_44, wr_45, wr_46, wr_47, wr_48, wr_49, wr_50, wr_51, wr_52, wr_53, wr_54, wr_55, wr_56, wr_57, wr_58, wr_59, wr_60, wr_61, wr_62, wr_63, wr_99, wr_100, wr_192, wr_255, wr_256, wr_343, wr_999, wr_1000, wr_2401, wr_2147483647, wr_65535, wr_m1, wr_m2, wr_m3, wr_m4, wr_m9, ak_1000, ak_1001, ak_1002, ak_0, ak_1, ak_2, ak_3, ak_4, ak_5, ak_6, ak_7, ak_8, ak_9, ak_10, ak_11, ak_12, ak_13, ak_14, ak_15, ak_16, ak_17, ak_18, ak_19, ak_20, ak_21, ak_22, ak_23, ak_24, ak_25, ak_26, ak_27, ak_28, ak_29, ak_30, ak_31, ak_32, ak_33, ak_34, ak_35, ak_36, ak_37, ak_38, ak_39, ak_40, ak_41, ak_42, ak_43, ak_44, ak_45, ak_46, ak_47, h0, co]
theorem dep_X5_ward {len fa ac : Int} {sr : AV} {sd : Int64} {M : List AC} (h0 : M[0]? = some (co len fa ac sr sd)) {st : Int} (h7 : M[7]? = some (aO 4 [vI st, vR 8, vR 9, vR 10, vR 11])) (n : Nat) (m z k c : Int) : rx_X5_ward (n + 11) 66 [some (vR 0), some (vI m), some (vI z), some (vI k), some (vI c)] [] M = rx_X5_ward n 87 [some (vR 0), some (vI m), some (vI z), some (vI k), some (vI c)] [vI (rdq sd), vI c, vR 10] M := by
  have h60 : ¬ (6 : Int64) = 0 := by decide +kernel
  rw [rdq_def]
  simp [↓ri_X5_ward, rs_X5_ward_0, rs_X5_ward_1, rs_X5_ward_2, rs_X5_ward_5, rs_X5_ward_6, rs_X5_ward_8, rs_X5_ward_11, rs_X5_ward_14, rs_X5_ward_15, rs_X5_ward_18, rs_X5_ward_19, rs_X5_ward_22, rs_X5_ward_25, rs_X5_ward_26, rs_X5_ward_27, rs_X5_ward_28, rs_X5_ward_29, rs_X5_ward_30, rs_X5_ward_31, rs_X5_ward_34, rs_X5_ward_35, rs_X5_ward_38, rs_X5_ward_41, rs_X5_ward_42, rs_X5_ward_46, rs_X5_ward_47, rs_X5_ward_50, rs_X5_ward_51, rs_X5_ward_52, rs_X5_ward_55, rs_X5_ward_58, rs_X5_ward_59, rs_X5_ward_62, rs_X5_ward_63, rs_X5_ward_66, rs_X5_ward_67, rs_X5_ward_70, rs_X5_ward_73, rs_X5_ward_75, rs_X5_ward_76, rs_X5_ward_79, rs_X5_ward_81, rs_X5_ward_82, rs_X5_ward_85, rs_X5_ward_86, rs_X5_ward_88, rs_X5_ward_89, rs_X5_ward_90, rs_X5_ward_91, rs_X5_ward_94, rs_X5_ward_97, rs_X5_ward_98, rs_X5_ward_101, rs_X5_ward_104, rs_X5_ward_105, rs_X5_ward_106, rs_X5_ward_109, rs_X5_ward_112, rs_X5_ward_113, rs_X5_ward_116, rs_X5_ward_117, rs_X5_ward_120, rs_X5_ward_121, rs_X5_ward_122, rs_X5_ward_123, rs_X5_ward_126, rs_X5_ward_129, rs_X5_ward_13, rs_X5_ward_130, -List.getElem?_eq_getElem, am_js, am_e, am_in, am_sl, rI, rZ, rV, rJ, rA, rC, kI, kJ, kR, am_one, am_nl, am_w8, tIc, tLc, tNul, tIld, tLld, tAld, tIst, tLst, tAst, tIinc, tI2, tDv, tL2, tLrem, tLs, tLcmp, tI2l, tL2i, tI2c, tDup, tDup2, tPop, tGo, tIfeq, tIfne, tIflt, tIfge, tIfgt, tIfle, tCmeq, tCmne, tCmlt, tCmge, tCmgt, tCmle, tNu, tTs, tGf, tPf, tGs, tIal, tIas, tBal, tBas, tAln, tSv, tSc, tSb, tSl, tSk, tCv, tCs, tCt, tMx, tMn, wr_10000, wr_100000, wr_1000000, wr_10000000, wr_100000000, wr_2400, wr_9999, wr_0, wr_1, wr_2, wr_3, wr_4, wr_5, wr_6, wr_7, wr_8, wr_9, wr_10, wr_11, wr_12, wr_13, wr_14, wr_15, wr_16, wr_17, wr_18, wr_19, wr_20, wr_21, wr_22, wr_23, wr_24, wr_25, wr_26, wr_27, wr_28, wr_29, wr_30, wr_31, wr_32, wr_33, wr_34, wr_35, wr_36, wr_37, wr_38, wr_39, wr_40, wr_41, wr_42, wr_43, wr_44, wr_45, wr_46, wr_47, wr_48, wr_49, wr_50, wr_51, wr_52, wr_53, wr_54, wr_55, wr_56, wr_57, wr_58, wr_59, wr_60, wr_61, wr_62, wr_63, wr_99, wr_100, wr_192, wr_255, wr_256, wr_343, wr_999, wr_1000, wr_2401, wr_2147483647, wr_65535, wr_m1, wr_m2, wr_m3, wr_m4, wr_m9, ak_1000, ak_1001, ak_1002, ak_0, ak_1, ak_2, ak_3, ak_4, ak_5, ak_6, ak_7, ak_8, ak_9, ak_10, ak_11, ak_12, ak_13, ak_14, ak_15, ak_16, ak_17, ak_18, ak_19, ak_20, ak_21, ak_22, ak_23, ak_24, ak_25, ak_26, ak_27, ak_28, ak_29, ak_30, ak_31, ak_32, ak_33, ak_34, ak_35, ak_36, ak_37, ak_38, ak_39, ak_40, ak_41, ak_42, ak_43, ak_44, ak_45, ak_46, ak_47, h0, h7, co, wr_33, h60]
/-- the memory of a ward: the seed, the trial sheet -/
def W5 (M : List AC) (len fa ac : Int) (sr : AV) (sd : Int64) (st : Int) (g s d b : F4) : List AC := (T5 M st g s d b).set 0 (co len fa ac sr sd)
theorem W5_10 {M : List AC} {len fa ac : Int} {sr : AV} {sd : Int64} {st : Int} {g s d b d' : F4} : (W5 M len fa ac sr sd st g s d b).set 10 (aI (l4 d')) = W5 M len fa ac sr sd st g s d' b := by
  unfold W5
  rw [List.set_comm _ _ (by decide), T5_10]
theorem W5_0 {M : List AC} {len fa ac : Int} {sr : AV} {sd sd' : Int64} {st : Int} {g s d b : F4} : (W5 M len fa ac sr sd st g s d b).set 0 (co len fa ac sr sd') = W5 M len fa ac sr sd' st g s d b := by
  unfold W5
  rw [List.set_set]
theorem W5_at {M : List AC} {len fa ac : Int} {sr : AV} {sd0 : Int64} (h0 : M[0]? = some (co len fa ac sr sd0)) {st' : Int} {g' s' d' b' : F4} (hs' : HS M 7 st' g' s' d' b') (sd : Int64) (st : Int) (g s d b : F4) : (W5 M len fa ac sr sd st g s d b)[0]? = some (co len fa ac sr sd) ∧ HS (W5 M len fa ac sr sd st g s d b) 7 st g s d b := by
  have hT := T5_HS hs' st g s d b
  have t0 := (T5_ne M st g s d b 0 (by omega)).trans h0
  obtain ⟨j0, j1, j2, j3, j4⟩ := hT.seven
  unfold W5
  exact ⟨List.getElem?_set_self (len_of t0), HS.of7 (by rw [List.getElem?_set_ne (by decide)]; exact j0) (by rw [List.getElem?_set_ne (by decide)]; exact j1) (by rw [List.getElem?_set_ne (by decide)]; exact j2) (by rw [List.getElem?_set_ne (by decide)]; exact j3) (by rw [List.getElem?_set_ne (by decide)]; exact j4)⟩
theorem l1_X5_ward {M : List AC} {len fa ac : Int} {sr : AV} {sd0 : Int64} (h0 : M[0]? = some (co len fa ac sr sd0)) {st' : Int} {g' s' d' b' : F4} (hs' : HS M 7 st' g' s' d' b') {st : Int} {g s b : F4} (hst : 1 ≤ st ∧ st ≤ 3) (hg : i4 1 9 g) (hs9 : i4 0 9 s) (hb : i4 0 3 b) (m z k : Int) (y : Option AV × List AC) (N : Nat) : ∀ (n c : Nat) (d : F4) (sd : Int64), i4 0 6 d → c + n = 4 →
    Ru rx_X5_ward N 104 [some (vR 0), some (vI m), some (vI z), some (vI k), some (vI 4)] [] (W5 M len fa ac sr (wdi st g s b n c (d, sd)).2 st g s (wdi st g s b n c (d, sd)).1 b) y →
    Ru rx_X5_ward (N + 60 * n + 10) 44 [some (vR 0), some (vI m), some (vI z), some (vI k), some (vI (c : Int))] [] (W5 M len fa ac sr sd st g s d b) y
  | 0, c, d, sd, hd, hc, kk => by
    have e : c = 4 := by omega
    subst e
    rw [wdi] at kk
    obtain ⟨n, hn, h⟩ := kk
    refine ⟨n + 9 + 1, by omega, ?_⟩
    rw [rs_X5_ward_44]
    simp [↓ri_X5_ward, rs_X5_ward_0, rs_X5_ward_1, rs_X5_ward_2, rs_X5_ward_5, rs_X5_ward_6, rs_X5_ward_8, rs_X5_ward_11, rs_X5_ward_14, rs_X5_ward_15, rs_X5_ward_18, rs_X5_ward_19, rs_X5_ward_22, rs_X5_ward_25, rs_X5_ward_26, rs_X5_ward_27, rs_X5_ward_28, rs_X5_ward_29, rs_X5_ward_30, rs_X5_ward_31, rs_X5_ward_34, rs_X5_ward_35, rs_X5_ward_38, rs_X5_ward_41, rs_X5_ward_42, rs_X5_ward_46, rs_X5_ward_47, rs_X5_ward_50, rs_X5_ward_51, rs_X5_ward_52, rs_X5_ward_55, rs_X5_ward_58, rs_X5_ward_59, rs_X5_ward_62, rs_X5_ward_63, rs_X5_ward_66, rs_X5_ward_67, rs_X5_ward_70, rs_X5_ward_73, rs_X5_ward_75, rs_X5_ward_76, rs_X5_ward_79, rs_X5_ward_81, rs_X5_ward_82, rs_X5_ward_85, rs_X5_ward_86, rs_X5_ward_87, rs_X5_ward_88, rs_X5_ward_89, rs_X5_ward_90, rs_X5_ward_91, rs_X5_ward_94, rs_X5_ward_97, rs_X5_ward_98, rs_X5_ward_101, rs_X5_ward_105, rs_X5_ward_106, rs_X5_ward_109, rs_X5_ward_112, rs_X5_ward_113, rs_X5_ward_116, rs_X5_ward_117, rs_X5_ward_120, rs_X5_ward_121, rs_X5_ward_122, rs_X5_ward_123, rs_X5_ward_126, rs_X5_ward_129, rs_X5_ward_13, rs_X5_ward_130, -List.getElem?_eq_getElem, am_js, am_e, am_in, am_sl, rI, rZ, rV, rJ, rA, rC, kI, kJ, kR, am_one, am_nl, am_w8, tIc, tLc, tNul, tIld, tLld, tAld, tIst, tLst, tAst, tIinc, tI2, tDv, tL2, tLrem, tLs, tLcmp, tI2l, tL2i, tI2c, tDup, tDup2, tPop, tGo, tIfeq, tIfne, tIflt, tIfge, tIfgt, tIfle, tCmeq, tCmne, tCmlt, tCmge, tCmgt, tCmle, tNu, tTs, tGf, tPf, tGs, tIal, tIas, tBal, tBas, tAln, tSv, tSc, tSb, tSl, tSk, tCv, tCs, tCt, tMx, tMn, wr_10000, wr_100000, wr_1000000, wr_10000000, wr_100000000, wr_2400, wr_9999, wr_0, wr_1, wr_2, wr_3, wr_4, wr_5, wr_6, wr_7, wr_8, wr_9, wr_10, wr_11, wr_12, wr_13, wr_14, wr_15, wr_16, wr_17, wr_18, wr_19, wr_20, wr_21, wr_22, wr_23, wr_24, wr_25, wr_26, wr_27, wr_28, wr_29, wr_30, wr_31, wr_32, wr_33, wr_34, wr_35, wr_36, wr_37, wr_38, wr_39, wr_40, wr_41, wr_42, wr_43, wr_44, wr_45, wr_46, wr_47, wr_48, wr_49, wr_50, wr_51, wr_52, wr_53, wr_54, wr_55, wr_56, wr_57, wr_58, wr_59, wr_60, wr_61, wr_62, wr_63, wr_99, wr_100, wr_192, wr_255, wr_256, wr_343, wr_999, wr_1000, wr_2401, wr_2147483647, wr_65535, wr_m1, wr_m2, wr_m3, wr_m4, wr_m9, ak_1000, ak_1001, ak_1002, ak_0, ak_1, ak_2, ak_3, ak_4, ak_5, ak_6, ak_7, ak_8, ak_9, ak_10, ak_11, ak_12, ak_13, ak_14, ak_15, ak_16, ak_17, ak_18, ak_19, ak_20, ak_21, ak_22, ak_23, ak_24, ak_25, ak_26, ak_27, ak_28, ak_29, ak_30, ak_31, ak_32, ak_33, ak_34, ak_35, ak_36, ak_37, ak_38, ak_39, ak_40, ak_41, ak_42, ak_43, ak_44, ak_45, ak_46, ak_47]
    exact rm_X5_ward h (by omega)
  | n + 1, c, d, sd, hd, hc, kk => by
    have r := rdq_rng (nxs sd)
    rw [wdi] at kk
    dsimp only at kk
    have hd' : i4 0 6 (s4 d c (rdq (nxs sd) + 1)) := i4_s hd _ (by omega) (by omega)
    have hsd := seed_X5_ward (W5_at h0 hs' sd st g s d b).1
    generalize nxs sd = sd2 at r kk hd' hsd
    rw [W5_0] at hsd
    obtain ⟨v0, hV⟩ := W5_at h0 hs' sd2 st g s d b
    have hdp := dep_X5_ward v0 hV.seven.1
    generalize rdq sd2 = f at r kk hd' hdp
    have q3 := sp_X4_settle (W5_at h0 hs' sd2 st g s (s4 d c (f + 1)) b).2 ⟨hst, hg, hs9, hd', hb⟩
    simp only [Nat.reduceAdd] at q3
    rw [W5_10, ← W5_10 (d := d) (d' := s4 d c (f + 1))] at q3
    have hd2 := sl_i4 st g s b 4 _ 0 hd'
    clear hd'
    generalize sl st g s b 4 (s4 d c (f + 1)) 0 = q at q3 hd2 kk
    obtain ⟨m', hm, h⟩ := l1_X5_ward h0 hs' hst hg hs9 hb m z k y N n (c + 1) q.1 sd2 hd2 (by omega) kk
    obtain ⟨v7, -, -, v10, -⟩ := hV.seven
    refine ⟨m' + 59 + 1, by omega, ?_⟩
    rw [rs_X5_ward_44]
    clear kk hd2
    have hcc : c = 0 ∨ c = 1 ∨ c = 2 ∨ c = 3 := by omega
    have c4' : wr (c : Int) = c := wr_id (by omega) (by omega)
    have nc4 : ¬ (4 : Int) ≤ c := by omega
    have h60' : rx_X5_ward (m' + 40) 50 [some (vR 0), some (vI m), some (vI z), some (vI k), some (vI (c : Int))] [] (W5 M len fa ac sr sd st g s d b) = some y := by
      rw [show m' + 40 = (m' + 21 + 11) + 8 by omega, hsd, hdp]
      clear hsd hdp c4' nc4 hV
      generalize W5 M len fa ac sr sd2 st g s q.1 b = V2 at q3 h
      generalize W5 M len fa ac sr sd2 st g s d b = V at q3 v0 v7 v10 ⊢
      simp only [co] at v0
      rcases hcc with rfl | rfl | rfl | rfl <;> simp [s4] at q3 h <;>
      simp [↓ri_X5_ward, rs_X5_ward_0, rs_X5_ward_1, rs_X5_ward_2, rs_X5_ward_5, rs_X5_ward_6, rs_X5_ward_8, rs_X5_ward_11, rs_X5_ward_14, rs_X5_ward_15, rs_X5_ward_18, rs_X5_ward_19, rs_X5_ward_22, rs_X5_ward_25, rs_X5_ward_26, rs_X5_ward_27, rs_X5_ward_28, rs_X5_ward_29, rs_X5_ward_30, rs_X5_ward_31, rs_X5_ward_34, rs_X5_ward_35, rs_X5_ward_38, rs_X5_ward_41, rs_X5_ward_42, rs_X5_ward_46, rs_X5_ward_47, rs_X5_ward_50, rs_X5_ward_51, rs_X5_ward_52, rs_X5_ward_55, rs_X5_ward_58, rs_X5_ward_59, rs_X5_ward_62, rs_X5_ward_63, rs_X5_ward_66, rs_X5_ward_67, rs_X5_ward_70, rs_X5_ward_73, rs_X5_ward_75, rs_X5_ward_76, rs_X5_ward_79, rs_X5_ward_81, rs_X5_ward_82, rs_X5_ward_85, rs_X5_ward_86, rs_X5_ward_87, rs_X5_ward_88, rs_X5_ward_89, rs_X5_ward_90, rs_X5_ward_91, rs_X5_ward_94, rs_X5_ward_97, rs_X5_ward_98, rs_X5_ward_101, rs_X5_ward_104, rs_X5_ward_105, rs_X5_ward_106, rs_X5_ward_109, rs_X5_ward_112, rs_X5_ward_113, rs_X5_ward_116, rs_X5_ward_117, rs_X5_ward_120, rs_X5_ward_121, rs_X5_ward_122, rs_X5_ward_123, rs_X5_ward_126, rs_X5_ward_129, rs_X5_ward_13, rs_X5_ward_130, -List.getElem?_eq_getElem, am_js, am_e, am_in, am_sl, rI, rZ, rV, rJ, rA, rC, kI, kJ, kR, am_one, am_nl, am_w8, tIc, tLc, tNul, tIld, tLld, tAld, tIst, tLst, tAst, tIinc, tI2, tDv, tL2, tLrem, tLs, tLcmp, tI2l, tL2i, tI2c, tDup, tDup2, tPop, tGo, tIfeq, tIfne, tIflt, tIfge, tIfgt, tIfle, tCmeq, tCmne, tCmlt, tCmge, tCmgt, tCmle, tNu, tTs, tGf, tPf, tGs, tIal, tIas, tBal, tBas, tAln, tSv, tSc, tSb, tSl, tSk, tCv, tCs, tCt, tMx, tMn, wr_10000, wr_100000, wr_1000000, wr_10000000, wr_100000000, wr_2400, wr_9999, wr_0, wr_1, wr_2, wr_3, wr_4, wr_5, wr_6, wr_7, wr_8, wr_9, wr_10, wr_11, wr_12, wr_13, wr_14, wr_15, wr_16, wr_17, wr_18, wr_19, wr_20, wr_21, wr_22, wr_23, wr_24, wr_25, wr_26, wr_27, wr_28, wr_29, wr_30, wr_31, wr_32, wr_33, wr_34, wr_35, wr_36, wr_37, wr_38, wr_39, wr_40, wr_41, wr_42, wr_43, wr_44, wr_45, wr_46, wr_47, wr_48, wr_49, wr_50, wr_51, wr_52, wr_53, wr_54, wr_55, wr_56, wr_57, wr_58, wr_59, wr_60, wr_61, wr_62, wr_63, wr_99, wr_100, wr_192, wr_255, wr_256, wr_343, wr_999, wr_1000, wr_2401, wr_2147483647, wr_65535, wr_m1, wr_m2, wr_m3, wr_m4, wr_m9, ak_1000, ak_1001, ak_1002, ak_0, ak_1, ak_2, ak_3, ak_4, ak_5, ak_6, ak_7, ak_8, ak_9, ak_10, ak_11, ak_12, ak_13, ak_14, ak_15, ak_16, ak_17, ak_18, ak_19, ak_20, ak_21, ak_22, ak_23, ak_24, ak_25, ak_26, ak_27, ak_28, ak_29, ak_30, ak_31, ak_32, ak_33, ak_34, ak_35, ak_36, ak_37, ak_38, ak_39, ak_40, ak_41, ak_42, ak_43, ak_44, ak_45, ak_46, ak_47, v0, v7, v10, q3] <;>
      exact rm_X5_ward h (Nat.le_add_right _ _)
    simp [↓ri_X5_ward, rs_X5_ward_0, rs_X5_ward_1, rs_X5_ward_2, rs_X5_ward_5, rs_X5_ward_6, rs_X5_ward_8, rs_X5_ward_11, rs_X5_ward_14, rs_X5_ward_15, rs_X5_ward_18, rs_X5_ward_19, rs_X5_ward_22, rs_X5_ward_25, rs_X5_ward_26, rs_X5_ward_27, rs_X5_ward_28, rs_X5_ward_29, rs_X5_ward_30, rs_X5_ward_31, rs_X5_ward_34, rs_X5_ward_35, rs_X5_ward_38, rs_X5_ward_41, rs_X5_ward_42, rs_X5_ward_46, rs_X5_ward_47, rs_X5_ward_51, rs_X5_ward_52, rs_X5_ward_55, rs_X5_ward_58, rs_X5_ward_59, rs_X5_ward_62, rs_X5_ward_63, rs_X5_ward_66, rs_X5_ward_67, rs_X5_ward_70, rs_X5_ward_73, rs_X5_ward_75, rs_X5_ward_76, rs_X5_ward_79, rs_X5_ward_81, rs_X5_ward_82, rs_X5_ward_85, rs_X5_ward_86, rs_X5_ward_87, rs_X5_ward_88, rs_X5_ward_89, rs_X5_ward_90, rs_X5_ward_91, rs_X5_ward_94, rs_X5_ward_97, rs_X5_ward_98, rs_X5_ward_101, rs_X5_ward_104, rs_X5_ward_105, rs_X5_ward_106, rs_X5_ward_109, rs_X5_ward_112, rs_X5_ward_113, rs_X5_ward_116, rs_X5_ward_117, rs_X5_ward_120, rs_X5_ward_121, rs_X5_ward_122, rs_X5_ward_123, rs_X5_ward_126, rs_X5_ward_129, rs_X5_ward_13, rs_X5_ward_130, -List.getElem?_eq_getElem, am_js, am_e, am_in, am_sl, rI, rZ, rV, rJ, rA, rC, kI, kJ, kR, am_one, am_nl, am_w8, tIc, tLc, tNul, tIld, tLld, tAld, tIst, tLst, tAst, tIinc, tI2, tDv, tL2, tLrem, tLs, tLcmp, tI2l, tL2i, tI2c, tDup, tDup2, tPop, tGo, tIfeq, tIfne, tIflt, tIfge, tIfgt, tIfle, tCmeq, tCmne, tCmlt, tCmge, tCmgt, tCmle, tNu, tTs, tGf, tPf, tGs, tIal, tIas, tBal, tBas, tAln, tSv, tSc, tSb, tSl, tSk, tCv, tCs, tCt, tMx, tMn, wr_10000, wr_100000, wr_1000000, wr_10000000, wr_100000000, wr_2400, wr_9999, wr_0, wr_1, wr_2, wr_3, wr_4, wr_5, wr_6, wr_7, wr_8, wr_9, wr_10, wr_11, wr_12, wr_13, wr_14, wr_15, wr_16, wr_17, wr_18, wr_19, wr_20, wr_21, wr_22, wr_23, wr_24, wr_25, wr_26, wr_27, wr_28, wr_29, wr_30, wr_31, wr_32, wr_33, wr_34, wr_35, wr_36, wr_37, wr_38, wr_39, wr_40, wr_41, wr_42, wr_43, wr_44, wr_45, wr_46, wr_47, wr_48, wr_49, wr_50, wr_51, wr_52, wr_53, wr_54, wr_55, wr_56, wr_57, wr_58, wr_59, wr_60, wr_61, wr_62, wr_63, wr_99, wr_100, wr_192, wr_255, wr_256, wr_343, wr_999, wr_1000, wr_2401, wr_2147483647, wr_65535, wr_m1, wr_m2, wr_m3, wr_m4, wr_m9, ak_1000, ak_1001, ak_1002, ak_0, ak_1, ak_2, ak_3, ak_4, ak_5, ak_6, ak_7, ak_8, ak_9, ak_10, ak_11, ak_12, ak_13, ak_14, ak_15, ak_16, ak_17, ak_18, ak_19, ak_20, ak_21, ak_22, ak_23, ak_24, ak_25, ak_26, ak_27, ak_28, ak_29, ak_30, ak_31, ak_32, ak_33, ak_34, ak_35, ak_36, ak_37, ak_38, ak_39, ak_40, ak_41, ak_42, ak_43, ak_44, ak_45, ak_46, ak_47, c4', nc4]
    exact rm_X5_ward h60' (by omega)
theorem lp_X5_ward {M : List AC} {len fa ac : Int} {sr : AV} {sd0 : Int64} (h0 : M[0]? = some (co len fa ac sr sd0)) {st' : Int} {g' s' d' b' : F4} (hs' : HS M 7 st' g' s' d' b') {st : Int} {g s b : F4} (hst : 1 ≤ st ∧ st ≤ 3) (hg : i4 1 9 g) (hs9 : i4 0 9 s) (hb : i4 0 3 b) {m : Int} (hm : 1 ≤ m ∧ m ≤ 30) : ∀ (n : Nat) (k z : Int) (d : F4) (sd : Int64) (x4 : Option AV), k + n = m → 0 ≤ k →
    ∃ d1 : F4, Ru rx_X5_ward (400 * n + 10) 29 [some (vR 0), some (vI m), some (vI z), some (vI k), x4] [] (W5 M len fa ac sr sd st g s d b) (some (vI (wrd st g s b n (z, sd)).1), W5 M len fa ac sr (wrd st g s b n (z, sd)).2 st g s d1 b)
  | 0, k, z, d, sd, x4, hk, hk0 => by
    have e : k = m := by omega
    subst e
    have wk : wr k = k := wr_id (by omega) (by omega)
    refine ⟨d, 9 + 1, by omega, ?_⟩
    rw [rs_X5_ward_29, wrd]
    simp [↓ri_X5_ward, rs_X5_ward_0, rs_X5_ward_1, rs_X5_ward_2, rs_X5_ward_5, rs_X5_ward_6, rs_X5_ward_8, rs_X5_ward_11, rs_X5_ward_14, rs_X5_ward_15, rs_X5_ward_18, rs_X5_ward_19, rs_X5_ward_22, rs_X5_ward_25, rs_X5_ward_26, rs_X5_ward_27, rs_X5_ward_28, rs_X5_ward_30, rs_X5_ward_31, rs_X5_ward_34, rs_X5_ward_35, rs_X5_ward_38, rs_X5_ward_41, rs_X5_ward_42, rs_X5_ward_44, rs_X5_ward_46, rs_X5_ward_47, rs_X5_ward_50, rs_X5_ward_51, rs_X5_ward_52, rs_X5_ward_55, rs_X5_ward_58, rs_X5_ward_59, rs_X5_ward_62, rs_X5_ward_63, rs_X5_ward_66, rs_X5_ward_67, rs_X5_ward_70, rs_X5_ward_73, rs_X5_ward_75, rs_X5_ward_76, rs_X5_ward_79, rs_X5_ward_81, rs_X5_ward_82, rs_X5_ward_85, rs_X5_ward_86, rs_X5_ward_87, rs_X5_ward_88, rs_X5_ward_89, rs_X5_ward_90, rs_X5_ward_91, rs_X5_ward_94, rs_X5_ward_97, rs_X5_ward_98, rs_X5_ward_101, rs_X5_ward_104, rs_X5_ward_105, rs_X5_ward_106, rs_X5_ward_109, rs_X5_ward_112, rs_X5_ward_113, rs_X5_ward_116, rs_X5_ward_117, rs_X5_ward_120, rs_X5_ward_121, rs_X5_ward_122, rs_X5_ward_123, rs_X5_ward_126, rs_X5_ward_129, rs_X5_ward_13, rs_X5_ward_130, -List.getElem?_eq_getElem, am_js, am_e, am_in, am_sl, rI, rZ, rV, rJ, rA, rC, kI, kJ, kR, am_one, am_nl, am_w8, tIc, tLc, tNul, tIld, tLld, tAld, tIst, tLst, tAst, tIinc, tI2, tDv, tL2, tLrem, tLs, tLcmp, tI2l, tL2i, tI2c, tDup, tDup2, tPop, tGo, tIfeq, tIfne, tIflt, tIfge, tIfgt, tIfle, tCmeq, tCmne, tCmlt, tCmge, tCmgt, tCmle, tNu, tTs, tGf, tPf, tGs, tIal, tIas, tBal, tBas, tAln, tSv, tSc, tSb, tSl, tSk, tCv, tCs, tCt, tMx, tMn, wr_10000, wr_100000, wr_1000000, wr_10000000, wr_100000000, wr_2400, wr_9999, wr_0, wr_1, wr_2, wr_3, wr_4, wr_5, wr_6, wr_7, wr_8, wr_9, wr_10, wr_11, wr_12, wr_13, wr_14, wr_15, wr_16, wr_17, wr_18, wr_19, wr_20, wr_21, wr_22, wr_23, wr_24, wr_25, wr_26, wr_27, wr_28, wr_29, wr_30, wr_31, wr_32, wr_33, wr_34, wr_35, wr_36, wr_37, wr_38, wr_39, wr_40, wr_41, wr_42, wr_43, wr_44, wr_45, wr_46, wr_47, wr_48, wr_49, wr_50, wr_51, wr_52, wr_53, wr_54, wr_55, wr_56, wr_57, wr_58, wr_59, wr_60, wr_61, wr_62, wr_63, wr_99, wr_100, wr_192, wr_255, wr_256, wr_343, wr_999, wr_1000, wr_2401, wr_2147483647, wr_65535, wr_m1, wr_m2, wr_m3, wr_m4, wr_m9, ak_1000, ak_1001, ak_1002, ak_0, ak_1, ak_2, ak_3, ak_4, ak_5, ak_6, ak_7, ak_8, ak_9, ak_10, ak_11, ak_12, ak_13, ak_14, ak_15, ak_16, ak_17, ak_18, ak_19, ak_20, ak_21, ak_22, ak_23, ak_24, ak_25, ak_26, ak_27, ak_28, ak_29, ak_30, ak_31, ak_32, ak_33, ak_34, ak_35, ak_36, ak_37, ak_38, ak_39, ak_40, ak_41, ak_42, ak_43, ak_44, ak_45, ak_46, ak_47, wk]
  | n + 1, k, z, d, sd, x4, hk, hk0 => by
    have wk : wr k = k := wr_id (by omega) (by omega)
    have wm : wr m = m := wr_id (by omega) (by omega)
    have nk : ¬ m ≤ k := by omega
    rw [wrd]
    dsimp only
    have hw4 := wdi_i4 st g s b 4 0 ((0, 0, 0, 0), sd) (i4_z (by decide))
    have key := fun y N => l1_X5_ward h0 hs' hst hg hs9 hb m z k y N 4 0 (0, 0, 0, 0) sd (i4_z (by decide)) (by omega)
    generalize wdi st g s b 4 0 ((0, 0, 0, 0), sd) = w at key hw4 ⊢
    obtain ⟨d1, k2, hk2, h2⟩ := lp_X5_ward h0 hs' hst hg hs9 hb hm n (k + 1) (z + dp1 w.1) w.1 w.2 (some (vI 4)) (by omega) (by omega)
    generalize wrd st g s b n (z + dp1 w.1, w.2) = T at h2 ⊢
    obtain ⟨u0, hU⟩ := W5_at h0 hs' w.2 st g s w.1 b
    have u7 := hU.seven.1
    have qd := sp_X4_cornersOn hU hw4
    have hon := onc_dp1 hw4
    have hor := onc_r4 w.1
    have h01 : dp1 w.1 = 0 ∨ dp1 w.1 = 1 := by
      unfold dp1
      split
      · exact Or.inr rfl
      · exact Or.inl rfl
    obtain ⟨k3, hk3, h3⟩ := key (some (vI T.1), W5 M len fa ac sr T.2 st g s d1 b) (k2 + 30) (by
      refine ⟨k2 + 29 + 1, by omega, ?_⟩
      rw [rs_X5_ward_104]
      generalize dp1 w.1 = f at hon h01 h2
      generalize onc w.1 = oc at hon hor qd
      have woc : wr oc = oc := wr_id (by omega) (by omega)
      generalize W5 M len fa ac sr w.2 st g s w.1 b = V at qd u0 u7 h2 ⊢
      simp only [co] at u0
      rcases h01 with rfl | rfl
      · simp only [Int.add_zero] at h2
        have n4 : ¬ oc = 4 := fun z => absurd (hon.mp z) (by decide)
        simp [↓ri_X5_ward, rs_X5_ward_0, rs_X5_ward_1, rs_X5_ward_2, rs_X5_ward_5, rs_X5_ward_6, rs_X5_ward_8, rs_X5_ward_11, rs_X5_ward_14, rs_X5_ward_15, rs_X5_ward_18, rs_X5_ward_19, rs_X5_ward_22, rs_X5_ward_25, rs_X5_ward_26, rs_X5_ward_27, rs_X5_ward_28, rs_X5_ward_30, rs_X5_ward_31, rs_X5_ward_34, rs_X5_ward_35, rs_X5_ward_38, rs_X5_ward_41, rs_X5_ward_42, rs_X5_ward_44, rs_X5_ward_46, rs_X5_ward_47, rs_X5_ward_50, rs_X5_ward_51, rs_X5_ward_52, rs_X5_ward_55, rs_X5_ward_58, rs_X5_ward_59, rs_X5_ward_62, rs_X5_ward_63, rs_X5_ward_66, rs_X5_ward_67, rs_X5_ward_70, rs_X5_ward_73, rs_X5_ward_75, rs_X5_ward_76, rs_X5_ward_79, rs_X5_ward_81, rs_X5_ward_82, rs_X5_ward_85, rs_X5_ward_86, rs_X5_ward_87, rs_X5_ward_88, rs_X5_ward_89, rs_X5_ward_90, rs_X5_ward_91, rs_X5_ward_94, rs_X5_ward_97, rs_X5_ward_98, rs_X5_ward_101, rs_X5_ward_105, rs_X5_ward_106, rs_X5_ward_109, rs_X5_ward_112, rs_X5_ward_113, rs_X5_ward_116, rs_X5_ward_117, rs_X5_ward_120, rs_X5_ward_121, rs_X5_ward_122, rs_X5_ward_123, rs_X5_ward_126, rs_X5_ward_129, rs_X5_ward_13, rs_X5_ward_130, -List.getElem?_eq_getElem, am_js, am_e, am_in, am_sl, rI, rZ, rV, rJ, rA, rC, kI, kJ, kR, am_one, am_nl, am_w8, tIc, tLc, tNul, tIld, tLld, tAld, tIst, tLst, tAst, tIinc, tI2, tDv, tL2, tLrem, tLs, tLcmp, tI2l, tL2i, tI2c, tDup, tDup2, tPop, tGo, tIfeq, tIfne, tIflt, tIfge, tIfgt, tIfle, tCmeq, tCmne, tCmlt, tCmge, tCmgt, tCmle, tNu, tTs, tGf, tPf, tGs, tIal, tIas, tBal, tBas, tAln, tSv, tSc, tSb, tSl, tSk, tCv, tCs, tCt, tMx, tMn, wr_10000, wr_100000, wr_1000000, wr_10000000, wr_100000000, wr_2400, wr_9999, wr_0, wr_1, wr_2, wr_3, wr_4, wr_5, wr_6, wr_7, wr_8, wr_9, wr_10, wr_11, wr_12, wr_13, wr_14, wr_15, wr_16, wr_17, wr_18, wr_19, wr_20, wr_21, wr_22, wr_23, wr_24, wr_25, wr_26, wr_27, wr_28, wr_29, wr_30, wr_31, wr_32, wr_33, wr_34, wr_35, wr_36, wr_37, wr_38, wr_39, wr_40, wr_41, wr_42, wr_43, wr_44, wr_45, wr_46, wr_47, wr_48, wr_49, wr_50, wr_51, wr_52, wr_53, wr_54, wr_55, wr_56, wr_57, wr_58, wr_59, wr_60, wr_61, wr_62, wr_63, wr_99, wr_100, wr_192, wr_255, wr_256, wr_343, wr_999, wr_1000, wr_2401, wr_2147483647, wr_65535, wr_m1, wr_m2, wr_m3, wr_m4, wr_m9, ak_1000, ak_1001, ak_1002, ak_0, ak_1, ak_2, ak_3, ak_4, ak_5, ak_6, ak_7, ak_8, ak_9, ak_10, ak_11, ak_12, ak_13, ak_14, ak_15, ak_16, ak_17, ak_18, ak_19, ak_20, ak_21, ak_22, ak_23, ak_24, ak_25, ak_26, ak_27, ak_28, ak_29, ak_30, ak_31, ak_32, ak_33, ak_34, ak_35, ak_36, ak_37, ak_38, ak_39, ak_40, ak_41, ak_42, ak_43, ak_44, ak_45, ak_46, ak_47, u0, u7, qd, woc, n4]
        exact rm_X5_ward h2 (by omega)
      · have n4 : oc = 4 := hon.mpr rfl
        subst n4
        simp [↓ri_X5_ward, rs_X5_ward_0, rs_X5_ward_1, rs_X5_ward_2, rs_X5_ward_5, rs_X5_ward_6, rs_X5_ward_8, rs_X5_ward_11, rs_X5_ward_14, rs_X5_ward_15, rs_X5_ward_18, rs_X5_ward_19, rs_X5_ward_22, rs_X5_ward_25, rs_X5_ward_26, rs_X5_ward_27, rs_X5_ward_28, rs_X5_ward_30, rs_X5_ward_31, rs_X5_ward_34, rs_X5_ward_35, rs_X5_ward_38, rs_X5_ward_41, rs_X5_ward_42, rs_X5_ward_44, rs_X5_ward_46, rs_X5_ward_47, rs_X5_ward_50, rs_X5_ward_51, rs_X5_ward_52, rs_X5_ward_55, rs_X5_ward_58, rs_X5_ward_59, rs_X5_ward_62, rs_X5_ward_63, rs_X5_ward_66, rs_X5_ward_67, rs_X5_ward_70, rs_X5_ward_73, rs_X5_ward_75, rs_X5_ward_76, rs_X5_ward_79, rs_X5_ward_81, rs_X5_ward_82, rs_X5_ward_85, rs_X5_ward_86, rs_X5_ward_87, rs_X5_ward_88, rs_X5_ward_89, rs_X5_ward_90, rs_X5_ward_91, rs_X5_ward_94, rs_X5_ward_97, rs_X5_ward_98, rs_X5_ward_101, rs_X5_ward_105, rs_X5_ward_106, rs_X5_ward_109, rs_X5_ward_112, rs_X5_ward_113, rs_X5_ward_116, rs_X5_ward_117, rs_X5_ward_120, rs_X5_ward_121, rs_X5_ward_122, rs_X5_ward_123, rs_X5_ward_126, rs_X5_ward_129, rs_X5_ward_13, rs_X5_ward_130, -List.getElem?_eq_getElem, am_js, am_e, am_in, am_sl, rI, rZ, rV, rJ, rA, rC, kI, kJ, kR, am_one, am_nl, am_w8, tIc, tLc, tNul, tIld, tLld, tAld, tIst, tLst, tAst, tIinc, tI2, tDv, tL2, tLrem, tLs, tLcmp, tI2l, tL2i, tI2c, tDup, tDup2, tPop, tGo, tIfeq, tIfne, tIflt, tIfge, tIfgt, tIfle, tCmeq, tCmne, tCmlt, tCmge, tCmgt, tCmle, tNu, tTs, tGf, tPf, tGs, tIal, tIas, tBal, tBas, tAln, tSv, tSc, tSb, tSl, tSk, tCv, tCs, tCt, tMx, tMn, wr_10000, wr_100000, wr_1000000, wr_10000000, wr_100000000, wr_2400, wr_9999, wr_0, wr_1, wr_2, wr_3, wr_4, wr_5, wr_6, wr_7, wr_8, wr_9, wr_10, wr_11, wr_12, wr_13, wr_14, wr_15, wr_16, wr_17, wr_18, wr_19, wr_20, wr_21, wr_22, wr_23, wr_24, wr_25, wr_26, wr_27, wr_28, wr_29, wr_30, wr_31, wr_32, wr_33, wr_34, wr_35, wr_36, wr_37, wr_38, wr_39, wr_40, wr_41, wr_42, wr_43, wr_44, wr_45, wr_46, wr_47, wr_48, wr_49, wr_50, wr_51, wr_52, wr_53, wr_54, wr_55, wr_56, wr_57, wr_58, wr_59, wr_60, wr_61, wr_62, wr_63, wr_99, wr_100, wr_192, wr_255, wr_256, wr_343, wr_999, wr_1000, wr_2401, wr_2147483647, wr_65535, wr_m1, wr_m2, wr_m3, wr_m4, wr_m9, ak_1000, ak_1001, ak_1002, ak_0, ak_1, ak_2, ak_3, ak_4, ak_5, ak_6, ak_7, ak_8, ak_9, ak_10, ak_11, ak_12, ak_13, ak_14, ak_15, ak_16, ak_17, ak_18, ak_19, ak_20, ak_21, ak_22, ak_23, ak_24, ak_25, ak_26, ak_27, ak_28, ak_29, ak_30, ak_31, ak_32, ak_33, ak_34, ak_35, ak_36, ak_37, ak_38, ak_39, ak_40, ak_41, ak_42, ak_43, ak_44, ak_45, ak_46, ak_47, u0, u7, qd]
        exact rm_X5_ward h2 (by omega))
    obtain ⟨v0, hV⟩ := W5_at h0 hs' sd st g s d b
    have v7 := hV.seven.1
    have q2 := sp_X4_takeOff hV
    simp only [Nat.reduceAdd] at q2
    rw [W5_10] at q2
    refine ⟨d1, k3 + 99 + 1, by omega, ?_⟩
    rw [rs_X5_ward_29]
    simp at h3
    generalize W5 M len fa ac sr sd st g s (0, 0, 0, 0) b = V2 at q2 h3
    generalize W5 M len fa ac sr sd st g s d b = V at q2 v0 v7 ⊢
    simp only [co] at v0
    simp [↓ri_X5_ward, rs_X5_ward_0, rs_X5_ward_1, rs_X5_ward_2, rs_X5_ward_5, rs_X5_ward_6, rs_X5_ward_8, rs_X5_ward_11, rs_X5_ward_14, rs_X5_ward_15, rs_X5_ward_18, rs_X5_ward_19, rs_X5_ward_22, rs_X5_ward_25, rs_X5_ward_26, rs_X5_ward_27, rs_X5_ward_28, rs_X5_ward_30, rs_X5_ward_31, rs_X5_ward_34, rs_X5_ward_35, rs_X5_ward_38, rs_X5_ward_41, rs_X5_ward_42, rs_X5_ward_46, rs_X5_ward_47, rs_X5_ward_50, rs_X5_ward_51, rs_X5_ward_52, rs_X5_ward_55, rs_X5_ward_58, rs_X5_ward_59, rs_X5_ward_62, rs_X5_ward_63, rs_X5_ward_66, rs_X5_ward_67, rs_X5_ward_70, rs_X5_ward_73, rs_X5_ward_75, rs_X5_ward_76, rs_X5_ward_79, rs_X5_ward_81, rs_X5_ward_82, rs_X5_ward_85, rs_X5_ward_86, rs_X5_ward_87, rs_X5_ward_88, rs_X5_ward_89, rs_X5_ward_90, rs_X5_ward_91, rs_X5_ward_94, rs_X5_ward_97, rs_X5_ward_98, rs_X5_ward_101, rs_X5_ward_104, rs_X5_ward_105, rs_X5_ward_106, rs_X5_ward_109, rs_X5_ward_112, rs_X5_ward_113, rs_X5_ward_116, rs_X5_ward_117, rs_X5_ward_120, rs_X5_ward_121, rs_X5_ward_122, rs_X5_ward_123, rs_X5_ward_126, rs_X5_ward_129, rs_X5_ward_13, rs_X5_ward_130, -List.getElem?_eq_getElem, am_js, am_e, am_in, am_sl, rI, rZ, rV, rJ, rA, rC, kI, kJ, kR, am_one, am_nl, am_w8, tIc, tLc, tNul, tIld, tLld, tAld, tIst, tLst, tAst, tIinc, tI2, tDv, tL2, tLrem, tLs, tLcmp, tI2l, tL2i, tI2c, tDup, tDup2, tPop, tGo, tIfeq, tIfne, tIflt, tIfge, tIfgt, tIfle, tCmeq, tCmne, tCmlt, tCmge, tCmgt, tCmle, tNu, tTs, tGf, tPf, tGs, tIal, tIas, tBal, tBas, tAln, tSv, tSc, tSb, tSl, tSk, tCv, tCs, tCt, tMx, tMn, wr_10000, wr_100000, wr_1000000, wr_10000000, wr_100000000, wr_2400, wr_9999, wr_0, wr_1, wr_2, wr_3, wr_4, wr_5, wr_6, wr_7, wr_8, wr_9, wr_10, wr_11, wr_12, wr_13, wr_14, wr_15, wr_16, wr_17, wr_18, wr_19, wr_20, wr_21, wr_22, wr_23, wr_24, wr_25, wr_26, wr_27, wr_28, wr_29, wr_30, wr_31, wr_32, wr_33, wr_34, wr_35, wr_36, wr_37, wr_38, wr_39, wr_40, wr_41, wr_42, wr_43, wr_44, wr_45, wr_46, wr_47, wr_48, wr_49, wr_50, wr_51, wr_52, wr_53, wr_54, wr_55, wr_56, wr_57, wr_58, wr_59, wr_60, wr_61, wr_62, wr_63, wr_99, wr_100, wr_192, wr_255, wr_256, wr_343, wr_999, wr_1000, wr_2401, wr_2147483647, wr_65535, wr_m1, wr_m2, wr_m3, wr_m4, wr_m9, ak_1000, ak_1001, ak_1002, ak_0, ak_1, ak_2, ak_3, ak_4, ak_5, ak_6, ak_7, ak_8, ak_9, ak_10, ak_11, ak_12, ak_13, ak_14, ak_15, ak_16, ak_17, ak_18, ak_19, ak_20, ak_21, ak_22, ak_23, ak_24, ak_25, ak_26, ak_27, ak_28, ak_29, ak_30, ak_31, ak_32, ak_33, ak_34, ak_35, ak_36, ak_37, ak_38, ak_39, ak_40, ak_41, ak_42, ak_43, ak_44, ak_45, ak_46, ak_47, v0, v7, q2, wk, wm, nk]
    exact rm_X5_ward h3 (by omega)
theorem sp_X5_ward {M : List AC} {len fa ac : Int} {sr : AV} {sd : Int64} (h0 : M[0]? = some (co len fa ac sr sd)) {st : Int} {g s d b : F4} (hs : HS M 2 st g s d b) {st' : Int} {g' s' d' b' : F4} (hs' : HS M 7 st' g' s' d' b') (hr : SR st g s d b) (m : Int) (hm : -2147483648 ≤ m ∧ m < 2147483648) : ∃ (st1 : Int) (g1 s1 d1 b1 : F4), fn_X5_ward [vR 0, vI m] M = some (some (vI (if 1 ≤ m ∧ m ≤ 30 then (wrd st g s b m.toNat (0, sd)).1 else -2)), (T5 M st1 g1 s1 d1 b1).set 0 (co len fa ac sr (if 1 ≤ m ∧ m ≤ 30 then (wrd st g s b m.toNat (0, sd)).2 else sd))) := by
  have wm : wr m = m := wr_id (by omega) (by omega)
  obtain ⟨j0, -⟩ := hs'.seven
  by_cases hM : 1 ≤ m ∧ m ≤ 30
  · rw [if_pos hM, if_pos hM]
    obtain ⟨d1, k, hk, h⟩ := lp_X5_ward h0 hs' hr.1 hr.2.1 hr.2.2.1 hr.2.2.2.2 hM m.toNat 0 0 d sd none (by omega) (by omega)
    have eW : W5 M len fa ac sr sd st g s d b = T5 M st g s d b := set_same ((T5_ne M st g s d b 0 (by omega)).trans h0)
    rw [eW] at h
    have q1 := T5_bec hs hs'
    refine ⟨st, g, s, d1, b, ?_⟩
    change fn_X5_ward [vR 0, vI m] M = some (some (vI _), W5 M len fa ac sr _ st g s d1 b)
    generalize wrd st g s b m.toNat (0, sd) = W at h ⊢
    generalize T5 M st g s d b = V at q1 h
    have a1 : ¬ m < 1 := by omega
    have a2 : m ≤ 30 := by omega
    simp only [co] at h0
    (refine am_fnR (tb := tb_X5_ward) (N := 20000) (Nat.le_of_ble_eq_true rfl) (Nat.le_of_ble_eq_true rfl) ?_; show Ru rx_X5_ward 20000 0 _ _ _ _)
    refine ⟨k + 30, by omega, ?_⟩
    simp [↓ri_X5_ward, rs_X5_ward_0, rs_X5_ward_1, rs_X5_ward_2, rs_X5_ward_5, rs_X5_ward_6, rs_X5_ward_8, rs_X5_ward_11, rs_X5_ward_14, rs_X5_ward_15, rs_X5_ward_18, rs_X5_ward_19, rs_X5_ward_22, rs_X5_ward_25, rs_X5_ward_26, rs_X5_ward_27, rs_X5_ward_28, rs_X5_ward_30, rs_X5_ward_31, rs_X5_ward_34, rs_X5_ward_35, rs_X5_ward_38, rs_X5_ward_41, rs_X5_ward_42, rs_X5_ward_44, rs_X5_ward_46, rs_X5_ward_47, rs_X5_ward_50, rs_X5_ward_51, rs_X5_ward_52, rs_X5_ward_55, rs_X5_ward_58, rs_X5_ward_59, rs_X5_ward_62, rs_X5_ward_63, rs_X5_ward_66, rs_X5_ward_67, rs_X5_ward_70, rs_X5_ward_73, rs_X5_ward_75, rs_X5_ward_76, rs_X5_ward_79, rs_X5_ward_81, rs_X5_ward_82, rs_X5_ward_85, rs_X5_ward_86, rs_X5_ward_87, rs_X5_ward_88, rs_X5_ward_89, rs_X5_ward_90, rs_X5_ward_91, rs_X5_ward_94, rs_X5_ward_97, rs_X5_ward_98, rs_X5_ward_101, rs_X5_ward_104, rs_X5_ward_105, rs_X5_ward_106, rs_X5_ward_109, rs_X5_ward_112, rs_X5_ward_113, rs_X5_ward_116, rs_X5_ward_117, rs_X5_ward_120, rs_X5_ward_121, rs_X5_ward_122, rs_X5_ward_123, rs_X5_ward_126, rs_X5_ward_129, rs_X5_ward_13, rs_X5_ward_130, -List.getElem?_eq_getElem, am_js, am_e, am_in, am_sl, rI, rZ, rV, rJ, rA, rC, kI, kJ, kR, am_one, am_nl, am_w8, tIc, tLc, tNul, tIld, tLld, tAld, tIst, tLst, tAst, tIinc, tI2, tDv, tL2, tLrem, tLs, tLcmp, tI2l, tL2i, tI2c, tDup, tDup2, tPop, tGo, tIfeq, tIfne, tIflt, tIfge, tIfgt, tIfle, tCmeq, tCmne, tCmlt, tCmge, tCmgt, tCmle, tNu, tTs, tGf, tPf, tGs, tIal, tIas, tBal, tBas, tAln, tSv, tSc, tSb, tSl, tSk, tCv, tCs, tCt, tMx, tMn, wr_10000, wr_100000, wr_1000000, wr_10000000, wr_100000000, wr_2400, wr_9999, wr_0, wr_1, wr_2, wr_3, wr_4, wr_5, wr_6, wr_7, wr_8, wr_9, wr_10, wr_11, wr_12, wr_13, wr_14, wr_15, wr_16, wr_17, wr_18, wr_19, wr_20, wr_21, wr_22, wr_23, wr_24, wr_25, wr_26, wr_27, wr_28, wr_29, wr_30, wr_31, wr_32, wr_33, wr_34, wr_35, wr_36, wr_37, wr_38, wr_39, wr_40, wr_41, wr_42, wr_43, wr_44, wr_45, wr_46, wr_47, wr_48, wr_49, wr_50, wr_51, wr_52, wr_53, wr_54, wr_55, wr_56, wr_57, wr_58, wr_59, wr_60, wr_61, wr_62, wr_63, wr_99, wr_100, wr_192, wr_255, wr_256, wr_343, wr_999, wr_1000, wr_2401, wr_2147483647, wr_65535, wr_m1, wr_m2, wr_m3, wr_m4, wr_m9, ak_1000, ak_1001, ak_1002, ak_0, ak_1, ak_2, ak_3, ak_4, ak_5, ak_6, ak_7, ak_8, ak_9, ak_10, ak_11, ak_12, ak_13, ak_14, ak_15, ak_16, ak_17, ak_18, ak_19, ak_20, ak_21, ak_22, ak_23, ak_24, ak_25, ak_26, ak_27, ak_28, ak_29, ak_30, ak_31, ak_32, ak_33, ak_34, ak_35, ak_36, ak_37, ak_38, ak_39, ak_40, ak_41, ak_42, ak_43, ak_44, ak_45, ak_46, ak_47, wm, a1, a2, h0, j0, q1]
    exact rm_X5_ward h (by omega)
  · rw [if_neg hM, if_neg hM]
    refine ⟨st', g', s', d', b', ?_⟩
    rw [T5_same hs', set_same h0]
    by_cases a1 : m < 1
    · (refine am_fnI (tb := tb_X5_ward) (n := 60) (Nat.le_of_ble_eq_true rfl) (Nat.le_of_ble_eq_true rfl) ?_; show rx_X5_ward 60 0 _ _ _ = _)
      simp [↓ri_X5_ward, rs_X5_ward_0, rs_X5_ward_1, rs_X5_ward_2, rs_X5_ward_5, rs_X5_ward_6, rs_X5_ward_8, rs_X5_ward_11, rs_X5_ward_14, rs_X5_ward_15, rs_X5_ward_18, rs_X5_ward_19, rs_X5_ward_22, rs_X5_ward_25, rs_X5_ward_26, rs_X5_ward_27, rs_X5_ward_28, rs_X5_ward_29, rs_X5_ward_30, rs_X5_ward_31, rs_X5_ward_34, rs_X5_ward_35, rs_X5_ward_38, rs_X5_ward_41, rs_X5_ward_42, rs_X5_ward_44, rs_X5_ward_46, rs_X5_ward_47, rs_X5_ward_50, rs_X5_ward_51, rs_X5_ward_52, rs_X5_ward_55, rs_X5_ward_58, rs_X5_ward_59, rs_X5_ward_62, rs_X5_ward_63, rs_X5_ward_66, rs_X5_ward_67, rs_X5_ward_70, rs_X5_ward_73, rs_X5_ward_75, rs_X5_ward_76, rs_X5_ward_79, rs_X5_ward_81, rs_X5_ward_82, rs_X5_ward_85, rs_X5_ward_86, rs_X5_ward_87, rs_X5_ward_88, rs_X5_ward_89, rs_X5_ward_90, rs_X5_ward_91, rs_X5_ward_94, rs_X5_ward_97, rs_X5_ward_98, rs_X5_ward_101, rs_X5_ward_104, rs_X5_ward_105, rs_X5_ward_106, rs_X5_ward_109, rs_X5_ward_112, rs_X5_ward_113, rs_X5_ward_116, rs_X5_ward_117, rs_X5_ward_120, rs_X5_ward_121, rs_X5_ward_122, rs_X5_ward_123, rs_X5_ward_126, rs_X5_ward_129, rs_X5_ward_13, rs_X5_ward_130, -List.getElem?_eq_getElem, am_js, am_e, am_in, am_sl, rI, rZ, rV, rJ, rA, rC, kI, kJ, kR, am_one, am_nl, am_w8, tIc, tLc, tNul, tIld, tLld, tAld, tIst, tLst, tAst, tIinc, tI2, tDv, tL2, tLrem, tLs, tLcmp, tI2l, tL2i, tI2c, tDup, tDup2, tPop, tGo, tIfeq, tIfne, tIflt, tIfge, tIfgt, tIfle, tCmeq, tCmne, tCmlt, tCmge, tCmgt, tCmle, tNu, tTs, tGf, tPf, tGs, tIal, tIas, tBal, tBas, tAln, tSv, tSc, tSb, tSl, tSk, tCv, tCs, tCt, tMx, tMn, wr_10000, wr_100000, wr_1000000, wr_10000000, wr_100000000, wr_2400, wr_9999, wr_0, wr_1, wr_2, wr_3, wr_4, wr_5, wr_6, wr_7, wr_8, wr_9, wr_10, wr_11, wr_12, wr_13, wr_14, wr_15, wr_16, wr_17, wr_18, wr_19, wr_20, wr_21, wr_22, wr_23, wr_24, wr_25, wr_26, wr_27, wr_28, wr_29, wr_30, wr_31, wr_32, wr_33, wr_34, wr_35, wr_36, wr_37, wr_38, wr_39, wr_40, wr_41, wr_42, wr_43, wr_44, wr_45, wr_46, wr_47, wr_48, wr_49, wr_50, wr_51, wr_52, wr_53, wr_54, wr_55, wr_56, wr_57, wr_58, wr_59, wr_60, wr_61, wr_62, wr_63, wr_99, wr_100, wr_192, wr_255, wr_256, wr_343, wr_999, wr_1000, wr_2401, wr_2147483647, wr_65535, wr_m1, wr_m2, wr_m3, wr_m4, wr_m9, ak_1000, ak_1001, ak_1002, ak_0, ak_1, ak_2, ak_3, ak_4, ak_5, ak_6, ak_7, ak_8, ak_9, ak_10, ak_11, ak_12, ak_13, ak_14, ak_15, ak_16, ak_17, ak_18, ak_19, ak_20, ak_21, ak_22, ak_23, ak_24, ak_25, ak_26, ak_27, ak_28, ak_29, ak_30, ak_31, ak_32, ak_33, ak_34, ak_35, ak_36, ak_37, ak_38, ak_39, ak_40, ak_41, ak_42, ak_43, ak_44, ak_45, ak_46, ak_47, wm, a1]
    · have a2 : ¬ m ≤ 30 := by omega
      (refine am_fnI (tb := tb_X5_ward) (n := 60) (Nat.le_of_ble_eq_true rfl) (Nat.le_of_ble_eq_true rfl) ?_; show rx_X5_ward 60 0 _ _ _ = _)
      simp [↓ri_X5_ward, rs_X5_ward_0, rs_X5_ward_1, rs_X5_ward_2, rs_X5_ward_5, rs_X5_ward_6, rs_X5_ward_8, rs_X5_ward_11, rs_X5_ward_14, rs_X5_ward_15, rs_X5_ward_18, rs_X5_ward_19, rs_X5_ward_22, rs_X5_ward_25, rs_X5_ward_26, rs_X5_ward_27, rs_X5_ward_28, rs_X5_ward_29, rs_X5_ward_30, rs_X5_ward_31, rs_X5_ward_34, rs_X5_ward_35, rs_X5_ward_38, rs_X5_ward_41, rs_X5_ward_42, rs_X5_ward_44, rs_X5_ward_46, rs_X5_ward_47, rs_X5_ward_50, rs_X5_ward_51, rs_X5_ward_52, rs_X5_ward_55, rs_X5_ward_58, rs_X5_ward_59, rs_X5_ward_62, rs_X5_ward_63, rs_X5_ward_66, rs_X5_ward_67, rs_X5_ward_70, rs_X5_ward_73, rs_X5_ward_75, rs_X5_ward_76, rs_X5_ward_79, rs_X5_ward_81, rs_X5_ward_82, rs_X5_ward_85, rs_X5_ward_86, rs_X5_ward_87, rs_X5_ward_88, rs_X5_ward_89, rs_X5_ward_90, rs_X5_ward_91, rs_X5_ward_94, rs_X5_ward_97, rs_X5_ward_98, rs_X5_ward_101, rs_X5_ward_104, rs_X5_ward_105, rs_X5_ward_106, rs_X5_ward_109, rs_X5_ward_112, rs_X5_ward_113, rs_X5_ward_116, rs_X5_ward_117, rs_X5_ward_120, rs_X5_ward_121, rs_X5_ward_122, rs_X5_ward_123, rs_X5_ward_126, rs_X5_ward_129, rs_X5_ward_13, rs_X5_ward_130, -List.getElem?_eq_getElem, am_js, am_e, am_in, am_sl, rI, rZ, rV, rJ, rA, rC, kI, kJ, kR, am_one, am_nl, am_w8, tIc, tLc, tNul, tIld, tLld, tAld, tIst, tLst, tAst, tIinc, tI2, tDv, tL2, tLrem, tLs, tLcmp, tI2l, tL2i, tI2c, tDup, tDup2, tPop, tGo, tIfeq, tIfne, tIflt, tIfge, tIfgt, tIfle, tCmeq, tCmne, tCmlt, tCmge, tCmgt, tCmle, tNu, tTs, tGf, tPf, tGs, tIal, tIas, tBal, tBas, tAln, tSv, tSc, tSb, tSl, tSk, tCv, tCs, tCt, tMx, tMn, wr_10000, wr_100000, wr_1000000, wr_10000000, wr_100000000, wr_2400, wr_9999, wr_0, wr_1, wr_2, wr_3, wr_4, wr_5, wr_6, wr_7, wr_8, wr_9, wr_10, wr_11, wr_12, wr_13, wr_14, wr_15, wr_16, wr_17, wr_18, wr_19, wr_20, wr_21, wr_22, wr_23, wr_24, wr_25, wr_26, wr_27, wr_28, wr_29, wr_30, wr_31, wr_32, wr_33, wr_34, wr_35, wr_36, wr_37, wr_38, wr_39, wr_40, wr_41, wr_42, wr_43, wr_44, wr_45, wr_46, wr_47, wr_48, wr_49, wr_50, wr_51, wr_52, wr_53, wr_54, wr_55, wr_56, wr_57, wr_58, wr_59, wr_60, wr_61, wr_62, wr_63, wr_99, wr_100, wr_192, wr_255, wr_256, wr_343, wr_999, wr_1000, wr_2401, wr_2147483647, wr_65535, wr_m1, wr_m2, wr_m3, wr_m4, wr_m9, ak_1000, ak_1001, ak_1002, ak_0, ak_1, ak_2, ak_3, ak_4, ak_5, ak_6, ak_7, ak_8, ak_9, ak_10, ak_11, ak_12, ak_13, ak_14, ak_15, ak_16, ak_17, ak_18, ak_19, ak_20, ak_21, ak_22, ak_23, ak_24, ak_25, ak_26, ak_27, ak_28, ak_29, ak_30, ak_31, ak_32, ak_33, ak_34, ak_35, ak_36, ak_37, ak_38, ak_39, ak_40, ak_41, ak_42, ak_43, ak_44, ak_45, ak_46, ak_47, wm, a1, a2]
end
