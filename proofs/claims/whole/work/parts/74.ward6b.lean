noncomputable section
abbrev mi_X6_ward : Mi := (yX6_ward, cX6_ward, 5, some .int, 7)
theorem mf_X6_ward : am_mf mi_X6_ward 1 := ⟨w_co_X6_ward, w_in_X6, ⟨by decide +kernel, by decide +kernel⟩, by decide +kernel, by decide⟩
def tb_X6_ward : List (Nat × Tr) := [(0, tIld 1 1), (1, tI2l), (2, tLc 1 1), (3, tLc 30 3), (6, tCs 3 fn_X6_in), (9, tIfne 15), (12, tIc (-2) 2), (15, tIc 0 1), (16, tIst 2 1), (17, tAld 0 1), (18, tCv 6 0 fn_X6_layNow), (21, tIc 0 1), (22, tIst 3 1), (23, tIld 3 1), (24, tIld 1 1), (25, tCmge 130), (28, tIc 0 1), (29, tIst 4 2), (31, tIld 4 2), (33, tIc 4 1), (34, tCmge 51), (37, tAld 0 1), (38, tGf 6 8), (41, tIld 4 2), (43, tIc 0 1), (44, tIas), (45, tIinc 4 1), (48, tGo 31), (51, tIc 0 1), (52, tIst 4 2), (54, tIld 4 2), (56, tIc 4 1), (57, tCmge 108), (60, tAld 0 1), (61, tAld 0 1), (62, tGf 6 23), (65, tLc 6364136223846793005 3), (68, tL2 (fun a b => a * b)), (69, tLc 1442695040888963407 3), (72, tL2 (fun a b => a + b)), (73, tPf kJ 6 23), (76, tAld 0 1), (77, tGf 6 8), (80, tIld 4 2), (82, tAld 0 1), (83, tGf 6 23), (86, tIc 33 2), (88, tLs oLushr), (89, tLc 6 3), (92, tLrem), (93, tL2i), (94, tIc 1 1), (95, tI2 (fun a b => a + b)), (96, tIas), (97, tAld 0 1), (98, tCv 6 0 fn_X6_slips), (101, tPop), (102, tIinc 4 1), (105, tGo 54), (108, tIld 2 1), (109, tAld 0 1), (110, tIc 1 1), (111, tCv 6 1 fn_X6_isDeep), (114, tIfeq 121), (117, tIc 1 1), (118, tGo 122), (121, tIc 0 1), (122, tI2 (fun a b => a + b)), (123, tIst 2 1), (124, tIinc 3 1), (127, tGo 23), (130, tIld 2 1)]
theorem ok_X6_ward : Tok mi_X6_ward tb_X6_ward :=
  Tc (sd_iload_n dX6_ward_0) <|
  Tc (sd_i2l dX6_ward_1) <|
  Tc (sd_lconst rfl dX6_ward_2) <|
  Tc (sd_ldc2 w_cl_X6_242 dX6_ward_3) <|
  Tc (sd_cs fok_X6_in mf_X6_in w_ml_X6_65 w_st_X6_in (by decide) dX6_ward_6) <|
  Tc (sd_if_ne (by decide) dX6_ward_9) <|
  Tc (sd_bipush (by decide +kernel) dX6_ward_12) <|
  Tc (sd_iconst rfl dX6_ward_15) <|
  Tc (sd_istore_n dX6_ward_16) <|
  Tc (sd_aload_n dX6_ward_17) <|
  Tc (sd_cv (T := TX6) fok_X6_layNow mf_X6_layNow rfl w_ml_X6_115 w_im_X6_layNow w_se_X6_layNow (by decide) dX6_ward_18) <|
  Tc (sd_iconst rfl dX6_ward_21) <|
  Tc (sd_istore_n dX6_ward_22) <|
  Tc (sd_iload_n dX6_ward_23) <|
  Tc (sd_iload_n dX6_ward_24) <|
  Tc (sd_cm_ge (by decide) dX6_ward_25) <|
  Tc (sd_iconst rfl dX6_ward_28) <|
  Tc (sd_istore dX6_ward_29) <|
  Tc (sd_iload dX6_ward_31) <|
  Tc (sd_iconst rfl dX6_ward_33) <|
  Tc (sd_cm_ge (by decide) dX6_ward_34) <|
  Tc (sd_aload_n dX6_ward_37) <|
  Tc (sd_getf (T := TX6) rfl giX6 (by decide) w_fl_X6_25 dX6_ward_38) <|
  Tc (sd_iload dX6_ward_41) <|
  Tc (sd_iconst rfl dX6_ward_43) <|
  Tc (sd_ias dX6_ward_44) <|
  Tc (sd_iinc dX6_ward_45) <|
  Tc (sd_goto (by decide) dX6_ward_48) <|
  Tc (sd_iconst rfl dX6_ward_51) <|
  Tc (sd_istore dX6_ward_52) <|
  Tc (sd_iload dX6_ward_54) <|
  Tc (sd_iconst rfl dX6_ward_56) <|
  Tc (sd_cm_ge (by decide) dX6_ward_57) <|
  Tc (sd_aload_n dX6_ward_60) <|
  Tc (sd_aload_n dX6_ward_61) <|
  Tc (sd_getf (T := TX6) rfl giX6 (by decide) w_fl_X6_238 dX6_ward_62) <|
  Tc (sd_ldc2 w_cl_X6_244 dX6_ward_65) <|
  Tc (sd_lmul dX6_ward_68) <|
  Tc (sd_ldc2 w_cl_X6_246 dX6_ward_69) <|
  Tc (sd_ladd dX6_ward_72) <|
  Tc (sd_putf (T := TX6) rfl giX6 (by decide) w_fl_X6_238 tyX6 tyX6_ok nmX6 (kJ_ok) rfl dX6_ward_73) <|
  Tc (sd_aload_n dX6_ward_76) <|
  Tc (sd_getf (T := TX6) rfl giX6 (by decide) w_fl_X6_25 dX6_ward_77) <|
  Tc (sd_iload dX6_ward_80) <|
  Tc (sd_aload_n dX6_ward_82) <|
  Tc (sd_getf (T := TX6) rfl giX6 (by decide) w_fl_X6_238 dX6_ward_83) <|
  Tc (sd_bipush (by decide +kernel) dX6_ward_86) <|
  Tc (sd_lushr dX6_ward_88) <|
  Tc (sd_ldc2 w_cl_X6_123 dX6_ward_89) <|
  Tc (sd_lrem dX6_ward_92) <|
  Tc (sd_l2i dX6_ward_93) <|
  Tc (sd_iconst rfl dX6_ward_94) <|
  Tc (sd_iadd dX6_ward_95) <|
  Tc (sd_ias dX6_ward_96) <|
  Tc (sd_aload_n dX6_ward_97) <|
  Tc (sd_cv (T := TX6) fok_X6_slips mf_X6_slips rfl w_ml_X6_135 w_im_X6_slips w_se_X6_slips (by decide) dX6_ward_98) <|
  Tc (sd_pop dX6_ward_101) <|
  Tc (sd_iinc dX6_ward_102) <|
  Tc (sd_goto (by decide) dX6_ward_105) <|
  Tc (sd_iload_n dX6_ward_108) <|
  Tc (sd_aload_n dX6_ward_109) <|
  Tc (sd_iconst rfl dX6_ward_110) <|
  Tc (sd_cv (T := TX6) fok_X6_isDeep mf_X6_isDeep rfl w_ml_X6_164 w_im_X6_isDeep w_se_X6_isDeep (by decide) dX6_ward_111) <|
  Tc (sd_if_eq (by decide) dX6_ward_114) <|
  Tc (sd_iconst rfl dX6_ward_117) <|
  Tc (sd_goto (by decide) dX6_ward_118) <|
  Tc (sd_iconst rfl dX6_ward_121) <|
  Tc (sd_iadd dX6_ward_122) <|
  Tc (sd_istore_n dX6_ward_123) <|
  Tc (sd_iinc dX6_ward_124) <|
  Tc (sd_goto (by decide) dX6_ward_127) <|
  Tc (sd_iload_n dX6_ward_130) <|
  Tn
theorem rk_X6_ward : Rok mi_X6_ward rI [14, 131] := rk_i dX6_ward_14 <| rk_i dX6_ward_131 <| rk_n
def rx_X6_ward : Nat → Nat → AL → List AV → List AC → Option (Option AV × List AC) := am_r tb_X6_ward rI [14, 131]
theorem rs_X6_ward_0 (n : Nat) (L : AL) (st : List AV) (M : List AC) : rx_X6_ward (n + 1) 0 L st M = am_j (rx_X6_ward n) ((tIld 1 1) 0 L st M) := rfl
theorem rs_X6_ward_1 (n : Nat) (L : AL) (st : List AV) (M : List AC) : rx_X6_ward (n + 1) 1 L st M = am_j (rx_X6_ward n) (tI2l 1 L st M) := rfl
theorem rs_X6_ward_2 (n : Nat) (L : AL) (st : List AV) (M : List AC) : rx_X6_ward (n + 1) 2 L st M = am_j (rx_X6_ward n) ((tLc 1 1) 2 L st M) := rfl
theorem rs_X6_ward_3 (n : Nat) (L : AL) (st : List AV) (M : List AC) : rx_X6_ward (n + 1) 3 L st M = am_j (rx_X6_ward n) ((tLc 30 3) 3 L st M) := rfl
theorem rs_X6_ward_6 (n : Nat) (L : AL) (st : List AV) (M : List AC) : rx_X6_ward (n + 1) 6 L st M = am_j (rx_X6_ward n) ((tCs 3 fn_X6_in) 6 L st M) := rfl
theorem rs_X6_ward_9 (n : Nat) (L : AL) (st : List AV) (M : List AC) : rx_X6_ward (n + 1) 9 L st M = am_j (rx_X6_ward n) ((tIfne 15) 9 L st M) := rfl
theorem rs_X6_ward_12 (n : Nat) (L : AL) (st : List AV) (M : List AC) : rx_X6_ward (n + 1) 12 L st M = am_j (rx_X6_ward n) ((tIc (-2) 2) 12 L st M) := rfl
theorem rs_X6_ward_15 (n : Nat) (L : AL) (st : List AV) (M : List AC) : rx_X6_ward (n + 1) 15 L st M = am_j (rx_X6_ward n) ((tIc 0 1) 15 L st M) := rfl
theorem rs_X6_ward_16 (n : Nat) (L : AL) (st : List AV) (M : List AC) : rx_X6_ward (n + 1) 16 L st M = am_j (rx_X6_ward n) ((tIst 2 1) 16 L st M) := rfl
theorem rs_X6_ward_17 (n : Nat) (L : AL) (st : List AV) (M : List AC) : rx_X6_ward (n + 1) 17 L st M = am_j (rx_X6_ward n) ((tAld 0 1) 17 L st M) := rfl
theorem rs_X6_ward_18 (n : Nat) (L : AL) (st : List AV) (M : List AC) : rx_X6_ward (n + 1) 18 L st M = am_j (rx_X6_ward n) ((tCv 6 0 fn_X6_layNow) 18 L st M) := rfl
theorem rs_X6_ward_21 (n : Nat) (L : AL) (st : List AV) (M : List AC) : rx_X6_ward (n + 1) 21 L st M = am_j (rx_X6_ward n) ((tIc 0 1) 21 L st M) := rfl
theorem rs_X6_ward_22 (n : Nat) (L : AL) (st : List AV) (M : List AC) : rx_X6_ward (n + 1) 22 L st M = am_j (rx_X6_ward n) ((tIst 3 1) 22 L st M) := rfl
theorem rs_X6_ward_23 (n : Nat) (L : AL) (st : List AV) (M : List AC) : rx_X6_ward (n + 1) 23 L st M = am_j (rx_X6_ward n) ((tIld 3 1) 23 L st M) := rfl
theorem rs_X6_ward_24 (n : Nat) (L : AL) (st : List AV) (M : List AC) : rx_X6_ward (n + 1) 24 L st M = am_j (rx_X6_ward n) ((tIld 1 1) 24 L st M) := rfl
theorem rs_X6_ward_25 (n : Nat) (L : AL) (st : List AV) (M : List AC) : rx_X6_ward (n + 1) 25 L st M = am_j (rx_X6_ward n) ((tCmge 130) 25 L st M) := rfl
theorem rs_X6_ward_28 (n : Nat) (L : AL) (st : List AV) (M : List AC) : rx_X6_ward (n + 1) 28 L st M = am_j (rx_X6_ward n) ((tIc 0 1) 28 L st M) := rfl
theorem rs_X6_ward_29 (n : Nat) (L : AL) (st : List AV) (M : List AC) : rx_X6_ward (n + 1) 29 L st M = am_j (rx_X6_ward n) ((tIst 4 2) 29 L st M) := rfl
theorem rs_X6_ward_31 (n : Nat) (L : AL) (st : List AV) (M : List AC) : rx_X6_ward (n + 1) 31 L st M = am_j (rx_X6_ward n) ((tIld 4 2) 31 L st M) := rfl
theorem rs_X6_ward_33 (n : Nat) (L : AL) (st : List AV) (M : List AC) : rx_X6_ward (n + 1) 33 L st M = am_j (rx_X6_ward n) ((tIc 4 1) 33 L st M) := rfl
theorem rs_X6_ward_34 (n : Nat) (L : AL) (st : List AV) (M : List AC) : rx_X6_ward (n + 1) 34 L st M = am_j (rx_X6_ward n) ((tCmge 51) 34 L st M) := rfl
theorem rs_X6_ward_37 (n : Nat) (L : AL) (st : List AV) (M : List AC) : rx_X6_ward (n + 1) 37 L st M = am_j (rx_X6_ward n) ((tAld 0 1) 37 L st M) := rfl
theorem rs_X6_ward_38 (n : Nat) (L : AL) (st : List AV) (M : List AC) : rx_X6_ward (n + 1) 38 L st M = am_j (rx_X6_ward n) ((tGf 6 8) 38 L st M) := rfl
theorem rs_X6_ward_41 (n : Nat) (L : AL) (st : List AV) (M : List AC) : rx_X6_ward (n + 1) 41 L st M = am_j (rx_X6_ward n) ((tIld 4 2) 41 L st M) := rfl
theorem rs_X6_ward_43 (n : Nat) (L : AL) (st : List AV) (M : List AC) : rx_X6_ward (n + 1) 43 L st M = am_j (rx_X6_ward n) ((tIc 0 1) 43 L st M) := rfl
theorem rs_X6_ward_44 (n : Nat) (L : AL) (st : List AV) (M : List AC) : rx_X6_ward (n + 1) 44 L st M = am_j (rx_X6_ward n) (tIas 44 L st M) := rfl
theorem rs_X6_ward_45 (n : Nat) (L : AL) (st : List AV) (M : List AC) : rx_X6_ward (n + 1) 45 L st M = am_j (rx_X6_ward n) ((tIinc 4 1) 45 L st M) := rfl
theorem rs_X6_ward_48 (n : Nat) (L : AL) (st : List AV) (M : List AC) : rx_X6_ward (n + 1) 48 L st M = am_j (rx_X6_ward n) ((tGo 31) 48 L st M) := rfl
theorem rs_X6_ward_51 (n : Nat) (L : AL) (st : List AV) (M : List AC) : rx_X6_ward (n + 1) 51 L st M = am_j (rx_X6_ward n) ((tIc 0 1) 51 L st M) := rfl
theorem rs_X6_ward_52 (n : Nat) (L : AL) (st : List AV) (M : List AC) : rx_X6_ward (n + 1) 52 L st M = am_j (rx_X6_ward n) ((tIst 4 2) 52 L st M) := rfl
theorem rs_X6_ward_54 (n : Nat) (L : AL) (st : List AV) (M : List AC) : rx_X6_ward (n + 1) 54 L st M = am_j (rx_X6_ward n) ((tIld 4 2) 54 L st M) := rfl
theorem rs_X6_ward_56 (n : Nat) (L : AL) (st : List AV) (M : List AC) : rx_X6_ward (n + 1) 56 L st M = am_j (rx_X6_ward n) ((tIc 4 1) 56 L st M) := rfl
theorem rs_X6_ward_57 (n : Nat) (L : AL) (st : List AV) (M : List AC) : rx_X6_ward (n + 1) 57 L st M = am_j (rx_X6_ward n) ((tCmge 108) 57 L st M) := rfl
theorem rs_X6_ward_60 (n : Nat) (L : AL) (st : List AV) (M : List AC) : rx_X6_ward (n + 1) 60 L st M = am_j (rx_X6_ward n) ((tAld 0 1) 60 L st M) := rfl
theorem rs_X6_ward_61 (n : Nat) (L : AL) (st : List AV) (M : List AC) : rx_X6_ward (n + 1) 61 L st M = am_j (rx_X6_ward n) ((tAld 0 1) 61 L st M) := rfl
theorem rs_X6_ward_62 (n : Nat) (L : AL) (st : List AV) (M : List AC) : rx_X6_ward (n + 1) 62 L st M = am_j (rx_X6_ward n) ((tGf 6 23) 62 L st M) := rfl
theorem rs_X6_ward_65 (n : Nat) (L : AL) (st : List AV) (M : List AC) : rx_X6_ward (n + 1) 65 L st M = am_j (rx_X6_ward n) ((tLc 6364136223846793005 3) 65 L st M) := rfl
theorem rs_X6_ward_68 (n : Nat) (L : AL) (st : List AV) (M : List AC) : rx_X6_ward (n + 1) 68 L st M = am_j (rx_X6_ward n) ((tL2 (fun a b => a * b)) 68 L st M) := rfl
theorem rs_X6_ward_69 (n : Nat) (L : AL) (st : List AV) (M : List AC) : rx_X6_ward (n + 1) 69 L st M = am_j (rx_X6_ward n) ((tLc 1442695040888963407 3) 69 L st M) := rfl
theorem rs_X6_ward_72 (n : Nat) (L : AL) (st : List AV) (M : List AC) : rx_X6_ward (n + 1) 72 L st M = am_j (rx_X6_ward n) ((tL2 (fun a b => a + b)) 72 L st M) := rfl
theorem rs_X6_ward_73 (n : Nat) (L : AL) (st : List AV) (M : List AC) : rx_X6_ward (n + 1) 73 L st M = am_j (rx_X6_ward n) ((tPf kJ 6 23) 73 L st M) := rfl
theorem rs_X6_ward_76 (n : Nat) (L : AL) (st : List AV) (M : List AC) : rx_X6_ward (n + 1) 76 L st M = am_j (rx_X6_ward n) ((tAld 0 1) 76 L st M) := rfl
theorem rs_X6_ward_77 (n : Nat) (L : AL) (st : List AV) (M : List AC) : rx_X6_ward (n + 1) 77 L st M = am_j (rx_X6_ward n) ((tGf 6 8) 77 L st M) := rfl
theorem rs_X6_ward_80 (n : Nat) (L : AL) (st : List AV) (M : List AC) : rx_X6_ward (n + 1) 80 L st M = am_j (rx_X6_ward n) ((tIld 4 2) 80 L st M) := rfl
theorem rs_X6_ward_82 (n : Nat) (L : AL) (st : List AV) (M : List AC) : rx_X6_ward (n + 1) 82 L st M = am_j (rx_X6_ward n) ((tAld 0 1) 82 L st M) := rfl
theorem rs_X6_ward_83 (n : Nat) (L : AL) (st : List AV) (M : List AC) : rx_X6_ward (n + 1) 83 L st M = am_j (rx_X6_ward n) ((tGf 6 23) 83 L st M) := rfl
theorem rs_X6_ward_86 (n : Nat) (L : AL) (st : List AV) (M : List AC) : rx_X6_ward (n + 1) 86 L st M = am_j (rx_X6_ward n) ((tIc 33 2) 86 L st M) := rfl
theorem rs_X6_ward_88 (n : Nat) (L : AL) (st : List AV) (M : List AC) : rx_X6_ward (n + 1) 88 L st M = am_j (rx_X6_ward n) ((tLs oLushr) 88 L st M) := rfl
theorem rs_X6_ward_89 (n : Nat) (L : AL) (st : List AV) (M : List AC) : rx_X6_ward (n + 1) 89 L st M = am_j (rx_X6_ward n) ((tLc 6 3) 89 L st M) := rfl
theorem rs_X6_ward_92 (n : Nat) (L : AL) (st : List AV) (M : List AC) : rx_X6_ward (n + 1) 92 L st M = am_j (rx_X6_ward n) (tLrem 92 L st M) := rfl
theorem rs_X6_ward_93 (n : Nat) (L : AL) (st : List AV) (M : List AC) : rx_X6_ward (n + 1) 93 L st M = am_j (rx_X6_ward n) (tL2i 93 L st M) := rfl
theorem rs_X6_ward_94 (n : Nat) (L : AL) (st : List AV) (M : List AC) : rx_X6_ward (n + 1) 94 L st M = am_j (rx_X6_ward n) ((tIc 1 1) 94 L st M) := rfl
theorem rs_X6_ward_95 (n : Nat) (L : AL) (st : List AV) (M : List AC) : rx_X6_ward (n + 1) 95 L st M = am_j (rx_X6_ward n) ((tI2 (fun a b => a + b)) 95 L st M) := rfl
theorem rs_X6_ward_96 (n : Nat) (L : AL) (st : List AV) (M : List AC) : rx_X6_ward (n + 1) 96 L st M = am_j (rx_X6_ward n) (tIas 96 L st M) := rfl
theorem rs_X6_ward_97 (n : Nat) (L : AL) (st : List AV) (M : List AC) : rx_X6_ward (n + 1) 97 L st M = am_j (rx_X6_ward n) ((tAld 0 1) 97 L st M) := rfl
theorem rs_X6_ward_98 (n : Nat) (L : AL) (st : List AV) (M : List AC) : rx_X6_ward (n + 1) 98 L st M = am_j (rx_X6_ward n) ((tCv 6 0 fn_X6_slips) 98 L st M) := rfl
theorem rs_X6_ward_101 (n : Nat) (L : AL) (st : List AV) (M : List AC) : rx_X6_ward (n + 1) 101 L st M = am_j (rx_X6_ward n) (tPop 101 L st M) := rfl
theorem rs_X6_ward_102 (n : Nat) (L : AL) (st : List AV) (M : List AC) : rx_X6_ward (n + 1) 102 L st M = am_j (rx_X6_ward n) ((tIinc 4 1) 102 L st M) := rfl
theorem rs_X6_ward_105 (n : Nat) (L : AL) (st : List AV) (M : List AC) : rx_X6_ward (n + 1) 105 L st M = am_j (rx_X6_ward n) ((tGo 54) 105 L st M) := rfl
theorem rs_X6_ward_108 (n : Nat) (L : AL) (st : List AV) (M : List AC) : rx_X6_ward (n + 1) 108 L st M = am_j (rx_X6_ward n) ((tIld 2 1) 108 L st M) := rfl
theorem rs_X6_ward_109 (n : Nat) (L : AL) (st : List AV) (M : List AC) : rx_X6_ward (n + 1) 109 L st M = am_j (rx_X6_ward n) ((tAld 0 1) 109 L st M) := rfl
theorem rs_X6_ward_110 (n : Nat) (L : AL) (st : List AV) (M : List AC) : rx_X6_ward (n + 1) 110 L st M = am_j (rx_X6_ward n) ((tIc 1 1) 110 L st M) := rfl
theorem rs_X6_ward_111 (n : Nat) (L : AL) (st : List AV) (M : List AC) : rx_X6_ward (n + 1) 111 L st M = am_j (rx_X6_ward n) ((tCv 6 1 fn_X6_isDeep) 111 L st M) := rfl
theorem rs_X6_ward_114 (n : Nat) (L : AL) (st : List AV) (M : List AC) : rx_X6_ward (n + 1) 114 L st M = am_j (rx_X6_ward n) ((tIfeq 121) 114 L st M) := rfl
theorem rs_X6_ward_117 (n : Nat) (L : AL) (st : List AV) (M : List AC) : rx_X6_ward (n + 1) 117 L st M = am_j (rx_X6_ward n) ((tIc 1 1) 117 L st M) := rfl
theorem rs_X6_ward_118 (n : Nat) (L : AL) (st : List AV) (M : List AC) : rx_X6_ward (n + 1) 118 L st M = am_j (rx_X6_ward n) ((tGo 122) 118 L st M) := rfl
theorem rs_X6_ward_121 (n : Nat) (L : AL) (st : List AV) (M : List AC) : rx_X6_ward (n + 1) 121 L st M = am_j (rx_X6_ward n) ((tIc 0 1) 121 L st M) := rfl
theorem rs_X6_ward_122 (n : Nat) (L : AL) (st : List AV) (M : List AC) : rx_X6_ward (n + 1) 122 L st M = am_j (rx_X6_ward n) ((tI2 (fun a b => a + b)) 122 L st M) := rfl
theorem rs_X6_ward_123 (n : Nat) (L : AL) (st : List AV) (M : List AC) : rx_X6_ward (n + 1) 123 L st M = am_j (rx_X6_ward n) ((tIst 2 1) 123 L st M) := rfl
theorem rs_X6_ward_124 (n : Nat) (L : AL) (st : List AV) (M : List AC) : rx_X6_ward (n + 1) 124 L st M = am_j (rx_X6_ward n) ((tIinc 3 1) 124 L st M) := rfl
theorem rs_X6_ward_127 (n : Nat) (L : AL) (st : List AV) (M : List AC) : rx_X6_ward (n + 1) 127 L st M = am_j (rx_X6_ward n) ((tGo 23) 127 L st M) := rfl
theorem rs_X6_ward_130 (n : Nat) (L : AL) (st : List AV) (M : List AC) : rx_X6_ward (n + 1) 130 L st M = am_j (rx_X6_ward n) ((tIld 2 1) 130 L st M) := rfl
theorem rs_X6_ward_14 (n : Nat) (L : AL) (st : List AV) (M : List AC) : rx_X6_ward (n + 1) 14 L st M = am_e rI st M := rfl
theorem rs_X6_ward_131 (n : Nat) (L : AL) (st : List AV) (M : List AC) : rx_X6_ward (n + 1) 131 L st M = am_e rI st M := rfl
theorem ri_X6_ward (c : Prop) [Decidable c] (p q n : Nat) (L : AL) (st : List AV) (M : List AC) : rx_X6_ward n (if c then p else q) L st M = if c then rx_X6_ward n p L st M else rx_X6_ward n q L st M := by split <;> rfl
theorem rm_X6_ward {n k pc : Nat} {L : AL} {st : List AV} {M : List AC} {x : Option AV × List AC} (h : rx_X6_ward n pc L st M = some x) (hk : n ≤ k) : rx_X6_ward k pc L st M = some x := am_r_mono n k h hk
def fn_X6_ward : Fn := am_fn rx_X6_ward 5
theorem fok_X6_ward : Fok mi_X6_ward fn_X6_ward := fun _ _ _ _ h => am_fok ok_X6_ward rk_X6_ward rfl h
theorem seed_X6_ward {st lk len ac nx rf lr en lm : Int} {sd : Int64} {M : List AC} (h0 : M[26]? = some (mo st lk len ac nx rf lr en lm sd)) (n : Nat) (m z k c : Int) : rx_X6_ward (n + 8) 60 [some (vR 26), some (vI m), some (vI z), some (vI k), some (vI c)] [] M = rx_X6_ward n 76 [some (vR 26), some (vI m), some (vI z), some (vI k), some (vI c)] [] (M.set 26 (mo st lk len ac nx rf lr en lm (nxs sd))) := by
  rw [nxs_def]
  simp [↓ri_X6_ward, rs_X6_ward_0, rs_X6_ward_1, rs_X6_ward_2, rs_X6_ward_3, rs_X6_ward_6, rs_X6_ward_9, rs_X6_ward_12, rs_X6_ward_15, rs_X6_ward_16, rs_X6_ward_17, rs_X6_ward_18, rs_X6_ward_21, rs_X6_ward_22, rs_X6_ward_23, rs_X6_ward_24, rs_X6_ward_25, rs_X6_ward_28, rs_X6_ward_29, rs_X6_ward_31, rs_X6_ward_33, rs_X6_ward_34, rs_X6_ward_37, rs_X6_ward_38, rs_X6_ward_41, rs_X6_ward_43, rs_X6_ward_44, rs_X6_ward_45, rs_X6_ward_48, rs_X6_ward_51, rs_X6_ward_52, rs_X6_ward_56, rs_X6_ward_57, rs_X6_ward_60, rs_X6_ward_61, rs_X6_ward_62, rs_X6_ward_65, rs_X6_ward_68, rs_X6_ward_69, rs_X6_ward_72, rs_X6_ward_73, rs_X6_ward_77, rs_X6_ward_80, rs_X6_ward_82, rs_X6_ward_83, rs_X6_ward_86, rs_X6_ward_88, rs_X6_ward_89, rs_X6_ward_92, rs_X6_ward_93, rs_X6_ward_94, rs_X6_ward_95, rs_X6_ward_96, rs_X6_ward_97, rs_X6_ward_98, rs_X6_ward_101, rs_X6_ward_102, rs_X6_ward_105, rs_X6_ward_108, rs_X6_ward_109, rs_X6_ward_110, rs_X6_ward_111, rs_X6_ward_114, rs_X6_ward_117, rs_X6_ward_118, rs_X6_ward_121, rs_X6_ward_122, rs_X6_ward_123, rs_X6_ward_124, rs_X6_ward_127, rs_X6_ward_130, rs_X6_ward_14, rs_X6_ward_131, -List.getElem?_eq_getElem, am_js, am_e, am_in, am_sl, rI, rZ, rV, rJ, rA, rC, kI, kJ, kR, am_one, am_nl, am_w8, tIc, tLc, tNul, tIld, tLld, tAld, tIst, tLst, tAst, tIinc, tI2, tDv, tL2, tLrem, tLs, tLcmp, tI2l, tL2i, tI2c, tDup, tDup2, tPop, tGo, tIfeq, tIfne, tIflt, tIfge, tIfgt, tIfle, tCmeq, tCmne, tCmlt, tCmge, tCmgt, tCmle, tNu, tTs, tGf, tPf, tGs, tIal, tIas, tBal, tBas, tAln, tSv, tSc, tSb, tSl, tSk, tCv, tCs, tCt, tMx, tMn, wr_10000, wr_100000, wr_1000000, wr_10000000, wr_100000000, wr_2400, wr_9999, wr_0, wr_1, wr_2, wr_3, wr_4, wr_5, wr_6, wr_7, wr_8, wr_9, wr_10, wr_11, wr_12, wr_13, wr_14, wr_15, wr_16, wr_17, wr_18, wr_19, wr_20, wr_21, wr_22, wr_23, wr_24, wr_25, wr_26, wr_27, wr_28, wr_29, wr_30, wr_31, wr_32, wr_33, wr_34, wr_35, wr_36, wr_37, wr_38, wr_39, wr_40, wr_41, wr_42, wr_43, wr_44, wr_45, wr_46, wr_47, wr_48, wr_49, wr_50, wr_51, wr_52, wr_53, wr_54, wr_55, wr_56, wr_57, wr_58, wr_59, wr_60, wr_61, wr_62, wr_63, wr_99, wr_100, wr_192, wr_255, wr_256, wr_343, wr_999, wr_1000, wr_2401, wr_2147483647, wr_65535, wr_m1, wr_m2, wr_m3, wr_m4, wr_m9, ak_1000, ak_1001, ak_1002, ak_0, ak_1, ak_2, ak_3, ak_4, ak_5, ak_6, ak_7, ak_8, ak_9, ak_10, ak_11, ak_12, ak_13, ak_14, ak_15, ak_16, ak_17, ak_18, ak_19, ak_20, ak_21, ak_22, ak_23, ak_24, ak_25, ak_26, ak_27, ak_28, ak_29, ak_30, ak_31, ak_32, ak_33, ak_34, ak_35, ak_36, ak_37, ak_38, ak_39, ak_40, ak_41, ak_42, ak_43, ak_44, ak_45, ak_46, ak_47, h0, mo]
theorem dep_X6_ward {st lk len ac nx rf lr en lm : Int} {sd : Int64} {M : List AC} (h0 : M[26]? = some (mo st lk len ac nx rf lr en lm sd)) (n : Nat) (m z k c : Int) : rx_X6_ward (n + 10) 76 [some (vR 26), some (vI m), some (vI z), some (vI k), some (vI c)] [] M = rx_X6_ward n 94 [some (vR 26), some (vI m), some (vI z), some (vI k), some (vI c)] [vI (rdq sd), vI c, vR 32] M := by
  have h60 : ¬ (6 : Int64) = 0 := by decide +kernel
  rw [rdq_def]
  simp [↓ri_X6_ward, rs_X6_ward_0, rs_X6_ward_1, rs_X6_ward_2, rs_X6_ward_3, rs_X6_ward_6, rs_X6_ward_9, rs_X6_ward_12, rs_X6_ward_15, rs_X6_ward_16, rs_X6_ward_17, rs_X6_ward_18, rs_X6_ward_21, rs_X6_ward_22, rs_X6_ward_23, rs_X6_ward_24, rs_X6_ward_25, rs_X6_ward_28, rs_X6_ward_29, rs_X6_ward_31, rs_X6_ward_33, rs_X6_ward_34, rs_X6_ward_37, rs_X6_ward_38, rs_X6_ward_41, rs_X6_ward_43, rs_X6_ward_44, rs_X6_ward_45, rs_X6_ward_48, rs_X6_ward_51, rs_X6_ward_52, rs_X6_ward_56, rs_X6_ward_57, rs_X6_ward_60, rs_X6_ward_61, rs_X6_ward_62, rs_X6_ward_65, rs_X6_ward_68, rs_X6_ward_69, rs_X6_ward_72, rs_X6_ward_73, rs_X6_ward_76, rs_X6_ward_77, rs_X6_ward_80, rs_X6_ward_82, rs_X6_ward_83, rs_X6_ward_86, rs_X6_ward_88, rs_X6_ward_89, rs_X6_ward_92, rs_X6_ward_93, rs_X6_ward_95, rs_X6_ward_96, rs_X6_ward_97, rs_X6_ward_98, rs_X6_ward_101, rs_X6_ward_102, rs_X6_ward_105, rs_X6_ward_108, rs_X6_ward_109, rs_X6_ward_110, rs_X6_ward_111, rs_X6_ward_114, rs_X6_ward_117, rs_X6_ward_118, rs_X6_ward_121, rs_X6_ward_122, rs_X6_ward_123, rs_X6_ward_124, rs_X6_ward_127, rs_X6_ward_130, rs_X6_ward_14, rs_X6_ward_131, -List.getElem?_eq_getElem, am_js, am_e, am_in, am_sl, rI, rZ, rV, rJ, rA, rC, kI, kJ, kR, am_one, am_nl, am_w8, tIc, tLc, tNul, tIld, tLld, tAld, tIst, tLst, tAst, tIinc, tI2, tDv, tL2, tLrem, tLs, tLcmp, tI2l, tL2i, tI2c, tDup, tDup2, tPop, tGo, tIfeq, tIfne, tIflt, tIfge, tIfgt, tIfle, tCmeq, tCmne, tCmlt, tCmge, tCmgt, tCmle, tNu, tTs, tGf, tPf, tGs, tIal, tIas, tBal, tBas, tAln, tSv, tSc, tSb, tSl, tSk, tCv, tCs, tCt, tMx, tMn, wr_10000, wr_100000, wr_1000000, wr_10000000, wr_100000000, wr_2400, wr_9999, wr_0, wr_1, wr_2, wr_3, wr_4, wr_5, wr_6, wr_7, wr_8, wr_9, wr_10, wr_11, wr_12, wr_13, wr_14, wr_15, wr_16, wr_17, wr_18, wr_19, wr_20, wr_21, wr_22, wr_23, wr_24, wr_25, wr_26, wr_27, wr_28, wr_29, wr_30, wr_31, wr_32, wr_33, wr_34, wr_35, wr_36, wr_37, wr_38, wr_39, wr_40, wr_41, wr_42, wr_43, wr_44, wr_45, wr_46, wr_47, wr_48, wr_49, wr_50, wr_51, wr_52, wr_53, wr_54, wr_55, wr_56, wr_57, wr_58, wr_59, wr_60, wr_61, wr_62, wr_63, wr_99, wr_100, wr_192, wr_255, wr_256, wr_343, wr_999, wr_1000, wr_2401, wr_2147483647, wr_65535, wr_m1, wr_m2, wr_m3, wr_m4, wr_m9, ak_1000, ak_1001, ak_1002, ak_0, ak_1, ak_2, ak_3, ak_4, ak_5, ak_6, ak_7, ak_8, ak_9, ak_10, ak_11, ak_12, ak_13, ak_14, ak_15, ak_16, ak_17, ak_18, ak_19, ak_20, ak_21, ak_22, ak_23, ak_24, ak_25, ak_26, ak_27, ak_28, ak_29, ak_30, ak_31, ak_32, ak_33, ak_34, ak_35, ak_36, ak_37, ak_38, ak_39, ak_40, ak_41, ak_42, ak_43, ak_44, ak_45, ak_46, ak_47, h0, mo, wr_33, h60]
theorem l1_X6_ward {st lk len ac nx rf lr en lm m z k : Int} {g s b : F4} (hst : 1 ≤ st ∧ st ≤ 3) (hg : i4 1 9 g) (hs9 : i4 0 9 s) (hb : i4 0 3 b) (y : Option AV × List AC) (N : Nat) : ∀ (n c : Nat) (d : F4) (sd : Int64) (M : List AC), i4 0 6 d → M[26]? = some (mo st lk len ac nx rf lr en lm sd) → M[27]? = some (aI (l4 g)) → M[32]? = some (aI (l4 d)) → M[33]? = some (aI (l4 b)) → M[34]? = some (aI (l4 s)) → c + n = 4 →
    Ru rx_X6_ward N 108 [some (vR 26), some (vI m), some (vI z), some (vI k), some (vI 4)] [] ((M.set 26 (mo st lk len ac nx rf lr en lm (wdi st g s b n c (d, sd)).2)).set 32 (aI (l4 (wdi st g s b n c (d, sd)).1))) y →
    Ru rx_X6_ward (N + 60 * n + 10) 54 [some (vR 26), some (vI m), some (vI z), some (vI k), some (vI (c : Int))] [] M y
  | 0, c, d, sd, M, hd, h0, h27, h32, h33, h34, hc, kk => by
    have e : c = 4 := by omega
    subst e
    rw [wdi, set_same h0, set_same h32] at kk
    obtain ⟨n, hn, h⟩ := kk
    refine ⟨n + 9 + 1, by omega, ?_⟩
    rw [rs_X6_ward_54]
    simp [↓ri_X6_ward, rs_X6_ward_0, rs_X6_ward_1, rs_X6_ward_2, rs_X6_ward_3, rs_X6_ward_6, rs_X6_ward_9, rs_X6_ward_12, rs_X6_ward_15, rs_X6_ward_16, rs_X6_ward_17, rs_X6_ward_18, rs_X6_ward_21, rs_X6_ward_22, rs_X6_ward_23, rs_X6_ward_24, rs_X6_ward_25, rs_X6_ward_28, rs_X6_ward_29, rs_X6_ward_31, rs_X6_ward_33, rs_X6_ward_34, rs_X6_ward_37, rs_X6_ward_38, rs_X6_ward_41, rs_X6_ward_43, rs_X6_ward_44, rs_X6_ward_45, rs_X6_ward_48, rs_X6_ward_51, rs_X6_ward_52, rs_X6_ward_56, rs_X6_ward_57, rs_X6_ward_60, rs_X6_ward_61, rs_X6_ward_62, rs_X6_ward_65, rs_X6_ward_68, rs_X6_ward_69, rs_X6_ward_72, rs_X6_ward_73, rs_X6_ward_76, rs_X6_ward_77, rs_X6_ward_80, rs_X6_ward_82, rs_X6_ward_83, rs_X6_ward_86, rs_X6_ward_88, rs_X6_ward_89, rs_X6_ward_92, rs_X6_ward_93, rs_X6_ward_94, rs_X6_ward_95, rs_X6_ward_96, rs_X6_ward_97, rs_X6_ward_98, rs_X6_ward_101, rs_X6_ward_102, rs_X6_ward_105, rs_X6_ward_109, rs_X6_ward_110, rs_X6_ward_111, rs_X6_ward_114, rs_X6_ward_117, rs_X6_ward_118, rs_X6_ward_121, rs_X6_ward_122, rs_X6_ward_123, rs_X6_ward_124, rs_X6_ward_127, rs_X6_ward_130, rs_X6_ward_14, rs_X6_ward_131, -List.getElem?_eq_getElem, am_js, am_e, am_in, am_sl, rI, rZ, rV, rJ, rA, rC, kI, kJ, kR, am_one, am_nl, am_w8, tIc, tLc, tNul, tIld, tLld, tAld, tIst, tLst, tAst, tIinc, tI2, tDv, tL2, tLrem, tLs, tLcmp, tI2l, tL2i, tI2c, tDup, tDup2, tPop, tGo, tIfeq, tIfne, tIflt, tIfge, tIfgt, tIfle, tCmeq, tCmne, tCmlt, tCmge, tCmgt, tCmle, tNu, tTs, tGf, tPf, tGs, tIal, tIas, tBal, tBas, tAln, tSv, tSc, tSb, tSl, tSk, tCv, tCs, tCt, tMx, tMn, wr_10000, wr_100000, wr_1000000, wr_10000000, wr_100000000, wr_2400, wr_9999, wr_0, wr_1, wr_2, wr_3, wr_4, wr_5, wr_6, wr_7, wr_8, wr_9, wr_10, wr_11, wr_12, wr_13, wr_14, wr_15, wr_16, wr_17, wr_18, wr_19, wr_20, wr_21, wr_22, wr_23, wr_24, wr_25, wr_26, wr_27, wr_28, wr_29, wr_30, wr_31, wr_32, wr_33, wr_34, wr_35, wr_36, wr_37, wr_38, wr_39, wr_40, wr_41, wr_42, wr_43, wr_44, wr_45, wr_46, wr_47, wr_48, wr_49, wr_50, wr_51, wr_52, wr_53, wr_54, wr_55, wr_56, wr_57, wr_58, wr_59, wr_60, wr_61, wr_62, wr_63, wr_99, wr_100, wr_192, wr_255, wr_256, wr_343, wr_999, wr_1000, wr_2401, wr_2147483647, wr_65535, wr_m1, wr_m2, wr_m3, wr_m4, wr_m9, ak_1000, ak_1001, ak_1002, ak_0, ak_1, ak_2, ak_3, ak_4, ak_5, ak_6, ak_7, ak_8, ak_9, ak_10, ak_11, ak_12, ak_13, ak_14, ak_15, ak_16, ak_17, ak_18, ak_19, ak_20, ak_21, ak_22, ak_23, ak_24, ak_25, ak_26, ak_27, ak_28, ak_29, ak_30, ak_31, ak_32, ak_33, ak_34, ak_35, ak_36, ak_37, ak_38, ak_39, ak_40, ak_41, ak_42, ak_43, ak_44, ak_45, ak_46, ak_47]
    exact rm_X6_ward h (by omega)
  | n + 1, c, d, sd, M, hd, h0, h27, h32, h33, h34, hc, kk => by
    have r := rdq_rng (nxs sd)
    rw [wdi] at kk
    dsimp only at kk
    have hd' : i4 0 6 (s4 d c (rdq (nxs sd) + 1)) := i4_s hd _ (by omega) (by omega)
    have hsd := seed_X6_ward h0
    generalize nxs sd = sd2 at r kk hd' hsd
    generalize hf : rdq sd2 = f at r kk hd'
    have hS : HD ((M.set 26 (mo st lk len ac nx rf lr en lm sd2)).set 32 (aI (l4 (s4 d c (f + 1))))) st g s (s4 d c (f + 1)) b := ⟨⟨lk, len, ac, nx, rf, lr, en, lm, sd2, (by simp [-List.getElem?_eq_getElem, h0, gs h0])⟩, (by simp [-List.getElem?_eq_getElem, h27, gs h27]), (by simp [-List.getElem?_eq_getElem, h32, gs h32]), (by simp [-List.getElem?_eq_getElem, h33, gs h33]), (by simp [-List.getElem?_eq_getElem, h34, gs h34])⟩
    have q3 := sp_X6_slips hS ⟨hst, hg, hs9, hd', hb⟩
    have hd2 := sl_i4 st g s b 4 _ 0 hd'
    rw [List.set_set] at q3
    clear hS hd'
    generalize sl st g s b 4 (s4 d c (f + 1)) 0 = q at q3 hd2 kk
    obtain ⟨m', hm, h⟩ := l1_X6_ward (lk := lk) (len := len) (ac := ac) (nx := nx) (rf := rf) (lr := lr) (en := en) (lm := lm) (m := m) (z := z) (k := k) hst hg hs9 hb y N n (c + 1) q.1 sd2 ((M.set 26 (mo st lk len ac nx rf lr en lm sd2)).set 32 (aI (l4 q.1))) hd2 (by simp [-List.getElem?_eq_getElem, h0, gs h0]) (by simp [-List.getElem?_eq_getElem, h27, gs h27]) (by simp [-List.getElem?_eq_getElem, h32, gs h32]) (by simp [-List.getElem?_eq_getElem, h33, gs h33]) (by simp [-List.getElem?_eq_getElem, h34, gs h34]) (by clear hf; omega) (by
      rw [ss (i := 26) (j := 32) (by decide), List.set_set, List.set_set]
      exact kk)
    refine ⟨m' + 59 + 1, by clear hf; omega, ?_⟩
    rw [rs_X6_ward_54]
    clear kk hd2
    have hcc : c = 0 ∨ c = 1 ∨ c = 2 ∨ c = 3 := by clear hf; omega
    have c4' : wr (c : Int) = c := wr_id (by clear hf; omega) (by clear hf; omega)
    have nc4 : ¬ (4 : Int) ≤ c := by clear hf; omega
    have h60' : rx_X6_ward (m' + 40) 60 [some (vR 26), some (vI m), some (vI z), some (vI k), some (vI (c : Int))] [] M = some y := by
      rw [show m' + 40 = (m' + 22 + 10) + 8 by omega, hsd, dep_X6_ward (List.getElem?_set_self (len_of h0)), hf]
      clear hsd
      simp only [mo] at q3 h ⊢
      clear hf c4' nc4
      rcases hcc with rfl | rfl | rfl | rfl <;> simp [s4] at q3 h <;>
      simp [↓ri_X6_ward, rs_X6_ward_0, rs_X6_ward_1, rs_X6_ward_2, rs_X6_ward_3, rs_X6_ward_6, rs_X6_ward_9, rs_X6_ward_12, rs_X6_ward_15, rs_X6_ward_16, rs_X6_ward_17, rs_X6_ward_18, rs_X6_ward_21, rs_X6_ward_22, rs_X6_ward_23, rs_X6_ward_24, rs_X6_ward_25, rs_X6_ward_28, rs_X6_ward_29, rs_X6_ward_31, rs_X6_ward_33, rs_X6_ward_34, rs_X6_ward_37, rs_X6_ward_38, rs_X6_ward_41, rs_X6_ward_43, rs_X6_ward_44, rs_X6_ward_45, rs_X6_ward_48, rs_X6_ward_51, rs_X6_ward_52, rs_X6_ward_56, rs_X6_ward_57, rs_X6_ward_60, rs_X6_ward_61, rs_X6_ward_62, rs_X6_ward_65, rs_X6_ward_68, rs_X6_ward_69, rs_X6_ward_72, rs_X6_ward_73, rs_X6_ward_76, rs_X6_ward_77, rs_X6_ward_80, rs_X6_ward_82, rs_X6_ward_83, rs_X6_ward_86, rs_X6_ward_88, rs_X6_ward_89, rs_X6_ward_92, rs_X6_ward_93, rs_X6_ward_94, rs_X6_ward_95, rs_X6_ward_96, rs_X6_ward_97, rs_X6_ward_98, rs_X6_ward_101, rs_X6_ward_102, rs_X6_ward_105, rs_X6_ward_108, rs_X6_ward_109, rs_X6_ward_110, rs_X6_ward_111, rs_X6_ward_114, rs_X6_ward_117, rs_X6_ward_118, rs_X6_ward_121, rs_X6_ward_122, rs_X6_ward_123, rs_X6_ward_124, rs_X6_ward_127, rs_X6_ward_130, rs_X6_ward_14, rs_X6_ward_131, -List.getElem?_eq_getElem, am_js, am_e, am_in, am_sl, rI, rZ, rV, rJ, rA, rC, kI, kJ, kR, am_one, am_nl, am_w8, tIc, tLc, tNul, tIld, tLld, tAld, tIst, tLst, tAst, tIinc, tI2, tDv, tL2, tLrem, tLs, tLcmp, tI2l, tL2i, tI2c, tDup, tDup2, tPop, tGo, tIfeq, tIfne, tIflt, tIfge, tIfgt, tIfle, tCmeq, tCmne, tCmlt, tCmge, tCmgt, tCmle, tNu, tTs, tGf, tPf, tGs, tIal, tIas, tBal, tBas, tAln, tSv, tSc, tSb, tSl, tSk, tCv, tCs, tCt, tMx, tMn, wr_10000, wr_100000, wr_1000000, wr_10000000, wr_100000000, wr_2400, wr_9999, wr_0, wr_1, wr_2, wr_3, wr_4, wr_5, wr_6, wr_7, wr_8, wr_9, wr_10, wr_11, wr_12, wr_13, wr_14, wr_15, wr_16, wr_17, wr_18, wr_19, wr_20, wr_21, wr_22, wr_23, wr_24, wr_25, wr_26, wr_27, wr_28, wr_29, wr_30, wr_31, wr_32, wr_33, wr_34, wr_35, wr_36, wr_37, wr_38, wr_39, wr_40, wr_41, wr_42, wr_43, wr_44, wr_45, wr_46, wr_47, wr_48, wr_49, wr_50, wr_51, wr_52, wr_53, wr_54, wr_55, wr_56, wr_57, wr_58, wr_59, wr_60, wr_61, wr_62, wr_63, wr_99, wr_100, wr_192, wr_255, wr_256, wr_343, wr_999, wr_1000, wr_2401, wr_2147483647, wr_65535, wr_m1, wr_m2, wr_m3, wr_m4, wr_m9, ak_1000, ak_1001, ak_1002, ak_0, ak_1, ak_2, ak_3, ak_4, ak_5, ak_6, ak_7, ak_8, ak_9, ak_10, ak_11, ak_12, ak_13, ak_14, ak_15, ak_16, ak_17, ak_18, ak_19, ak_20, ak_21, ak_22, ak_23, ak_24, ak_25, ak_26, ak_27, ak_28, ak_29, ak_30, ak_31, ak_32, ak_33, ak_34, ak_35, ak_36, ak_37, ak_38, ak_39, ak_40, ak_41, ak_42, ak_43, ak_44, ak_45, ak_46, ak_47, h32, gs h0, gs h32, q3, ss (i := 26) (j := 32) (by decide)] <;>
      exact rm_X6_ward h (Nat.le_add_right _ _)
    simp [↓ri_X6_ward, rs_X6_ward_0, rs_X6_ward_1, rs_X6_ward_2, rs_X6_ward_3, rs_X6_ward_6, rs_X6_ward_9, rs_X6_ward_12, rs_X6_ward_15, rs_X6_ward_16, rs_X6_ward_17, rs_X6_ward_18, rs_X6_ward_21, rs_X6_ward_22, rs_X6_ward_23, rs_X6_ward_24, rs_X6_ward_25, rs_X6_ward_28, rs_X6_ward_29, rs_X6_ward_31, rs_X6_ward_33, rs_X6_ward_34, rs_X6_ward_37, rs_X6_ward_38, rs_X6_ward_41, rs_X6_ward_43, rs_X6_ward_44, rs_X6_ward_45, rs_X6_ward_48, rs_X6_ward_51, rs_X6_ward_52, rs_X6_ward_56, rs_X6_ward_57, rs_X6_ward_61, rs_X6_ward_62, rs_X6_ward_65, rs_X6_ward_68, rs_X6_ward_69, rs_X6_ward_72, rs_X6_ward_73, rs_X6_ward_76, rs_X6_ward_77, rs_X6_ward_80, rs_X6_ward_82, rs_X6_ward_83, rs_X6_ward_86, rs_X6_ward_88, rs_X6_ward_89, rs_X6_ward_92, rs_X6_ward_93, rs_X6_ward_94, rs_X6_ward_95, rs_X6_ward_96, rs_X6_ward_97, rs_X6_ward_98, rs_X6_ward_101, rs_X6_ward_102, rs_X6_ward_105, rs_X6_ward_108, rs_X6_ward_109, rs_X6_ward_110, rs_X6_ward_111, rs_X6_ward_114, rs_X6_ward_117, rs_X6_ward_118, rs_X6_ward_121, rs_X6_ward_122, rs_X6_ward_123, rs_X6_ward_124, rs_X6_ward_127, rs_X6_ward_130, rs_X6_ward_14, rs_X6_ward_131, -List.getElem?_eq_getElem, am_js, am_e, am_in, am_sl, rI, rZ, rV, rJ, rA, rC, kI, kJ, kR, am_one, am_nl, am_w8, tIc, tLc, tNul, tIld, tLld, tAld, tIst, tLst, tAst, tIinc, tI2, tDv, tL2, tLrem, tLs, tLcmp, tI2l, tL2i, tI2c, tDup, tDup2, tPop, tGo, tIfeq, tIfne, tIflt, tIfge, tIfgt, tIfle, tCmeq, tCmne, tCmlt, tCmge, tCmgt, tCmle, tNu, tTs, tGf, tPf, tGs, tIal, tIas, tBal, tBas, tAln, tSv, tSc, tSb, tSl, tSk, tCv, tCs, tCt, tMx, tMn, wr_10000, wr_100000, wr_1000000, wr_10000000, wr_100000000, wr_2400, wr_9999, wr_0, wr_1, wr_2, wr_3, wr_4, wr_5, wr_6, wr_7, wr_8, wr_9, wr_10, wr_11, wr_12, wr_13, wr_14, wr_15, wr_16, wr_17, wr_18, wr_19, wr_20, wr_21, wr_22, wr_23, wr_24, wr_25, wr_26, wr_27, wr_28, wr_29, wr_30, wr_31, wr_32, wr_33, wr_34, wr_35, wr_36, wr_37, wr_38, wr_39, wr_40, wr_41, wr_42, wr_43, wr_44, wr_45, wr_46, wr_47, wr_48, wr_49, wr_50, wr_51, wr_52, wr_53, wr_54, wr_55, wr_56, wr_57, wr_58, wr_59, wr_60, wr_61, wr_62, wr_63, wr_99, wr_100, wr_192, wr_255, wr_256, wr_343, wr_999, wr_1000, wr_2401, wr_2147483647, wr_65535, wr_m1, wr_m2, wr_m3, wr_m4, wr_m9, ak_1000, ak_1001, ak_1002, ak_0, ak_1, ak_2, ak_3, ak_4, ak_5, ak_6, ak_7, ak_8, ak_9, ak_10, ak_11, ak_12, ak_13, ak_14, ak_15, ak_16, ak_17, ak_18, ak_19, ak_20, ak_21, ak_22, ak_23, ak_24, ak_25, ak_26, ak_27, ak_28, ak_29, ak_30, ak_31, ak_32, ak_33, ak_34, ak_35, ak_36, ak_37, ak_38, ak_39, ak_40, ak_41, ak_42, ak_43, ak_44, ak_45, ak_46, ak_47, c4', nc4]
    exact rm_X6_ward h60' (by omega)
end
