noncomputable section
theorem tens_pw (k : Int) (hk : 0 ≤ k ∧ k ≤ 8) : am_tens.getD k.toNat 0 = pw k := by
  have hd : k = 0 ∨ k = 1 ∨ k = 2 ∨ k = 3 ∨ k = 4 ∨ k = 5 ∨ k = 6 ∨ k = 7 ∨ k = 8 := by omega
  rcases hd with rfl | rfl | rfl | rfl | rfl | rfl | rfl | rfl | rfl <;> rfl
theorem figOf_pw (x nn p k : Int) (M : List AC) (hx : 0 ≤ x ∧ x < 2147483648) (h1 : nn - 1 - p = k) (hk : 0 ≤ k ∧ k ≤ 8) : fn_X5_figureOf [vI x, vI nn, vI p] M = some (some (vI (x / pw k % 10)), M) := by
  have q := sp_X5_figureOf x nn p M hx (by omega)
  rw [h1, tens_pw k hk] at q
  exact q
abbrev mi_X5_judge : Mi := (yX5_judge, cX5_judge, 6, some .int, 5)
theorem mf_X5_judge : am_mf mi_X5_judge 2 := ⟨w_co_X5_judge, w_in_X5, ⟨by decide +kernel, by decide +kernel⟩, by decide +kernel, by decide⟩
def tb_X5_judge : List (Nat × Tr) := [(0, tIld 1 1), (1, tIc 1 1), (2, tCmlt 25), (5, tIld 1 1), (6, tIc 4 1), (7, tCmgt 25), (10, tIld 2 1), (11, tIflt 25), (14, tIld 2 1), (15, tGs (vR 1000)), (18, tIc 2 1), (19, tIld 1 1), (20, tI2 (fun a b => a * b)), (21, tIal), (22, tCmlt 28), (25, tIc (-2) 2), (28, tAld 0 1), (29, tGf 5 3), (32, tAld 0 1), (33, tGf 5 2), (36, tCv 4 1 fn_X4_become), (39, tIc 0 1), (40, tIst 3 1), (41, tIld 3 1), (42, tIld 1 1), (43, tCmge 134), (46, tIld 2 1), (47, tIc 2 1), (48, tIld 1 1), (49, tI2 (fun a b => a * b)), (50, tIc 2 1), (51, tIld 3 1), (52, tI2 (fun a b => a * b)), (53, tCs 3 fn_X5_figureOf), (56, tIst 4 2), (58, tIld 2 1), (59, tIc 2 1), (60, tIld 1 1), (61, tI2 (fun a b => a * b)), (62, tIc 2 1), (63, tIld 3 1), (64, tI2 (fun a b => a * b)), (65, tIc 1 1), (66, tI2 (fun a b => a + b)), (67, tCs 3 fn_X5_figureOf), (70, tIst 5 2), (72, tIld 4 2), (74, tCs 1 fn_X5_isCorner), (77, tIfeq 102), (80, tIld 5 2), (82, tIc 6 2), (84, tCmgt 102), (87, tAld 0 1), (88, tGf 5 3), (91, tGf 4 3), (94, tIld 4 2), (96, tIal), (97, tIld 5 2), (99, tCmne 104), (102, tIld 3 1), (104, tAld 0 1), (105, tGf 5 3), (108, tGf 4 3), (111, tIld 4 2), (113, tIld 5 2), (115, tIas), (116, tAld 0 1), (117, tGf 5 3), (120, tCv 4 0 fn_X4_settle), (123, tIfeq 128), (126, tIld 3 1), (128, tIinc 3 1), (131, tGo 41), (134, tIc (-9) 2)]
theorem ok_X5_judge : Tok mi_X5_judge tb_X5_judge :=
  Tc (sd_iload_n dX5_judge_0) <|
  Tc (sd_iconst rfl dX5_judge_1) <|
  Tc (sd_cm_lt (by decide) dX5_judge_2) <|
  Tc (sd_iload_n dX5_judge_5) <|
  Tc (sd_iconst rfl dX5_judge_6) <|
  Tc (sd_cm_gt (by decide) dX5_judge_7) <|
  Tc (sd_iload_n dX5_judge_10) <|
  Tc (sd_if_lt (by decide) dX5_judge_11) <|
  Tc (sd_iload_n dX5_judge_14) <|
  Tc (sd_gsTens w_fl_X5_158 dX5_judge_15) <|
  Tc (sd_iconst rfl dX5_judge_18) <|
  Tc (sd_iload_n dX5_judge_19) <|
  Tc (sd_imul dX5_judge_20) <|
  Tc (sd_ial dX5_judge_21) <|
  Tc (sd_cm_lt (by decide) dX5_judge_22) <|
  Tc (sd_bipush (by decide +kernel) dX5_judge_25) <|
  Tc (sd_aload_n dX5_judge_28) <|
  Tc (sd_getf (T := TX5) rfl giX5 (by decide) w_fl_X5_24 dX5_judge_29) <|
  Tc (sd_aload_n dX5_judge_32) <|
  Tc (sd_getf (T := TX5) rfl giX5 (by decide) w_fl_X5_20 dX5_judge_33) <|
  Tc (sd_cv (T := TX4) fok_X4_become mf_X4_become rfl w_ml_X5_124 w_im_X4_become w_se_X4_become (by decide) dX5_judge_36) <|
  Tc (sd_iconst rfl dX5_judge_39) <|
  Tc (sd_istore_n dX5_judge_40) <|
  Tc (sd_iload_n dX5_judge_41) <|
  Tc (sd_iload_n dX5_judge_42) <|
  Tc (sd_cm_ge (by decide) dX5_judge_43) <|
  Tc (sd_iload_n dX5_judge_46) <|
  Tc (sd_iconst rfl dX5_judge_47) <|
  Tc (sd_iload_n dX5_judge_48) <|
  Tc (sd_imul dX5_judge_49) <|
  Tc (sd_iconst rfl dX5_judge_50) <|
  Tc (sd_iload_n dX5_judge_51) <|
  Tc (sd_imul dX5_judge_52) <|
  Tc (sd_cs fok_X5_figureOf mf_X5_figureOf w_ml_X5_161 w_st_X5_figureOf (by decide) dX5_judge_53) <|
  Tc (sd_istore dX5_judge_56) <|
  Tc (sd_iload_n dX5_judge_58) <|
  Tc (sd_iconst rfl dX5_judge_59) <|
  Tc (sd_iload_n dX5_judge_60) <|
  Tc (sd_imul dX5_judge_61) <|
  Tc (sd_iconst rfl dX5_judge_62) <|
  Tc (sd_iload_n dX5_judge_63) <|
  Tc (sd_imul dX5_judge_64) <|
  Tc (sd_iconst rfl dX5_judge_65) <|
  Tc (sd_iadd dX5_judge_66) <|
  Tc (sd_cs fok_X5_figureOf mf_X5_figureOf w_ml_X5_161 w_st_X5_figureOf (by decide) dX5_judge_67) <|
  Tc (sd_istore dX5_judge_70) <|
  Tc (sd_iload dX5_judge_72) <|
  Tc (sd_cs fok_X5_isCorner mf_X5_isCorner w_ml_X5_105 w_st_X5_isCorner (by decide) dX5_judge_74) <|
  Tc (sd_if_eq (by decide) dX5_judge_77) <|
  Tc (sd_iload dX5_judge_80) <|
  Tc (sd_bipush (by decide +kernel) dX5_judge_82) <|
  Tc (sd_cm_gt (by decide) dX5_judge_84) <|
  Tc (sd_aload_n dX5_judge_87) <|
  Tc (sd_getf (T := TX5) rfl giX5 (by decide) w_fl_X5_24 dX5_judge_88) <|
  Tc (sd_getf (T := TX4) rfl giX4 (by decide) w_fl_X5_92 dX5_judge_91) <|
  Tc (sd_iload dX5_judge_94) <|
  Tc (sd_ial dX5_judge_96) <|
  Tc (sd_iload dX5_judge_97) <|
  Tc (sd_cm_ne (by decide) dX5_judge_99) <|
  Tc (sd_iload_n dX5_judge_102) <|
  Tc (sd_aload_n dX5_judge_104) <|
  Tc (sd_getf (T := TX5) rfl giX5 (by decide) w_fl_X5_24 dX5_judge_105) <|
  Tc (sd_getf (T := TX4) rfl giX4 (by decide) w_fl_X5_92 dX5_judge_108) <|
  Tc (sd_iload dX5_judge_111) <|
  Tc (sd_iload dX5_judge_113) <|
  Tc (sd_ias dX5_judge_115) <|
  Tc (sd_aload_n dX5_judge_116) <|
  Tc (sd_getf (T := TX5) rfl giX5 (by decide) w_fl_X5_24 dX5_judge_117) <|
  Tc (sd_cv (T := TX4) fok_X4_settle mf_X4_settle rfl w_ml_X5_138 w_im_X4_settle w_se_X4_settle (by decide) dX5_judge_120) <|
  Tc (sd_if_eq (by decide) dX5_judge_123) <|
  Tc (sd_iload_n dX5_judge_126) <|
  Tc (sd_iinc dX5_judge_128) <|
  Tc (sd_goto (by decide) dX5_judge_131) <|
  Tc (sd_bipush (by decide +kernel) dX5_judge_134) <|
  Tn
theorem rk_X5_judge : Rok mi_X5_judge rI [27, 103, 127, 136] := rk_i dX5_judge_27 <| rk_i dX5_judge_103 <| rk_i dX5_judge_127 <| rk_i dX5_judge_136 <| rk_n
def rx_X5_judge : Nat → Nat → AL → List AV → List AC → Option (Option AV × List AC) := am_r tb_X5_judge rI [27, 103, 127, 136]
theorem rs_X5_judge_0 (n : Nat) (L : AL) (st : List AV) (M : List AC) : rx_X5_judge (n + 1) 0 L st M = am_j (rx_X5_judge n) ((tIld 1 1) 0 L st M) := rfl
theorem rs_X5_judge_1 (n : Nat) (L : AL) (st : List AV) (M : List AC) : rx_X5_judge (n + 1) 1 L st M = am_j (rx_X5_judge n) ((tIc 1 1) 1 L st M) := rfl
theorem rs_X5_judge_2 (n : Nat) (L : AL) (st : List AV) (M : List AC) : rx_X5_judge (n + 1) 2 L st M = am_j (rx_X5_judge n) ((tCmlt 25) 2 L st M) := rfl
theorem rs_X5_judge_5 (n : Nat) (L : AL) (st : List AV) (M : List AC) : rx_X5_judge (n + 1) 5 L st M = am_j (rx_X5_judge n) ((tIld 1 1) 5 L st M) := rfl
theorem rs_X5_judge_6 (n : Nat) (L : AL) (st : List AV) (M : List AC) : rx_X5_judge (n + 1) 6 L st M = am_j (rx_X5_judge n) ((tIc 4 1) 6 L st M) := rfl
theorem rs_X5_judge_7 (n : Nat) (L : AL) (st : List AV) (M : List AC) : rx_X5_judge (n + 1) 7 L st M = am_j (rx_X5_judge n) ((tCmgt 25) 7 L st M) := rfl
theorem rs_X5_judge_10 (n : Nat) (L : AL) (st : List AV) (M : List AC) : rx_X5_judge (n + 1) 10 L st M = am_j (rx_X5_judge n) ((tIld 2 1) 10 L st M) := rfl
theorem rs_X5_judge_11 (n : Nat) (L : AL) (st : List AV) (M : List AC) : rx_X5_judge (n + 1) 11 L st M = am_j (rx_X5_judge n) ((tIflt 25) 11 L st M) := rfl
theorem rs_X5_judge_14 (n : Nat) (L : AL) (st : List AV) (M : List AC) : rx_X5_judge (n + 1) 14 L st M = am_j (rx_X5_judge n) ((tIld 2 1) 14 L st M) := rfl
theorem rs_X5_judge_15 (n : Nat) (L : AL) (st : List AV) (M : List AC) : rx_X5_judge (n + 1) 15 L st M = am_j (rx_X5_judge n) ((tGs (vR 1000)) 15 L st M) := rfl
theorem rs_X5_judge_18 (n : Nat) (L : AL) (st : List AV) (M : List AC) : rx_X5_judge (n + 1) 18 L st M = am_j (rx_X5_judge n) ((tIc 2 1) 18 L st M) := rfl
theorem rs_X5_judge_19 (n : Nat) (L : AL) (st : List AV) (M : List AC) : rx_X5_judge (n + 1) 19 L st M = am_j (rx_X5_judge n) ((tIld 1 1) 19 L st M) := rfl
theorem rs_X5_judge_20 (n : Nat) (L : AL) (st : List AV) (M : List AC) : rx_X5_judge (n + 1) 20 L st M = am_j (rx_X5_judge n) ((tI2 (fun a b => a * b)) 20 L st M) := rfl
theorem rs_X5_judge_21 (n : Nat) (L : AL) (st : List AV) (M : List AC) : rx_X5_judge (n + 1) 21 L st M = am_j (rx_X5_judge n) (tIal 21 L st M) := rfl
theorem rs_X5_judge_22 (n : Nat) (L : AL) (st : List AV) (M : List AC) : rx_X5_judge (n + 1) 22 L st M = am_j (rx_X5_judge n) ((tCmlt 28) 22 L st M) := rfl
theorem rs_X5_judge_25 (n : Nat) (L : AL) (st : List AV) (M : List AC) : rx_X5_judge (n + 1) 25 L st M = am_j (rx_X5_judge n) ((tIc (-2) 2) 25 L st M) := rfl
theorem rs_X5_judge_28 (n : Nat) (L : AL) (st : List AV) (M : List AC) : rx_X5_judge (n + 1) 28 L st M = am_j (rx_X5_judge n) ((tAld 0 1) 28 L st M) := rfl
theorem rs_X5_judge_29 (n : Nat) (L : AL) (st : List AV) (M : List AC) : rx_X5_judge (n + 1) 29 L st M = am_j (rx_X5_judge n) ((tGf 5 3) 29 L st M) := rfl
theorem rs_X5_judge_32 (n : Nat) (L : AL) (st : List AV) (M : List AC) : rx_X5_judge (n + 1) 32 L st M = am_j (rx_X5_judge n) ((tAld 0 1) 32 L st M) := rfl
theorem rs_X5_judge_33 (n : Nat) (L : AL) (st : List AV) (M : List AC) : rx_X5_judge (n + 1) 33 L st M = am_j (rx_X5_judge n) ((tGf 5 2) 33 L st M) := rfl
theorem rs_X5_judge_36 (n : Nat) (L : AL) (st : List AV) (M : List AC) : rx_X5_judge (n + 1) 36 L st M = am_j (rx_X5_judge n) ((tCv 4 1 fn_X4_become) 36 L st M) := rfl
theorem rs_X5_judge_39 (n : Nat) (L : AL) (st : List AV) (M : List AC) : rx_X5_judge (n + 1) 39 L st M = am_j (rx_X5_judge n) ((tIc 0 1) 39 L st M) := rfl
theorem rs_X5_judge_40 (n : Nat) (L : AL) (st : List AV) (M : List AC) : rx_X5_judge (n + 1) 40 L st M = am_j (rx_X5_judge n) ((tIst 3 1) 40 L st M) := rfl
theorem rs_X5_judge_41 (n : Nat) (L : AL) (st : List AV) (M : List AC) : rx_X5_judge (n + 1) 41 L st M = am_j (rx_X5_judge n) ((tIld 3 1) 41 L st M) := rfl
theorem rs_X5_judge_42 (n : Nat) (L : AL) (st : List AV) (M : List AC) : rx_X5_judge (n + 1) 42 L st M = am_j (rx_X5_judge n) ((tIld 1 1) 42 L st M) := rfl
theorem rs_X5_judge_43 (n : Nat) (L : AL) (st : List AV) (M : List AC) : rx_X5_judge (n + 1) 43 L st M = am_j (rx_X5_judge n) ((tCmge 134) 43 L st M) := rfl
theorem rs_X5_judge_46 (n : Nat) (L : AL) (st : List AV) (M : List AC) : rx_X5_judge (n + 1) 46 L st M = am_j (rx_X5_judge n) ((tIld 2 1) 46 L st M) := rfl
theorem rs_X5_judge_47 (n : Nat) (L : AL) (st : List AV) (M : List AC) : rx_X5_judge (n + 1) 47 L st M = am_j (rx_X5_judge n) ((tIc 2 1) 47 L st M) := rfl
theorem rs_X5_judge_48 (n : Nat) (L : AL) (st : List AV) (M : List AC) : rx_X5_judge (n + 1) 48 L st M = am_j (rx_X5_judge n) ((tIld 1 1) 48 L st M) := rfl
theorem rs_X5_judge_49 (n : Nat) (L : AL) (st : List AV) (M : List AC) : rx_X5_judge (n + 1) 49 L st M = am_j (rx_X5_judge n) ((tI2 (fun a b => a * b)) 49 L st M) := rfl
theorem rs_X5_judge_50 (n : Nat) (L : AL) (st : List AV) (M : List AC) : rx_X5_judge (n + 1) 50 L st M = am_j (rx_X5_judge n) ((tIc 2 1) 50 L st M) := rfl
theorem rs_X5_judge_51 (n : Nat) (L : AL) (st : List AV) (M : List AC) : rx_X5_judge (n + 1) 51 L st M = am_j (rx_X5_judge n) ((tIld 3 1) 51 L st M) := rfl
theorem rs_X5_judge_52 (n : Nat) (L : AL) (st : List AV) (M : List AC) : rx_X5_judge (n + 1) 52 L st M = am_j (rx_X5_judge n) ((tI2 (fun a b => a * b)) 52 L st M) := rfl
theorem rs_X5_judge_53 (n : Nat) (L : AL) (st : List AV) (M : List AC) : rx_X5_judge (n + 1) 53 L st M = am_j (rx_X5_judge n) ((tCs 3 fn_X5_figureOf) 53 L st M) := rfl
theorem rs_X5_judge_56 (n : Nat) (L : AL) (st : List AV) (M : List AC) : rx_X5_judge (n + 1) 56 L st M = am_j (rx_X5_judge n) ((tIst 4 2) 56 L st M) := rfl
theorem rs_X5_judge_58 (n : Nat) (L : AL) (st : List AV) (M : List AC) : rx_X5_judge (n + 1) 58 L st M = am_j (rx_X5_judge n) ((tIld 2 1) 58 L st M) := rfl
theorem rs_X5_judge_59 (n : Nat) (L : AL) (st : List AV) (M : List AC) : rx_X5_judge (n + 1) 59 L st M = am_j (rx_X5_judge n) ((tIc 2 1) 59 L st M) := rfl
theorem rs_X5_judge_60 (n : Nat) (L : AL) (st : List AV) (M : List AC) : rx_X5_judge (n + 1) 60 L st M = am_j (rx_X5_judge n) ((tIld 1 1) 60 L st M) := rfl
theorem rs_X5_judge_61 (n : Nat) (L : AL) (st : List AV) (M : List AC) : rx_X5_judge (n + 1) 61 L st M = am_j (rx_X5_judge n) ((tI2 (fun a b => a * b)) 61 L st M) := rfl
theorem rs_X5_judge_62 (n : Nat) (L : AL) (st : List AV) (M : List AC) : rx_X5_judge (n + 1) 62 L st M = am_j (rx_X5_judge n) ((tIc 2 1) 62 L st M) := rfl
theorem rs_X5_judge_63 (n : Nat) (L : AL) (st : List AV) (M : List AC) : rx_X5_judge (n + 1) 63 L st M = am_j (rx_X5_judge n) ((tIld 3 1) 63 L st M) := rfl
theorem rs_X5_judge_64 (n : Nat) (L : AL) (st : List AV) (M : List AC) : rx_X5_judge (n + 1) 64 L st M = am_j (rx_X5_judge n) ((tI2 (fun a b => a * b)) 64 L st M) := rfl
theorem rs_X5_judge_65 (n : Nat) (L : AL) (st : List AV) (M : List AC) : rx_X5_judge (n + 1) 65 L st M = am_j (rx_X5_judge n) ((tIc 1 1) 65 L st M) := rfl
theorem rs_X5_judge_66 (n : Nat) (L : AL) (st : List AV) (M : List AC) : rx_X5_judge (n + 1) 66 L st M = am_j (rx_X5_judge n) ((tI2 (fun a b => a + b)) 66 L st M) := rfl
theorem rs_X5_judge_67 (n : Nat) (L : AL) (st : List AV) (M : List AC) : rx_X5_judge (n + 1) 67 L st M = am_j (rx_X5_judge n) ((tCs 3 fn_X5_figureOf) 67 L st M) := rfl
theorem rs_X5_judge_70 (n : Nat) (L : AL) (st : List AV) (M : List AC) : rx_X5_judge (n + 1) 70 L st M = am_j (rx_X5_judge n) ((tIst 5 2) 70 L st M) := rfl
theorem rs_X5_judge_72 (n : Nat) (L : AL) (st : List AV) (M : List AC) : rx_X5_judge (n + 1) 72 L st M = am_j (rx_X5_judge n) ((tIld 4 2) 72 L st M) := rfl
theorem rs_X5_judge_74 (n : Nat) (L : AL) (st : List AV) (M : List AC) : rx_X5_judge (n + 1) 74 L st M = am_j (rx_X5_judge n) ((tCs 1 fn_X5_isCorner) 74 L st M) := rfl
theorem rs_X5_judge_77 (n : Nat) (L : AL) (st : List AV) (M : List AC) : rx_X5_judge (n + 1) 77 L st M = am_j (rx_X5_judge n) ((tIfeq 102) 77 L st M) := rfl
theorem rs_X5_judge_80 (n : Nat) (L : AL) (st : List AV) (M : List AC) : rx_X5_judge (n + 1) 80 L st M = am_j (rx_X5_judge n) ((tIld 5 2) 80 L st M) := rfl
theorem rs_X5_judge_82 (n : Nat) (L : AL) (st : List AV) (M : List AC) : rx_X5_judge (n + 1) 82 L st M = am_j (rx_X5_judge n) ((tIc 6 2) 82 L st M) := rfl
theorem rs_X5_judge_84 (n : Nat) (L : AL) (st : List AV) (M : List AC) : rx_X5_judge (n + 1) 84 L st M = am_j (rx_X5_judge n) ((tCmgt 102) 84 L st M) := rfl
theorem rs_X5_judge_87 (n : Nat) (L : AL) (st : List AV) (M : List AC) : rx_X5_judge (n + 1) 87 L st M = am_j (rx_X5_judge n) ((tAld 0 1) 87 L st M) := rfl
theorem rs_X5_judge_88 (n : Nat) (L : AL) (st : List AV) (M : List AC) : rx_X5_judge (n + 1) 88 L st M = am_j (rx_X5_judge n) ((tGf 5 3) 88 L st M) := rfl
theorem rs_X5_judge_91 (n : Nat) (L : AL) (st : List AV) (M : List AC) : rx_X5_judge (n + 1) 91 L st M = am_j (rx_X5_judge n) ((tGf 4 3) 91 L st M) := rfl
theorem rs_X5_judge_94 (n : Nat) (L : AL) (st : List AV) (M : List AC) : rx_X5_judge (n + 1) 94 L st M = am_j (rx_X5_judge n) ((tIld 4 2) 94 L st M) := rfl
theorem rs_X5_judge_96 (n : Nat) (L : AL) (st : List AV) (M : List AC) : rx_X5_judge (n + 1) 96 L st M = am_j (rx_X5_judge n) (tIal 96 L st M) := rfl
theorem rs_X5_judge_97 (n : Nat) (L : AL) (st : List AV) (M : List AC) : rx_X5_judge (n + 1) 97 L st M = am_j (rx_X5_judge n) ((tIld 5 2) 97 L st M) := rfl
theorem rs_X5_judge_99 (n : Nat) (L : AL) (st : List AV) (M : List AC) : rx_X5_judge (n + 1) 99 L st M = am_j (rx_X5_judge n) ((tCmne 104) 99 L st M) := rfl
theorem rs_X5_judge_102 (n : Nat) (L : AL) (st : List AV) (M : List AC) : rx_X5_judge (n + 1) 102 L st M = am_j (rx_X5_judge n) ((tIld 3 1) 102 L st M) := rfl
theorem rs_X5_judge_104 (n : Nat) (L : AL) (st : List AV) (M : List AC) : rx_X5_judge (n + 1) 104 L st M = am_j (rx_X5_judge n) ((tAld 0 1) 104 L st M) := rfl
theorem rs_X5_judge_105 (n : Nat) (L : AL) (st : List AV) (M : List AC) : rx_X5_judge (n + 1) 105 L st M = am_j (rx_X5_judge n) ((tGf 5 3) 105 L st M) := rfl
theorem rs_X5_judge_108 (n : Nat) (L : AL) (st : List AV) (M : List AC) : rx_X5_judge (n + 1) 108 L st M = am_j (rx_X5_judge n) ((tGf 4 3) 108 L st M) := rfl
theorem rs_X5_judge_111 (n : Nat) (L : AL) (st : List AV) (M : List AC) : rx_X5_judge (n + 1) 111 L st M = am_j (rx_X5_judge n) ((tIld 4 2) 111 L st M) := rfl
theorem rs_X5_judge_113 (n : Nat) (L : AL) (st : List AV) (M : List AC) : rx_X5_judge (n + 1) 113 L st M = am_j (rx_X5_judge n) ((tIld 5 2) 113 L st M) := rfl
theorem rs_X5_judge_115 (n : Nat) (L : AL) (st : List AV) (M : List AC) : rx_X5_judge (n + 1) 115 L st M = am_j (rx_X5_judge n) (tIas 115 L st M) := rfl
theorem rs_X5_judge_116 (n : Nat) (L : AL) (st : List AV) (M : List AC) : rx_X5_judge (n + 1) 116 L st M = am_j (rx_X5_judge n) ((tAld 0 1) 116 L st M) := rfl
theorem rs_X5_judge_117 (n : Nat) (L : AL) (st : List AV) (M : List AC) : rx_X5_judge (n + 1) 117 L st M = am_j (rx_X5_judge n) ((tGf 5 3) 117 L st M) := rfl
theorem rs_X5_judge_120 (n : Nat) (L : AL) (st : List AV) (M : List AC) : rx_X5_judge (n + 1) 120 L st M = am_j (rx_X5_judge n) ((tCv 4 0 fn_X4_settle) 120 L st M) := rfl
theorem rs_X5_judge_123 (n : Nat) (L : AL) (st : List AV) (M : List AC) : rx_X5_judge (n + 1) 123 L st M = am_j (rx_X5_judge n) ((tIfeq 128) 123 L st M) := rfl
theorem rs_X5_judge_126 (n : Nat) (L : AL) (st : List AV) (M : List AC) : rx_X5_judge (n + 1) 126 L st M = am_j (rx_X5_judge n) ((tIld 3 1) 126 L st M) := rfl
theorem rs_X5_judge_128 (n : Nat) (L : AL) (st : List AV) (M : List AC) : rx_X5_judge (n + 1) 128 L st M = am_j (rx_X5_judge n) ((tIinc 3 1) 128 L st M) := rfl
theorem rs_X5_judge_131 (n : Nat) (L : AL) (st : List AV) (M : List AC) : rx_X5_judge (n + 1) 131 L st M = am_j (rx_X5_judge n) ((tGo 41) 131 L st M) := rfl
theorem rs_X5_judge_134 (n : Nat) (L : AL) (st : List AV) (M : List AC) : rx_X5_judge (n + 1) 134 L st M = am_j (rx_X5_judge n) ((tIc (-9) 2) 134 L st M) := rfl
theorem rs_X5_judge_27 (n : Nat) (L : AL) (st : List AV) (M : List AC) : rx_X5_judge (n + 1) 27 L st M = am_e rI st M := rfl
theorem rs_X5_judge_103 (n : Nat) (L : AL) (st : List AV) (M : List AC) : rx_X5_judge (n + 1) 103 L st M = am_e rI st M := rfl
theorem rs_X5_judge_127 (n : Nat) (L : AL) (st : List AV) (M : List AC) : rx_X5_judge (n + 1) 127 L st M = am_e rI st M := rfl
theorem rs_X5_judge_136 (n : Nat) (L : AL) (st : List AV) (M : List AC) : rx_X5_judge (n + 1) 136 L st M = am_e rI st M := rfl
theorem ri_X5_judge (c : Prop) [Decidable c] (p q n : Nat) (L : AL) (st : List AV) (M : List AC) : rx_X5_judge n (if c then p else q) L st M = if c then rx_X5_judge n p L st M else rx_X5_judge n q L st M := by split <;> rfl
theorem rm_X5_judge {n k pc : Nat} {L : AL} {st : List AV} {M : List AC} {x : Option AV × List AC} (h : rx_X5_judge n pc L st M = some x) (hk : n ≤ k) : rx_X5_judge k pc L st M = some x := am_r_mono n k h hk
def fn_X5_judge : Fn := am_fn rx_X5_judge 6
theorem fok_X5_judge : Fok mi_X5_judge fn_X5_judge := fun _ _ _ _ h => am_fok ok_X5_judge rk_X5_judge rfl h
theorem lp_X5_judge {len fa ac : Int} {sr : AV} {st nn x : Int} {sd : Int64} {g s b : F4} (hst : 1 ≤ st ∧ st ≤ 3) (hg : i4 1 9 g) (hs9 : i4 0 9 s) (hb : i4 0 3 b) (hn : 1 ≤ nn ∧ nn ≤ 4) (hx : 0 ≤ x ∧ x < 100000000) : ∀ (n : Nat) (t : Int) (d : F4) (M : List AC) (x4 x5 : Option AV), M[0]? = some (co len fa ac sr sd) → HS M 7 st g s d b → i4 0 6 d → t + n = nn → 0 ≤ t →
    Ru rx_X5_judge (80 * n + 10) 41 [some (vR 0), some (vI nn), some (vI x), some (vI t), x4, x5] [] M (some (vI (jud st g s b nn x n t d).1), M.set 10 (aI (l4 (jud st g s b nn x n t d).2)))
  | 0, t, d, M, x4, x5, h0, hS7, hd, ht, ht0 => by
    obtain ⟨j0, j1, j2, j3, j4⟩ := hS7.seven
    have e : t = nn := by omega
    subst e
    have wt : wr t = t := wr_id (by omega) (by omega)
    refine ⟨9 + 1, by omega, ?_⟩
    rw [rs_X5_judge_41]
    simp only [jud]
    rw [set_same j3]
    simp [↓ri_X5_judge, rs_X5_judge_0, rs_X5_judge_1, rs_X5_judge_2, rs_X5_judge_5, rs_X5_judge_6, rs_X5_judge_7, rs_X5_judge_10, rs_X5_judge_11, rs_X5_judge_14, rs_X5_judge_15, rs_X5_judge_18, rs_X5_judge_19, rs_X5_judge_20, rs_X5_judge_21, rs_X5_judge_22, rs_X5_judge_25, rs_X5_judge_28, rs_X5_judge_29, rs_X5_judge_32, rs_X5_judge_33, rs_X5_judge_36, rs_X5_judge_39, rs_X5_judge_40, rs_X5_judge_42, rs_X5_judge_43, rs_X5_judge_46, rs_X5_judge_47, rs_X5_judge_48, rs_X5_judge_49, rs_X5_judge_50, rs_X5_judge_51, rs_X5_judge_52, rs_X5_judge_53, rs_X5_judge_56, rs_X5_judge_58, rs_X5_judge_59, rs_X5_judge_60, rs_X5_judge_61, rs_X5_judge_62, rs_X5_judge_63, rs_X5_judge_64, rs_X5_judge_65, rs_X5_judge_66, rs_X5_judge_67, rs_X5_judge_70, rs_X5_judge_72, rs_X5_judge_74, rs_X5_judge_77, rs_X5_judge_80, rs_X5_judge_82, rs_X5_judge_84, rs_X5_judge_87, rs_X5_judge_88, rs_X5_judge_91, rs_X5_judge_94, rs_X5_judge_96, rs_X5_judge_97, rs_X5_judge_99, rs_X5_judge_102, rs_X5_judge_104, rs_X5_judge_105, rs_X5_judge_108, rs_X5_judge_111, rs_X5_judge_113, rs_X5_judge_115, rs_X5_judge_116, rs_X5_judge_117, rs_X5_judge_120, rs_X5_judge_123, rs_X5_judge_126, rs_X5_judge_128, rs_X5_judge_131, rs_X5_judge_134, rs_X5_judge_27, rs_X5_judge_103, rs_X5_judge_127, rs_X5_judge_136, -List.getElem?_eq_getElem, am_js, am_e, am_in, am_sl, rI, rZ, rV, rJ, rA, rC, kI, kJ, kR, am_one, am_nl, am_w8, tIc, tLc, tNul, tIld, tLld, tAld, tIst, tLst, tAst, tIinc, tI2, tDv, tL2, tLrem, tLs, tLcmp, tI2l, tL2i, tI2c, tDup, tDup2, tPop, tGo, tIfeq, tIfne, tIflt, tIfge, tIfgt, tIfle, tCmeq, tCmne, tCmlt, tCmge, tCmgt, tCmle, tNu, tTs, tGf, tPf, tGs, tIal, tIas, tBal, tBas, tAln, tSv, tSc, tSb, tSl, tSk, tCv, tCs, tCt, tMx, tMn, wr_10000, wr_100000, wr_1000000, wr_10000000, wr_100000000, wr_2400, wr_9999, wr_0, wr_1, wr_2, wr_3, wr_4, wr_5, wr_6, wr_7, wr_8, wr_9, wr_10, wr_11, wr_12, wr_13, wr_14, wr_15, wr_16, wr_17, wr_18, wr_19, wr_20, wr_21, wr_22, wr_23, wr_24, wr_25, wr_26, wr_27, wr_28, wr_29, wr_30, wr_31, wr_32, wr_33, wr_34, wr_35, wr_36, wr_37, wr_38, wr_39, wr_40, wr_41, wr_42, wr_43, wr_44, wr_45, wr_46, wr_47, wr_48, wr_49, wr_50, wr_51, wr_52, wr_53, wr_54, wr_55, wr_56, wr_57, wr_58, wr_59, wr_60, wr_61, wr_62, wr_63, wr_99, wr_100, wr_192, wr_255, wr_256, wr_343, wr_999, wr_1000, wr_2401, wr_2147483647, wr_65535, wr_m1, wr_m2, wr_m3, wr_m4, wr_m9, ak_1000, ak_1001, ak_1002, ak_0, ak_1, ak_2, ak_3, ak_4, ak_5, ak_6, ak_7, ak_8, ak_9, ak_10, ak_11, ak_12, ak_13, ak_14, ak_15, ak_16, ak_17, ak_18, ak_19, ak_20, ak_21, ak_22, ak_23, ak_24, ak_25, ak_26, ak_27, ak_28, ak_29, ak_30, ak_31, ak_32, ak_33, ak_34, ak_35, ak_36, ak_37, ak_38, ak_39, ak_40, ak_41, ak_42, ak_43, ak_44, ak_45, ak_46, ak_47, wt]
  | n + 1, t, d, M, x4, x5, h0, hS7, hd, ht, ht0 => by
    obtain ⟨j0, j1, j2, j3, j4⟩ := hS7.seven
    have wt : wr t = t := wr_id (by omega) (by omega)
    have wn : wr nn = nn := wr_id (by omega) (by omega)
    have nt : ¬ nn ≤ t := by omega
    have q1 := figOf_pw x (2 * nn) (2 * t) (2 * (nn - t) - 1) M (by omega) (by omega) (by omega)
    have q2 := figOf_pw x (2 * nn) (2 * t + 1) (2 * (nn - t) - 2) M (by omega) (by omega) (by omega)
    rw [jud]
    have r1 : 0 ≤ x / pw (2 * (nn - t) - 1) % 10 ∧ x / pw (2 * (nn - t) - 1) % 10 < 10 := ⟨Int.emod_nonneg _ (by decide), Int.emod_lt_of_pos _ (by decide)⟩
    have r2 : 0 ≤ x / pw (2 * (nn - t) - 2) % 10 ∧ x / pw (2 * (nn - t) - 2) % 10 < 10 := ⟨Int.emod_nonneg _ (by decide), Int.emod_lt_of_pos _ (by decide)⟩
    generalize x / pw (2 * (nn - t) - 1) % 10 = c at q1 r1 ⊢
    generalize x / pw (2 * (nn - t) - 2) % 10 = f at q2 r2 ⊢
    have wc : wr c = c := wr_id (by omega) (by omega)
    have wf : wr f = f := wr_id (by omega) (by omega)
    obtain ⟨wd0, wd1, wd2, wd3⟩ := i4_wr hd (by decide) (by decide)
    by_cases hq : (c ≤ 3 ∧ f ≤ 6) ∧ ¬ g4 d c.toNat = f
    · rw [if_pos hq]
      have hc4 : 0 ≤ c ∧ c < 4 := by omega
      have hf6 : ¬ 6 < f := by omega
      have hd' : i4 0 6 (s4 d c.toNat f) := i4_s hd _ (by omega) (by omega)
      have hs : HS (M.set 10 (aI (l4 (s4 d c.toNat f)))) 7 st g s (s4 d c.toNat f) b := HS.of7 (by simp [-List.getElem?_eq_getElem, j0]) (by simp [-List.getElem?_eq_getElem, j1]) (by simp [-List.getElem?_eq_getElem, j2]) (by simp [-List.getElem?_eq_getElem, gs j3]) (by simp [-List.getElem?_eq_getElem, j4])
      have q3 := sp_X4_settle hs ⟨hst, hg, hs9, hd', hb⟩
      have hd2 := sl_i4 st g s b 4 _ 0 hd'
      clear hs hd'
      simp only [Nat.reduceAdd] at q3
      rw [List.set_set] at q3
      have ih := lp_X5_judge (len := len) (fa := fa) (ac := ac) (sr := sr) (sd := sd) hst hg hs9 hb hn hx n (t + 1) (sl st g s b 4 (s4 d c.toNat f) 0).1 (M.set 10 (aI (l4 (sl st g s b 4 (s4 d c.toNat f) 0).1))) (some (vI c)) (some (vI f)) (by simp [-List.getElem?_eq_getElem, h0]) (HS.of7 (by simp [-List.getElem?_eq_getElem, j0]) (by simp [-List.getElem?_eq_getElem, j1]) (by simp [-List.getElem?_eq_getElem, j2]) (by simp [-List.getElem?_eq_getElem, gs j3]) (by simp [-List.getElem?_eq_getElem, j4])) hd2 (by omega) (by omega)
      rw [List.set_set] at ih
      clear hd2
      generalize hS : sl st g s b 4 (s4 d c.toNat f) 0 = q at q3 ih ⊢
      clear hS
      by_cases hz : wr q.2 = 0
      · rw [if_pos hz]
        generalize jud st g s b nn x n (t + 1) q.1 = jj at ih ⊢
        obtain ⟨k, hk, h⟩ := ih
        refine ⟨k + 79 + 1, by omega, ?_⟩
        rw [rs_X5_judge_41]
        have he := hq.2
        rcases c4 hc4 with rfl | rfl | rfl | rfl <;> simp [g4] at he <;> simp [s4] at q3 <;>
        simp [↓ri_X5_judge, rs_X5_judge_0, rs_X5_judge_1, rs_X5_judge_2, rs_X5_judge_5, rs_X5_judge_6, rs_X5_judge_7, rs_X5_judge_10, rs_X5_judge_11, rs_X5_judge_14, rs_X5_judge_15, rs_X5_judge_18, rs_X5_judge_19, rs_X5_judge_20, rs_X5_judge_21, rs_X5_judge_22, rs_X5_judge_25, rs_X5_judge_28, rs_X5_judge_29, rs_X5_judge_32, rs_X5_judge_33, rs_X5_judge_36, rs_X5_judge_39, rs_X5_judge_40, rs_X5_judge_42, rs_X5_judge_43, rs_X5_judge_46, rs_X5_judge_47, rs_X5_judge_48, rs_X5_judge_49, rs_X5_judge_50, rs_X5_judge_51, rs_X5_judge_52, rs_X5_judge_53, rs_X5_judge_56, rs_X5_judge_58, rs_X5_judge_59, rs_X5_judge_60, rs_X5_judge_61, rs_X5_judge_62, rs_X5_judge_63, rs_X5_judge_64, rs_X5_judge_65, rs_X5_judge_66, rs_X5_judge_67, rs_X5_judge_70, rs_X5_judge_72, rs_X5_judge_74, rs_X5_judge_77, rs_X5_judge_80, rs_X5_judge_82, rs_X5_judge_84, rs_X5_judge_87, rs_X5_judge_88, rs_X5_judge_91, rs_X5_judge_94, rs_X5_judge_96, rs_X5_judge_97, rs_X5_judge_99, rs_X5_judge_102, rs_X5_judge_104, rs_X5_judge_105, rs_X5_judge_108, rs_X5_judge_111, rs_X5_judge_113, rs_X5_judge_115, rs_X5_judge_116, rs_X5_judge_117, rs_X5_judge_120, rs_X5_judge_123, rs_X5_judge_126, rs_X5_judge_128, rs_X5_judge_131, rs_X5_judge_134, rs_X5_judge_27, rs_X5_judge_103, rs_X5_judge_127, rs_X5_judge_136, -List.getElem?_eq_getElem, am_js, am_e, am_in, am_sl, rI, rZ, rV, rJ, rA, rC, kI, kJ, kR, am_one, am_nl, am_w8, tIc, tLc, tNul, tIld, tLld, tAld, tIst, tLst, tAst, tIinc, tI2, tDv, tL2, tLrem, tLs, tLcmp, tI2l, tL2i, tI2c, tDup, tDup2, tPop, tGo, tIfeq, tIfne, tIflt, tIfge, tIfgt, tIfle, tCmeq, tCmne, tCmlt, tCmge, tCmgt, tCmle, tNu, tTs, tGf, tPf, tGs, tIal, tIas, tBal, tBas, tAln, tSv, tSc, tSb, tSl, tSk, tCv, tCs, tCt, tMx, tMn, wr_10000, wr_100000, wr_1000000, wr_10000000, wr_100000000, wr_2400, wr_9999, wr_0, wr_1, wr_2, wr_3, wr_4, wr_5, wr_6, wr_7, wr_8, wr_9, wr_10, wr_11, wr_12, wr_13, wr_14, wr_15, wr_16, wr_17, wr_18, wr_19, wr_20, wr_21, wr_22, wr_23, wr_24, wr_25, wr_26, wr_27, wr_28, wr_29, wr_30, wr_31, wr_32, wr_33, wr_34, wr_35, wr_36, wr_37, wr_38, wr_39, wr_40, wr_41, wr_42, wr_43, wr_44, wr_45, wr_46, wr_47, wr_48, wr_49, wr_50, wr_51, wr_52, wr_53, wr_54, wr_55, wr_56, wr_57, wr_58, wr_59, wr_60, wr_61, wr_62, wr_63, wr_99, wr_100, wr_192, wr_255, wr_256, wr_343, wr_999, wr_1000, wr_2401, wr_2147483647, wr_65535, wr_m1, wr_m2, wr_m3, wr_m4, wr_m9, ak_1000, ak_1001, ak_1002, ak_0, ak_1, ak_2, ak_3, ak_4, ak_5, ak_6, ak_7, ak_8, ak_9, ak_10, ak_11, ak_12, ak_13, ak_14, ak_15, ak_16, ak_17, ak_18, ak_19, ak_20, ak_21, ak_22, ak_23, ak_24, ak_25, ak_26, ak_27, ak_28, ak_29, ak_30, ak_31, ak_32, ak_33, ak_34, ak_35, ak_36, ak_37, ak_38, ak_39, ak_40, ak_41, ak_42, ak_43, ak_44, ak_45, ak_46, ak_47, sp_X5_isCorner, h0, co, j0, j3, wt, wn, nt, q1, q2, wf, hf6, wd0, wd1, wd2, wd3, he, q3, hz, gs j3] <;>
        exact rm_X5_judge h (by omega)
      · rw [if_neg hz]
        refine ⟨79 + 1, by omega, ?_⟩
        rw [rs_X5_judge_41]
        have he := hq.2
        rcases c4 hc4 with rfl | rfl | rfl | rfl <;> simp [g4] at he <;> simp [s4] at q3 <;>
        simp [↓ri_X5_judge, rs_X5_judge_0, rs_X5_judge_1, rs_X5_judge_2, rs_X5_judge_5, rs_X5_judge_6, rs_X5_judge_7, rs_X5_judge_10, rs_X5_judge_11, rs_X5_judge_14, rs_X5_judge_15, rs_X5_judge_18, rs_X5_judge_19, rs_X5_judge_20, rs_X5_judge_21, rs_X5_judge_22, rs_X5_judge_25, rs_X5_judge_28, rs_X5_judge_29, rs_X5_judge_32, rs_X5_judge_33, rs_X5_judge_36, rs_X5_judge_39, rs_X5_judge_40, rs_X5_judge_42, rs_X5_judge_43, rs_X5_judge_46, rs_X5_judge_47, rs_X5_judge_48, rs_X5_judge_49, rs_X5_judge_50, rs_X5_judge_51, rs_X5_judge_52, rs_X5_judge_53, rs_X5_judge_56, rs_X5_judge_58, rs_X5_judge_59, rs_X5_judge_60, rs_X5_judge_61, rs_X5_judge_62, rs_X5_judge_63, rs_X5_judge_64, rs_X5_judge_65, rs_X5_judge_66, rs_X5_judge_67, rs_X5_judge_70, rs_X5_judge_72, rs_X5_judge_74, rs_X5_judge_77, rs_X5_judge_80, rs_X5_judge_82, rs_X5_judge_84, rs_X5_judge_87, rs_X5_judge_88, rs_X5_judge_91, rs_X5_judge_94, rs_X5_judge_96, rs_X5_judge_97, rs_X5_judge_99, rs_X5_judge_102, rs_X5_judge_104, rs_X5_judge_105, rs_X5_judge_108, rs_X5_judge_111, rs_X5_judge_113, rs_X5_judge_115, rs_X5_judge_116, rs_X5_judge_117, rs_X5_judge_120, rs_X5_judge_123, rs_X5_judge_126, rs_X5_judge_128, rs_X5_judge_131, rs_X5_judge_134, rs_X5_judge_27, rs_X5_judge_103, rs_X5_judge_127, rs_X5_judge_136, -List.getElem?_eq_getElem, am_js, am_e, am_in, am_sl, rI, rZ, rV, rJ, rA, rC, kI, kJ, kR, am_one, am_nl, am_w8, tIc, tLc, tNul, tIld, tLld, tAld, tIst, tLst, tAst, tIinc, tI2, tDv, tL2, tLrem, tLs, tLcmp, tI2l, tL2i, tI2c, tDup, tDup2, tPop, tGo, tIfeq, tIfne, tIflt, tIfge, tIfgt, tIfle, tCmeq, tCmne, tCmlt, tCmge, tCmgt, tCmle, tNu, tTs, tGf, tPf, tGs, tIal, tIas, tBal, tBas, tAln, tSv, tSc, tSb, tSl, tSk, tCv, tCs, tCt, tMx, tMn, wr_10000, wr_100000, wr_1000000, wr_10000000, wr_100000000, wr_2400, wr_9999, wr_0, wr_1, wr_2, wr_3, wr_4, wr_5, wr_6, wr_7, wr_8, wr_9, wr_10, wr_11, wr_12, wr_13, wr_14, wr_15, wr_16, wr_17, wr_18, wr_19, wr_20, wr_21, wr_22, wr_23, wr_24, wr_25, wr_26, wr_27, wr_28, wr_29, wr_30, wr_31, wr_32, wr_33, wr_34, wr_35, wr_36, wr_37, wr_38, wr_39, wr_40, wr_41, wr_42, wr_43, wr_44, wr_45, wr_46, wr_47, wr_48, wr_49, wr_50, wr_51, wr_52, wr_53, wr_54, wr_55, wr_56, wr_57, wr_58, wr_59, wr_60, wr_61, wr_62, wr_63, wr_99, wr_100, wr_192, wr_255, wr_256, wr_343, wr_999, wr_1000, wr_2401, wr_2147483647, wr_65535, wr_m1, wr_m2, wr_m3, wr_m4, wr_m9, ak_1000, ak_1001, ak_1002, ak_0, ak_1, ak_2, ak_3, ak_4, ak_5, ak_6, ak_7, ak_8, ak_9, ak_10, ak_11, ak_12, ak_13, ak_14, ak_15, ak_16, ak_17, ak_18, ak_19, ak_20, ak_21, ak_22, ak_23, ak_24, ak_25, ak_26, ak_27, ak_28, ak_29, ak_30, ak_31, ak_32, ak_33, ak_34, ak_35, ak_36, ak_37, ak_38, ak_39, ak_40, ak_41, ak_42, ak_43, ak_44, ak_45, ak_46, ak_47, sp_X5_isCorner, h0, co, j0, j3, wt, wn, nt, q1, q2, wf, hf6, wd0, wd1, wd2, wd3, he, q3, hz, gs j3]
    · rw [if_neg hq, set_same j3]
      refine ⟨79 + 1, by omega, ?_⟩
      rw [rs_X5_judge_41]
      by_cases hc : c ≤ 3
      · have hc4 : 0 ≤ c ∧ c < 4 := by omega
        by_cases hf : 6 < f
        · rcases c4 hc4 with rfl | rfl | rfl | rfl <;>
          simp [↓ri_X5_judge, rs_X5_judge_0, rs_X5_judge_1, rs_X5_judge_2, rs_X5_judge_5, rs_X5_judge_6, rs_X5_judge_7, rs_X5_judge_10, rs_X5_judge_11, rs_X5_judge_14, rs_X5_judge_15, rs_X5_judge_18, rs_X5_judge_19, rs_X5_judge_20, rs_X5_judge_21, rs_X5_judge_22, rs_X5_judge_25, rs_X5_judge_28, rs_X5_judge_29, rs_X5_judge_32, rs_X5_judge_33, rs_X5_judge_36, rs_X5_judge_39, rs_X5_judge_40, rs_X5_judge_42, rs_X5_judge_43, rs_X5_judge_46, rs_X5_judge_47, rs_X5_judge_48, rs_X5_judge_49, rs_X5_judge_50, rs_X5_judge_51, rs_X5_judge_52, rs_X5_judge_53, rs_X5_judge_56, rs_X5_judge_58, rs_X5_judge_59, rs_X5_judge_60, rs_X5_judge_61, rs_X5_judge_62, rs_X5_judge_63, rs_X5_judge_64, rs_X5_judge_65, rs_X5_judge_66, rs_X5_judge_67, rs_X5_judge_70, rs_X5_judge_72, rs_X5_judge_74, rs_X5_judge_77, rs_X5_judge_80, rs_X5_judge_82, rs_X5_judge_84, rs_X5_judge_87, rs_X5_judge_88, rs_X5_judge_91, rs_X5_judge_94, rs_X5_judge_96, rs_X5_judge_97, rs_X5_judge_99, rs_X5_judge_102, rs_X5_judge_104, rs_X5_judge_105, rs_X5_judge_108, rs_X5_judge_111, rs_X5_judge_113, rs_X5_judge_115, rs_X5_judge_116, rs_X5_judge_117, rs_X5_judge_120, rs_X5_judge_123, rs_X5_judge_126, rs_X5_judge_128, rs_X5_judge_131, rs_X5_judge_134, rs_X5_judge_27, rs_X5_judge_103, rs_X5_judge_127, rs_X5_judge_136, -List.getElem?_eq_getElem, am_js, am_e, am_in, am_sl, rI, rZ, rV, rJ, rA, rC, kI, kJ, kR, am_one, am_nl, am_w8, tIc, tLc, tNul, tIld, tLld, tAld, tIst, tLst, tAst, tIinc, tI2, tDv, tL2, tLrem, tLs, tLcmp, tI2l, tL2i, tI2c, tDup, tDup2, tPop, tGo, tIfeq, tIfne, tIflt, tIfge, tIfgt, tIfle, tCmeq, tCmne, tCmlt, tCmge, tCmgt, tCmle, tNu, tTs, tGf, tPf, tGs, tIal, tIas, tBal, tBas, tAln, tSv, tSc, tSb, tSl, tSk, tCv, tCs, tCt, tMx, tMn, wr_10000, wr_100000, wr_1000000, wr_10000000, wr_100000000, wr_2400, wr_9999, wr_0, wr_1, wr_2, wr_3, wr_4, wr_5, wr_6, wr_7, wr_8, wr_9, wr_10, wr_11, wr_12, wr_13, wr_14, wr_15, wr_16, wr_17, wr_18, wr_19, wr_20, wr_21, wr_22, wr_23, wr_24, wr_25, wr_26, wr_27, wr_28, wr_29, wr_30, wr_31, wr_32, wr_33, wr_34, wr_35, wr_36, wr_37, wr_38, wr_39, wr_40, wr_41, wr_42, wr_43, wr_44, wr_45, wr_46, wr_47, wr_48, wr_49, wr_50, wr_51, wr_52, wr_53, wr_54, wr_55, wr_56, wr_57, wr_58, wr_59, wr_60, wr_61, wr_62, wr_63, wr_99, wr_100, wr_192, wr_255, wr_256, wr_343, wr_999, wr_1000, wr_2401, wr_2147483647, wr_65535, wr_m1, wr_m2, wr_m3, wr_m4, wr_m9, ak_1000, ak_1001, ak_1002, ak_0, ak_1, ak_2, ak_3, ak_4, ak_5, ak_6, ak_7, ak_8, ak_9, ak_10, ak_11, ak_12, ak_13, ak_14, ak_15, ak_16, ak_17, ak_18, ak_19, ak_20, ak_21, ak_22, ak_23, ak_24, ak_25, ak_26, ak_27, ak_28, ak_29, ak_30, ak_31, ak_32, ak_33, ak_34, ak_35, ak_36, ak_37, ak_38, ak_39, ak_40, ak_41, ak_42, ak_43, ak_44, ak_45, ak_46, ak_47, sp_X5_isCorner, h0, co, j0, j3, wt, wn, nt, q1, q2, wf, hf]
        · have he : g4 d c.toNat = f := by
            apply Classical.byContradiction
            intro z
            exact hq ⟨⟨hc, by omega⟩, z⟩
          clear hq
          rcases c4 hc4 with rfl | rfl | rfl | rfl <;> simp [g4] at he <;>
          simp [↓ri_X5_judge, rs_X5_judge_0, rs_X5_judge_1, rs_X5_judge_2, rs_X5_judge_5, rs_X5_judge_6, rs_X5_judge_7, rs_X5_judge_10, rs_X5_judge_11, rs_X5_judge_14, rs_X5_judge_15, rs_X5_judge_18, rs_X5_judge_19, rs_X5_judge_20, rs_X5_judge_21, rs_X5_judge_22, rs_X5_judge_25, rs_X5_judge_28, rs_X5_judge_29, rs_X5_judge_32, rs_X5_judge_33, rs_X5_judge_36, rs_X5_judge_39, rs_X5_judge_40, rs_X5_judge_42, rs_X5_judge_43, rs_X5_judge_46, rs_X5_judge_47, rs_X5_judge_48, rs_X5_judge_49, rs_X5_judge_50, rs_X5_judge_51, rs_X5_judge_52, rs_X5_judge_53, rs_X5_judge_56, rs_X5_judge_58, rs_X5_judge_59, rs_X5_judge_60, rs_X5_judge_61, rs_X5_judge_62, rs_X5_judge_63, rs_X5_judge_64, rs_X5_judge_65, rs_X5_judge_66, rs_X5_judge_67, rs_X5_judge_70, rs_X5_judge_72, rs_X5_judge_74, rs_X5_judge_77, rs_X5_judge_80, rs_X5_judge_82, rs_X5_judge_84, rs_X5_judge_87, rs_X5_judge_88, rs_X5_judge_91, rs_X5_judge_94, rs_X5_judge_96, rs_X5_judge_97, rs_X5_judge_99, rs_X5_judge_102, rs_X5_judge_104, rs_X5_judge_105, rs_X5_judge_108, rs_X5_judge_111, rs_X5_judge_113, rs_X5_judge_115, rs_X5_judge_116, rs_X5_judge_117, rs_X5_judge_120, rs_X5_judge_123, rs_X5_judge_126, rs_X5_judge_128, rs_X5_judge_131, rs_X5_judge_134, rs_X5_judge_27, rs_X5_judge_103, rs_X5_judge_127, rs_X5_judge_136, -List.getElem?_eq_getElem, am_js, am_e, am_in, am_sl, rI, rZ, rV, rJ, rA, rC, kI, kJ, kR, am_one, am_nl, am_w8, tIc, tLc, tNul, tIld, tLld, tAld, tIst, tLst, tAst, tIinc, tI2, tDv, tL2, tLrem, tLs, tLcmp, tI2l, tL2i, tI2c, tDup, tDup2, tPop, tGo, tIfeq, tIfne, tIflt, tIfge, tIfgt, tIfle, tCmeq, tCmne, tCmlt, tCmge, tCmgt, tCmle, tNu, tTs, tGf, tPf, tGs, tIal, tIas, tBal, tBas, tAln, tSv, tSc, tSb, tSl, tSk, tCv, tCs, tCt, tMx, tMn, wr_10000, wr_100000, wr_1000000, wr_10000000, wr_100000000, wr_2400, wr_9999, wr_0, wr_1, wr_2, wr_3, wr_4, wr_5, wr_6, wr_7, wr_8, wr_9, wr_10, wr_11, wr_12, wr_13, wr_14, wr_15, wr_16, wr_17, wr_18, wr_19, wr_20, wr_21, wr_22, wr_23, wr_24, wr_25, wr_26, wr_27, wr_28, wr_29, wr_30, wr_31, wr_32, wr_33, wr_34, wr_35, wr_36, wr_37, wr_38, wr_39, wr_40, wr_41, wr_42, wr_43, wr_44, wr_45, wr_46, wr_47, wr_48, wr_49, wr_50, wr_51, wr_52, wr_53, wr_54, wr_55, wr_56, wr_57, wr_58, wr_59, wr_60, wr_61, wr_62, wr_63, wr_99, wr_100, wr_192, wr_255, wr_256, wr_343, wr_999, wr_1000, wr_2401, wr_2147483647, wr_65535, wr_m1, wr_m2, wr_m3, wr_m4, wr_m9, ak_1000, ak_1001, ak_1002, ak_0, ak_1, ak_2, ak_3, ak_4, ak_5, ak_6, ak_7, ak_8, ak_9, ak_10, ak_11, ak_12, ak_13, ak_14, ak_15, ak_16, ak_17, ak_18, ak_19, ak_20, ak_21, ak_22, ak_23, ak_24, ak_25, ak_26, ak_27, ak_28, ak_29, ak_30, ak_31, ak_32, ak_33, ak_34, ak_35, ak_36, ak_37, ak_38, ak_39, ak_40, ak_41, ak_42, ak_43, ak_44, ak_45, ak_46, ak_47, sp_X5_isCorner, h0, co, j0, j3, wt, wn, nt, q1, q2, wf, hf, wd0, wd1, wd2, wd3, he]
      · have hcn : ¬ (0 ≤ c ∧ c < 4) := by omega
        clear hq
        simp [↓ri_X5_judge, rs_X5_judge_0, rs_X5_judge_1, rs_X5_judge_2, rs_X5_judge_5, rs_X5_judge_6, rs_X5_judge_7, rs_X5_judge_10, rs_X5_judge_11, rs_X5_judge_14, rs_X5_judge_15, rs_X5_judge_18, rs_X5_judge_19, rs_X5_judge_20, rs_X5_judge_21, rs_X5_judge_22, rs_X5_judge_25, rs_X5_judge_28, rs_X5_judge_29, rs_X5_judge_32, rs_X5_judge_33, rs_X5_judge_36, rs_X5_judge_39, rs_X5_judge_40, rs_X5_judge_42, rs_X5_judge_43, rs_X5_judge_46, rs_X5_judge_47, rs_X5_judge_48, rs_X5_judge_49, rs_X5_judge_50, rs_X5_judge_51, rs_X5_judge_52, rs_X5_judge_53, rs_X5_judge_56, rs_X5_judge_58, rs_X5_judge_59, rs_X5_judge_60, rs_X5_judge_61, rs_X5_judge_62, rs_X5_judge_63, rs_X5_judge_64, rs_X5_judge_65, rs_X5_judge_66, rs_X5_judge_67, rs_X5_judge_70, rs_X5_judge_72, rs_X5_judge_74, rs_X5_judge_77, rs_X5_judge_80, rs_X5_judge_82, rs_X5_judge_84, rs_X5_judge_87, rs_X5_judge_88, rs_X5_judge_91, rs_X5_judge_94, rs_X5_judge_96, rs_X5_judge_97, rs_X5_judge_99, rs_X5_judge_102, rs_X5_judge_104, rs_X5_judge_105, rs_X5_judge_108, rs_X5_judge_111, rs_X5_judge_113, rs_X5_judge_115, rs_X5_judge_116, rs_X5_judge_117, rs_X5_judge_120, rs_X5_judge_123, rs_X5_judge_126, rs_X5_judge_128, rs_X5_judge_131, rs_X5_judge_134, rs_X5_judge_27, rs_X5_judge_103, rs_X5_judge_127, rs_X5_judge_136, -List.getElem?_eq_getElem, am_js, am_e, am_in, am_sl, rI, rZ, rV, rJ, rA, rC, kI, kJ, kR, am_one, am_nl, am_w8, tIc, tLc, tNul, tIld, tLld, tAld, tIst, tLst, tAst, tIinc, tI2, tDv, tL2, tLrem, tLs, tLcmp, tI2l, tL2i, tI2c, tDup, tDup2, tPop, tGo, tIfeq, tIfne, tIflt, tIfge, tIfgt, tIfle, tCmeq, tCmne, tCmlt, tCmge, tCmgt, tCmle, tNu, tTs, tGf, tPf, tGs, tIal, tIas, tBal, tBas, tAln, tSv, tSc, tSb, tSl, tSk, tCv, tCs, tCt, tMx, tMn, wr_10000, wr_100000, wr_1000000, wr_10000000, wr_100000000, wr_2400, wr_9999, wr_0, wr_1, wr_2, wr_3, wr_4, wr_5, wr_6, wr_7, wr_8, wr_9, wr_10, wr_11, wr_12, wr_13, wr_14, wr_15, wr_16, wr_17, wr_18, wr_19, wr_20, wr_21, wr_22, wr_23, wr_24, wr_25, wr_26, wr_27, wr_28, wr_29, wr_30, wr_31, wr_32, wr_33, wr_34, wr_35, wr_36, wr_37, wr_38, wr_39, wr_40, wr_41, wr_42, wr_43, wr_44, wr_45, wr_46, wr_47, wr_48, wr_49, wr_50, wr_51, wr_52, wr_53, wr_54, wr_55, wr_56, wr_57, wr_58, wr_59, wr_60, wr_61, wr_62, wr_63, wr_99, wr_100, wr_192, wr_255, wr_256, wr_343, wr_999, wr_1000, wr_2401, wr_2147483647, wr_65535, wr_m1, wr_m2, wr_m3, wr_m4, wr_m9, ak_1000, ak_1001, ak_1002, ak_0, ak_1, ak_2, ak_3, ak_4, ak_5, ak_6, ak_7, ak_8, ak_9, ak_10, ak_11, ak_12, ak_13, ak_14, ak_15, ak_16, ak_17, ak_18, ak_19, ak_20, ak_21, ak_22, ak_23, ak_24, ak_25, ak_26, ak_27, ak_28, ak_29, ak_30, ak_31, ak_32, ak_33, ak_34, ak_35, ak_36, ak_37, ak_38, ak_39, ak_40, ak_41, ak_42, ak_43, ak_44, ak_45, ak_46, ak_47, sp_X5_isCorner, h0, co, j0, j3, wt, wn, nt, q1, q2, wc, wf, hcn]
end
