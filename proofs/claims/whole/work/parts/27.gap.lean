noncomputable section
abbrev mi_X2_gapBy : Mi := (yX2_gapBy, cX2_gapBy, 5, some .int, 3)
theorem mf_X2_gapBy : am_mf mi_X2_gapBy 2 := ⟨w_co_X2_gapBy, w_in_X2, ⟨by decide +kernel, by decide +kernel⟩, by decide +kernel, by decide⟩
def tb_X2_gapBy : List (Nat × Tr) := [(0, tAld 0 1), (1, tCv 2 0 fn_X2_loosen), (4, tIc 0 1), (5, tIst 3 1), (6, tIld 3 1), (7, tIc 4 1), (8, tIld 2 1), (9, tI2 (fun a b => a * b)), (10, tCmge 31), (13, tAld 0 1), (14, tIld 1 1), (15, tIc 4 1), (16, tIld 3 1), (17, tIc 4 1), (18, tDv Int.tmod), (19, tCs 3 fn_X5_figureOf), (22, tCv 2 1 fn_X2_tighten), (25, tIinc 3 1), (28, tGo 6), (31, tAld 0 1), (32, tGf 2 0), (35, tIc 0 1), (36, tIal), (37, tAld 0 1), (38, tGf 2 0), (41, tIc 1 1), (42, tIal), (43, tMx), (46, tAld 0 1), (47, tGf 2 0), (50, tIc 2 1), (51, tIal), (52, tAld 0 1), (53, tGf 2 0), (56, tIc 3 1), (57, tIal), (58, tMx), (61, tMx), (64, tIst 3 1), (65, tAld 0 1), (66, tGf 2 0), (69, tIc 0 1), (70, tIal), (71, tAld 0 1), (72, tGf 2 0), (75, tIc 1 1), (76, tIal), (77, tMn), (80, tAld 0 1), (81, tGf 2 0), (84, tIc 2 1), (85, tIal), (86, tAld 0 1), (87, tGf 2 0), (90, tIc 3 1), (91, tIal), (92, tMn), (95, tMn), (98, tIst 4 2), (100, tIld 3 1), (101, tIld 4 2), (103, tI2 (fun a b => a - b))]
theorem ok_X2_gapBy : Tok mi_X2_gapBy tb_X2_gapBy :=
  Tc (sd_aload_n dX2_gapBy_0) <|
  Tc (sd_cv (T := TX2) fok_X2_loosen mf_X2_loosen rfl w_ml_X2_23 w_im_X2_loosen w_se_X2_loosen (by decide) dX2_gapBy_1) <|
  Tc (sd_iconst rfl dX2_gapBy_4) <|
  Tc (sd_istore_n dX2_gapBy_5) <|
  Tc (sd_iload_n dX2_gapBy_6) <|
  Tc (sd_iconst rfl dX2_gapBy_7) <|
  Tc (sd_iload_n dX2_gapBy_8) <|
  Tc (sd_imul dX2_gapBy_9) <|
  Tc (sd_cm_ge (by decide) dX2_gapBy_10) <|
  Tc (sd_aload_n dX2_gapBy_13) <|
  Tc (sd_iload_n dX2_gapBy_14) <|
  Tc (sd_iconst rfl dX2_gapBy_15) <|
  Tc (sd_iload_n dX2_gapBy_16) <|
  Tc (sd_iconst rfl dX2_gapBy_17) <|
  Tc (sd_irem dX2_gapBy_18) <|
  Tc (sd_csN fok_X5_figureOf mf_X5_figureOf (List.mem_of_getElem? (i := 6) rfl) w_st_X5_figureOf (by decide) dX2_gapBy_19) <|
  Tc (sd_cv (T := TX2) fok_X2_tighten mf_X2_tighten rfl w_ml_X2_30 w_im_X2_tighten w_se_X2_tighten (by decide) dX2_gapBy_22) <|
  Tc (sd_iinc dX2_gapBy_25) <|
  Tc (sd_goto (by decide) dX2_gapBy_28) <|
  Tc (sd_aload_n dX2_gapBy_31) <|
  Tc (sd_getf (T := TX2) rfl giX2 (by decide) w_fl_X2_9 dX2_gapBy_32) <|
  Tc (sd_iconst rfl dX2_gapBy_35) <|
  Tc (sd_ial dX2_gapBy_36) <|
  Tc (sd_aload_n dX2_gapBy_37) <|
  Tc (sd_getf (T := TX2) rfl giX2 (by decide) w_fl_X2_9 dX2_gapBy_38) <|
  Tc (sd_iconst rfl dX2_gapBy_41) <|
  Tc (sd_ial dX2_gapBy_42) <|
  Tc (sd_mx w_ml_X2_33 dX2_gapBy_43) <|
  Tc (sd_aload_n dX2_gapBy_46) <|
  Tc (sd_getf (T := TX2) rfl giX2 (by decide) w_fl_X2_9 dX2_gapBy_47) <|
  Tc (sd_iconst rfl dX2_gapBy_50) <|
  Tc (sd_ial dX2_gapBy_51) <|
  Tc (sd_aload_n dX2_gapBy_52) <|
  Tc (sd_getf (T := TX2) rfl giX2 (by decide) w_fl_X2_9 dX2_gapBy_53) <|
  Tc (sd_iconst rfl dX2_gapBy_56) <|
  Tc (sd_ial dX2_gapBy_57) <|
  Tc (sd_mx w_ml_X2_33 dX2_gapBy_58) <|
  Tc (sd_mx w_ml_X2_33 dX2_gapBy_61) <|
  Tc (sd_istore_n dX2_gapBy_64) <|
  Tc (sd_aload_n dX2_gapBy_65) <|
  Tc (sd_getf (T := TX2) rfl giX2 (by decide) w_fl_X2_9 dX2_gapBy_66) <|
  Tc (sd_iconst rfl dX2_gapBy_69) <|
  Tc (sd_ial dX2_gapBy_70) <|
  Tc (sd_aload_n dX2_gapBy_71) <|
  Tc (sd_getf (T := TX2) rfl giX2 (by decide) w_fl_X2_9 dX2_gapBy_72) <|
  Tc (sd_iconst rfl dX2_gapBy_75) <|
  Tc (sd_ial dX2_gapBy_76) <|
  Tc (sd_mn w_ml_X2_39 dX2_gapBy_77) <|
  Tc (sd_aload_n dX2_gapBy_80) <|
  Tc (sd_getf (T := TX2) rfl giX2 (by decide) w_fl_X2_9 dX2_gapBy_81) <|
  Tc (sd_iconst rfl dX2_gapBy_84) <|
  Tc (sd_ial dX2_gapBy_85) <|
  Tc (sd_aload_n dX2_gapBy_86) <|
  Tc (sd_getf (T := TX2) rfl giX2 (by decide) w_fl_X2_9 dX2_gapBy_87) <|
  Tc (sd_iconst rfl dX2_gapBy_90) <|
  Tc (sd_ial dX2_gapBy_91) <|
  Tc (sd_mn w_ml_X2_39 dX2_gapBy_92) <|
  Tc (sd_mn w_ml_X2_39 dX2_gapBy_95) <|
  Tc (sd_istore dX2_gapBy_98) <|
  Tc (sd_iload_n dX2_gapBy_100) <|
  Tc (sd_iload dX2_gapBy_101) <|
  Tc (sd_isub dX2_gapBy_103) <|
  Tn
theorem rk_X2_gapBy : Rok mi_X2_gapBy rI [104] := rk_i dX2_gapBy_104 <| rk_n
def rx_X2_gapBy : Nat → Nat → AL → List AV → List AC → Option (Option AV × List AC) := am_r tb_X2_gapBy rI [104]
theorem rs_X2_gapBy_0 (n : Nat) (L : AL) (st : List AV) (M : List AC) : rx_X2_gapBy (n + 1) 0 L st M = am_j (rx_X2_gapBy n) ((tAld 0 1) 0 L st M) := rfl
theorem rs_X2_gapBy_1 (n : Nat) (L : AL) (st : List AV) (M : List AC) : rx_X2_gapBy (n + 1) 1 L st M = am_j (rx_X2_gapBy n) ((tCv 2 0 fn_X2_loosen) 1 L st M) := rfl
theorem rs_X2_gapBy_4 (n : Nat) (L : AL) (st : List AV) (M : List AC) : rx_X2_gapBy (n + 1) 4 L st M = am_j (rx_X2_gapBy n) ((tIc 0 1) 4 L st M) := rfl
theorem rs_X2_gapBy_5 (n : Nat) (L : AL) (st : List AV) (M : List AC) : rx_X2_gapBy (n + 1) 5 L st M = am_j (rx_X2_gapBy n) ((tIst 3 1) 5 L st M) := rfl
theorem rs_X2_gapBy_6 (n : Nat) (L : AL) (st : List AV) (M : List AC) : rx_X2_gapBy (n + 1) 6 L st M = am_j (rx_X2_gapBy n) ((tIld 3 1) 6 L st M) := rfl
theorem rs_X2_gapBy_7 (n : Nat) (L : AL) (st : List AV) (M : List AC) : rx_X2_gapBy (n + 1) 7 L st M = am_j (rx_X2_gapBy n) ((tIc 4 1) 7 L st M) := rfl
theorem rs_X2_gapBy_8 (n : Nat) (L : AL) (st : List AV) (M : List AC) : rx_X2_gapBy (n + 1) 8 L st M = am_j (rx_X2_gapBy n) ((tIld 2 1) 8 L st M) := rfl
theorem rs_X2_gapBy_9 (n : Nat) (L : AL) (st : List AV) (M : List AC) : rx_X2_gapBy (n + 1) 9 L st M = am_j (rx_X2_gapBy n) ((tI2 (fun a b => a * b)) 9 L st M) := rfl
theorem rs_X2_gapBy_10 (n : Nat) (L : AL) (st : List AV) (M : List AC) : rx_X2_gapBy (n + 1) 10 L st M = am_j (rx_X2_gapBy n) ((tCmge 31) 10 L st M) := rfl
theorem rs_X2_gapBy_13 (n : Nat) (L : AL) (st : List AV) (M : List AC) : rx_X2_gapBy (n + 1) 13 L st M = am_j (rx_X2_gapBy n) ((tAld 0 1) 13 L st M) := rfl
theorem rs_X2_gapBy_14 (n : Nat) (L : AL) (st : List AV) (M : List AC) : rx_X2_gapBy (n + 1) 14 L st M = am_j (rx_X2_gapBy n) ((tIld 1 1) 14 L st M) := rfl
theorem rs_X2_gapBy_15 (n : Nat) (L : AL) (st : List AV) (M : List AC) : rx_X2_gapBy (n + 1) 15 L st M = am_j (rx_X2_gapBy n) ((tIc 4 1) 15 L st M) := rfl
theorem rs_X2_gapBy_16 (n : Nat) (L : AL) (st : List AV) (M : List AC) : rx_X2_gapBy (n + 1) 16 L st M = am_j (rx_X2_gapBy n) ((tIld 3 1) 16 L st M) := rfl
theorem rs_X2_gapBy_17 (n : Nat) (L : AL) (st : List AV) (M : List AC) : rx_X2_gapBy (n + 1) 17 L st M = am_j (rx_X2_gapBy n) ((tIc 4 1) 17 L st M) := rfl
theorem rs_X2_gapBy_18 (n : Nat) (L : AL) (st : List AV) (M : List AC) : rx_X2_gapBy (n + 1) 18 L st M = am_j (rx_X2_gapBy n) ((tDv Int.tmod) 18 L st M) := rfl
theorem rs_X2_gapBy_19 (n : Nat) (L : AL) (st : List AV) (M : List AC) : rx_X2_gapBy (n + 1) 19 L st M = am_j (rx_X2_gapBy n) ((tCs 3 fn_X5_figureOf) 19 L st M) := rfl
theorem rs_X2_gapBy_22 (n : Nat) (L : AL) (st : List AV) (M : List AC) : rx_X2_gapBy (n + 1) 22 L st M = am_j (rx_X2_gapBy n) ((tCv 2 1 fn_X2_tighten) 22 L st M) := rfl
theorem rs_X2_gapBy_25 (n : Nat) (L : AL) (st : List AV) (M : List AC) : rx_X2_gapBy (n + 1) 25 L st M = am_j (rx_X2_gapBy n) ((tIinc 3 1) 25 L st M) := rfl
theorem rs_X2_gapBy_28 (n : Nat) (L : AL) (st : List AV) (M : List AC) : rx_X2_gapBy (n + 1) 28 L st M = am_j (rx_X2_gapBy n) ((tGo 6) 28 L st M) := rfl
theorem rs_X2_gapBy_31 (n : Nat) (L : AL) (st : List AV) (M : List AC) : rx_X2_gapBy (n + 1) 31 L st M = am_j (rx_X2_gapBy n) ((tAld 0 1) 31 L st M) := rfl
theorem rs_X2_gapBy_32 (n : Nat) (L : AL) (st : List AV) (M : List AC) : rx_X2_gapBy (n + 1) 32 L st M = am_j (rx_X2_gapBy n) ((tGf 2 0) 32 L st M) := rfl
theorem rs_X2_gapBy_35 (n : Nat) (L : AL) (st : List AV) (M : List AC) : rx_X2_gapBy (n + 1) 35 L st M = am_j (rx_X2_gapBy n) ((tIc 0 1) 35 L st M) := rfl
theorem rs_X2_gapBy_36 (n : Nat) (L : AL) (st : List AV) (M : List AC) : rx_X2_gapBy (n + 1) 36 L st M = am_j (rx_X2_gapBy n) (tIal 36 L st M) := rfl
theorem rs_X2_gapBy_37 (n : Nat) (L : AL) (st : List AV) (M : List AC) : rx_X2_gapBy (n + 1) 37 L st M = am_j (rx_X2_gapBy n) ((tAld 0 1) 37 L st M) := rfl
theorem rs_X2_gapBy_38 (n : Nat) (L : AL) (st : List AV) (M : List AC) : rx_X2_gapBy (n + 1) 38 L st M = am_j (rx_X2_gapBy n) ((tGf 2 0) 38 L st M) := rfl
theorem rs_X2_gapBy_41 (n : Nat) (L : AL) (st : List AV) (M : List AC) : rx_X2_gapBy (n + 1) 41 L st M = am_j (rx_X2_gapBy n) ((tIc 1 1) 41 L st M) := rfl
theorem rs_X2_gapBy_42 (n : Nat) (L : AL) (st : List AV) (M : List AC) : rx_X2_gapBy (n + 1) 42 L st M = am_j (rx_X2_gapBy n) (tIal 42 L st M) := rfl
theorem rs_X2_gapBy_43 (n : Nat) (L : AL) (st : List AV) (M : List AC) : rx_X2_gapBy (n + 1) 43 L st M = am_j (rx_X2_gapBy n) (tMx 43 L st M) := rfl
theorem rs_X2_gapBy_46 (n : Nat) (L : AL) (st : List AV) (M : List AC) : rx_X2_gapBy (n + 1) 46 L st M = am_j (rx_X2_gapBy n) ((tAld 0 1) 46 L st M) := rfl
theorem rs_X2_gapBy_47 (n : Nat) (L : AL) (st : List AV) (M : List AC) : rx_X2_gapBy (n + 1) 47 L st M = am_j (rx_X2_gapBy n) ((tGf 2 0) 47 L st M) := rfl
theorem rs_X2_gapBy_50 (n : Nat) (L : AL) (st : List AV) (M : List AC) : rx_X2_gapBy (n + 1) 50 L st M = am_j (rx_X2_gapBy n) ((tIc 2 1) 50 L st M) := rfl
theorem rs_X2_gapBy_51 (n : Nat) (L : AL) (st : List AV) (M : List AC) : rx_X2_gapBy (n + 1) 51 L st M = am_j (rx_X2_gapBy n) (tIal 51 L st M) := rfl
theorem rs_X2_gapBy_52 (n : Nat) (L : AL) (st : List AV) (M : List AC) : rx_X2_gapBy (n + 1) 52 L st M = am_j (rx_X2_gapBy n) ((tAld 0 1) 52 L st M) := rfl
theorem rs_X2_gapBy_53 (n : Nat) (L : AL) (st : List AV) (M : List AC) : rx_X2_gapBy (n + 1) 53 L st M = am_j (rx_X2_gapBy n) ((tGf 2 0) 53 L st M) := rfl
theorem rs_X2_gapBy_56 (n : Nat) (L : AL) (st : List AV) (M : List AC) : rx_X2_gapBy (n + 1) 56 L st M = am_j (rx_X2_gapBy n) ((tIc 3 1) 56 L st M) := rfl
theorem rs_X2_gapBy_57 (n : Nat) (L : AL) (st : List AV) (M : List AC) : rx_X2_gapBy (n + 1) 57 L st M = am_j (rx_X2_gapBy n) (tIal 57 L st M) := rfl
theorem rs_X2_gapBy_58 (n : Nat) (L : AL) (st : List AV) (M : List AC) : rx_X2_gapBy (n + 1) 58 L st M = am_j (rx_X2_gapBy n) (tMx 58 L st M) := rfl
theorem rs_X2_gapBy_61 (n : Nat) (L : AL) (st : List AV) (M : List AC) : rx_X2_gapBy (n + 1) 61 L st M = am_j (rx_X2_gapBy n) (tMx 61 L st M) := rfl
theorem rs_X2_gapBy_64 (n : Nat) (L : AL) (st : List AV) (M : List AC) : rx_X2_gapBy (n + 1) 64 L st M = am_j (rx_X2_gapBy n) ((tIst 3 1) 64 L st M) := rfl
theorem rs_X2_gapBy_65 (n : Nat) (L : AL) (st : List AV) (M : List AC) : rx_X2_gapBy (n + 1) 65 L st M = am_j (rx_X2_gapBy n) ((tAld 0 1) 65 L st M) := rfl
theorem rs_X2_gapBy_66 (n : Nat) (L : AL) (st : List AV) (M : List AC) : rx_X2_gapBy (n + 1) 66 L st M = am_j (rx_X2_gapBy n) ((tGf 2 0) 66 L st M) := rfl
theorem rs_X2_gapBy_69 (n : Nat) (L : AL) (st : List AV) (M : List AC) : rx_X2_gapBy (n + 1) 69 L st M = am_j (rx_X2_gapBy n) ((tIc 0 1) 69 L st M) := rfl
theorem rs_X2_gapBy_70 (n : Nat) (L : AL) (st : List AV) (M : List AC) : rx_X2_gapBy (n + 1) 70 L st M = am_j (rx_X2_gapBy n) (tIal 70 L st M) := rfl
theorem rs_X2_gapBy_71 (n : Nat) (L : AL) (st : List AV) (M : List AC) : rx_X2_gapBy (n + 1) 71 L st M = am_j (rx_X2_gapBy n) ((tAld 0 1) 71 L st M) := rfl
theorem rs_X2_gapBy_72 (n : Nat) (L : AL) (st : List AV) (M : List AC) : rx_X2_gapBy (n + 1) 72 L st M = am_j (rx_X2_gapBy n) ((tGf 2 0) 72 L st M) := rfl
theorem rs_X2_gapBy_75 (n : Nat) (L : AL) (st : List AV) (M : List AC) : rx_X2_gapBy (n + 1) 75 L st M = am_j (rx_X2_gapBy n) ((tIc 1 1) 75 L st M) := rfl
theorem rs_X2_gapBy_76 (n : Nat) (L : AL) (st : List AV) (M : List AC) : rx_X2_gapBy (n + 1) 76 L st M = am_j (rx_X2_gapBy n) (tIal 76 L st M) := rfl
theorem rs_X2_gapBy_77 (n : Nat) (L : AL) (st : List AV) (M : List AC) : rx_X2_gapBy (n + 1) 77 L st M = am_j (rx_X2_gapBy n) (tMn 77 L st M) := rfl
theorem rs_X2_gapBy_80 (n : Nat) (L : AL) (st : List AV) (M : List AC) : rx_X2_gapBy (n + 1) 80 L st M = am_j (rx_X2_gapBy n) ((tAld 0 1) 80 L st M) := rfl
theorem rs_X2_gapBy_81 (n : Nat) (L : AL) (st : List AV) (M : List AC) : rx_X2_gapBy (n + 1) 81 L st M = am_j (rx_X2_gapBy n) ((tGf 2 0) 81 L st M) := rfl
theorem rs_X2_gapBy_84 (n : Nat) (L : AL) (st : List AV) (M : List AC) : rx_X2_gapBy (n + 1) 84 L st M = am_j (rx_X2_gapBy n) ((tIc 2 1) 84 L st M) := rfl
theorem rs_X2_gapBy_85 (n : Nat) (L : AL) (st : List AV) (M : List AC) : rx_X2_gapBy (n + 1) 85 L st M = am_j (rx_X2_gapBy n) (tIal 85 L st M) := rfl
theorem rs_X2_gapBy_86 (n : Nat) (L : AL) (st : List AV) (M : List AC) : rx_X2_gapBy (n + 1) 86 L st M = am_j (rx_X2_gapBy n) ((tAld 0 1) 86 L st M) := rfl
theorem rs_X2_gapBy_87 (n : Nat) (L : AL) (st : List AV) (M : List AC) : rx_X2_gapBy (n + 1) 87 L st M = am_j (rx_X2_gapBy n) ((tGf 2 0) 87 L st M) := rfl
theorem rs_X2_gapBy_90 (n : Nat) (L : AL) (st : List AV) (M : List AC) : rx_X2_gapBy (n + 1) 90 L st M = am_j (rx_X2_gapBy n) ((tIc 3 1) 90 L st M) := rfl
theorem rs_X2_gapBy_91 (n : Nat) (L : AL) (st : List AV) (M : List AC) : rx_X2_gapBy (n + 1) 91 L st M = am_j (rx_X2_gapBy n) (tIal 91 L st M) := rfl
theorem rs_X2_gapBy_92 (n : Nat) (L : AL) (st : List AV) (M : List AC) : rx_X2_gapBy (n + 1) 92 L st M = am_j (rx_X2_gapBy n) (tMn 92 L st M) := rfl
theorem rs_X2_gapBy_95 (n : Nat) (L : AL) (st : List AV) (M : List AC) : rx_X2_gapBy (n + 1) 95 L st M = am_j (rx_X2_gapBy n) (tMn 95 L st M) := rfl
theorem rs_X2_gapBy_98 (n : Nat) (L : AL) (st : List AV) (M : List AC) : rx_X2_gapBy (n + 1) 98 L st M = am_j (rx_X2_gapBy n) ((tIst 4 2) 98 L st M) := rfl
theorem rs_X2_gapBy_100 (n : Nat) (L : AL) (st : List AV) (M : List AC) : rx_X2_gapBy (n + 1) 100 L st M = am_j (rx_X2_gapBy n) ((tIld 3 1) 100 L st M) := rfl
theorem rs_X2_gapBy_101 (n : Nat) (L : AL) (st : List AV) (M : List AC) : rx_X2_gapBy (n + 1) 101 L st M = am_j (rx_X2_gapBy n) ((tIld 4 2) 101 L st M) := rfl
theorem rs_X2_gapBy_103 (n : Nat) (L : AL) (st : List AV) (M : List AC) : rx_X2_gapBy (n + 1) 103 L st M = am_j (rx_X2_gapBy n) ((tI2 (fun a b => a - b)) 103 L st M) := rfl
theorem rs_X2_gapBy_104 (n : Nat) (L : AL) (st : List AV) (M : List AC) : rx_X2_gapBy (n + 1) 104 L st M = am_e rI st M := rfl
theorem ri_X2_gapBy (c : Prop) [Decidable c] (p q n : Nat) (L : AL) (st : List AV) (M : List AC) : rx_X2_gapBy n (if c then p else q) L st M = if c then rx_X2_gapBy n p L st M else rx_X2_gapBy n q L st M := by split <;> rfl
theorem rm_X2_gapBy {n k pc : Nat} {L : AL} {st : List AV} {M : List AC} {x : Option AV × List AC} (h : rx_X2_gapBy n pc L st M = some x) (hk : n ≤ k) : rx_X2_gapBy k pc L st M = some x := am_r_mono n k h hk
def fn_X2_gapBy : Fn := am_fn rx_X2_gapBy 5
theorem fok_X2_gapBy : Fok mi_X2_gapBy fn_X2_gapBy := fun _ _ _ _ h => am_fok ok_X2_gapBy rk_X2_gapBy rfl h
def mx (x y : Int) : Int := if x < y then y else x
def mn (x y : Int) : Int := if y < x then y else x
def gpi (o : Int) : Nat → Nat → F4 → F4
  | 0, _, v => v
  | n + 1, i, v => gpi o n (i + 1) (tg v (g4 (uf o) (i % 4)).toNat)
def gpe (v : F4) : Int := mx (mx v.1 v.2.1) (mx v.2.2.1 v.2.2.2) - mn (mn v.1 v.2.1) (mn v.2.2.1 v.2.2.2)
theorem mx_wr {a b : Int} (h1 : wr a = a) (h2 : wr b = b) : (if wr a < wr b then b else a) = mx a b ∧ wr (mx a b) = mx a b := by
  rw [h1, h2]
  refine ⟨rfl, ?_⟩
  unfold mx
  split
  · exact h2
  · exact h1
theorem mn_wr {a b : Int} (h1 : wr a = a) (h2 : wr b = b) : (if wr b < wr a then b else a) = mn a b ∧ wr (mn a b) = mn a b := by
  rw [h1, h2]
  refine ⟨rfl, ?_⟩
  unfold mn
  split
  · exact h2
  · exact h1
theorem e2_X2_gapBy {M : List AC} {v : F4} (h : HT M v) (hw : wr v.1 = v.1 ∧ wr v.2.1 = v.2.1 ∧ wr v.2.2.1 = v.2.2.1 ∧ wr v.2.2.2 = v.2.2.2) (a b c : Int) : rx_X2_gapBy 60 31 [some (vR 24), some (vI a), some (vI b), some (vI c), none] [] M = some (some (vI (gpe v)), M) := by
  obtain ⟨h0, h1⟩ := h
  obtain ⟨w0, w1, w2, w3⟩ := hw
  obtain ⟨p1, q1⟩ := mx_wr w0 w1
  obtain ⟨p2, q2⟩ := mx_wr w2 w3
  obtain ⟨p3, q3⟩ := mx_wr q1 q2
  obtain ⟨p4, q4⟩ := mn_wr w0 w1
  obtain ⟨p5, q5⟩ := mn_wr w2 w3
  obtain ⟨p6, q6⟩ := mn_wr q4 q5
  rw [w0, w1] at p1 p4
  rw [w2, w3] at p2 p5
  rw [q1, q2] at p3
  rw [q4, q5] at p6
  unfold gpe
  simp [↓ri_X2_gapBy, rs_X2_gapBy_0, rs_X2_gapBy_1, rs_X2_gapBy_4, rs_X2_gapBy_5, rs_X2_gapBy_6, rs_X2_gapBy_7, rs_X2_gapBy_8, rs_X2_gapBy_9, rs_X2_gapBy_10, rs_X2_gapBy_13, rs_X2_gapBy_14, rs_X2_gapBy_15, rs_X2_gapBy_16, rs_X2_gapBy_17, rs_X2_gapBy_18, rs_X2_gapBy_19, rs_X2_gapBy_22, rs_X2_gapBy_25, rs_X2_gapBy_28, rs_X2_gapBy_31, rs_X2_gapBy_32, rs_X2_gapBy_35, rs_X2_gapBy_36, rs_X2_gapBy_37, rs_X2_gapBy_38, rs_X2_gapBy_41, rs_X2_gapBy_42, rs_X2_gapBy_43, rs_X2_gapBy_46, rs_X2_gapBy_47, rs_X2_gapBy_50, rs_X2_gapBy_51, rs_X2_gapBy_52, rs_X2_gapBy_53, rs_X2_gapBy_56, rs_X2_gapBy_57, rs_X2_gapBy_58, rs_X2_gapBy_61, rs_X2_gapBy_64, rs_X2_gapBy_65, rs_X2_gapBy_66, rs_X2_gapBy_69, rs_X2_gapBy_70, rs_X2_gapBy_71, rs_X2_gapBy_72, rs_X2_gapBy_75, rs_X2_gapBy_76, rs_X2_gapBy_77, rs_X2_gapBy_80, rs_X2_gapBy_81, rs_X2_gapBy_84, rs_X2_gapBy_85, rs_X2_gapBy_86, rs_X2_gapBy_87, rs_X2_gapBy_90, rs_X2_gapBy_91, rs_X2_gapBy_92, rs_X2_gapBy_95, rs_X2_gapBy_98, rs_X2_gapBy_100, rs_X2_gapBy_101, rs_X2_gapBy_103, rs_X2_gapBy_104, -List.getElem?_eq_getElem, am_js, am_e, am_in, am_sl, rI, rZ, rV, rJ, rA, rC, kI, kJ, kR, am_one, am_nl, am_w8, tIc, tLc, tNul, tIld, tLld, tAld, tIst, tLst, tAst, tIinc, tI2, tDv, tL2, tLrem, tLs, tLcmp, tI2l, tL2i, tI2c, tDup, tDup2, tPop, tGo, tIfeq, tIfne, tIflt, tIfge, tIfgt, tIfle, tCmeq, tCmne, tCmlt, tCmge, tCmgt, tCmle, tNu, tTs, tGf, tPf, tGs, tIal, tIas, tBal, tBas, tAln, tSv, tSc, tSb, tSl, tSk, tCv, tCs, tCt, tMx, tMn, wr_10000, wr_100000, wr_1000000, wr_10000000, wr_100000000, wr_2400, wr_9999, wr_0, wr_1, wr_2, wr_3, wr_4, wr_5, wr_6, wr_7, wr_8, wr_9, wr_10, wr_11, wr_12, wr_13, wr_14, wr_15, wr_16, wr_17, wr_18, wr_19, wr_20, wr_21, wr_22, wr_23, wr_24, wr_25, wr_26, wr_27, wr_28, wr_29, wr_30, wr_31, wr_32, wr_33, wr_34, wr_35, wr_36, wr_37, wr_38, wr_39, wr_40, wr_41, wr_42, wr_43, wr_44, wr_45, wr_46, wr_47, wr_48, wr_49, wr_50, wr_51, wr_52, wr_53, wr_54, wr_55, wr_56, wr_57, wr_58, wr_59, wr_60, wr_61, wr_62, wr_63, wr_99, wr_100, wr_192, wr_255, wr_256, wr_343, wr_999, wr_1000, wr_2401, wr_2147483647, wr_65535, wr_m1, wr_m2, wr_m3, wr_m4, wr_m9, ak_1000, ak_1001, ak_1002, ak_0, ak_1, ak_2, ak_3, ak_4, ak_5, ak_6, ak_7, ak_8, ak_9, ak_10, ak_11, ak_12, ak_13, ak_14, ak_15, ak_16, ak_17, ak_18, ak_19, ak_20, ak_21, ak_22, ak_23, ak_24, ak_25, ak_26, ak_27, ak_28, ak_29, ak_30, ak_31, ak_32, ak_33, ak_34, ak_35, ak_36, ak_37, ak_38, ak_39, ak_40, ak_41, ak_42, ak_43, ak_44, ak_45, ak_46, ak_47, h0, h1, w0, w1, w2, w3, p1, p2, p3, p4, p5, p6, q1, q2, q4, q5]
theorem gpi_rng (o : Int) : ∀ (n i : Nat) (v : F4) (X : Int), i4 0 X v → i4 0 (X + 4 * n) (gpi o n i v)
  | 0, i, v, X, h => by
    have e : X + 4 * ((0 : Nat) : Int) = X := by omega
    rw [e]
    exact h
  | n + 1, i, v, X, h => by
    have := gpi_rng o n (i + 1) _ (X + 4) (tg_rng h (g4 (uf o) (i % 4)).toNat)
    have e : X + 4 * ((n + 1 : Nat) : Int) = X + 4 + 4 * (n : Int) := by omega
    rw [e]
    exact this
theorem lp_X2_gapBy (o r : Int) (ho : 0 ≤ o ∧ o < 10000) (ho4 : i4 0 3 (uf o)) (hr : 1 ≤ r ∧ r ≤ 5) : ∀ (n i : Nat) (j : Int) (M : List AC) (v : F4), j = (i : Int) → HT M v → i4 0 (4 * j) v → j + n = 4 * r →
    Ru rx_X2_gapBy (40 * n + 100) 6 [some (vR 24), some (vI o), some (vI r), some (vI j), none] [] M (some (vI (gpe (gpi o n i v))), M.set 25 (aI (l4 (gpi o n i v))))
  | 0, i, j, M, v, hij, h, hv, hi => by
    have hw := i4_wr hv (by decide) (by omega)
    have e : j = 4 * r := by omega
    have wr4 : wr (4 * r) = 4 * r := wr_id (by omega) (by omega)
    rw [e] at *
    have hm := set_same h.2
    have e2 := e2_X2_gapBy h hw o r (4 * r)
    refine ⟨99 + 1, by omega, ?_⟩
    unfold gpi
    rw [hm, rs_X2_gapBy_6]
    simp [↓ri_X2_gapBy, rs_X2_gapBy_0, rs_X2_gapBy_1, rs_X2_gapBy_4, rs_X2_gapBy_5, rs_X2_gapBy_7, rs_X2_gapBy_8, rs_X2_gapBy_9, rs_X2_gapBy_10, rs_X2_gapBy_13, rs_X2_gapBy_14, rs_X2_gapBy_15, rs_X2_gapBy_16, rs_X2_gapBy_17, rs_X2_gapBy_18, rs_X2_gapBy_19, rs_X2_gapBy_22, rs_X2_gapBy_25, rs_X2_gapBy_28, rs_X2_gapBy_32, rs_X2_gapBy_35, rs_X2_gapBy_36, rs_X2_gapBy_37, rs_X2_gapBy_38, rs_X2_gapBy_41, rs_X2_gapBy_42, rs_X2_gapBy_43, rs_X2_gapBy_46, rs_X2_gapBy_47, rs_X2_gapBy_50, rs_X2_gapBy_51, rs_X2_gapBy_52, rs_X2_gapBy_53, rs_X2_gapBy_56, rs_X2_gapBy_57, rs_X2_gapBy_58, rs_X2_gapBy_61, rs_X2_gapBy_64, rs_X2_gapBy_65, rs_X2_gapBy_66, rs_X2_gapBy_69, rs_X2_gapBy_70, rs_X2_gapBy_71, rs_X2_gapBy_72, rs_X2_gapBy_75, rs_X2_gapBy_76, rs_X2_gapBy_77, rs_X2_gapBy_80, rs_X2_gapBy_81, rs_X2_gapBy_84, rs_X2_gapBy_85, rs_X2_gapBy_86, rs_X2_gapBy_87, rs_X2_gapBy_90, rs_X2_gapBy_91, rs_X2_gapBy_92, rs_X2_gapBy_95, rs_X2_gapBy_98, rs_X2_gapBy_100, rs_X2_gapBy_101, rs_X2_gapBy_103, rs_X2_gapBy_104, -List.getElem?_eq_getElem, am_js, am_e, am_in, am_sl, rI, rZ, rV, rJ, rA, rC, kI, kJ, kR, am_one, am_nl, am_w8, tIc, tLc, tNul, tIld, tLld, tAld, tIst, tLst, tAst, tIinc, tI2, tDv, tL2, tLrem, tLs, tLcmp, tI2l, tL2i, tI2c, tDup, tDup2, tPop, tGo, tIfeq, tIfne, tIflt, tIfge, tIfgt, tIfle, tCmeq, tCmne, tCmlt, tCmge, tCmgt, tCmle, tNu, tTs, tGf, tPf, tGs, tIal, tIas, tBal, tBas, tAln, tSv, tSc, tSb, tSl, tSk, tCv, tCs, tCt, tMx, tMn, wr_10000, wr_100000, wr_1000000, wr_10000000, wr_100000000, wr_2400, wr_9999, wr_0, wr_1, wr_2, wr_3, wr_4, wr_5, wr_6, wr_7, wr_8, wr_9, wr_10, wr_11, wr_12, wr_13, wr_14, wr_15, wr_16, wr_17, wr_18, wr_19, wr_20, wr_21, wr_22, wr_23, wr_24, wr_25, wr_26, wr_27, wr_28, wr_29, wr_30, wr_31, wr_32, wr_33, wr_34, wr_35, wr_36, wr_37, wr_38, wr_39, wr_40, wr_41, wr_42, wr_43, wr_44, wr_45, wr_46, wr_47, wr_48, wr_49, wr_50, wr_51, wr_52, wr_53, wr_54, wr_55, wr_56, wr_57, wr_58, wr_59, wr_60, wr_61, wr_62, wr_63, wr_99, wr_100, wr_192, wr_255, wr_256, wr_343, wr_999, wr_1000, wr_2401, wr_2147483647, wr_65535, wr_m1, wr_m2, wr_m3, wr_m4, wr_m9, ak_1000, ak_1001, ak_1002, ak_0, ak_1, ak_2, ak_3, ak_4, ak_5, ak_6, ak_7, ak_8, ak_9, ak_10, ak_11, ak_12, ak_13, ak_14, ak_15, ak_16, ak_17, ak_18, ak_19, ak_20, ak_21, ak_22, ak_23, ak_24, ak_25, ak_26, ak_27, ak_28, ak_29, ak_30, ak_31, ak_32, ak_33, ak_34, ak_35, ak_36, ak_37, ak_38, ak_39, ak_40, ak_41, ak_42, ak_43, ak_44, ak_45, ak_46, ak_47, wr4]
    exact rm_X2_gapBy e2 (by omega)
  | n + 1, i, j, M, v, hij, h, hv, hi => by
    obtain ⟨h0, h1⟩ := id h
    have wi : wr j = j := wr_id (by omega) (by omega)
    have wr4 : wr (4 * r) = 4 * r := wr_id (by omega) (by omega)
    have ni : ¬ 4 * r ≤ j := by omega
    have hq := i4_g ho4 (i % 4)
    have ht := sp_X2_tighten h ⟨⟨hv.1.1, by have := hv.1.2; omega⟩, ⟨hv.2.1.1, by have := hv.2.1.2; omega⟩, ⟨hv.2.2.1.1, by have := hv.2.2.1.2; omega⟩, ⟨hv.2.2.2.1, by have := hv.2.2.2.2; omega⟩⟩ (g4 (uf o) (i % 4)) ⟨hq.1, by omega⟩
    have ih := lp_X2_gapBy o r ho ho4 hr n (i + 1) (j + 1) _ _ (by omega) (h.set (tg v (g4 (uf o) (i % 4)).toNat)) (by
      have := tg_rng hv (g4 (uf o) (i % 4)).toNat
      have e : 4 * (j + 1) = 4 * j + 4 := by omega
      rw [e]; exact this) (by omega)
    rw [List.set_set] at ih
    have e : gpi o (n + 1) i v = gpi o n (i + 1) (tg v (g4 (uf o) (i % 4)).toNat) := rfl
    rw [e]
    generalize gpi o n (i + 1) (tg v (g4 (uf o) (i % 4)).toNat) = q at ih ⊢
    obtain ⟨m, hm, h'⟩ := ih
    refine ⟨m + 39 + 1, by omega, ?_⟩
    rw [rs_X2_gapBy_6]
    have hlt : i % 4 < 4 := Nat.mod_lt _ (by decide)
    have hmod : Int.tmod j 4 = ((i % 4 : Nat) : Int) := by
      rw [hij, Int.tmod_eq_emod_of_nonneg (by omega)]; omega
    have f0 := sp_X5_figureOf o 4 0 M (by omega) (by omega)
    have f1 := sp_X5_figureOf o 4 1 M (by omega) (by omega)
    have f2 := sp_X5_figureOf o 4 2 M (by omega) (by omega)
    have f3 := sp_X5_figureOf o 4 3 M (by omega) (by omega)
    simp [am_tens] at f0 f1 f2 f3
    generalize i % 4 = c at hlt hmod ht h'
    match c, hlt, hmod, ht, h' with
    | 0, _, hmod, ht, h' =>
      simp [g4, uf] at hmod ht h'
      simp [↓ri_X2_gapBy, rs_X2_gapBy_0, rs_X2_gapBy_1, rs_X2_gapBy_4, rs_X2_gapBy_5, rs_X2_gapBy_7, rs_X2_gapBy_8, rs_X2_gapBy_9, rs_X2_gapBy_10, rs_X2_gapBy_13, rs_X2_gapBy_14, rs_X2_gapBy_15, rs_X2_gapBy_16, rs_X2_gapBy_17, rs_X2_gapBy_18, rs_X2_gapBy_19, rs_X2_gapBy_22, rs_X2_gapBy_25, rs_X2_gapBy_28, rs_X2_gapBy_31, rs_X2_gapBy_32, rs_X2_gapBy_35, rs_X2_gapBy_36, rs_X2_gapBy_37, rs_X2_gapBy_38, rs_X2_gapBy_41, rs_X2_gapBy_42, rs_X2_gapBy_43, rs_X2_gapBy_46, rs_X2_gapBy_47, rs_X2_gapBy_50, rs_X2_gapBy_51, rs_X2_gapBy_52, rs_X2_gapBy_53, rs_X2_gapBy_56, rs_X2_gapBy_57, rs_X2_gapBy_58, rs_X2_gapBy_61, rs_X2_gapBy_64, rs_X2_gapBy_65, rs_X2_gapBy_66, rs_X2_gapBy_69, rs_X2_gapBy_70, rs_X2_gapBy_71, rs_X2_gapBy_72, rs_X2_gapBy_75, rs_X2_gapBy_76, rs_X2_gapBy_77, rs_X2_gapBy_80, rs_X2_gapBy_81, rs_X2_gapBy_84, rs_X2_gapBy_85, rs_X2_gapBy_86, rs_X2_gapBy_87, rs_X2_gapBy_90, rs_X2_gapBy_91, rs_X2_gapBy_92, rs_X2_gapBy_95, rs_X2_gapBy_98, rs_X2_gapBy_100, rs_X2_gapBy_101, rs_X2_gapBy_103, rs_X2_gapBy_104, -List.getElem?_eq_getElem, am_js, am_e, am_in, am_sl, rI, rZ, rV, rJ, rA, rC, kI, kJ, kR, am_one, am_nl, am_w8, tIc, tLc, tNul, tIld, tLld, tAld, tIst, tLst, tAst, tIinc, tI2, tDv, tL2, tLrem, tLs, tLcmp, tI2l, tL2i, tI2c, tDup, tDup2, tPop, tGo, tIfeq, tIfne, tIflt, tIfge, tIfgt, tIfle, tCmeq, tCmne, tCmlt, tCmge, tCmgt, tCmle, tNu, tTs, tGf, tPf, tGs, tIal, tIas, tBal, tBas, tAln, tSv, tSc, tSb, tSl, tSk, tCv, tCs, tCt, tMx, tMn, wr_10000, wr_100000, wr_1000000, wr_10000000, wr_100000000, wr_2400, wr_9999, wr_0, wr_1, wr_2, wr_3, wr_4, wr_5, wr_6, wr_7, wr_8, wr_9, wr_10, wr_11, wr_12, wr_13, wr_14, wr_15, wr_16, wr_17, wr_18, wr_19, wr_20, wr_21, wr_22, wr_23, wr_24, wr_25, wr_26, wr_27, wr_28, wr_29, wr_30, wr_31, wr_32, wr_33, wr_34, wr_35, wr_36, wr_37, wr_38, wr_39, wr_40, wr_41, wr_42, wr_43, wr_44, wr_45, wr_46, wr_47, wr_48, wr_49, wr_50, wr_51, wr_52, wr_53, wr_54, wr_55, wr_56, wr_57, wr_58, wr_59, wr_60, wr_61, wr_62, wr_63, wr_99, wr_100, wr_192, wr_255, wr_256, wr_343, wr_999, wr_1000, wr_2401, wr_2147483647, wr_65535, wr_m1, wr_m2, wr_m3, wr_m4, wr_m9, ak_1000, ak_1001, ak_1002, ak_0, ak_1, ak_2, ak_3, ak_4, ak_5, ak_6, ak_7, ak_8, ak_9, ak_10, ak_11, ak_12, ak_13, ak_14, ak_15, ak_16, ak_17, ak_18, ak_19, ak_20, ak_21, ak_22, ak_23, ak_24, ak_25, ak_26, ak_27, ak_28, ak_29, ak_30, ak_31, ak_32, ak_33, ak_34, ak_35, ak_36, ak_37, ak_38, ak_39, ak_40, ak_41, ak_42, ak_43, ak_44, ak_45, ak_46, ak_47, h0, h1, wi, wr4, ni, hmod, f0, ht]
      exact rm_X2_gapBy h' (by omega)
    | 1, _, hmod, ht, h' =>
      simp [g4, uf] at hmod ht h'
      simp [↓ri_X2_gapBy, rs_X2_gapBy_0, rs_X2_gapBy_1, rs_X2_gapBy_4, rs_X2_gapBy_5, rs_X2_gapBy_7, rs_X2_gapBy_8, rs_X2_gapBy_9, rs_X2_gapBy_10, rs_X2_gapBy_13, rs_X2_gapBy_14, rs_X2_gapBy_15, rs_X2_gapBy_16, rs_X2_gapBy_17, rs_X2_gapBy_18, rs_X2_gapBy_19, rs_X2_gapBy_22, rs_X2_gapBy_25, rs_X2_gapBy_28, rs_X2_gapBy_31, rs_X2_gapBy_32, rs_X2_gapBy_35, rs_X2_gapBy_36, rs_X2_gapBy_37, rs_X2_gapBy_38, rs_X2_gapBy_41, rs_X2_gapBy_42, rs_X2_gapBy_43, rs_X2_gapBy_46, rs_X2_gapBy_47, rs_X2_gapBy_50, rs_X2_gapBy_51, rs_X2_gapBy_52, rs_X2_gapBy_53, rs_X2_gapBy_56, rs_X2_gapBy_57, rs_X2_gapBy_58, rs_X2_gapBy_61, rs_X2_gapBy_64, rs_X2_gapBy_65, rs_X2_gapBy_66, rs_X2_gapBy_69, rs_X2_gapBy_70, rs_X2_gapBy_71, rs_X2_gapBy_72, rs_X2_gapBy_75, rs_X2_gapBy_76, rs_X2_gapBy_77, rs_X2_gapBy_80, rs_X2_gapBy_81, rs_X2_gapBy_84, rs_X2_gapBy_85, rs_X2_gapBy_86, rs_X2_gapBy_87, rs_X2_gapBy_90, rs_X2_gapBy_91, rs_X2_gapBy_92, rs_X2_gapBy_95, rs_X2_gapBy_98, rs_X2_gapBy_100, rs_X2_gapBy_101, rs_X2_gapBy_103, rs_X2_gapBy_104, -List.getElem?_eq_getElem, am_js, am_e, am_in, am_sl, rI, rZ, rV, rJ, rA, rC, kI, kJ, kR, am_one, am_nl, am_w8, tIc, tLc, tNul, tIld, tLld, tAld, tIst, tLst, tAst, tIinc, tI2, tDv, tL2, tLrem, tLs, tLcmp, tI2l, tL2i, tI2c, tDup, tDup2, tPop, tGo, tIfeq, tIfne, tIflt, tIfge, tIfgt, tIfle, tCmeq, tCmne, tCmlt, tCmge, tCmgt, tCmle, tNu, tTs, tGf, tPf, tGs, tIal, tIas, tBal, tBas, tAln, tSv, tSc, tSb, tSl, tSk, tCv, tCs, tCt, tMx, tMn, wr_10000, wr_100000, wr_1000000, wr_10000000, wr_100000000, wr_2400, wr_9999, wr_0, wr_1, wr_2, wr_3, wr_4, wr_5, wr_6, wr_7, wr_8, wr_9, wr_10, wr_11, wr_12, wr_13, wr_14, wr_15, wr_16, wr_17, wr_18, wr_19, wr_20, wr_21, wr_22, wr_23, wr_24, wr_25, wr_26, wr_27, wr_28, wr_29, wr_30, wr_31, wr_32, wr_33, wr_34, wr_35, wr_36, wr_37, wr_38, wr_39, wr_40, wr_41, wr_42, wr_43, wr_44, wr_45, wr_46, wr_47, wr_48, wr_49, wr_50, wr_51, wr_52, wr_53, wr_54, wr_55, wr_56, wr_57, wr_58, wr_59, wr_60, wr_61, wr_62, wr_63, wr_99, wr_100, wr_192, wr_255, wr_256, wr_343, wr_999, wr_1000, wr_2401, wr_2147483647, wr_65535, wr_m1, wr_m2, wr_m3, wr_m4, wr_m9, ak_1000, ak_1001, ak_1002, ak_0, ak_1, ak_2, ak_3, ak_4, ak_5, ak_6, ak_7, ak_8, ak_9, ak_10, ak_11, ak_12, ak_13, ak_14, ak_15, ak_16, ak_17, ak_18, ak_19, ak_20, ak_21, ak_22, ak_23, ak_24, ak_25, ak_26, ak_27, ak_28, ak_29, ak_30, ak_31, ak_32, ak_33, ak_34, ak_35, ak_36, ak_37, ak_38, ak_39, ak_40, ak_41, ak_42, ak_43, ak_44, ak_45, ak_46, ak_47, h0, h1, wi, wr4, ni, hmod, f1, ht]
      exact rm_X2_gapBy h' (by omega)
    | 2, _, hmod, ht, h' =>
      simp [g4, uf] at hmod ht h'
      simp [↓ri_X2_gapBy, rs_X2_gapBy_0, rs_X2_gapBy_1, rs_X2_gapBy_4, rs_X2_gapBy_5, rs_X2_gapBy_7, rs_X2_gapBy_8, rs_X2_gapBy_9, rs_X2_gapBy_10, rs_X2_gapBy_13, rs_X2_gapBy_14, rs_X2_gapBy_15, rs_X2_gapBy_16, rs_X2_gapBy_17, rs_X2_gapBy_18, rs_X2_gapBy_19, rs_X2_gapBy_22, rs_X2_gapBy_25, rs_X2_gapBy_28, rs_X2_gapBy_31, rs_X2_gapBy_32, rs_X2_gapBy_35, rs_X2_gapBy_36, rs_X2_gapBy_37, rs_X2_gapBy_38, rs_X2_gapBy_41, rs_X2_gapBy_42, rs_X2_gapBy_43, rs_X2_gapBy_46, rs_X2_gapBy_47, rs_X2_gapBy_50, rs_X2_gapBy_51, rs_X2_gapBy_52, rs_X2_gapBy_53, rs_X2_gapBy_56, rs_X2_gapBy_57, rs_X2_gapBy_58, rs_X2_gapBy_61, rs_X2_gapBy_64, rs_X2_gapBy_65, rs_X2_gapBy_66, rs_X2_gapBy_69, rs_X2_gapBy_70, rs_X2_gapBy_71, rs_X2_gapBy_72, rs_X2_gapBy_75, rs_X2_gapBy_76, rs_X2_gapBy_77, rs_X2_gapBy_80, rs_X2_gapBy_81, rs_X2_gapBy_84, rs_X2_gapBy_85, rs_X2_gapBy_86, rs_X2_gapBy_87, rs_X2_gapBy_90, rs_X2_gapBy_91, rs_X2_gapBy_92, rs_X2_gapBy_95, rs_X2_gapBy_98, rs_X2_gapBy_100, rs_X2_gapBy_101, rs_X2_gapBy_103, rs_X2_gapBy_104, -List.getElem?_eq_getElem, am_js, am_e, am_in, am_sl, rI, rZ, rV, rJ, rA, rC, kI, kJ, kR, am_one, am_nl, am_w8, tIc, tLc, tNul, tIld, tLld, tAld, tIst, tLst, tAst, tIinc, tI2, tDv, tL2, tLrem, tLs, tLcmp, tI2l, tL2i, tI2c, tDup, tDup2, tPop, tGo, tIfeq, tIfne, tIflt, tIfge, tIfgt, tIfle, tCmeq, tCmne, tCmlt, tCmge, tCmgt, tCmle, tNu, tTs, tGf, tPf, tGs, tIal, tIas, tBal, tBas, tAln, tSv, tSc, tSb, tSl, tSk, tCv, tCs, tCt, tMx, tMn, wr_10000, wr_100000, wr_1000000, wr_10000000, wr_100000000, wr_2400, wr_9999, wr_0, wr_1, wr_2, wr_3, wr_4, wr_5, wr_6, wr_7, wr_8, wr_9, wr_10, wr_11, wr_12, wr_13, wr_14, wr_15, wr_16, wr_17, wr_18, wr_19, wr_20, wr_21, wr_22, wr_23, wr_24, wr_25, wr_26, wr_27, wr_28, wr_29, wr_30, wr_31, wr_32, wr_33, wr_34, wr_35, wr_36, wr_37, wr_38, wr_39, wr_40, wr_41, wr_42, wr_43, wr_44, wr_45, wr_46, wr_47, wr_48, wr_49, wr_50, wr_51, wr_52, wr_53, wr_54, wr_55, wr_56, wr_57, wr_58, wr_59, wr_60, wr_61, wr_62, wr_63, wr_99, wr_100, wr_192, wr_255, wr_256, wr_343, wr_999, wr_1000, wr_2401, wr_2147483647, wr_65535, wr_m1, wr_m2, wr_m3, wr_m4, wr_m9, ak_1000, ak_1001, ak_1002, ak_0, ak_1, ak_2, ak_3, ak_4, ak_5, ak_6, ak_7, ak_8, ak_9, ak_10, ak_11, ak_12, ak_13, ak_14, ak_15, ak_16, ak_17, ak_18, ak_19, ak_20, ak_21, ak_22, ak_23, ak_24, ak_25, ak_26, ak_27, ak_28, ak_29, ak_30, ak_31, ak_32, ak_33, ak_34, ak_35, ak_36, ak_37, ak_38, ak_39, ak_40, ak_41, ak_42, ak_43, ak_44, ak_45, ak_46, ak_47, h0, h1, wi, wr4, ni, hmod, f2, ht]
      exact rm_X2_gapBy h' (by omega)
    | 3, _, hmod, ht, h' =>
      simp [g4, uf] at hmod ht h'
      simp [↓ri_X2_gapBy, rs_X2_gapBy_0, rs_X2_gapBy_1, rs_X2_gapBy_4, rs_X2_gapBy_5, rs_X2_gapBy_7, rs_X2_gapBy_8, rs_X2_gapBy_9, rs_X2_gapBy_10, rs_X2_gapBy_13, rs_X2_gapBy_14, rs_X2_gapBy_15, rs_X2_gapBy_16, rs_X2_gapBy_17, rs_X2_gapBy_18, rs_X2_gapBy_19, rs_X2_gapBy_22, rs_X2_gapBy_25, rs_X2_gapBy_28, rs_X2_gapBy_31, rs_X2_gapBy_32, rs_X2_gapBy_35, rs_X2_gapBy_36, rs_X2_gapBy_37, rs_X2_gapBy_38, rs_X2_gapBy_41, rs_X2_gapBy_42, rs_X2_gapBy_43, rs_X2_gapBy_46, rs_X2_gapBy_47, rs_X2_gapBy_50, rs_X2_gapBy_51, rs_X2_gapBy_52, rs_X2_gapBy_53, rs_X2_gapBy_56, rs_X2_gapBy_57, rs_X2_gapBy_58, rs_X2_gapBy_61, rs_X2_gapBy_64, rs_X2_gapBy_65, rs_X2_gapBy_66, rs_X2_gapBy_69, rs_X2_gapBy_70, rs_X2_gapBy_71, rs_X2_gapBy_72, rs_X2_gapBy_75, rs_X2_gapBy_76, rs_X2_gapBy_77, rs_X2_gapBy_80, rs_X2_gapBy_81, rs_X2_gapBy_84, rs_X2_gapBy_85, rs_X2_gapBy_86, rs_X2_gapBy_87, rs_X2_gapBy_90, rs_X2_gapBy_91, rs_X2_gapBy_92, rs_X2_gapBy_95, rs_X2_gapBy_98, rs_X2_gapBy_100, rs_X2_gapBy_101, rs_X2_gapBy_103, rs_X2_gapBy_104, -List.getElem?_eq_getElem, am_js, am_e, am_in, am_sl, rI, rZ, rV, rJ, rA, rC, kI, kJ, kR, am_one, am_nl, am_w8, tIc, tLc, tNul, tIld, tLld, tAld, tIst, tLst, tAst, tIinc, tI2, tDv, tL2, tLrem, tLs, tLcmp, tI2l, tL2i, tI2c, tDup, tDup2, tPop, tGo, tIfeq, tIfne, tIflt, tIfge, tIfgt, tIfle, tCmeq, tCmne, tCmlt, tCmge, tCmgt, tCmle, tNu, tTs, tGf, tPf, tGs, tIal, tIas, tBal, tBas, tAln, tSv, tSc, tSb, tSl, tSk, tCv, tCs, tCt, tMx, tMn, wr_10000, wr_100000, wr_1000000, wr_10000000, wr_100000000, wr_2400, wr_9999, wr_0, wr_1, wr_2, wr_3, wr_4, wr_5, wr_6, wr_7, wr_8, wr_9, wr_10, wr_11, wr_12, wr_13, wr_14, wr_15, wr_16, wr_17, wr_18, wr_19, wr_20, wr_21, wr_22, wr_23, wr_24, wr_25, wr_26, wr_27, wr_28, wr_29, wr_30, wr_31, wr_32, wr_33, wr_34, wr_35, wr_36, wr_37, wr_38, wr_39, wr_40, wr_41, wr_42, wr_43, wr_44, wr_45, wr_46, wr_47, wr_48, wr_49, wr_50, wr_51, wr_52, wr_53, wr_54, wr_55, wr_56, wr_57, wr_58, wr_59, wr_60, wr_61, wr_62, wr_63, wr_99, wr_100, wr_192, wr_255, wr_256, wr_343, wr_999, wr_1000, wr_2401, wr_2147483647, wr_65535, wr_m1, wr_m2, wr_m3, wr_m4, wr_m9, ak_1000, ak_1001, ak_1002, ak_0, ak_1, ak_2, ak_3, ak_4, ak_5, ak_6, ak_7, ak_8, ak_9, ak_10, ak_11, ak_12, ak_13, ak_14, ak_15, ak_16, ak_17, ak_18, ak_19, ak_20, ak_21, ak_22, ak_23, ak_24, ak_25, ak_26, ak_27, ak_28, ak_29, ak_30, ak_31, ak_32, ak_33, ak_34, ak_35, ak_36, ak_37, ak_38, ak_39, ak_40, ak_41, ak_42, ak_43, ak_44, ak_45, ak_46, ak_47, h0, h1, wi, wr4, ni, hmod, f3, ht]
      exact rm_X2_gapBy h' (by omega)
theorem sp_X2_gapBy {M : List AC} {v : F4} (h : HT M v) (o r : Int) (ho : 0 ≤ o ∧ o < 10000) (ho4 : i4 0 3 (uf o)) (hr : 1 ≤ r ∧ r ≤ 5) : fn_X2_gapBy [vR 24, vI o, vI r] M = some (some (vI (gpe (gpi o (4 * r).toNat 0 (0, 0, 0, 0)))), M.set 25 (aI (l4 (gpi o (4 * r).toNat 0 (0, 0, 0, 0))))) := by
  obtain ⟨n, hn, h'⟩ := lp_X2_gapBy o r ho ho4 hr (4 * r).toNat 0 0 _ (0, 0, 0, 0) rfl (h.set _) ⟨⟨by decide, by decide⟩, ⟨by decide, by decide⟩, ⟨by decide, by decide⟩, ⟨by decide, by decide⟩⟩ (by omega)
  rw [List.set_set] at h'
  (refine am_fnR (tb := tb_X2_gapBy) (N := 2000) (Nat.le_of_ble_eq_true rfl) (Nat.le_of_ble_eq_true rfl) ?_; show Ru rx_X2_gapBy 2000 0 _ _ _ _)
  refine ⟨n + 10, by omega, ?_⟩
  generalize gpi o (4 * r).toNat 0 (0, 0, 0, 0) = q at h' ⊢
  simp [↓ri_X2_gapBy, rs_X2_gapBy_0, rs_X2_gapBy_1, rs_X2_gapBy_4, rs_X2_gapBy_5, rs_X2_gapBy_7, rs_X2_gapBy_8, rs_X2_gapBy_9, rs_X2_gapBy_10, rs_X2_gapBy_13, rs_X2_gapBy_14, rs_X2_gapBy_15, rs_X2_gapBy_16, rs_X2_gapBy_17, rs_X2_gapBy_18, rs_X2_gapBy_19, rs_X2_gapBy_22, rs_X2_gapBy_25, rs_X2_gapBy_28, rs_X2_gapBy_31, rs_X2_gapBy_32, rs_X2_gapBy_35, rs_X2_gapBy_36, rs_X2_gapBy_37, rs_X2_gapBy_38, rs_X2_gapBy_41, rs_X2_gapBy_42, rs_X2_gapBy_43, rs_X2_gapBy_46, rs_X2_gapBy_47, rs_X2_gapBy_50, rs_X2_gapBy_51, rs_X2_gapBy_52, rs_X2_gapBy_53, rs_X2_gapBy_56, rs_X2_gapBy_57, rs_X2_gapBy_58, rs_X2_gapBy_61, rs_X2_gapBy_64, rs_X2_gapBy_65, rs_X2_gapBy_66, rs_X2_gapBy_69, rs_X2_gapBy_70, rs_X2_gapBy_71, rs_X2_gapBy_72, rs_X2_gapBy_75, rs_X2_gapBy_76, rs_X2_gapBy_77, rs_X2_gapBy_80, rs_X2_gapBy_81, rs_X2_gapBy_84, rs_X2_gapBy_85, rs_X2_gapBy_86, rs_X2_gapBy_87, rs_X2_gapBy_90, rs_X2_gapBy_91, rs_X2_gapBy_92, rs_X2_gapBy_95, rs_X2_gapBy_98, rs_X2_gapBy_100, rs_X2_gapBy_101, rs_X2_gapBy_103, rs_X2_gapBy_104, -List.getElem?_eq_getElem, am_js, am_e, am_in, am_sl, rI, rZ, rV, rJ, rA, rC, kI, kJ, kR, am_one, am_nl, am_w8, tIc, tLc, tNul, tIld, tLld, tAld, tIst, tLst, tAst, tIinc, tI2, tDv, tL2, tLrem, tLs, tLcmp, tI2l, tL2i, tI2c, tDup, tDup2, tPop, tGo, tIfeq, tIfne, tIflt, tIfge, tIfgt, tIfle, tCmeq, tCmne, tCmlt, tCmge, tCmgt, tCmle, tNu, tTs, tGf, tPf, tGs, tIal, tIas, tBal, tBas, tAln, tSv, tSc, tSb, tSl, tSk, tCv, tCs, tCt, tMx, tMn, wr_10000, wr_100000, wr_1000000, wr_10000000, wr_100000000, wr_2400, wr_9999, wr_0, wr_1, wr_2, wr_3, wr_4, wr_5, wr_6, wr_7, wr_8, wr_9, wr_10, wr_11, wr_12, wr_13, wr_14, wr_15, wr_16, wr_17, wr_18, wr_19, wr_20, wr_21, wr_22, wr_23, wr_24, wr_25, wr_26, wr_27, wr_28, wr_29, wr_30, wr_31, wr_32, wr_33, wr_34, wr_35, wr_36, wr_37, wr_38, wr_39, wr_40, wr_41, wr_42, wr_43, wr_44, wr_45, wr_46, wr_47, wr_48, wr_49, wr_50, wr_51, wr_52, wr_53, wr_54, wr_55, wr_56, wr_57, wr_58, wr_59, wr_60, wr_61, wr_62, wr_63, wr_99, wr_100, wr_192, wr_255, wr_256, wr_343, wr_999, wr_1000, wr_2401, wr_2147483647, wr_65535, wr_m1, wr_m2, wr_m3, wr_m4, wr_m9, ak_1000, ak_1001, ak_1002, ak_0, ak_1, ak_2, ak_3, ak_4, ak_5, ak_6, ak_7, ak_8, ak_9, ak_10, ak_11, ak_12, ak_13, ak_14, ak_15, ak_16, ak_17, ak_18, ak_19, ak_20, ak_21, ak_22, ak_23, ak_24, ak_25, ak_26, ak_27, ak_28, ak_29, ak_30, ak_31, ak_32, ak_33, ak_34, ak_35, ak_36, ak_37, ak_38, ak_39, ak_40, ak_41, ak_42, ak_43, ak_44, ak_45, ak_46, ak_47, h.1, sp_X2_loosen h]
  exact rm_X2_gapBy h' (by omega)
end
