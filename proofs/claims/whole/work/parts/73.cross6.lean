noncomputable section
abbrev mi_X6_apart : Mi := (yX6_apart, cX6_apart, 6, some .int, 2)
theorem mf_X6_apart : am_mf mi_X6_apart 2 := ⟨w_co_X6_apart, w_in_X6, ⟨by decide +kernel, by decide +kernel⟩, by decide +kernel, by decide⟩
def tb_X6_apart : List (Nat × Tr) := [(0, tAld 0 1), (1, tCv 6 0 fn_X6_loosen), (4, tIc 0 1), (5, tIst 3 1), (6, tIld 3 1), (7, tIc 4 1), (8, tIld 1 1), (9, tI2 (fun a b => a * b)), (10, tCmge 30), (13, tAld 0 1), (14, tIld 2 1), (15, tIld 3 1), (16, tIc 4 1), (17, tDv Int.tmod), (18, tCs 2 fn_X6_ordered), (21, tCv 6 1 fn_X6_tighten), (24, tIinc 3 1), (27, tGo 6), (30, tAld 0 1), (31, tGf 6 22), (34, tIc 0 1), (35, tIal), (36, tIst 3 1), (37, tAld 0 1), (38, tGf 6 22), (41, tIc 0 1), (42, tIal), (43, tIst 4 2), (45, tIc 1 1), (46, tIst 5 2), (48, tIld 5 2), (50, tIc 4 1), (51, tCmge 109), (54, tAld 0 1), (55, tGf 6 22), (58, tIld 5 2), (60, tIal), (61, tIld 3 1), (62, tCmle 75), (65, tAld 0 1), (66, tGf 6 22), (69, tIld 5 2), (71, tIal), (72, tGo 76), (75, tIld 3 1), (76, tIst 3 1), (77, tAld 0 1), (78, tGf 6 22), (81, tIld 5 2), (83, tIal), (84, tIld 4 2), (86, tCmge 99), (89, tAld 0 1), (90, tGf 6 22), (93, tIld 5 2), (95, tIal), (96, tGo 101), (99, tIld 4 2), (101, tIst 4 2), (103, tIinc 5 1), (106, tGo 48), (109, tIld 3 1), (110, tIld 4 2), (112, tI2 (fun a b => a - b))]
theorem ok_X6_apart : Tok mi_X6_apart tb_X6_apart :=
  Tc (sd_aload_n dX6_apart_0) <|
  Tc (sd_cv (T := TX6) fok_X6_loosen mf_X6_loosen rfl w_ml_X6_225 w_im_X6_loosen w_se_X6_loosen (by decide) dX6_apart_1) <|
  Tc (sd_iconst rfl dX6_apart_4) <|
  Tc (sd_istore_n dX6_apart_5) <|
  Tc (sd_iload_n dX6_apart_6) <|
  Tc (sd_iconst rfl dX6_apart_7) <|
  Tc (sd_iload_n dX6_apart_8) <|
  Tc (sd_imul dX6_apart_9) <|
  Tc (sd_cm_ge (by decide) dX6_apart_10) <|
  Tc (sd_aload_n dX6_apart_13) <|
  Tc (sd_iload_n dX6_apart_14) <|
  Tc (sd_iload_n dX6_apart_15) <|
  Tc (sd_iconst rfl dX6_apart_16) <|
  Tc (sd_irem dX6_apart_17) <|
  Tc (sd_cs fok_X6_ordered mf_X6_ordered w_ml_X6_197 w_st_X6_ordered (by decide) dX6_apart_18) <|
  Tc (sd_cv (T := TX6) fok_X6_tighten mf_X6_tighten rfl w_ml_X6_228 w_im_X6_tighten w_se_X6_tighten (by decide) dX6_apart_21) <|
  Tc (sd_iinc dX6_apart_24) <|
  Tc (sd_goto (by decide) dX6_apart_27) <|
  Tc (sd_aload_n dX6_apart_30) <|
  Tc (sd_getf (T := TX6) rfl giX6 (by decide) w_fl_X6_49 dX6_apart_31) <|
  Tc (sd_iconst rfl dX6_apart_34) <|
  Tc (sd_ial dX6_apart_35) <|
  Tc (sd_istore_n dX6_apart_36) <|
  Tc (sd_aload_n dX6_apart_37) <|
  Tc (sd_getf (T := TX6) rfl giX6 (by decide) w_fl_X6_49 dX6_apart_38) <|
  Tc (sd_iconst rfl dX6_apart_41) <|
  Tc (sd_ial dX6_apart_42) <|
  Tc (sd_istore dX6_apart_43) <|
  Tc (sd_iconst rfl dX6_apart_45) <|
  Tc (sd_istore dX6_apart_46) <|
  Tc (sd_iload dX6_apart_48) <|
  Tc (sd_iconst rfl dX6_apart_50) <|
  Tc (sd_cm_ge (by decide) dX6_apart_51) <|
  Tc (sd_aload_n dX6_apart_54) <|
  Tc (sd_getf (T := TX6) rfl giX6 (by decide) w_fl_X6_49 dX6_apart_55) <|
  Tc (sd_iload dX6_apart_58) <|
  Tc (sd_ial dX6_apart_60) <|
  Tc (sd_iload_n dX6_apart_61) <|
  Tc (sd_cm_le (by decide) dX6_apart_62) <|
  Tc (sd_aload_n dX6_apart_65) <|
  Tc (sd_getf (T := TX6) rfl giX6 (by decide) w_fl_X6_49 dX6_apart_66) <|
  Tc (sd_iload dX6_apart_69) <|
  Tc (sd_ial dX6_apart_71) <|
  Tc (sd_goto (by decide) dX6_apart_72) <|
  Tc (sd_iload_n dX6_apart_75) <|
  Tc (sd_istore_n dX6_apart_76) <|
  Tc (sd_aload_n dX6_apart_77) <|
  Tc (sd_getf (T := TX6) rfl giX6 (by decide) w_fl_X6_49 dX6_apart_78) <|
  Tc (sd_iload dX6_apart_81) <|
  Tc (sd_ial dX6_apart_83) <|
  Tc (sd_iload dX6_apart_84) <|
  Tc (sd_cm_ge (by decide) dX6_apart_86) <|
  Tc (sd_aload_n dX6_apart_89) <|
  Tc (sd_getf (T := TX6) rfl giX6 (by decide) w_fl_X6_49 dX6_apart_90) <|
  Tc (sd_iload dX6_apart_93) <|
  Tc (sd_ial dX6_apart_95) <|
  Tc (sd_goto (by decide) dX6_apart_96) <|
  Tc (sd_iload dX6_apart_99) <|
  Tc (sd_istore dX6_apart_101) <|
  Tc (sd_iinc dX6_apart_103) <|
  Tc (sd_goto (by decide) dX6_apart_106) <|
  Tc (sd_iload_n dX6_apart_109) <|
  Tc (sd_iload dX6_apart_110) <|
  Tc (sd_isub dX6_apart_112) <|
  Tn
theorem rk_X6_apart : Rok mi_X6_apart rI [113] := rk_i dX6_apart_113 <| rk_n
def rx_X6_apart : Nat → Nat → AL → List AV → List AC → Option (Option AV × List AC) := am_r tb_X6_apart rI [113]
theorem rs_X6_apart_0 (n : Nat) (L : AL) (st : List AV) (M : List AC) : rx_X6_apart (n + 1) 0 L st M = am_j (rx_X6_apart n) ((tAld 0 1) 0 L st M) := rfl
theorem rs_X6_apart_1 (n : Nat) (L : AL) (st : List AV) (M : List AC) : rx_X6_apart (n + 1) 1 L st M = am_j (rx_X6_apart n) ((tCv 6 0 fn_X6_loosen) 1 L st M) := rfl
theorem rs_X6_apart_4 (n : Nat) (L : AL) (st : List AV) (M : List AC) : rx_X6_apart (n + 1) 4 L st M = am_j (rx_X6_apart n) ((tIc 0 1) 4 L st M) := rfl
theorem rs_X6_apart_5 (n : Nat) (L : AL) (st : List AV) (M : List AC) : rx_X6_apart (n + 1) 5 L st M = am_j (rx_X6_apart n) ((tIst 3 1) 5 L st M) := rfl
theorem rs_X6_apart_6 (n : Nat) (L : AL) (st : List AV) (M : List AC) : rx_X6_apart (n + 1) 6 L st M = am_j (rx_X6_apart n) ((tIld 3 1) 6 L st M) := rfl
theorem rs_X6_apart_7 (n : Nat) (L : AL) (st : List AV) (M : List AC) : rx_X6_apart (n + 1) 7 L st M = am_j (rx_X6_apart n) ((tIc 4 1) 7 L st M) := rfl
theorem rs_X6_apart_8 (n : Nat) (L : AL) (st : List AV) (M : List AC) : rx_X6_apart (n + 1) 8 L st M = am_j (rx_X6_apart n) ((tIld 1 1) 8 L st M) := rfl
theorem rs_X6_apart_9 (n : Nat) (L : AL) (st : List AV) (M : List AC) : rx_X6_apart (n + 1) 9 L st M = am_j (rx_X6_apart n) ((tI2 (fun a b => a * b)) 9 L st M) := rfl
theorem rs_X6_apart_10 (n : Nat) (L : AL) (st : List AV) (M : List AC) : rx_X6_apart (n + 1) 10 L st M = am_j (rx_X6_apart n) ((tCmge 30) 10 L st M) := rfl
theorem rs_X6_apart_13 (n : Nat) (L : AL) (st : List AV) (M : List AC) : rx_X6_apart (n + 1) 13 L st M = am_j (rx_X6_apart n) ((tAld 0 1) 13 L st M) := rfl
theorem rs_X6_apart_14 (n : Nat) (L : AL) (st : List AV) (M : List AC) : rx_X6_apart (n + 1) 14 L st M = am_j (rx_X6_apart n) ((tIld 2 1) 14 L st M) := rfl
theorem rs_X6_apart_15 (n : Nat) (L : AL) (st : List AV) (M : List AC) : rx_X6_apart (n + 1) 15 L st M = am_j (rx_X6_apart n) ((tIld 3 1) 15 L st M) := rfl
theorem rs_X6_apart_16 (n : Nat) (L : AL) (st : List AV) (M : List AC) : rx_X6_apart (n + 1) 16 L st M = am_j (rx_X6_apart n) ((tIc 4 1) 16 L st M) := rfl
theorem rs_X6_apart_17 (n : Nat) (L : AL) (st : List AV) (M : List AC) : rx_X6_apart (n + 1) 17 L st M = am_j (rx_X6_apart n) ((tDv Int.tmod) 17 L st M) := rfl
theorem rs_X6_apart_18 (n : Nat) (L : AL) (st : List AV) (M : List AC) : rx_X6_apart (n + 1) 18 L st M = am_j (rx_X6_apart n) ((tCs 2 fn_X6_ordered) 18 L st M) := rfl
theorem rs_X6_apart_21 (n : Nat) (L : AL) (st : List AV) (M : List AC) : rx_X6_apart (n + 1) 21 L st M = am_j (rx_X6_apart n) ((tCv 6 1 fn_X6_tighten) 21 L st M) := rfl
theorem rs_X6_apart_24 (n : Nat) (L : AL) (st : List AV) (M : List AC) : rx_X6_apart (n + 1) 24 L st M = am_j (rx_X6_apart n) ((tIinc 3 1) 24 L st M) := rfl
theorem rs_X6_apart_27 (n : Nat) (L : AL) (st : List AV) (M : List AC) : rx_X6_apart (n + 1) 27 L st M = am_j (rx_X6_apart n) ((tGo 6) 27 L st M) := rfl
theorem rs_X6_apart_30 (n : Nat) (L : AL) (st : List AV) (M : List AC) : rx_X6_apart (n + 1) 30 L st M = am_j (rx_X6_apart n) ((tAld 0 1) 30 L st M) := rfl
theorem rs_X6_apart_31 (n : Nat) (L : AL) (st : List AV) (M : List AC) : rx_X6_apart (n + 1) 31 L st M = am_j (rx_X6_apart n) ((tGf 6 22) 31 L st M) := rfl
theorem rs_X6_apart_34 (n : Nat) (L : AL) (st : List AV) (M : List AC) : rx_X6_apart (n + 1) 34 L st M = am_j (rx_X6_apart n) ((tIc 0 1) 34 L st M) := rfl
theorem rs_X6_apart_35 (n : Nat) (L : AL) (st : List AV) (M : List AC) : rx_X6_apart (n + 1) 35 L st M = am_j (rx_X6_apart n) (tIal 35 L st M) := rfl
theorem rs_X6_apart_36 (n : Nat) (L : AL) (st : List AV) (M : List AC) : rx_X6_apart (n + 1) 36 L st M = am_j (rx_X6_apart n) ((tIst 3 1) 36 L st M) := rfl
theorem rs_X6_apart_37 (n : Nat) (L : AL) (st : List AV) (M : List AC) : rx_X6_apart (n + 1) 37 L st M = am_j (rx_X6_apart n) ((tAld 0 1) 37 L st M) := rfl
theorem rs_X6_apart_38 (n : Nat) (L : AL) (st : List AV) (M : List AC) : rx_X6_apart (n + 1) 38 L st M = am_j (rx_X6_apart n) ((tGf 6 22) 38 L st M) := rfl
theorem rs_X6_apart_41 (n : Nat) (L : AL) (st : List AV) (M : List AC) : rx_X6_apart (n + 1) 41 L st M = am_j (rx_X6_apart n) ((tIc 0 1) 41 L st M) := rfl
theorem rs_X6_apart_42 (n : Nat) (L : AL) (st : List AV) (M : List AC) : rx_X6_apart (n + 1) 42 L st M = am_j (rx_X6_apart n) (tIal 42 L st M) := rfl
theorem rs_X6_apart_43 (n : Nat) (L : AL) (st : List AV) (M : List AC) : rx_X6_apart (n + 1) 43 L st M = am_j (rx_X6_apart n) ((tIst 4 2) 43 L st M) := rfl
theorem rs_X6_apart_45 (n : Nat) (L : AL) (st : List AV) (M : List AC) : rx_X6_apart (n + 1) 45 L st M = am_j (rx_X6_apart n) ((tIc 1 1) 45 L st M) := rfl
theorem rs_X6_apart_46 (n : Nat) (L : AL) (st : List AV) (M : List AC) : rx_X6_apart (n + 1) 46 L st M = am_j (rx_X6_apart n) ((tIst 5 2) 46 L st M) := rfl
theorem rs_X6_apart_48 (n : Nat) (L : AL) (st : List AV) (M : List AC) : rx_X6_apart (n + 1) 48 L st M = am_j (rx_X6_apart n) ((tIld 5 2) 48 L st M) := rfl
theorem rs_X6_apart_50 (n : Nat) (L : AL) (st : List AV) (M : List AC) : rx_X6_apart (n + 1) 50 L st M = am_j (rx_X6_apart n) ((tIc 4 1) 50 L st M) := rfl
theorem rs_X6_apart_51 (n : Nat) (L : AL) (st : List AV) (M : List AC) : rx_X6_apart (n + 1) 51 L st M = am_j (rx_X6_apart n) ((tCmge 109) 51 L st M) := rfl
theorem rs_X6_apart_54 (n : Nat) (L : AL) (st : List AV) (M : List AC) : rx_X6_apart (n + 1) 54 L st M = am_j (rx_X6_apart n) ((tAld 0 1) 54 L st M) := rfl
theorem rs_X6_apart_55 (n : Nat) (L : AL) (st : List AV) (M : List AC) : rx_X6_apart (n + 1) 55 L st M = am_j (rx_X6_apart n) ((tGf 6 22) 55 L st M) := rfl
theorem rs_X6_apart_58 (n : Nat) (L : AL) (st : List AV) (M : List AC) : rx_X6_apart (n + 1) 58 L st M = am_j (rx_X6_apart n) ((tIld 5 2) 58 L st M) := rfl
theorem rs_X6_apart_60 (n : Nat) (L : AL) (st : List AV) (M : List AC) : rx_X6_apart (n + 1) 60 L st M = am_j (rx_X6_apart n) (tIal 60 L st M) := rfl
theorem rs_X6_apart_61 (n : Nat) (L : AL) (st : List AV) (M : List AC) : rx_X6_apart (n + 1) 61 L st M = am_j (rx_X6_apart n) ((tIld 3 1) 61 L st M) := rfl
theorem rs_X6_apart_62 (n : Nat) (L : AL) (st : List AV) (M : List AC) : rx_X6_apart (n + 1) 62 L st M = am_j (rx_X6_apart n) ((tCmle 75) 62 L st M) := rfl
theorem rs_X6_apart_65 (n : Nat) (L : AL) (st : List AV) (M : List AC) : rx_X6_apart (n + 1) 65 L st M = am_j (rx_X6_apart n) ((tAld 0 1) 65 L st M) := rfl
theorem rs_X6_apart_66 (n : Nat) (L : AL) (st : List AV) (M : List AC) : rx_X6_apart (n + 1) 66 L st M = am_j (rx_X6_apart n) ((tGf 6 22) 66 L st M) := rfl
theorem rs_X6_apart_69 (n : Nat) (L : AL) (st : List AV) (M : List AC) : rx_X6_apart (n + 1) 69 L st M = am_j (rx_X6_apart n) ((tIld 5 2) 69 L st M) := rfl
theorem rs_X6_apart_71 (n : Nat) (L : AL) (st : List AV) (M : List AC) : rx_X6_apart (n + 1) 71 L st M = am_j (rx_X6_apart n) (tIal 71 L st M) := rfl
theorem rs_X6_apart_72 (n : Nat) (L : AL) (st : List AV) (M : List AC) : rx_X6_apart (n + 1) 72 L st M = am_j (rx_X6_apart n) ((tGo 76) 72 L st M) := rfl
theorem rs_X6_apart_75 (n : Nat) (L : AL) (st : List AV) (M : List AC) : rx_X6_apart (n + 1) 75 L st M = am_j (rx_X6_apart n) ((tIld 3 1) 75 L st M) := rfl
theorem rs_X6_apart_76 (n : Nat) (L : AL) (st : List AV) (M : List AC) : rx_X6_apart (n + 1) 76 L st M = am_j (rx_X6_apart n) ((tIst 3 1) 76 L st M) := rfl
theorem rs_X6_apart_77 (n : Nat) (L : AL) (st : List AV) (M : List AC) : rx_X6_apart (n + 1) 77 L st M = am_j (rx_X6_apart n) ((tAld 0 1) 77 L st M) := rfl
theorem rs_X6_apart_78 (n : Nat) (L : AL) (st : List AV) (M : List AC) : rx_X6_apart (n + 1) 78 L st M = am_j (rx_X6_apart n) ((tGf 6 22) 78 L st M) := rfl
theorem rs_X6_apart_81 (n : Nat) (L : AL) (st : List AV) (M : List AC) : rx_X6_apart (n + 1) 81 L st M = am_j (rx_X6_apart n) ((tIld 5 2) 81 L st M) := rfl
theorem rs_X6_apart_83 (n : Nat) (L : AL) (st : List AV) (M : List AC) : rx_X6_apart (n + 1) 83 L st M = am_j (rx_X6_apart n) (tIal 83 L st M) := rfl
theorem rs_X6_apart_84 (n : Nat) (L : AL) (st : List AV) (M : List AC) : rx_X6_apart (n + 1) 84 L st M = am_j (rx_X6_apart n) ((tIld 4 2) 84 L st M) := rfl
theorem rs_X6_apart_86 (n : Nat) (L : AL) (st : List AV) (M : List AC) : rx_X6_apart (n + 1) 86 L st M = am_j (rx_X6_apart n) ((tCmge 99) 86 L st M) := rfl
theorem rs_X6_apart_89 (n : Nat) (L : AL) (st : List AV) (M : List AC) : rx_X6_apart (n + 1) 89 L st M = am_j (rx_X6_apart n) ((tAld 0 1) 89 L st M) := rfl
theorem rs_X6_apart_90 (n : Nat) (L : AL) (st : List AV) (M : List AC) : rx_X6_apart (n + 1) 90 L st M = am_j (rx_X6_apart n) ((tGf 6 22) 90 L st M) := rfl
theorem rs_X6_apart_93 (n : Nat) (L : AL) (st : List AV) (M : List AC) : rx_X6_apart (n + 1) 93 L st M = am_j (rx_X6_apart n) ((tIld 5 2) 93 L st M) := rfl
theorem rs_X6_apart_95 (n : Nat) (L : AL) (st : List AV) (M : List AC) : rx_X6_apart (n + 1) 95 L st M = am_j (rx_X6_apart n) (tIal 95 L st M) := rfl
theorem rs_X6_apart_96 (n : Nat) (L : AL) (st : List AV) (M : List AC) : rx_X6_apart (n + 1) 96 L st M = am_j (rx_X6_apart n) ((tGo 101) 96 L st M) := rfl
theorem rs_X6_apart_99 (n : Nat) (L : AL) (st : List AV) (M : List AC) : rx_X6_apart (n + 1) 99 L st M = am_j (rx_X6_apart n) ((tIld 4 2) 99 L st M) := rfl
theorem rs_X6_apart_101 (n : Nat) (L : AL) (st : List AV) (M : List AC) : rx_X6_apart (n + 1) 101 L st M = am_j (rx_X6_apart n) ((tIst 4 2) 101 L st M) := rfl
theorem rs_X6_apart_103 (n : Nat) (L : AL) (st : List AV) (M : List AC) : rx_X6_apart (n + 1) 103 L st M = am_j (rx_X6_apart n) ((tIinc 5 1) 103 L st M) := rfl
theorem rs_X6_apart_106 (n : Nat) (L : AL) (st : List AV) (M : List AC) : rx_X6_apart (n + 1) 106 L st M = am_j (rx_X6_apart n) ((tGo 48) 106 L st M) := rfl
theorem rs_X6_apart_109 (n : Nat) (L : AL) (st : List AV) (M : List AC) : rx_X6_apart (n + 1) 109 L st M = am_j (rx_X6_apart n) ((tIld 3 1) 109 L st M) := rfl
theorem rs_X6_apart_110 (n : Nat) (L : AL) (st : List AV) (M : List AC) : rx_X6_apart (n + 1) 110 L st M = am_j (rx_X6_apart n) ((tIld 4 2) 110 L st M) := rfl
theorem rs_X6_apart_112 (n : Nat) (L : AL) (st : List AV) (M : List AC) : rx_X6_apart (n + 1) 112 L st M = am_j (rx_X6_apart n) ((tI2 (fun a b => a - b)) 112 L st M) := rfl
theorem rs_X6_apart_113 (n : Nat) (L : AL) (st : List AV) (M : List AC) : rx_X6_apart (n + 1) 113 L st M = am_e rI st M := rfl
theorem ri_X6_apart (c : Prop) [Decidable c] (p q n : Nat) (L : AL) (st : List AV) (M : List AC) : rx_X6_apart n (if c then p else q) L st M = if c then rx_X6_apart n p L st M else rx_X6_apart n q L st M := by split <;> rfl
theorem rm_X6_apart {n k pc : Nat} {L : AL} {st : List AV} {M : List AC} {x : Option AV × List AC} (h : rx_X6_apart n pc L st M = some x) (hk : n ≤ k) : rx_X6_apart k pc L st M = some x := am_r_mono n k h hk
def fn_X6_apart : Fn := am_fn rx_X6_apart 6
theorem fok_X6_apart : Fok mi_X6_apart fn_X6_apart := fun _ _ _ _ h => am_fok ok_X6_apart rk_X6_apart rfl h
theorem it_X6_apart {st lk len ac nx rf lr en lm : Int} {sd : Int64} {M : List AC} (h0 : M[26]? = some (mo st lk len ac nx rf lr en lm sd)) {v : F4} (h40 : M[40]? = some (aI (l4 v))) (hv : i4 0 1000 v) (n o m l : Int) (hm : wr m = m) (hl : wr l = l) (y : Option AV × List AC) (N : Nat) (c : Nat) (hc : c = 1 ∨ c = 2 ∨ c = 3) (kk : Ru rx_X6_apart N 48 [some (vR 26), some (vI n), some (vI o), some (vI (mx m (g4 v c))), some (vI (mn l (g4 v c))), some (vI ((c : Int) + 1))] [] M y) : Ru rx_X6_apart (N + 40) 48 [some (vR 26), some (vI n), some (vI o), some (vI m), some (vI l), some (vI c)] [] M y := by
  obtain ⟨k, hk, h⟩ := kk
  obtain ⟨w0, w1', w2, w3⟩ := i4_wr hv (by decide) (by decide)
  refine ⟨k + 39 + 1, by omega, ?_⟩
  rw [rs_X6_apart_48]
  unfold mx mn at h
  rcases hc with rfl | rfl | rfl
  · by_cases a : m < v.2.1 <;> by_cases b : v.2.1 < l <;> simp [g4, a, b] at h <;>
    simp [↓ri_X6_apart, rs_X6_apart_0, rs_X6_apart_1, rs_X6_apart_4, rs_X6_apart_5, rs_X6_apart_6, rs_X6_apart_7, rs_X6_apart_8, rs_X6_apart_9, rs_X6_apart_10, rs_X6_apart_13, rs_X6_apart_14, rs_X6_apart_15, rs_X6_apart_16, rs_X6_apart_17, rs_X6_apart_18, rs_X6_apart_21, rs_X6_apart_24, rs_X6_apart_27, rs_X6_apart_30, rs_X6_apart_31, rs_X6_apart_34, rs_X6_apart_35, rs_X6_apart_36, rs_X6_apart_37, rs_X6_apart_38, rs_X6_apart_41, rs_X6_apart_42, rs_X6_apart_43, rs_X6_apart_45, rs_X6_apart_46, rs_X6_apart_50, rs_X6_apart_51, rs_X6_apart_54, rs_X6_apart_55, rs_X6_apart_58, rs_X6_apart_60, rs_X6_apart_61, rs_X6_apart_62, rs_X6_apart_65, rs_X6_apart_66, rs_X6_apart_69, rs_X6_apart_71, rs_X6_apart_72, rs_X6_apart_75, rs_X6_apart_76, rs_X6_apart_77, rs_X6_apart_78, rs_X6_apart_81, rs_X6_apart_83, rs_X6_apart_84, rs_X6_apart_86, rs_X6_apart_89, rs_X6_apart_90, rs_X6_apart_93, rs_X6_apart_95, rs_X6_apart_96, rs_X6_apart_99, rs_X6_apart_101, rs_X6_apart_103, rs_X6_apart_106, rs_X6_apart_109, rs_X6_apart_110, rs_X6_apart_112, rs_X6_apart_113, -List.getElem?_eq_getElem, am_js, am_e, am_in, am_sl, rI, rZ, rV, rJ, rA, rC, kI, kJ, kR, am_one, am_nl, am_w8, tIc, tLc, tNul, tIld, tLld, tAld, tIst, tLst, tAst, tIinc, tI2, tDv, tL2, tLrem, tLs, tLcmp, tI2l, tL2i, tI2c, tDup, tDup2, tPop, tGo, tIfeq, tIfne, tIflt, tIfge, tIfgt, tIfle, tCmeq, tCmne, tCmlt, tCmge, tCmgt, tCmle, tNu, tTs, tGf, tPf, tGs, tIal, tIas, tBal, tBas, tAln, tSv, tSc, tSb, tSl, tSk, tCv, tCs, tCt, tMx, tMn, wr_10000, wr_100000, wr_1000000, wr_10000000, wr_100000000, wr_2400, wr_9999, wr_0, wr_1, wr_2, wr_3, wr_4, wr_5, wr_6, wr_7, wr_8, wr_9, wr_10, wr_11, wr_12, wr_13, wr_14, wr_15, wr_16, wr_17, wr_18, wr_19, wr_20, wr_21, wr_22, wr_23, wr_24, wr_25, wr_26, wr_27, wr_28, wr_29, wr_30, wr_31, wr_32, wr_33, wr_34, wr_35, wr_36, wr_37, wr_38, wr_39, wr_40, wr_41, wr_42, wr_43, wr_44, wr_45, wr_46, wr_47, wr_48, wr_49, wr_50, wr_51, wr_52, wr_53, wr_54, wr_55, wr_56, wr_57, wr_58, wr_59, wr_60, wr_61, wr_62, wr_63, wr_99, wr_100, wr_192, wr_255, wr_256, wr_343, wr_999, wr_1000, wr_2401, wr_2147483647, wr_65535, wr_m1, wr_m2, wr_m3, wr_m4, wr_m9, ak_1000, ak_1001, ak_1002, ak_0, ak_1, ak_2, ak_3, ak_4, ak_5, ak_6, ak_7, ak_8, ak_9, ak_10, ak_11, ak_12, ak_13, ak_14, ak_15, ak_16, ak_17, ak_18, ak_19, ak_20, ak_21, ak_22, ak_23, ak_24, ak_25, ak_26, ak_27, ak_28, ak_29, ak_30, ak_31, ak_32, ak_33, ak_34, ak_35, ak_36, ak_37, ak_38, ak_39, ak_40, ak_41, ak_42, ak_43, ak_44, ak_45, ak_46, ak_47, h0, mo, h40, hm, hl, w1', a, b, Int.not_le.mpr, Int.not_lt.mp] <;>
    exact rm_X6_apart h (by omega)
  · by_cases a : m < v.2.2.1 <;> by_cases b : v.2.2.1 < l <;> simp [g4, a, b] at h <;>
    simp [↓ri_X6_apart, rs_X6_apart_0, rs_X6_apart_1, rs_X6_apart_4, rs_X6_apart_5, rs_X6_apart_6, rs_X6_apart_7, rs_X6_apart_8, rs_X6_apart_9, rs_X6_apart_10, rs_X6_apart_13, rs_X6_apart_14, rs_X6_apart_15, rs_X6_apart_16, rs_X6_apart_17, rs_X6_apart_18, rs_X6_apart_21, rs_X6_apart_24, rs_X6_apart_27, rs_X6_apart_30, rs_X6_apart_31, rs_X6_apart_34, rs_X6_apart_35, rs_X6_apart_36, rs_X6_apart_37, rs_X6_apart_38, rs_X6_apart_41, rs_X6_apart_42, rs_X6_apart_43, rs_X6_apart_45, rs_X6_apart_46, rs_X6_apart_50, rs_X6_apart_51, rs_X6_apart_54, rs_X6_apart_55, rs_X6_apart_58, rs_X6_apart_60, rs_X6_apart_61, rs_X6_apart_62, rs_X6_apart_65, rs_X6_apart_66, rs_X6_apart_69, rs_X6_apart_71, rs_X6_apart_72, rs_X6_apart_75, rs_X6_apart_76, rs_X6_apart_77, rs_X6_apart_78, rs_X6_apart_81, rs_X6_apart_83, rs_X6_apart_84, rs_X6_apart_86, rs_X6_apart_89, rs_X6_apart_90, rs_X6_apart_93, rs_X6_apart_95, rs_X6_apart_96, rs_X6_apart_99, rs_X6_apart_101, rs_X6_apart_103, rs_X6_apart_106, rs_X6_apart_109, rs_X6_apart_110, rs_X6_apart_112, rs_X6_apart_113, -List.getElem?_eq_getElem, am_js, am_e, am_in, am_sl, rI, rZ, rV, rJ, rA, rC, kI, kJ, kR, am_one, am_nl, am_w8, tIc, tLc, tNul, tIld, tLld, tAld, tIst, tLst, tAst, tIinc, tI2, tDv, tL2, tLrem, tLs, tLcmp, tI2l, tL2i, tI2c, tDup, tDup2, tPop, tGo, tIfeq, tIfne, tIflt, tIfge, tIfgt, tIfle, tCmeq, tCmne, tCmlt, tCmge, tCmgt, tCmle, tNu, tTs, tGf, tPf, tGs, tIal, tIas, tBal, tBas, tAln, tSv, tSc, tSb, tSl, tSk, tCv, tCs, tCt, tMx, tMn, wr_10000, wr_100000, wr_1000000, wr_10000000, wr_100000000, wr_2400, wr_9999, wr_0, wr_1, wr_2, wr_3, wr_4, wr_5, wr_6, wr_7, wr_8, wr_9, wr_10, wr_11, wr_12, wr_13, wr_14, wr_15, wr_16, wr_17, wr_18, wr_19, wr_20, wr_21, wr_22, wr_23, wr_24, wr_25, wr_26, wr_27, wr_28, wr_29, wr_30, wr_31, wr_32, wr_33, wr_34, wr_35, wr_36, wr_37, wr_38, wr_39, wr_40, wr_41, wr_42, wr_43, wr_44, wr_45, wr_46, wr_47, wr_48, wr_49, wr_50, wr_51, wr_52, wr_53, wr_54, wr_55, wr_56, wr_57, wr_58, wr_59, wr_60, wr_61, wr_62, wr_63, wr_99, wr_100, wr_192, wr_255, wr_256, wr_343, wr_999, wr_1000, wr_2401, wr_2147483647, wr_65535, wr_m1, wr_m2, wr_m3, wr_m4, wr_m9, ak_1000, ak_1001, ak_1002, ak_0, ak_1, ak_2, ak_3, ak_4, ak_5, ak_6, ak_7, ak_8, ak_9, ak_10, ak_11, ak_12, ak_13, ak_14, ak_15, ak_16, ak_17, ak_18, ak_19, ak_20, ak_21, ak_22, ak_23, ak_24, ak_25, ak_26, ak_27, ak_28, ak_29, ak_30, ak_31, ak_32, ak_33, ak_34, ak_35, ak_36, ak_37, ak_38, ak_39, ak_40, ak_41, ak_42, ak_43, ak_44, ak_45, ak_46, ak_47, h0, mo, h40, hm, hl, w2, a, b, Int.not_le.mpr, Int.not_lt.mp] <;>
    exact rm_X6_apart h (by omega)
  · by_cases a : m < v.2.2.2 <;> by_cases b : v.2.2.2 < l <;> simp [g4, a, b] at h <;>
    simp [↓ri_X6_apart, rs_X6_apart_0, rs_X6_apart_1, rs_X6_apart_4, rs_X6_apart_5, rs_X6_apart_6, rs_X6_apart_7, rs_X6_apart_8, rs_X6_apart_9, rs_X6_apart_10, rs_X6_apart_13, rs_X6_apart_14, rs_X6_apart_15, rs_X6_apart_16, rs_X6_apart_17, rs_X6_apart_18, rs_X6_apart_21, rs_X6_apart_24, rs_X6_apart_27, rs_X6_apart_30, rs_X6_apart_31, rs_X6_apart_34, rs_X6_apart_35, rs_X6_apart_36, rs_X6_apart_37, rs_X6_apart_38, rs_X6_apart_41, rs_X6_apart_42, rs_X6_apart_43, rs_X6_apart_45, rs_X6_apart_46, rs_X6_apart_50, rs_X6_apart_51, rs_X6_apart_54, rs_X6_apart_55, rs_X6_apart_58, rs_X6_apart_60, rs_X6_apart_61, rs_X6_apart_62, rs_X6_apart_65, rs_X6_apart_66, rs_X6_apart_69, rs_X6_apart_71, rs_X6_apart_72, rs_X6_apart_75, rs_X6_apart_76, rs_X6_apart_77, rs_X6_apart_78, rs_X6_apart_81, rs_X6_apart_83, rs_X6_apart_84, rs_X6_apart_86, rs_X6_apart_89, rs_X6_apart_90, rs_X6_apart_93, rs_X6_apart_95, rs_X6_apart_96, rs_X6_apart_99, rs_X6_apart_101, rs_X6_apart_103, rs_X6_apart_106, rs_X6_apart_109, rs_X6_apart_110, rs_X6_apart_112, rs_X6_apart_113, -List.getElem?_eq_getElem, am_js, am_e, am_in, am_sl, rI, rZ, rV, rJ, rA, rC, kI, kJ, kR, am_one, am_nl, am_w8, tIc, tLc, tNul, tIld, tLld, tAld, tIst, tLst, tAst, tIinc, tI2, tDv, tL2, tLrem, tLs, tLcmp, tI2l, tL2i, tI2c, tDup, tDup2, tPop, tGo, tIfeq, tIfne, tIflt, tIfge, tIfgt, tIfle, tCmeq, tCmne, tCmlt, tCmge, tCmgt, tCmle, tNu, tTs, tGf, tPf, tGs, tIal, tIas, tBal, tBas, tAln, tSv, tSc, tSb, tSl, tSk, tCv, tCs, tCt, tMx, tMn, wr_10000, wr_100000, wr_1000000, wr_10000000, wr_100000000, wr_2400, wr_9999, wr_0, wr_1, wr_2, wr_3, wr_4, wr_5, wr_6, wr_7, wr_8, wr_9, wr_10, wr_11, wr_12, wr_13, wr_14, wr_15, wr_16, wr_17, wr_18, wr_19, wr_20, wr_21, wr_22, wr_23, wr_24, wr_25, wr_26, wr_27, wr_28, wr_29, wr_30, wr_31, wr_32, wr_33, wr_34, wr_35, wr_36, wr_37, wr_38, wr_39, wr_40, wr_41, wr_42, wr_43, wr_44, wr_45, wr_46, wr_47, wr_48, wr_49, wr_50, wr_51, wr_52, wr_53, wr_54, wr_55, wr_56, wr_57, wr_58, wr_59, wr_60, wr_61, wr_62, wr_63, wr_99, wr_100, wr_192, wr_255, wr_256, wr_343, wr_999, wr_1000, wr_2401, wr_2147483647, wr_65535, wr_m1, wr_m2, wr_m3, wr_m4, wr_m9, ak_1000, ak_1001, ak_1002, ak_0, ak_1, ak_2, ak_3, ak_4, ak_5, ak_6, ak_7, ak_8, ak_9, ak_10, ak_11, ak_12, ak_13, ak_14, ak_15, ak_16, ak_17, ak_18, ak_19, ak_20, ak_21, ak_22, ak_23, ak_24, ak_25, ak_26, ak_27, ak_28, ak_29, ak_30, ak_31, ak_32, ak_33, ak_34, ak_35, ak_36, ak_37, ak_38, ak_39, ak_40, ak_41, ak_42, ak_43, ak_44, ak_45, ak_46, ak_47, h0, mo, h40, hm, hl, w3, a, b, Int.not_le.mpr, Int.not_lt.mp] <;>
    exact rm_X6_apart h (by omega)
theorem gpe_s (v : F4) : mx (mx (mx v.1 v.2.1) v.2.2.1) v.2.2.2 - mn (mn (mn v.1 v.2.1) v.2.2.1) v.2.2.2 = gpe v := by
  unfold gpe mx mn
  (repeat' split) <;> omega
theorem mxw {a b : Int} (h1 : wr a = a) (h2 : wr b = b) : wr (mx a b) = mx a b := (mx_wr h1 h2).2
theorem mnw {a b : Int} (h1 : wr a = a) (h2 : wr b = b) : wr (mn a b) = mn a b := (mn_wr h1 h2).2
theorem en_X6_apart {st lk len ac nx rf lr en lm : Int} {sd : Int64} {M : List AC} (h0 : M[26]? = some (mo st lk len ac nx rf lr en lm sd)) {v : F4} (h40 : M[40]? = some (aI (l4 v))) (hv : i4 0 1000 v) (n o k : Int) : Ru rx_X6_apart 200 30 [some (vR 26), some (vI n), some (vI o), some (vI k), none, none] [] M (some (vI (gpe v)), M) := by
  obtain ⟨w0, w1', w2, w3⟩ := i4_wr hv (by decide) (by decide)
  have e3 := it_X6_apart h0 h40 hv n o (mx (mx v.1 v.2.1) v.2.2.1) (mn (mn v.1 v.2.1) v.2.2.1) (mxw (mxw w0 w1') w2) (mnw (mnw w0 w1') w2) (some (vI (gpe v)), M) 20 3 (by omega) (by
    refine ⟨19 + 1, by omega, ?_⟩
    rw [rs_X6_apart_48]
    have e := gpe_s v
    simp only [g4]
    generalize mx (mx (mx v.1 v.2.1) v.2.2.1) v.2.2.2 = A at e ⊢
    generalize mn (mn (mn v.1 v.2.1) v.2.2.1) v.2.2.2 = B at e ⊢
    simp [↓ri_X6_apart, rs_X6_apart_0, rs_X6_apart_1, rs_X6_apart_4, rs_X6_apart_5, rs_X6_apart_6, rs_X6_apart_7, rs_X6_apart_8, rs_X6_apart_9, rs_X6_apart_10, rs_X6_apart_13, rs_X6_apart_14, rs_X6_apart_15, rs_X6_apart_16, rs_X6_apart_17, rs_X6_apart_18, rs_X6_apart_21, rs_X6_apart_24, rs_X6_apart_27, rs_X6_apart_30, rs_X6_apart_31, rs_X6_apart_34, rs_X6_apart_35, rs_X6_apart_36, rs_X6_apart_37, rs_X6_apart_38, rs_X6_apart_41, rs_X6_apart_42, rs_X6_apart_43, rs_X6_apart_45, rs_X6_apart_46, rs_X6_apart_50, rs_X6_apart_51, rs_X6_apart_54, rs_X6_apart_55, rs_X6_apart_58, rs_X6_apart_60, rs_X6_apart_61, rs_X6_apart_62, rs_X6_apart_65, rs_X6_apart_66, rs_X6_apart_69, rs_X6_apart_71, rs_X6_apart_72, rs_X6_apart_75, rs_X6_apart_76, rs_X6_apart_77, rs_X6_apart_78, rs_X6_apart_81, rs_X6_apart_83, rs_X6_apart_84, rs_X6_apart_86, rs_X6_apart_89, rs_X6_apart_90, rs_X6_apart_93, rs_X6_apart_95, rs_X6_apart_96, rs_X6_apart_99, rs_X6_apart_101, rs_X6_apart_103, rs_X6_apart_106, rs_X6_apart_109, rs_X6_apart_110, rs_X6_apart_112, rs_X6_apart_113, -List.getElem?_eq_getElem, am_js, am_e, am_in, am_sl, rI, rZ, rV, rJ, rA, rC, kI, kJ, kR, am_one, am_nl, am_w8, tIc, tLc, tNul, tIld, tLld, tAld, tIst, tLst, tAst, tIinc, tI2, tDv, tL2, tLrem, tLs, tLcmp, tI2l, tL2i, tI2c, tDup, tDup2, tPop, tGo, tIfeq, tIfne, tIflt, tIfge, tIfgt, tIfle, tCmeq, tCmne, tCmlt, tCmge, tCmgt, tCmle, tNu, tTs, tGf, tPf, tGs, tIal, tIas, tBal, tBas, tAln, tSv, tSc, tSb, tSl, tSk, tCv, tCs, tCt, tMx, tMn, wr_10000, wr_100000, wr_1000000, wr_10000000, wr_100000000, wr_2400, wr_9999, wr_0, wr_1, wr_2, wr_3, wr_4, wr_5, wr_6, wr_7, wr_8, wr_9, wr_10, wr_11, wr_12, wr_13, wr_14, wr_15, wr_16, wr_17, wr_18, wr_19, wr_20, wr_21, wr_22, wr_23, wr_24, wr_25, wr_26, wr_27, wr_28, wr_29, wr_30, wr_31, wr_32, wr_33, wr_34, wr_35, wr_36, wr_37, wr_38, wr_39, wr_40, wr_41, wr_42, wr_43, wr_44, wr_45, wr_46, wr_47, wr_48, wr_49, wr_50, wr_51, wr_52, wr_53, wr_54, wr_55, wr_56, wr_57, wr_58, wr_59, wr_60, wr_61, wr_62, wr_63, wr_99, wr_100, wr_192, wr_255, wr_256, wr_343, wr_999, wr_1000, wr_2401, wr_2147483647, wr_65535, wr_m1, wr_m2, wr_m3, wr_m4, wr_m9, ak_1000, ak_1001, ak_1002, ak_0, ak_1, ak_2, ak_3, ak_4, ak_5, ak_6, ak_7, ak_8, ak_9, ak_10, ak_11, ak_12, ak_13, ak_14, ak_15, ak_16, ak_17, ak_18, ak_19, ak_20, ak_21, ak_22, ak_23, ak_24, ak_25, ak_26, ak_27, ak_28, ak_29, ak_30, ak_31, ak_32, ak_33, ak_34, ak_35, ak_36, ak_37, ak_38, ak_39, ak_40, ak_41, ak_42, ak_43, ak_44, ak_45, ak_46, ak_47, e])
  have e2 := it_X6_apart h0 h40 hv n o (mx v.1 v.2.1) (mn v.1 v.2.1) (mxw w0 w1') (mnw w0 w1') (some (vI (gpe v)), M) 60 2 (by omega) e3
  have e1 := it_X6_apart h0 h40 hv n o v.1 v.1 w0 w0 (some (vI (gpe v)), M) 100 1 (by omega) (by
    have ea : mx v.1 (g4 v 1) = mx v.1 v.2.1 := rfl
    have eb : mn v.1 (g4 v 1) = mn v.1 v.2.1 := rfl
    rw [ea, eb]
    exact e2)
  obtain ⟨m, hm, h⟩ := e1
  refine ⟨m + 29 + 1, by omega, ?_⟩
  rw [rs_X6_apart_30]
  simp [↓ri_X6_apart, rs_X6_apart_0, rs_X6_apart_1, rs_X6_apart_4, rs_X6_apart_5, rs_X6_apart_6, rs_X6_apart_7, rs_X6_apart_8, rs_X6_apart_9, rs_X6_apart_10, rs_X6_apart_13, rs_X6_apart_14, rs_X6_apart_15, rs_X6_apart_16, rs_X6_apart_17, rs_X6_apart_18, rs_X6_apart_21, rs_X6_apart_24, rs_X6_apart_27, rs_X6_apart_31, rs_X6_apart_34, rs_X6_apart_35, rs_X6_apart_36, rs_X6_apart_37, rs_X6_apart_38, rs_X6_apart_41, rs_X6_apart_42, rs_X6_apart_43, rs_X6_apart_45, rs_X6_apart_46, rs_X6_apart_50, rs_X6_apart_51, rs_X6_apart_54, rs_X6_apart_55, rs_X6_apart_58, rs_X6_apart_60, rs_X6_apart_61, rs_X6_apart_62, rs_X6_apart_65, rs_X6_apart_66, rs_X6_apart_69, rs_X6_apart_71, rs_X6_apart_72, rs_X6_apart_75, rs_X6_apart_76, rs_X6_apart_77, rs_X6_apart_78, rs_X6_apart_81, rs_X6_apart_83, rs_X6_apart_84, rs_X6_apart_86, rs_X6_apart_89, rs_X6_apart_90, rs_X6_apart_93, rs_X6_apart_95, rs_X6_apart_96, rs_X6_apart_99, rs_X6_apart_101, rs_X6_apart_103, rs_X6_apart_106, rs_X6_apart_109, rs_X6_apart_110, rs_X6_apart_112, rs_X6_apart_113, -List.getElem?_eq_getElem, am_js, am_e, am_in, am_sl, rI, rZ, rV, rJ, rA, rC, kI, kJ, kR, am_one, am_nl, am_w8, tIc, tLc, tNul, tIld, tLld, tAld, tIst, tLst, tAst, tIinc, tI2, tDv, tL2, tLrem, tLs, tLcmp, tI2l, tL2i, tI2c, tDup, tDup2, tPop, tGo, tIfeq, tIfne, tIflt, tIfge, tIfgt, tIfle, tCmeq, tCmne, tCmlt, tCmge, tCmgt, tCmle, tNu, tTs, tGf, tPf, tGs, tIal, tIas, tBal, tBas, tAln, tSv, tSc, tSb, tSl, tSk, tCv, tCs, tCt, tMx, tMn, wr_10000, wr_100000, wr_1000000, wr_10000000, wr_100000000, wr_2400, wr_9999, wr_0, wr_1, wr_2, wr_3, wr_4, wr_5, wr_6, wr_7, wr_8, wr_9, wr_10, wr_11, wr_12, wr_13, wr_14, wr_15, wr_16, wr_17, wr_18, wr_19, wr_20, wr_21, wr_22, wr_23, wr_24, wr_25, wr_26, wr_27, wr_28, wr_29, wr_30, wr_31, wr_32, wr_33, wr_34, wr_35, wr_36, wr_37, wr_38, wr_39, wr_40, wr_41, wr_42, wr_43, wr_44, wr_45, wr_46, wr_47, wr_48, wr_49, wr_50, wr_51, wr_52, wr_53, wr_54, wr_55, wr_56, wr_57, wr_58, wr_59, wr_60, wr_61, wr_62, wr_63, wr_99, wr_100, wr_192, wr_255, wr_256, wr_343, wr_999, wr_1000, wr_2401, wr_2147483647, wr_65535, wr_m1, wr_m2, wr_m3, wr_m4, wr_m9, ak_1000, ak_1001, ak_1002, ak_0, ak_1, ak_2, ak_3, ak_4, ak_5, ak_6, ak_7, ak_8, ak_9, ak_10, ak_11, ak_12, ak_13, ak_14, ak_15, ak_16, ak_17, ak_18, ak_19, ak_20, ak_21, ak_22, ak_23, ak_24, ak_25, ak_26, ak_27, ak_28, ak_29, ak_30, ak_31, ak_32, ak_33, ak_34, ak_35, ak_36, ak_37, ak_38, ak_39, ak_40, ak_41, ak_42, ak_43, ak_44, ak_45, ak_46, ak_47, h0, mo, h40]
  exact rm_X6_apart h (by omega)
theorem lp_X6_apart {st lk len ac nx rf lr en lm o r : Int} {sd : Int64} (ho : 0 ≤ o ∧ o < 256) (hso : os o = 15) (hr : 1 ≤ r ∧ r ≤ 5) : ∀ (n i : Nat) (j : Int) (M : List AC) (v : F4), j = (i : Int) → M[26]? = some (mo st lk len ac nx rf lr en lm sd) → M[40]? = some (aI (l4 v)) → i4 0 (4 * j) v → j + n = 4 * r →
    Ru rx_X6_apart (40 * n + 240) 6 [some (vR 26), some (vI r), some (vI o), some (vI j), none, none] [] M (some (vI (gpe (gpi (to4 o) n i v))), M.set 40 (aI (l4 (gpi (to4 o) n i v))))
  | 0, i, j, M, v, hij, h0, h40, hv, hi => by
    have e : j = 4 * r := by omega
    have wr4 : wr (4 * r) = 4 * r := wr_id (by omega) (by omega)
    rw [e] at *
    obtain ⟨k, hk, h⟩ := en_X6_apart h0 h40 ⟨⟨hv.1.1, by have := hv.1.2; omega⟩, ⟨hv.2.1.1, by have := hv.2.1.2; omega⟩, ⟨hv.2.2.1.1, by have := hv.2.2.1.2; omega⟩, ⟨hv.2.2.2.1, by have := hv.2.2.2.2; omega⟩⟩ r o (4 * r)
    refine ⟨k + 19 + 1, by omega, ?_⟩
    unfold gpi
    rw [set_same h40, rs_X6_apart_6]
    simp [↓ri_X6_apart, rs_X6_apart_0, rs_X6_apart_1, rs_X6_apart_4, rs_X6_apart_5, rs_X6_apart_7, rs_X6_apart_8, rs_X6_apart_9, rs_X6_apart_10, rs_X6_apart_13, rs_X6_apart_14, rs_X6_apart_15, rs_X6_apart_16, rs_X6_apart_17, rs_X6_apart_18, rs_X6_apart_21, rs_X6_apart_24, rs_X6_apart_27, rs_X6_apart_31, rs_X6_apart_34, rs_X6_apart_35, rs_X6_apart_36, rs_X6_apart_37, rs_X6_apart_38, rs_X6_apart_41, rs_X6_apart_42, rs_X6_apart_43, rs_X6_apart_45, rs_X6_apart_46, rs_X6_apart_48, rs_X6_apart_50, rs_X6_apart_51, rs_X6_apart_54, rs_X6_apart_55, rs_X6_apart_58, rs_X6_apart_60, rs_X6_apart_61, rs_X6_apart_62, rs_X6_apart_65, rs_X6_apart_66, rs_X6_apart_69, rs_X6_apart_71, rs_X6_apart_72, rs_X6_apart_75, rs_X6_apart_76, rs_X6_apart_77, rs_X6_apart_78, rs_X6_apart_81, rs_X6_apart_83, rs_X6_apart_84, rs_X6_apart_86, rs_X6_apart_89, rs_X6_apart_90, rs_X6_apart_93, rs_X6_apart_95, rs_X6_apart_96, rs_X6_apart_99, rs_X6_apart_101, rs_X6_apart_103, rs_X6_apart_106, rs_X6_apart_109, rs_X6_apart_110, rs_X6_apart_112, rs_X6_apart_113, -List.getElem?_eq_getElem, am_js, am_e, am_in, am_sl, rI, rZ, rV, rJ, rA, rC, kI, kJ, kR, am_one, am_nl, am_w8, tIc, tLc, tNul, tIld, tLld, tAld, tIst, tLst, tAst, tIinc, tI2, tDv, tL2, tLrem, tLs, tLcmp, tI2l, tL2i, tI2c, tDup, tDup2, tPop, tGo, tIfeq, tIfne, tIflt, tIfge, tIfgt, tIfle, tCmeq, tCmne, tCmlt, tCmge, tCmgt, tCmle, tNu, tTs, tGf, tPf, tGs, tIal, tIas, tBal, tBas, tAln, tSv, tSc, tSb, tSl, tSk, tCv, tCs, tCt, tMx, tMn, wr_10000, wr_100000, wr_1000000, wr_10000000, wr_100000000, wr_2400, wr_9999, wr_0, wr_1, wr_2, wr_3, wr_4, wr_5, wr_6, wr_7, wr_8, wr_9, wr_10, wr_11, wr_12, wr_13, wr_14, wr_15, wr_16, wr_17, wr_18, wr_19, wr_20, wr_21, wr_22, wr_23, wr_24, wr_25, wr_26, wr_27, wr_28, wr_29, wr_30, wr_31, wr_32, wr_33, wr_34, wr_35, wr_36, wr_37, wr_38, wr_39, wr_40, wr_41, wr_42, wr_43, wr_44, wr_45, wr_46, wr_47, wr_48, wr_49, wr_50, wr_51, wr_52, wr_53, wr_54, wr_55, wr_56, wr_57, wr_58, wr_59, wr_60, wr_61, wr_62, wr_63, wr_99, wr_100, wr_192, wr_255, wr_256, wr_343, wr_999, wr_1000, wr_2401, wr_2147483647, wr_65535, wr_m1, wr_m2, wr_m3, wr_m4, wr_m9, ak_1000, ak_1001, ak_1002, ak_0, ak_1, ak_2, ak_3, ak_4, ak_5, ak_6, ak_7, ak_8, ak_9, ak_10, ak_11, ak_12, ak_13, ak_14, ak_15, ak_16, ak_17, ak_18, ak_19, ak_20, ak_21, ak_22, ak_23, ak_24, ak_25, ak_26, ak_27, ak_28, ak_29, ak_30, ak_31, ak_32, ak_33, ak_34, ak_35, ak_36, ak_37, ak_38, ak_39, ak_40, ak_41, ak_42, ak_43, ak_44, ak_45, ak_46, ak_47, wr4]
    exact rm_X6_apart h (by omega)
  | n + 1, i, j, M, v, hij, h0, h40, hv, hi => by
    have wi : wr j = j := wr_id (by omega) (by omega)
    have wr4 : wr (4 * r) = 4 * r := wr_id (by omega) (by omega)
    have ni : ¬ 4 * r ≤ j := by omega
    have hlt : i % 4 < 4 := Nat.mod_lt _ (by decide)
    have hmod : Int.tmod j 4 = ((i % 4 : Nat) : Int) := by
      rw [hij, Int.tmod_eq_emod_of_nonneg (by omega)]; omega
    rw [gpi]
    generalize i % 4 = c at hlt hmod ⊢
    have q1 := sp_X6_ordered o c (by omega) M
    rw [if_pos hso] at q1
    change fn_X6_ordered [vI o, vI (c : Int)] M = some (some (vI (c6 o c)), M) at q1
    obtain ⟨hc, he⟩ := c6_e ho hso (k := (c : Int)) (by omega)
    rw [← uf_g (to4 o) c hlt] at he
    rw [← he]
    clear he
    generalize c6 o c = f at q1 hc ⊢
    have ht := sp_X6_tighten h0 h40 ⟨⟨hv.1.1, by have := hv.1.2; omega⟩, ⟨hv.2.1.1, by have := hv.2.1.2; omega⟩, ⟨hv.2.2.1.1, by have := hv.2.2.1.2; omega⟩, ⟨hv.2.2.2.1, by have := hv.2.2.2.2; omega⟩⟩ f hc
    obtain ⟨m, hm, h'⟩ := lp_X6_apart (st := st) (lk := lk) (len := len) (ac := ac) (nx := nx) (rf := rf) (lr := lr) (en := en) (lm := lm) (sd := sd) ho hso hr n (i + 1) (j + 1) (M.set 40 (aI (l4 (tg v f.toNat)))) (tg v f.toNat) (by omega) (by simp [-List.getElem?_eq_getElem, h0, gs h0]) (by simp [-List.getElem?_eq_getElem, h40, gs h40]) (by
      have := tg_rng hv f.toNat
      have e : 4 * (j + 1) = 4 * j + 4 := by omega
      rw [e]; exact this) (by omega)
    rw [List.set_set] at h'
    generalize gpi (to4 o) n (i + 1) (tg v f.toNat) = q at h' ⊢
    refine ⟨m + 39 + 1, by omega, ?_⟩
    rw [rs_X6_apart_6]
    simp [↓ri_X6_apart, rs_X6_apart_0, rs_X6_apart_1, rs_X6_apart_4, rs_X6_apart_5, rs_X6_apart_7, rs_X6_apart_8, rs_X6_apart_9, rs_X6_apart_10, rs_X6_apart_13, rs_X6_apart_14, rs_X6_apart_15, rs_X6_apart_16, rs_X6_apart_17, rs_X6_apart_18, rs_X6_apart_21, rs_X6_apart_24, rs_X6_apart_27, rs_X6_apart_30, rs_X6_apart_31, rs_X6_apart_34, rs_X6_apart_35, rs_X6_apart_36, rs_X6_apart_37, rs_X6_apart_38, rs_X6_apart_41, rs_X6_apart_42, rs_X6_apart_43, rs_X6_apart_45, rs_X6_apart_46, rs_X6_apart_48, rs_X6_apart_50, rs_X6_apart_51, rs_X6_apart_54, rs_X6_apart_55, rs_X6_apart_58, rs_X6_apart_60, rs_X6_apart_61, rs_X6_apart_62, rs_X6_apart_65, rs_X6_apart_66, rs_X6_apart_69, rs_X6_apart_71, rs_X6_apart_72, rs_X6_apart_75, rs_X6_apart_76, rs_X6_apart_77, rs_X6_apart_78, rs_X6_apart_81, rs_X6_apart_83, rs_X6_apart_84, rs_X6_apart_86, rs_X6_apart_89, rs_X6_apart_90, rs_X6_apart_93, rs_X6_apart_95, rs_X6_apart_96, rs_X6_apart_99, rs_X6_apart_101, rs_X6_apart_103, rs_X6_apart_106, rs_X6_apart_109, rs_X6_apart_110, rs_X6_apart_112, rs_X6_apart_113, -List.getElem?_eq_getElem, am_js, am_e, am_in, am_sl, rI, rZ, rV, rJ, rA, rC, kI, kJ, kR, am_one, am_nl, am_w8, tIc, tLc, tNul, tIld, tLld, tAld, tIst, tLst, tAst, tIinc, tI2, tDv, tL2, tLrem, tLs, tLcmp, tI2l, tL2i, tI2c, tDup, tDup2, tPop, tGo, tIfeq, tIfne, tIflt, tIfge, tIfgt, tIfle, tCmeq, tCmne, tCmlt, tCmge, tCmgt, tCmle, tNu, tTs, tGf, tPf, tGs, tIal, tIas, tBal, tBas, tAln, tSv, tSc, tSb, tSl, tSk, tCv, tCs, tCt, tMx, tMn, wr_10000, wr_100000, wr_1000000, wr_10000000, wr_100000000, wr_2400, wr_9999, wr_0, wr_1, wr_2, wr_3, wr_4, wr_5, wr_6, wr_7, wr_8, wr_9, wr_10, wr_11, wr_12, wr_13, wr_14, wr_15, wr_16, wr_17, wr_18, wr_19, wr_20, wr_21, wr_22, wr_23, wr_24, wr_25, wr_26, wr_27, wr_28, wr_29, wr_30, wr_31, wr_32, wr_33, wr_34, wr_35, wr_36, wr_37, wr_38, wr_39, wr_40, wr_41, wr_42, wr_43, wr_44, wr_45, wr_46, wr_47, wr_48, wr_49, wr_50, wr_51, wr_52, wr_53, wr_54, wr_55, wr_56, wr_57, wr_58, wr_59, wr_60, wr_61, wr_62, wr_63, wr_99, wr_100, wr_192, wr_255, wr_256, wr_343, wr_999, wr_1000, wr_2401, wr_2147483647, wr_65535, wr_m1, wr_m2, wr_m3, wr_m4, wr_m9, ak_1000, ak_1001, ak_1002, ak_0, ak_1, ak_2, ak_3, ak_4, ak_5, ak_6, ak_7, ak_8, ak_9, ak_10, ak_11, ak_12, ak_13, ak_14, ak_15, ak_16, ak_17, ak_18, ak_19, ak_20, ak_21, ak_22, ak_23, ak_24, ak_25, ak_26, ak_27, ak_28, ak_29, ak_30, ak_31, ak_32, ak_33, ak_34, ak_35, ak_36, ak_37, ak_38, ak_39, ak_40, ak_41, ak_42, ak_43, ak_44, ak_45, ak_46, ak_47, h0, mo, wi, wr4, ni, hmod, q1, ht]
    exact rm_X6_apart h' (by omega)
theorem sp_X6_apart {M : List AC} {st lk len ac nx rf lr en lm : Int} {sd : Int64} (h0 : M[26]? = some (mo st lk len ac nx rf lr en lm sd)) {v : F4} (h40 : M[40]? = some (aI (l4 v))) (o r : Int) (ho : 0 ≤ o ∧ o < 256) (hso : os o = 15) (hr : 1 ≤ r ∧ r ≤ 5) : fn_X6_apart [vR 26, vI r, vI o] M = some (some (vI (gpe (gpi (to4 o) (4 * r).toNat 0 (0, 0, 0, 0)))), M.set 40 (aI (l4 (gpi (to4 o) (4 * r).toNat 0 (0, 0, 0, 0))))) := by
  obtain ⟨n, hn, h'⟩ := lp_X6_apart (st := st) (lk := lk) (len := len) (ac := ac) (nx := nx) (rf := rf) (lr := lr) (en := en) (lm := lm) (sd := sd) ho hso hr (4 * r).toNat 0 0 (M.set 40 (aI (l4 (0, 0, 0, 0)))) (0, 0, 0, 0) rfl (by simp [-List.getElem?_eq_getElem, h0, gs h0]) (by simp [-List.getElem?_eq_getElem, h40, gs h40]) ⟨⟨by decide, by decide⟩, ⟨by decide, by decide⟩, ⟨by decide, by decide⟩, ⟨by decide, by decide⟩⟩ (by omega)
  rw [List.set_set] at h'
  have q := sp_X6_loosen h0 h40
  (refine am_fnR (tb := tb_X6_apart) (N := 2000) (Nat.le_of_ble_eq_true rfl) (Nat.le_of_ble_eq_true rfl) ?_; show Ru rx_X6_apart 2000 0 _ _ _ _)
  refine ⟨n + 10, by omega, ?_⟩
  generalize gpi (to4 o) (4 * r).toNat 0 (0, 0, 0, 0) = R at h' ⊢
  simp [↓ri_X6_apart, rs_X6_apart_0, rs_X6_apart_1, rs_X6_apart_4, rs_X6_apart_5, rs_X6_apart_7, rs_X6_apart_8, rs_X6_apart_9, rs_X6_apart_10, rs_X6_apart_13, rs_X6_apart_14, rs_X6_apart_15, rs_X6_apart_16, rs_X6_apart_17, rs_X6_apart_18, rs_X6_apart_21, rs_X6_apart_24, rs_X6_apart_27, rs_X6_apart_30, rs_X6_apart_31, rs_X6_apart_34, rs_X6_apart_35, rs_X6_apart_36, rs_X6_apart_37, rs_X6_apart_38, rs_X6_apart_41, rs_X6_apart_42, rs_X6_apart_43, rs_X6_apart_45, rs_X6_apart_46, rs_X6_apart_48, rs_X6_apart_50, rs_X6_apart_51, rs_X6_apart_54, rs_X6_apart_55, rs_X6_apart_58, rs_X6_apart_60, rs_X6_apart_61, rs_X6_apart_62, rs_X6_apart_65, rs_X6_apart_66, rs_X6_apart_69, rs_X6_apart_71, rs_X6_apart_72, rs_X6_apart_75, rs_X6_apart_76, rs_X6_apart_77, rs_X6_apart_78, rs_X6_apart_81, rs_X6_apart_83, rs_X6_apart_84, rs_X6_apart_86, rs_X6_apart_89, rs_X6_apart_90, rs_X6_apart_93, rs_X6_apart_95, rs_X6_apart_96, rs_X6_apart_99, rs_X6_apart_101, rs_X6_apart_103, rs_X6_apart_106, rs_X6_apart_109, rs_X6_apart_110, rs_X6_apart_112, rs_X6_apart_113, -List.getElem?_eq_getElem, am_js, am_e, am_in, am_sl, rI, rZ, rV, rJ, rA, rC, kI, kJ, kR, am_one, am_nl, am_w8, tIc, tLc, tNul, tIld, tLld, tAld, tIst, tLst, tAst, tIinc, tI2, tDv, tL2, tLrem, tLs, tLcmp, tI2l, tL2i, tI2c, tDup, tDup2, tPop, tGo, tIfeq, tIfne, tIflt, tIfge, tIfgt, tIfle, tCmeq, tCmne, tCmlt, tCmge, tCmgt, tCmle, tNu, tTs, tGf, tPf, tGs, tIal, tIas, tBal, tBas, tAln, tSv, tSc, tSb, tSl, tSk, tCv, tCs, tCt, tMx, tMn, wr_10000, wr_100000, wr_1000000, wr_10000000, wr_100000000, wr_2400, wr_9999, wr_0, wr_1, wr_2, wr_3, wr_4, wr_5, wr_6, wr_7, wr_8, wr_9, wr_10, wr_11, wr_12, wr_13, wr_14, wr_15, wr_16, wr_17, wr_18, wr_19, wr_20, wr_21, wr_22, wr_23, wr_24, wr_25, wr_26, wr_27, wr_28, wr_29, wr_30, wr_31, wr_32, wr_33, wr_34, wr_35, wr_36, wr_37, wr_38, wr_39, wr_40, wr_41, wr_42, wr_43, wr_44, wr_45, wr_46, wr_47, wr_48, wr_49, wr_50, wr_51, wr_52, wr_53, wr_54, wr_55, wr_56, wr_57, wr_58, wr_59, wr_60, wr_61, wr_62, wr_63, wr_99, wr_100, wr_192, wr_255, wr_256, wr_343, wr_999, wr_1000, wr_2401, wr_2147483647, wr_65535, wr_m1, wr_m2, wr_m3, wr_m4, wr_m9, ak_1000, ak_1001, ak_1002, ak_0, ak_1, ak_2, ak_3, ak_4, ak_5, ak_6, ak_7, ak_8, ak_9, ak_10, ak_11, ak_12, ak_13, ak_14, ak_15, ak_16, ak_17, ak_18, ak_19, ak_20, ak_21, ak_22, ak_23, ak_24, ak_25, ak_26, ak_27, ak_28, ak_29, ak_30, ak_31, ak_32, ak_33, ak_34, ak_35, ak_36, ak_37, ak_38, ak_39, ak_40, ak_41, ak_42, ak_43, ak_44, ak_45, ak_46, ak_47, h0, mo, q]
  exact rm_X6_apart h' (by omega)
/-- how often the least is reached, where first, the least -/
def crs (G : Int → Int) : List Int → Int × Int × Int → Int × Int × Int
  | [], q => q
  | a :: l, q => if G a < q.2.2 then crs G l (1, a, G a) else if G a = q.2.2 then crs G l (q.1 + 1, q.2.1, q.2.2) else crs G l q
/-- the orders among n codes from o on, as figures -/
def vo : Nat → Int → List Int
  | 0, _ => []
  | n + 1, o => if os o = 15 then to4 o :: vo n (o + 1) else vo n (o + 1)
def gq (r a : Int) : Int := gpe (gpi a (4 * r).toNat 0 (0, 0, 0, 0))
theorem gpe_rng {v : F4} {X : Int} (h : i4 0 X v) : 0 ≤ gpe v ∧ gpe v ≤ X := by
  obtain ⟨a, b, c, d⟩ := h
  unfold gpe mx mn
  (repeat' split) <;> omega
theorem gq_rng {r : Int} (hr : 1 ≤ r ∧ r ≤ 5) (a : Int) : 0 ≤ gq r a ∧ gq r a ≤ 80 := by
  have h := gpe_rng (gpi_rng a (4 * r).toNat 0 (0, 0, 0, 0) 0 ⟨⟨by decide, by decide⟩, ⟨by decide, by decide⟩, ⟨by decide, by decide⟩, ⟨by decide, by decide⟩⟩)
  unfold gq
  omega
def cr3 (w : Int) (q : Int × Int × Int) : Int := if w = 0 then q.1 else if w = 1 then q.2.1 else q.2.2
abbrev mi_X6_cross : Mi := (yX6_cross, cX6_cross, 8, some .int, 3)
theorem mf_X6_cross : am_mf mi_X6_cross 2 := ⟨w_co_X6_cross, w_in_X6, ⟨by decide +kernel, by decide +kernel⟩, by decide +kernel, by decide⟩
def tb_X6_cross : List (Nat × Tr) := [(0, tIld 1 1), (1, tI2l), (2, tLc 1 1), (3, tLc 5 3), (6, tCs 3 fn_X6_in), (9, tIfeq 24), (12, tIld 2 1), (13, tI2l), (14, tLc 0 1), (15, tLc 2 3), (18, tCs 3 fn_X6_in), (21, tIfne 27), (24, tIc (-2) 2), (27, tIc 0 1), (28, tIst 3 1), (29, tIc (-9) 2), (31, tIst 4 2), (33, tIc 999 3), (36, tIst 5 2), (38, tIc 0 1), (39, tIst 6 2), (41, tIld 6 2), (43, tIc 256 3), (46, tCmge 136), (49, tIld 6 2), (51, tIc 0 1), (52, tCs 2 fn_X6_ordered), (55, tIc (-9) 2), (57, tCmeq 130), (60, tAld 0 1), (61, tIld 1 1), (62, tIld 6 2), (64, tCv 6 2 fn_X6_apart), (67, tIst 7 2), (69, tIld 7 2), (71, tIld 5 2), (73, tCmge 80), (76, tIc 1 1), (77, tGo 94), (80, tIld 7 2), (82, tIld 5 2), (84, tCmne 93), (87, tIld 3 1), (88, tIc 1 1), (89, tI2 (fun a b => a + b)), (90, tGo 94), (93, tIld 3 1), (94, tIst 3 1), (95, tIld 7 2), (97, tIld 5 2), (99, tCmge 110), (102, tIld 6 2), (104, tCs 1 fn_X6_toldOrder), (107, tGo 112), (110, tIld 4 2), (112, tIst 4 2), (114, tIld 7 2), (116, tIld 5 2), (118, tCmge 126), (121, tIld 7 2), (123, tGo 128), (126, tIld 5 2), (128, tIst 5 2), (130, tIinc 6 1), (133, tGo 41), (136, tIld 2 1), (137, tIfne 144), (140, tIld 3 1), (141, tGo 156), (144, tIld 2 1), (145, tIc 1 1), (146, tCmne 154), (149, tIld 4 2), (151, tGo 156), (154, tIld 5 2)]
theorem ok_X6_cross : Tok mi_X6_cross tb_X6_cross :=
  Tc (sd_iload_n dX6_cross_0) <|
  Tc (sd_i2l dX6_cross_1) <|
  Tc (sd_lconst rfl dX6_cross_2) <|
  Tc (sd_ldc2 w_cl_X6_231 dX6_cross_3) <|
  Tc (sd_cs fok_X6_in mf_X6_in w_ml_X6_65 w_st_X6_in (by decide) dX6_cross_6) <|
  Tc (sd_if_eq (by decide) dX6_cross_9) <|
  Tc (sd_iload_n dX6_cross_12) <|
  Tc (sd_i2l dX6_cross_13) <|
  Tc (sd_lconst rfl dX6_cross_14) <|
  Tc (sd_ldc2 w_cl_X6_129 dX6_cross_15) <|
  Tc (sd_cs fok_X6_in mf_X6_in w_ml_X6_65 w_st_X6_in (by decide) dX6_cross_18) <|
  Tc (sd_if_ne (by decide) dX6_cross_21) <|
  Tc (sd_bipush (by decide +kernel) dX6_cross_24) <|
  Tc (sd_iconst rfl dX6_cross_27) <|
  Tc (sd_istore_n dX6_cross_28) <|
  Tc (sd_bipush (by decide +kernel) dX6_cross_29) <|
  Tc (sd_istore dX6_cross_31) <|
  Tc (sd_sipush (by decide +kernel) dX6_cross_33) <|
  Tc (sd_istore dX6_cross_36) <|
  Tc (sd_iconst rfl dX6_cross_38) <|
  Tc (sd_istore dX6_cross_39) <|
  Tc (sd_iload dX6_cross_41) <|
  Tc (sd_sipush (by decide +kernel) dX6_cross_43) <|
  Tc (sd_cm_ge (by decide) dX6_cross_46) <|
  Tc (sd_iload dX6_cross_49) <|
  Tc (sd_iconst rfl dX6_cross_51) <|
  Tc (sd_cs fok_X6_ordered mf_X6_ordered w_ml_X6_197 w_st_X6_ordered (by decide) dX6_cross_52) <|
  Tc (sd_bipush (by decide +kernel) dX6_cross_55) <|
  Tc (sd_cm_eq (by decide) dX6_cross_57) <|
  Tc (sd_aload_n dX6_cross_60) <|
  Tc (sd_iload_n dX6_cross_61) <|
  Tc (sd_iload dX6_cross_62) <|
  Tc (sd_cv (T := TX6) fok_X6_apart mf_X6_apart rfl w_ml_X6_233 w_im_X6_apart w_se_X6_apart (by decide) dX6_cross_64) <|
  Tc (sd_istore dX6_cross_67) <|
  Tc (sd_iload dX6_cross_69) <|
  Tc (sd_iload dX6_cross_71) <|
  Tc (sd_cm_ge (by decide) dX6_cross_73) <|
  Tc (sd_iconst rfl dX6_cross_76) <|
  Tc (sd_goto (by decide) dX6_cross_77) <|
  Tc (sd_iload dX6_cross_80) <|
  Tc (sd_iload dX6_cross_82) <|
  Tc (sd_cm_ne (by decide) dX6_cross_84) <|
  Tc (sd_iload_n dX6_cross_87) <|
  Tc (sd_iconst rfl dX6_cross_88) <|
  Tc (sd_iadd dX6_cross_89) <|
  Tc (sd_goto (by decide) dX6_cross_90) <|
  Tc (sd_iload_n dX6_cross_93) <|
  Tc (sd_istore_n dX6_cross_94) <|
  Tc (sd_iload dX6_cross_95) <|
  Tc (sd_iload dX6_cross_97) <|
  Tc (sd_cm_ge (by decide) dX6_cross_99) <|
  Tc (sd_iload dX6_cross_102) <|
  Tc (sd_cs fok_X6_toldOrder mf_X6_toldOrder w_ml_X6_204 w_st_X6_toldOrder (by decide) dX6_cross_104) <|
  Tc (sd_goto (by decide) dX6_cross_107) <|
  Tc (sd_iload dX6_cross_110) <|
  Tc (sd_istore dX6_cross_112) <|
  Tc (sd_iload dX6_cross_114) <|
  Tc (sd_iload dX6_cross_116) <|
  Tc (sd_cm_ge (by decide) dX6_cross_118) <|
  Tc (sd_iload dX6_cross_121) <|
  Tc (sd_goto (by decide) dX6_cross_123) <|
  Tc (sd_iload dX6_cross_126) <|
  Tc (sd_istore dX6_cross_128) <|
  Tc (sd_iinc dX6_cross_130) <|
  Tc (sd_goto (by decide) dX6_cross_133) <|
  Tc (sd_iload_n dX6_cross_136) <|
  Tc (sd_if_ne (by decide) dX6_cross_137) <|
  Tc (sd_iload_n dX6_cross_140) <|
  Tc (sd_goto (by decide) dX6_cross_141) <|
  Tc (sd_iload_n dX6_cross_144) <|
  Tc (sd_iconst rfl dX6_cross_145) <|
  Tc (sd_cm_ne (by decide) dX6_cross_146) <|
  Tc (sd_iload dX6_cross_149) <|
  Tc (sd_goto (by decide) dX6_cross_151) <|
  Tc (sd_iload dX6_cross_154) <|
  Tn
theorem rk_X6_cross : Rok mi_X6_cross rI [26, 156] := rk_i dX6_cross_26 <| rk_i dX6_cross_156 <| rk_n
def rx_X6_cross : Nat → Nat → AL → List AV → List AC → Option (Option AV × List AC) := am_r tb_X6_cross rI [26, 156]
theorem rs_X6_cross_0 (n : Nat) (L : AL) (st : List AV) (M : List AC) : rx_X6_cross (n + 1) 0 L st M = am_j (rx_X6_cross n) ((tIld 1 1) 0 L st M) := rfl
theorem rs_X6_cross_1 (n : Nat) (L : AL) (st : List AV) (M : List AC) : rx_X6_cross (n + 1) 1 L st M = am_j (rx_X6_cross n) (tI2l 1 L st M) := rfl
theorem rs_X6_cross_2 (n : Nat) (L : AL) (st : List AV) (M : List AC) : rx_X6_cross (n + 1) 2 L st M = am_j (rx_X6_cross n) ((tLc 1 1) 2 L st M) := rfl
theorem rs_X6_cross_3 (n : Nat) (L : AL) (st : List AV) (M : List AC) : rx_X6_cross (n + 1) 3 L st M = am_j (rx_X6_cross n) ((tLc 5 3) 3 L st M) := rfl
theorem rs_X6_cross_6 (n : Nat) (L : AL) (st : List AV) (M : List AC) : rx_X6_cross (n + 1) 6 L st M = am_j (rx_X6_cross n) ((tCs 3 fn_X6_in) 6 L st M) := rfl
theorem rs_X6_cross_9 (n : Nat) (L : AL) (st : List AV) (M : List AC) : rx_X6_cross (n + 1) 9 L st M = am_j (rx_X6_cross n) ((tIfeq 24) 9 L st M) := rfl
theorem rs_X6_cross_12 (n : Nat) (L : AL) (st : List AV) (M : List AC) : rx_X6_cross (n + 1) 12 L st M = am_j (rx_X6_cross n) ((tIld 2 1) 12 L st M) := rfl
theorem rs_X6_cross_13 (n : Nat) (L : AL) (st : List AV) (M : List AC) : rx_X6_cross (n + 1) 13 L st M = am_j (rx_X6_cross n) (tI2l 13 L st M) := rfl
theorem rs_X6_cross_14 (n : Nat) (L : AL) (st : List AV) (M : List AC) : rx_X6_cross (n + 1) 14 L st M = am_j (rx_X6_cross n) ((tLc 0 1) 14 L st M) := rfl
theorem rs_X6_cross_15 (n : Nat) (L : AL) (st : List AV) (M : List AC) : rx_X6_cross (n + 1) 15 L st M = am_j (rx_X6_cross n) ((tLc 2 3) 15 L st M) := rfl
theorem rs_X6_cross_18 (n : Nat) (L : AL) (st : List AV) (M : List AC) : rx_X6_cross (n + 1) 18 L st M = am_j (rx_X6_cross n) ((tCs 3 fn_X6_in) 18 L st M) := rfl
theorem rs_X6_cross_21 (n : Nat) (L : AL) (st : List AV) (M : List AC) : rx_X6_cross (n + 1) 21 L st M = am_j (rx_X6_cross n) ((tIfne 27) 21 L st M) := rfl
theorem rs_X6_cross_24 (n : Nat) (L : AL) (st : List AV) (M : List AC) : rx_X6_cross (n + 1) 24 L st M = am_j (rx_X6_cross n) ((tIc (-2) 2) 24 L st M) := rfl
theorem rs_X6_cross_27 (n : Nat) (L : AL) (st : List AV) (M : List AC) : rx_X6_cross (n + 1) 27 L st M = am_j (rx_X6_cross n) ((tIc 0 1) 27 L st M) := rfl
theorem rs_X6_cross_28 (n : Nat) (L : AL) (st : List AV) (M : List AC) : rx_X6_cross (n + 1) 28 L st M = am_j (rx_X6_cross n) ((tIst 3 1) 28 L st M) := rfl
theorem rs_X6_cross_29 (n : Nat) (L : AL) (st : List AV) (M : List AC) : rx_X6_cross (n + 1) 29 L st M = am_j (rx_X6_cross n) ((tIc (-9) 2) 29 L st M) := rfl
theorem rs_X6_cross_31 (n : Nat) (L : AL) (st : List AV) (M : List AC) : rx_X6_cross (n + 1) 31 L st M = am_j (rx_X6_cross n) ((tIst 4 2) 31 L st M) := rfl
theorem rs_X6_cross_33 (n : Nat) (L : AL) (st : List AV) (M : List AC) : rx_X6_cross (n + 1) 33 L st M = am_j (rx_X6_cross n) ((tIc 999 3) 33 L st M) := rfl
theorem rs_X6_cross_36 (n : Nat) (L : AL) (st : List AV) (M : List AC) : rx_X6_cross (n + 1) 36 L st M = am_j (rx_X6_cross n) ((tIst 5 2) 36 L st M) := rfl
theorem rs_X6_cross_38 (n : Nat) (L : AL) (st : List AV) (M : List AC) : rx_X6_cross (n + 1) 38 L st M = am_j (rx_X6_cross n) ((tIc 0 1) 38 L st M) := rfl
theorem rs_X6_cross_39 (n : Nat) (L : AL) (st : List AV) (M : List AC) : rx_X6_cross (n + 1) 39 L st M = am_j (rx_X6_cross n) ((tIst 6 2) 39 L st M) := rfl
theorem rs_X6_cross_41 (n : Nat) (L : AL) (st : List AV) (M : List AC) : rx_X6_cross (n + 1) 41 L st M = am_j (rx_X6_cross n) ((tIld 6 2) 41 L st M) := rfl
theorem rs_X6_cross_43 (n : Nat) (L : AL) (st : List AV) (M : List AC) : rx_X6_cross (n + 1) 43 L st M = am_j (rx_X6_cross n) ((tIc 256 3) 43 L st M) := rfl
theorem rs_X6_cross_46 (n : Nat) (L : AL) (st : List AV) (M : List AC) : rx_X6_cross (n + 1) 46 L st M = am_j (rx_X6_cross n) ((tCmge 136) 46 L st M) := rfl
theorem rs_X6_cross_49 (n : Nat) (L : AL) (st : List AV) (M : List AC) : rx_X6_cross (n + 1) 49 L st M = am_j (rx_X6_cross n) ((tIld 6 2) 49 L st M) := rfl
theorem rs_X6_cross_51 (n : Nat) (L : AL) (st : List AV) (M : List AC) : rx_X6_cross (n + 1) 51 L st M = am_j (rx_X6_cross n) ((tIc 0 1) 51 L st M) := rfl
theorem rs_X6_cross_52 (n : Nat) (L : AL) (st : List AV) (M : List AC) : rx_X6_cross (n + 1) 52 L st M = am_j (rx_X6_cross n) ((tCs 2 fn_X6_ordered) 52 L st M) := rfl
theorem rs_X6_cross_55 (n : Nat) (L : AL) (st : List AV) (M : List AC) : rx_X6_cross (n + 1) 55 L st M = am_j (rx_X6_cross n) ((tIc (-9) 2) 55 L st M) := rfl
theorem rs_X6_cross_57 (n : Nat) (L : AL) (st : List AV) (M : List AC) : rx_X6_cross (n + 1) 57 L st M = am_j (rx_X6_cross n) ((tCmeq 130) 57 L st M) := rfl
theorem rs_X6_cross_60 (n : Nat) (L : AL) (st : List AV) (M : List AC) : rx_X6_cross (n + 1) 60 L st M = am_j (rx_X6_cross n) ((tAld 0 1) 60 L st M) := rfl
theorem rs_X6_cross_61 (n : Nat) (L : AL) (st : List AV) (M : List AC) : rx_X6_cross (n + 1) 61 L st M = am_j (rx_X6_cross n) ((tIld 1 1) 61 L st M) := rfl
theorem rs_X6_cross_62 (n : Nat) (L : AL) (st : List AV) (M : List AC) : rx_X6_cross (n + 1) 62 L st M = am_j (rx_X6_cross n) ((tIld 6 2) 62 L st M) := rfl
theorem rs_X6_cross_64 (n : Nat) (L : AL) (st : List AV) (M : List AC) : rx_X6_cross (n + 1) 64 L st M = am_j (rx_X6_cross n) ((tCv 6 2 fn_X6_apart) 64 L st M) := rfl
theorem rs_X6_cross_67 (n : Nat) (L : AL) (st : List AV) (M : List AC) : rx_X6_cross (n + 1) 67 L st M = am_j (rx_X6_cross n) ((tIst 7 2) 67 L st M) := rfl
theorem rs_X6_cross_69 (n : Nat) (L : AL) (st : List AV) (M : List AC) : rx_X6_cross (n + 1) 69 L st M = am_j (rx_X6_cross n) ((tIld 7 2) 69 L st M) := rfl
theorem rs_X6_cross_71 (n : Nat) (L : AL) (st : List AV) (M : List AC) : rx_X6_cross (n + 1) 71 L st M = am_j (rx_X6_cross n) ((tIld 5 2) 71 L st M) := rfl
theorem rs_X6_cross_73 (n : Nat) (L : AL) (st : List AV) (M : List AC) : rx_X6_cross (n + 1) 73 L st M = am_j (rx_X6_cross n) ((tCmge 80) 73 L st M) := rfl
theorem rs_X6_cross_76 (n : Nat) (L : AL) (st : List AV) (M : List AC) : rx_X6_cross (n + 1) 76 L st M = am_j (rx_X6_cross n) ((tIc 1 1) 76 L st M) := rfl
theorem rs_X6_cross_77 (n : Nat) (L : AL) (st : List AV) (M : List AC) : rx_X6_cross (n + 1) 77 L st M = am_j (rx_X6_cross n) ((tGo 94) 77 L st M) := rfl
theorem rs_X6_cross_80 (n : Nat) (L : AL) (st : List AV) (M : List AC) : rx_X6_cross (n + 1) 80 L st M = am_j (rx_X6_cross n) ((tIld 7 2) 80 L st M) := rfl
theorem rs_X6_cross_82 (n : Nat) (L : AL) (st : List AV) (M : List AC) : rx_X6_cross (n + 1) 82 L st M = am_j (rx_X6_cross n) ((tIld 5 2) 82 L st M) := rfl
theorem rs_X6_cross_84 (n : Nat) (L : AL) (st : List AV) (M : List AC) : rx_X6_cross (n + 1) 84 L st M = am_j (rx_X6_cross n) ((tCmne 93) 84 L st M) := rfl
theorem rs_X6_cross_87 (n : Nat) (L : AL) (st : List AV) (M : List AC) : rx_X6_cross (n + 1) 87 L st M = am_j (rx_X6_cross n) ((tIld 3 1) 87 L st M) := rfl
theorem rs_X6_cross_88 (n : Nat) (L : AL) (st : List AV) (M : List AC) : rx_X6_cross (n + 1) 88 L st M = am_j (rx_X6_cross n) ((tIc 1 1) 88 L st M) := rfl
theorem rs_X6_cross_89 (n : Nat) (L : AL) (st : List AV) (M : List AC) : rx_X6_cross (n + 1) 89 L st M = am_j (rx_X6_cross n) ((tI2 (fun a b => a + b)) 89 L st M) := rfl
theorem rs_X6_cross_90 (n : Nat) (L : AL) (st : List AV) (M : List AC) : rx_X6_cross (n + 1) 90 L st M = am_j (rx_X6_cross n) ((tGo 94) 90 L st M) := rfl
theorem rs_X6_cross_93 (n : Nat) (L : AL) (st : List AV) (M : List AC) : rx_X6_cross (n + 1) 93 L st M = am_j (rx_X6_cross n) ((tIld 3 1) 93 L st M) := rfl
theorem rs_X6_cross_94 (n : Nat) (L : AL) (st : List AV) (M : List AC) : rx_X6_cross (n + 1) 94 L st M = am_j (rx_X6_cross n) ((tIst 3 1) 94 L st M) := rfl
theorem rs_X6_cross_95 (n : Nat) (L : AL) (st : List AV) (M : List AC) : rx_X6_cross (n + 1) 95 L st M = am_j (rx_X6_cross n) ((tIld 7 2) 95 L st M) := rfl
theorem rs_X6_cross_97 (n : Nat) (L : AL) (st : List AV) (M : List AC) : rx_X6_cross (n + 1) 97 L st M = am_j (rx_X6_cross n) ((tIld 5 2) 97 L st M) := rfl
theorem rs_X6_cross_99 (n : Nat) (L : AL) (st : List AV) (M : List AC) : rx_X6_cross (n + 1) 99 L st M = am_j (rx_X6_cross n) ((tCmge 110) 99 L st M) := rfl
theorem rs_X6_cross_102 (n : Nat) (L : AL) (st : List AV) (M : List AC) : rx_X6_cross (n + 1) 102 L st M = am_j (rx_X6_cross n) ((tIld 6 2) 102 L st M) := rfl
theorem rs_X6_cross_104 (n : Nat) (L : AL) (st : List AV) (M : List AC) : rx_X6_cross (n + 1) 104 L st M = am_j (rx_X6_cross n) ((tCs 1 fn_X6_toldOrder) 104 L st M) := rfl
theorem rs_X6_cross_107 (n : Nat) (L : AL) (st : List AV) (M : List AC) : rx_X6_cross (n + 1) 107 L st M = am_j (rx_X6_cross n) ((tGo 112) 107 L st M) := rfl
theorem rs_X6_cross_110 (n : Nat) (L : AL) (st : List AV) (M : List AC) : rx_X6_cross (n + 1) 110 L st M = am_j (rx_X6_cross n) ((tIld 4 2) 110 L st M) := rfl
theorem rs_X6_cross_112 (n : Nat) (L : AL) (st : List AV) (M : List AC) : rx_X6_cross (n + 1) 112 L st M = am_j (rx_X6_cross n) ((tIst 4 2) 112 L st M) := rfl
theorem rs_X6_cross_114 (n : Nat) (L : AL) (st : List AV) (M : List AC) : rx_X6_cross (n + 1) 114 L st M = am_j (rx_X6_cross n) ((tIld 7 2) 114 L st M) := rfl
theorem rs_X6_cross_116 (n : Nat) (L : AL) (st : List AV) (M : List AC) : rx_X6_cross (n + 1) 116 L st M = am_j (rx_X6_cross n) ((tIld 5 2) 116 L st M) := rfl
theorem rs_X6_cross_118 (n : Nat) (L : AL) (st : List AV) (M : List AC) : rx_X6_cross (n + 1) 118 L st M = am_j (rx_X6_cross n) ((tCmge 126) 118 L st M) := rfl
theorem rs_X6_cross_121 (n : Nat) (L : AL) (st : List AV) (M : List AC) : rx_X6_cross (n + 1) 121 L st M = am_j (rx_X6_cross n) ((tIld 7 2) 121 L st M) := rfl
theorem rs_X6_cross_123 (n : Nat) (L : AL) (st : List AV) (M : List AC) : rx_X6_cross (n + 1) 123 L st M = am_j (rx_X6_cross n) ((tGo 128) 123 L st M) := rfl
theorem rs_X6_cross_126 (n : Nat) (L : AL) (st : List AV) (M : List AC) : rx_X6_cross (n + 1) 126 L st M = am_j (rx_X6_cross n) ((tIld 5 2) 126 L st M) := rfl
theorem rs_X6_cross_128 (n : Nat) (L : AL) (st : List AV) (M : List AC) : rx_X6_cross (n + 1) 128 L st M = am_j (rx_X6_cross n) ((tIst 5 2) 128 L st M) := rfl
theorem rs_X6_cross_130 (n : Nat) (L : AL) (st : List AV) (M : List AC) : rx_X6_cross (n + 1) 130 L st M = am_j (rx_X6_cross n) ((tIinc 6 1) 130 L st M) := rfl
theorem rs_X6_cross_133 (n : Nat) (L : AL) (st : List AV) (M : List AC) : rx_X6_cross (n + 1) 133 L st M = am_j (rx_X6_cross n) ((tGo 41) 133 L st M) := rfl
theorem rs_X6_cross_136 (n : Nat) (L : AL) (st : List AV) (M : List AC) : rx_X6_cross (n + 1) 136 L st M = am_j (rx_X6_cross n) ((tIld 2 1) 136 L st M) := rfl
theorem rs_X6_cross_137 (n : Nat) (L : AL) (st : List AV) (M : List AC) : rx_X6_cross (n + 1) 137 L st M = am_j (rx_X6_cross n) ((tIfne 144) 137 L st M) := rfl
theorem rs_X6_cross_140 (n : Nat) (L : AL) (st : List AV) (M : List AC) : rx_X6_cross (n + 1) 140 L st M = am_j (rx_X6_cross n) ((tIld 3 1) 140 L st M) := rfl
theorem rs_X6_cross_141 (n : Nat) (L : AL) (st : List AV) (M : List AC) : rx_X6_cross (n + 1) 141 L st M = am_j (rx_X6_cross n) ((tGo 156) 141 L st M) := rfl
theorem rs_X6_cross_144 (n : Nat) (L : AL) (st : List AV) (M : List AC) : rx_X6_cross (n + 1) 144 L st M = am_j (rx_X6_cross n) ((tIld 2 1) 144 L st M) := rfl
theorem rs_X6_cross_145 (n : Nat) (L : AL) (st : List AV) (M : List AC) : rx_X6_cross (n + 1) 145 L st M = am_j (rx_X6_cross n) ((tIc 1 1) 145 L st M) := rfl
theorem rs_X6_cross_146 (n : Nat) (L : AL) (st : List AV) (M : List AC) : rx_X6_cross (n + 1) 146 L st M = am_j (rx_X6_cross n) ((tCmne 154) 146 L st M) := rfl
theorem rs_X6_cross_149 (n : Nat) (L : AL) (st : List AV) (M : List AC) : rx_X6_cross (n + 1) 149 L st M = am_j (rx_X6_cross n) ((tIld 4 2) 149 L st M) := rfl
theorem rs_X6_cross_151 (n : Nat) (L : AL) (st : List AV) (M : List AC) : rx_X6_cross (n + 1) 151 L st M = am_j (rx_X6_cross n) ((tGo 156) 151 L st M) := rfl
theorem rs_X6_cross_154 (n : Nat) (L : AL) (st : List AV) (M : List AC) : rx_X6_cross (n + 1) 154 L st M = am_j (rx_X6_cross n) ((tIld 5 2) 154 L st M) := rfl
theorem rs_X6_cross_26 (n : Nat) (L : AL) (st : List AV) (M : List AC) : rx_X6_cross (n + 1) 26 L st M = am_e rI st M := rfl
theorem rs_X6_cross_156 (n : Nat) (L : AL) (st : List AV) (M : List AC) : rx_X6_cross (n + 1) 156 L st M = am_e rI st M := rfl
theorem ri_X6_cross (c : Prop) [Decidable c] (p q n : Nat) (L : AL) (st : List AV) (M : List AC) : rx_X6_cross n (if c then p else q) L st M = if c then rx_X6_cross n p L st M else rx_X6_cross n q L st M := by split <;> rfl
theorem rm_X6_cross {n k pc : Nat} {L : AL} {st : List AV} {M : List AC} {x : Option AV × List AC} (h : rx_X6_cross n pc L st M = some x) (hk : n ≤ k) : rx_X6_cross k pc L st M = some x := am_r_mono n k h hk
def fn_X6_cross : Fn := am_fn rx_X6_cross 8
theorem fok_X6_cross : Fok mi_X6_cross fn_X6_cross := fun _ _ _ _ h => am_fok ok_X6_cross rk_X6_cross rfl h
theorem lp_X6_cross {st lk len ac nx rf lr en lm r w : Int} {sd : Int64} (hr : 1 ≤ r ∧ r ≤ 5) (hw : 0 ≤ w ∧ w ≤ 2) : ∀ (n : Nat) (o a b c : Int) (v : F4) (M : List AC) (x7 : Option AV), M[26]? = some (mo st lk len ac nx rf lr en lm sd) → M[40]? = some (aI (l4 v)) → o + n = 256 → 0 ≤ o → 0 ≤ c ∧ c ≤ 999 →
    ∃ v1 : F4, Ru rx_X6_cross (80 * n + 20) 41 [some (vR 26), some (vI r), some (vI w), some (vI a), some (vI b), some (vI c), some (vI o), x7] [] M (some (vI (cr3 w (crs (gq r) (vo n o) (a, b, c)))), M.set 40 (aI (l4 v1)))
  | 0, o, a, b, c, v, M, x7, h0, h40, ho, ho0, hc => by
    have e1 : o = 256 := by omega
    subst e1
    refine ⟨v, 19 + 1, by omega, ?_⟩
    rw [rs_X6_cross_41, set_same h40]
    simp only [vo, crs, cr3]
    obtain rfl | rfl | rfl : w = 0 ∨ w = 1 ∨ w = 2 := by omega
    all_goals simp [↓ri_X6_cross, rs_X6_cross_0, rs_X6_cross_1, rs_X6_cross_2, rs_X6_cross_3, rs_X6_cross_6, rs_X6_cross_9, rs_X6_cross_12, rs_X6_cross_13, rs_X6_cross_14, rs_X6_cross_15, rs_X6_cross_18, rs_X6_cross_21, rs_X6_cross_24, rs_X6_cross_27, rs_X6_cross_28, rs_X6_cross_29, rs_X6_cross_31, rs_X6_cross_33, rs_X6_cross_36, rs_X6_cross_38, rs_X6_cross_39, rs_X6_cross_43, rs_X6_cross_46, rs_X6_cross_49, rs_X6_cross_51, rs_X6_cross_52, rs_X6_cross_55, rs_X6_cross_57, rs_X6_cross_60, rs_X6_cross_61, rs_X6_cross_62, rs_X6_cross_64, rs_X6_cross_67, rs_X6_cross_69, rs_X6_cross_71, rs_X6_cross_73, rs_X6_cross_76, rs_X6_cross_77, rs_X6_cross_80, rs_X6_cross_82, rs_X6_cross_84, rs_X6_cross_87, rs_X6_cross_88, rs_X6_cross_89, rs_X6_cross_90, rs_X6_cross_93, rs_X6_cross_94, rs_X6_cross_95, rs_X6_cross_97, rs_X6_cross_99, rs_X6_cross_102, rs_X6_cross_104, rs_X6_cross_107, rs_X6_cross_110, rs_X6_cross_112, rs_X6_cross_114, rs_X6_cross_116, rs_X6_cross_118, rs_X6_cross_121, rs_X6_cross_123, rs_X6_cross_126, rs_X6_cross_128, rs_X6_cross_130, rs_X6_cross_133, rs_X6_cross_136, rs_X6_cross_137, rs_X6_cross_140, rs_X6_cross_141, rs_X6_cross_144, rs_X6_cross_145, rs_X6_cross_146, rs_X6_cross_149, rs_X6_cross_151, rs_X6_cross_154, rs_X6_cross_26, rs_X6_cross_156, -List.getElem?_eq_getElem, am_js, am_e, am_in, am_sl, rI, rZ, rV, rJ, rA, rC, kI, kJ, kR, am_one, am_nl, am_w8, tIc, tLc, tNul, tIld, tLld, tAld, tIst, tLst, tAst, tIinc, tI2, tDv, tL2, tLrem, tLs, tLcmp, tI2l, tL2i, tI2c, tDup, tDup2, tPop, tGo, tIfeq, tIfne, tIflt, tIfge, tIfgt, tIfle, tCmeq, tCmne, tCmlt, tCmge, tCmgt, tCmle, tNu, tTs, tGf, tPf, tGs, tIal, tIas, tBal, tBas, tAln, tSv, tSc, tSb, tSl, tSk, tCv, tCs, tCt, tMx, tMn, wr_10000, wr_100000, wr_1000000, wr_10000000, wr_100000000, wr_2400, wr_9999, wr_0, wr_1, wr_2, wr_3, wr_4, wr_5, wr_6, wr_7, wr_8, wr_9, wr_10, wr_11, wr_12, wr_13, wr_14, wr_15, wr_16, wr_17, wr_18, wr_19, wr_20, wr_21, wr_22, wr_23, wr_24, wr_25, wr_26, wr_27, wr_28, wr_29, wr_30, wr_31, wr_32, wr_33, wr_34, wr_35, wr_36, wr_37, wr_38, wr_39, wr_40, wr_41, wr_42, wr_43, wr_44, wr_45, wr_46, wr_47, wr_48, wr_49, wr_50, wr_51, wr_52, wr_53, wr_54, wr_55, wr_56, wr_57, wr_58, wr_59, wr_60, wr_61, wr_62, wr_63, wr_99, wr_100, wr_192, wr_255, wr_256, wr_343, wr_999, wr_1000, wr_2401, wr_2147483647, wr_65535, wr_m1, wr_m2, wr_m3, wr_m4, wr_m9, ak_1000, ak_1001, ak_1002, ak_0, ak_1, ak_2, ak_3, ak_4, ak_5, ak_6, ak_7, ak_8, ak_9, ak_10, ak_11, ak_12, ak_13, ak_14, ak_15, ak_16, ak_17, ak_18, ak_19, ak_20, ak_21, ak_22, ak_23, ak_24, ak_25, ak_26, ak_27, ak_28, ak_29, ak_30, ak_31, ak_32, ak_33, ak_34, ak_35, ak_36, ak_37, ak_38, ak_39, ak_40, ak_41, ak_42, ak_43, ak_44, ak_45, ak_46, ak_47]
  | n + 1, o, a, b, c, v, M, x7, h0, h40, ho, ho0, hc => by
    have wo : wr o = o := wr_id (by omega) (by omega)
    have wc : wr c = c := wr_id (by omega) (by omega)
    have no : ¬ 256 ≤ o := by omega
    have q1 := sp_X6_ordered o 0 (by omega) M
    rw [vo]
    by_cases hso : os o = 15
    · rw [if_pos hso] at q1 ⊢
      change fn_X6_ordered [vI o, vI 0] M = some (some (vI (c6 o 0)), M) at q1
      obtain ⟨hc6, -⟩ := c6_e ⟨ho0, by omega⟩ hso (k := 0) (by omega)
      generalize c6 o 0 = c0 at q1 hc6
      have wc0 : wr c0 = c0 := wr_id (by omega) (by omega)
      have nc0 : ¬ c0 = -9 := by omega
      have q2 := sp_X6_apart h0 h40 o r ⟨ho0, by omega⟩ hso hr
      have hq := gq_rng hr (to4 o)
      have qt := sp_X6_toldOrder o
      rw [crs]
      change fn_X6_apart [vR 26, vI r, vI o] M = some (some (vI (gq r (to4 o))), _) at q2
      generalize gpi (to4 o) (4 * r).toNat 0 (0, 0, 0, 0) = R at q2
      generalize gq r (to4 o) = z at q2 hq ⊢
      have wz' : wr z = z := wr_id (by omega) (by omega)
      by_cases h1 : z < c
      · rw [if_pos h1]
        have n1 : ¬ c ≤ z := by omega
        obtain ⟨v1, k, hk, h⟩ := lp_X6_cross (st := st) (lk := lk) (len := len) (ac := ac) (nx := nx) (rf := rf) (lr := lr) (en := en) (lm := lm) (sd := sd) hr hw n (o + 1) 1 (to4 o) z R (M.set 40 (aI (l4 R))) (some (vI z)) (by simp [-List.getElem?_eq_getElem, h0, gs h0]) (by simp [-List.getElem?_eq_getElem, h40, gs h40]) (by omega) (by omega) (by omega)
        generalize cr3 w (crs (gq r) (vo n (o + 1)) (1, to4 o, z)) = T at h ⊢
        rw [List.set_set] at h
        refine ⟨v1, k + 79 + 1, by omega, ?_⟩
        rw [rs_X6_cross_41]
        simp [↓ri_X6_cross, rs_X6_cross_0, rs_X6_cross_1, rs_X6_cross_2, rs_X6_cross_3, rs_X6_cross_6, rs_X6_cross_9, rs_X6_cross_12, rs_X6_cross_13, rs_X6_cross_14, rs_X6_cross_15, rs_X6_cross_18, rs_X6_cross_21, rs_X6_cross_24, rs_X6_cross_27, rs_X6_cross_28, rs_X6_cross_29, rs_X6_cross_31, rs_X6_cross_33, rs_X6_cross_36, rs_X6_cross_38, rs_X6_cross_39, rs_X6_cross_43, rs_X6_cross_46, rs_X6_cross_49, rs_X6_cross_51, rs_X6_cross_52, rs_X6_cross_55, rs_X6_cross_57, rs_X6_cross_60, rs_X6_cross_61, rs_X6_cross_62, rs_X6_cross_64, rs_X6_cross_67, rs_X6_cross_69, rs_X6_cross_71, rs_X6_cross_73, rs_X6_cross_76, rs_X6_cross_77, rs_X6_cross_80, rs_X6_cross_82, rs_X6_cross_84, rs_X6_cross_87, rs_X6_cross_88, rs_X6_cross_89, rs_X6_cross_90, rs_X6_cross_93, rs_X6_cross_94, rs_X6_cross_95, rs_X6_cross_97, rs_X6_cross_99, rs_X6_cross_102, rs_X6_cross_104, rs_X6_cross_107, rs_X6_cross_110, rs_X6_cross_112, rs_X6_cross_114, rs_X6_cross_116, rs_X6_cross_118, rs_X6_cross_121, rs_X6_cross_123, rs_X6_cross_126, rs_X6_cross_128, rs_X6_cross_130, rs_X6_cross_133, rs_X6_cross_136, rs_X6_cross_137, rs_X6_cross_140, rs_X6_cross_141, rs_X6_cross_144, rs_X6_cross_145, rs_X6_cross_146, rs_X6_cross_149, rs_X6_cross_151, rs_X6_cross_154, rs_X6_cross_26, rs_X6_cross_156, -List.getElem?_eq_getElem, am_js, am_e, am_in, am_sl, rI, rZ, rV, rJ, rA, rC, kI, kJ, kR, am_one, am_nl, am_w8, tIc, tLc, tNul, tIld, tLld, tAld, tIst, tLst, tAst, tIinc, tI2, tDv, tL2, tLrem, tLs, tLcmp, tI2l, tL2i, tI2c, tDup, tDup2, tPop, tGo, tIfeq, tIfne, tIflt, tIfge, tIfgt, tIfle, tCmeq, tCmne, tCmlt, tCmge, tCmgt, tCmle, tNu, tTs, tGf, tPf, tGs, tIal, tIas, tBal, tBas, tAln, tSv, tSc, tSb, tSl, tSk, tCv, tCs, tCt, tMx, tMn, wr_10000, wr_100000, wr_1000000, wr_10000000, wr_100000000, wr_2400, wr_9999, wr_0, wr_1, wr_2, wr_3, wr_4, wr_5, wr_6, wr_7, wr_8, wr_9, wr_10, wr_11, wr_12, wr_13, wr_14, wr_15, wr_16, wr_17, wr_18, wr_19, wr_20, wr_21, wr_22, wr_23, wr_24, wr_25, wr_26, wr_27, wr_28, wr_29, wr_30, wr_31, wr_32, wr_33, wr_34, wr_35, wr_36, wr_37, wr_38, wr_39, wr_40, wr_41, wr_42, wr_43, wr_44, wr_45, wr_46, wr_47, wr_48, wr_49, wr_50, wr_51, wr_52, wr_53, wr_54, wr_55, wr_56, wr_57, wr_58, wr_59, wr_60, wr_61, wr_62, wr_63, wr_99, wr_100, wr_192, wr_255, wr_256, wr_343, wr_999, wr_1000, wr_2401, wr_2147483647, wr_65535, wr_m1, wr_m2, wr_m3, wr_m4, wr_m9, ak_1000, ak_1001, ak_1002, ak_0, ak_1, ak_2, ak_3, ak_4, ak_5, ak_6, ak_7, ak_8, ak_9, ak_10, ak_11, ak_12, ak_13, ak_14, ak_15, ak_16, ak_17, ak_18, ak_19, ak_20, ak_21, ak_22, ak_23, ak_24, ak_25, ak_26, ak_27, ak_28, ak_29, ak_30, ak_31, ak_32, ak_33, ak_34, ak_35, ak_36, ak_37, ak_38, ak_39, ak_40, ak_41, ak_42, ak_43, ak_44, ak_45, ak_46, ak_47, h0, mo, wo, wc, no, q1, wc0, nc0, q2, wz', n1, h1, qt]
        exact rm_X6_cross h (by omega)
      · rw [if_neg h1]
        have n1 : c ≤ z := by omega
        by_cases h2 : z = c
        · rw [if_pos h2]
          obtain ⟨v1, k, hk, h⟩ := lp_X6_cross (st := st) (lk := lk) (len := len) (ac := ac) (nx := nx) (rf := rf) (lr := lr) (en := en) (lm := lm) (sd := sd) hr hw n (o + 1) (a + 1) b c R (M.set 40 (aI (l4 R))) (some (vI z)) (by simp [-List.getElem?_eq_getElem, h0, gs h0]) (by simp [-List.getElem?_eq_getElem, h40, gs h40]) (by omega) (by omega) (by omega)
          generalize cr3 w (crs (gq r) (vo n (o + 1)) (a + 1, b, c)) = T at h ⊢
          rw [List.set_set] at h
          refine ⟨v1, k + 79 + 1, by omega, ?_⟩
          rw [rs_X6_cross_41]
          subst h2
          simp [↓ri_X6_cross, rs_X6_cross_0, rs_X6_cross_1, rs_X6_cross_2, rs_X6_cross_3, rs_X6_cross_6, rs_X6_cross_9, rs_X6_cross_12, rs_X6_cross_13, rs_X6_cross_14, rs_X6_cross_15, rs_X6_cross_18, rs_X6_cross_21, rs_X6_cross_24, rs_X6_cross_27, rs_X6_cross_28, rs_X6_cross_29, rs_X6_cross_31, rs_X6_cross_33, rs_X6_cross_36, rs_X6_cross_38, rs_X6_cross_39, rs_X6_cross_43, rs_X6_cross_46, rs_X6_cross_49, rs_X6_cross_51, rs_X6_cross_52, rs_X6_cross_55, rs_X6_cross_57, rs_X6_cross_60, rs_X6_cross_61, rs_X6_cross_62, rs_X6_cross_64, rs_X6_cross_67, rs_X6_cross_69, rs_X6_cross_71, rs_X6_cross_73, rs_X6_cross_76, rs_X6_cross_77, rs_X6_cross_80, rs_X6_cross_82, rs_X6_cross_84, rs_X6_cross_87, rs_X6_cross_88, rs_X6_cross_89, rs_X6_cross_90, rs_X6_cross_93, rs_X6_cross_94, rs_X6_cross_95, rs_X6_cross_97, rs_X6_cross_99, rs_X6_cross_102, rs_X6_cross_104, rs_X6_cross_107, rs_X6_cross_110, rs_X6_cross_112, rs_X6_cross_114, rs_X6_cross_116, rs_X6_cross_118, rs_X6_cross_121, rs_X6_cross_123, rs_X6_cross_126, rs_X6_cross_128, rs_X6_cross_130, rs_X6_cross_133, rs_X6_cross_136, rs_X6_cross_137, rs_X6_cross_140, rs_X6_cross_141, rs_X6_cross_144, rs_X6_cross_145, rs_X6_cross_146, rs_X6_cross_149, rs_X6_cross_151, rs_X6_cross_154, rs_X6_cross_26, rs_X6_cross_156, -List.getElem?_eq_getElem, am_js, am_e, am_in, am_sl, rI, rZ, rV, rJ, rA, rC, kI, kJ, kR, am_one, am_nl, am_w8, tIc, tLc, tNul, tIld, tLld, tAld, tIst, tLst, tAst, tIinc, tI2, tDv, tL2, tLrem, tLs, tLcmp, tI2l, tL2i, tI2c, tDup, tDup2, tPop, tGo, tIfeq, tIfne, tIflt, tIfge, tIfgt, tIfle, tCmeq, tCmne, tCmlt, tCmge, tCmgt, tCmle, tNu, tTs, tGf, tPf, tGs, tIal, tIas, tBal, tBas, tAln, tSv, tSc, tSb, tSl, tSk, tCv, tCs, tCt, tMx, tMn, wr_10000, wr_100000, wr_1000000, wr_10000000, wr_100000000, wr_2400, wr_9999, wr_0, wr_1, wr_2, wr_3, wr_4, wr_5, wr_6, wr_7, wr_8, wr_9, wr_10, wr_11, wr_12, wr_13, wr_14, wr_15, wr_16, wr_17, wr_18, wr_19, wr_20, wr_21, wr_22, wr_23, wr_24, wr_25, wr_26, wr_27, wr_28, wr_29, wr_30, wr_31, wr_32, wr_33, wr_34, wr_35, wr_36, wr_37, wr_38, wr_39, wr_40, wr_41, wr_42, wr_43, wr_44, wr_45, wr_46, wr_47, wr_48, wr_49, wr_50, wr_51, wr_52, wr_53, wr_54, wr_55, wr_56, wr_57, wr_58, wr_59, wr_60, wr_61, wr_62, wr_63, wr_99, wr_100, wr_192, wr_255, wr_256, wr_343, wr_999, wr_1000, wr_2401, wr_2147483647, wr_65535, wr_m1, wr_m2, wr_m3, wr_m4, wr_m9, ak_1000, ak_1001, ak_1002, ak_0, ak_1, ak_2, ak_3, ak_4, ak_5, ak_6, ak_7, ak_8, ak_9, ak_10, ak_11, ak_12, ak_13, ak_14, ak_15, ak_16, ak_17, ak_18, ak_19, ak_20, ak_21, ak_22, ak_23, ak_24, ak_25, ak_26, ak_27, ak_28, ak_29, ak_30, ak_31, ak_32, ak_33, ak_34, ak_35, ak_36, ak_37, ak_38, ak_39, ak_40, ak_41, ak_42, ak_43, ak_44, ak_45, ak_46, ak_47, h0, mo, wo, no, q1, wc0, nc0, q2, wz']
          exact rm_X6_cross h (by omega)
        · rw [if_neg h2]
          obtain ⟨v1, k, hk, h⟩ := lp_X6_cross (st := st) (lk := lk) (len := len) (ac := ac) (nx := nx) (rf := rf) (lr := lr) (en := en) (lm := lm) (sd := sd) hr hw n (o + 1) a b c R (M.set 40 (aI (l4 R))) (some (vI z)) (by simp [-List.getElem?_eq_getElem, h0, gs h0]) (by simp [-List.getElem?_eq_getElem, h40, gs h40]) (by omega) (by omega) (by omega)
          generalize cr3 w (crs (gq r) (vo n (o + 1)) (a, b, c)) = T at h ⊢
          rw [List.set_set] at h
          refine ⟨v1, k + 79 + 1, by omega, ?_⟩
          rw [rs_X6_cross_41]
          simp [↓ri_X6_cross, rs_X6_cross_0, rs_X6_cross_1, rs_X6_cross_2, rs_X6_cross_3, rs_X6_cross_6, rs_X6_cross_9, rs_X6_cross_12, rs_X6_cross_13, rs_X6_cross_14, rs_X6_cross_15, rs_X6_cross_18, rs_X6_cross_21, rs_X6_cross_24, rs_X6_cross_27, rs_X6_cross_28, rs_X6_cross_29, rs_X6_cross_31, rs_X6_cross_33, rs_X6_cross_36, rs_X6_cross_38, rs_X6_cross_39, rs_X6_cross_43, rs_X6_cross_46, rs_X6_cross_49, rs_X6_cross_51, rs_X6_cross_52, rs_X6_cross_55, rs_X6_cross_57, rs_X6_cross_60, rs_X6_cross_61, rs_X6_cross_62, rs_X6_cross_64, rs_X6_cross_67, rs_X6_cross_69, rs_X6_cross_71, rs_X6_cross_73, rs_X6_cross_76, rs_X6_cross_77, rs_X6_cross_80, rs_X6_cross_82, rs_X6_cross_84, rs_X6_cross_87, rs_X6_cross_88, rs_X6_cross_89, rs_X6_cross_90, rs_X6_cross_93, rs_X6_cross_94, rs_X6_cross_95, rs_X6_cross_97, rs_X6_cross_99, rs_X6_cross_102, rs_X6_cross_104, rs_X6_cross_107, rs_X6_cross_110, rs_X6_cross_112, rs_X6_cross_114, rs_X6_cross_116, rs_X6_cross_118, rs_X6_cross_121, rs_X6_cross_123, rs_X6_cross_126, rs_X6_cross_128, rs_X6_cross_130, rs_X6_cross_133, rs_X6_cross_136, rs_X6_cross_137, rs_X6_cross_140, rs_X6_cross_141, rs_X6_cross_144, rs_X6_cross_145, rs_X6_cross_146, rs_X6_cross_149, rs_X6_cross_151, rs_X6_cross_154, rs_X6_cross_26, rs_X6_cross_156, -List.getElem?_eq_getElem, am_js, am_e, am_in, am_sl, rI, rZ, rV, rJ, rA, rC, kI, kJ, kR, am_one, am_nl, am_w8, tIc, tLc, tNul, tIld, tLld, tAld, tIst, tLst, tAst, tIinc, tI2, tDv, tL2, tLrem, tLs, tLcmp, tI2l, tL2i, tI2c, tDup, tDup2, tPop, tGo, tIfeq, tIfne, tIflt, tIfge, tIfgt, tIfle, tCmeq, tCmne, tCmlt, tCmge, tCmgt, tCmle, tNu, tTs, tGf, tPf, tGs, tIal, tIas, tBal, tBas, tAln, tSv, tSc, tSb, tSl, tSk, tCv, tCs, tCt, tMx, tMn, wr_10000, wr_100000, wr_1000000, wr_10000000, wr_100000000, wr_2400, wr_9999, wr_0, wr_1, wr_2, wr_3, wr_4, wr_5, wr_6, wr_7, wr_8, wr_9, wr_10, wr_11, wr_12, wr_13, wr_14, wr_15, wr_16, wr_17, wr_18, wr_19, wr_20, wr_21, wr_22, wr_23, wr_24, wr_25, wr_26, wr_27, wr_28, wr_29, wr_30, wr_31, wr_32, wr_33, wr_34, wr_35, wr_36, wr_37, wr_38, wr_39, wr_40, wr_41, wr_42, wr_43, wr_44, wr_45, wr_46, wr_47, wr_48, wr_49, wr_50, wr_51, wr_52, wr_53, wr_54, wr_55, wr_56, wr_57, wr_58, wr_59, wr_60, wr_61, wr_62, wr_63, wr_99, wr_100, wr_192, wr_255, wr_256, wr_343, wr_999, wr_1000, wr_2401, wr_2147483647, wr_65535, wr_m1, wr_m2, wr_m3, wr_m4, wr_m9, ak_1000, ak_1001, ak_1002, ak_0, ak_1, ak_2, ak_3, ak_4, ak_5, ak_6, ak_7, ak_8, ak_9, ak_10, ak_11, ak_12, ak_13, ak_14, ak_15, ak_16, ak_17, ak_18, ak_19, ak_20, ak_21, ak_22, ak_23, ak_24, ak_25, ak_26, ak_27, ak_28, ak_29, ak_30, ak_31, ak_32, ak_33, ak_34, ak_35, ak_36, ak_37, ak_38, ak_39, ak_40, ak_41, ak_42, ak_43, ak_44, ak_45, ak_46, ak_47, h0, mo, wo, wc, no, q1, wc0, nc0, q2, wz', n1, h1, h2]
          exact rm_X6_cross h (by omega)
    · rw [if_neg hso] at q1 ⊢
      obtain ⟨v1, k, hk, h⟩ := lp_X6_cross (st := st) (lk := lk) (len := len) (ac := ac) (nx := nx) (rf := rf) (lr := lr) (en := en) (lm := lm) (sd := sd) hr hw n (o + 1) a b c v M x7 h0 h40 (by omega) (by omega) hc
      generalize cr3 w (crs (gq r) (vo n (o + 1)) (a, b, c)) = T at h ⊢
      refine ⟨v1, k + 79 + 1, by omega, ?_⟩
      rw [rs_X6_cross_41]
      simp [↓ri_X6_cross, rs_X6_cross_0, rs_X6_cross_1, rs_X6_cross_2, rs_X6_cross_3, rs_X6_cross_6, rs_X6_cross_9, rs_X6_cross_12, rs_X6_cross_13, rs_X6_cross_14, rs_X6_cross_15, rs_X6_cross_18, rs_X6_cross_21, rs_X6_cross_24, rs_X6_cross_27, rs_X6_cross_28, rs_X6_cross_29, rs_X6_cross_31, rs_X6_cross_33, rs_X6_cross_36, rs_X6_cross_38, rs_X6_cross_39, rs_X6_cross_43, rs_X6_cross_46, rs_X6_cross_49, rs_X6_cross_51, rs_X6_cross_52, rs_X6_cross_55, rs_X6_cross_57, rs_X6_cross_60, rs_X6_cross_61, rs_X6_cross_62, rs_X6_cross_64, rs_X6_cross_67, rs_X6_cross_69, rs_X6_cross_71, rs_X6_cross_73, rs_X6_cross_76, rs_X6_cross_77, rs_X6_cross_80, rs_X6_cross_82, rs_X6_cross_84, rs_X6_cross_87, rs_X6_cross_88, rs_X6_cross_89, rs_X6_cross_90, rs_X6_cross_93, rs_X6_cross_94, rs_X6_cross_95, rs_X6_cross_97, rs_X6_cross_99, rs_X6_cross_102, rs_X6_cross_104, rs_X6_cross_107, rs_X6_cross_110, rs_X6_cross_112, rs_X6_cross_114, rs_X6_cross_116, rs_X6_cross_118, rs_X6_cross_121, rs_X6_cross_123, rs_X6_cross_126, rs_X6_cross_128, rs_X6_cross_130, rs_X6_cross_133, rs_X6_cross_136, rs_X6_cross_137, rs_X6_cross_140, rs_X6_cross_141, rs_X6_cross_144, rs_X6_cross_145, rs_X6_cross_146, rs_X6_cross_149, rs_X6_cross_151, rs_X6_cross_154, rs_X6_cross_26, rs_X6_cross_156, -List.getElem?_eq_getElem, am_js, am_e, am_in, am_sl, rI, rZ, rV, rJ, rA, rC, kI, kJ, kR, am_one, am_nl, am_w8, tIc, tLc, tNul, tIld, tLld, tAld, tIst, tLst, tAst, tIinc, tI2, tDv, tL2, tLrem, tLs, tLcmp, tI2l, tL2i, tI2c, tDup, tDup2, tPop, tGo, tIfeq, tIfne, tIflt, tIfge, tIfgt, tIfle, tCmeq, tCmne, tCmlt, tCmge, tCmgt, tCmle, tNu, tTs, tGf, tPf, tGs, tIal, tIas, tBal, tBas, tAln, tSv, tSc, tSb, tSl, tSk, tCv, tCs, tCt, tMx, tMn, wr_10000, wr_100000, wr_1000000, wr_10000000, wr_100000000, wr_2400, wr_9999, wr_0, wr_1, wr_2, wr_3, wr_4, wr_5, wr_6, wr_7, wr_8, wr_9, wr_10, wr_11, wr_12, wr_13, wr_14, wr_15, wr_16, wr_17, wr_18, wr_19, wr_20, wr_21, wr_22, wr_23, wr_24, wr_25, wr_26, wr_27, wr_28, wr_29, wr_30, wr_31, wr_32, wr_33, wr_34, wr_35, wr_36, wr_37, wr_38, wr_39, wr_40, wr_41, wr_42, wr_43, wr_44, wr_45, wr_46, wr_47, wr_48, wr_49, wr_50, wr_51, wr_52, wr_53, wr_54, wr_55, wr_56, wr_57, wr_58, wr_59, wr_60, wr_61, wr_62, wr_63, wr_99, wr_100, wr_192, wr_255, wr_256, wr_343, wr_999, wr_1000, wr_2401, wr_2147483647, wr_65535, wr_m1, wr_m2, wr_m3, wr_m4, wr_m9, ak_1000, ak_1001, ak_1002, ak_0, ak_1, ak_2, ak_3, ak_4, ak_5, ak_6, ak_7, ak_8, ak_9, ak_10, ak_11, ak_12, ak_13, ak_14, ak_15, ak_16, ak_17, ak_18, ak_19, ak_20, ak_21, ak_22, ak_23, ak_24, ak_25, ak_26, ak_27, ak_28, ak_29, ak_30, ak_31, ak_32, ak_33, ak_34, ak_35, ak_36, ak_37, ak_38, ak_39, ak_40, ak_41, ak_42, ak_43, ak_44, ak_45, ak_46, ak_47, wo, no, q1]
      exact rm_X6_cross h (by omega)
theorem sp_X6_cross {M : List AC} {st lk len ac nx rf lr en lm : Int} {sd : Int64} (h0 : M[26]? = some (mo st lk len ac nx rf lr en lm sd)) {v : F4} (h40 : M[40]? = some (aI (l4 v))) (r w : Int) (hr : -2147483648 ≤ r ∧ r < 2147483648) (hw : -2147483648 ≤ w ∧ w < 2147483648) : ∃ v1 : F4, fn_X6_cross [vR 26, vI r, vI w] M = some (some (vI (if (1 ≤ r ∧ r ≤ 5) ∧ (0 ≤ w ∧ w ≤ 2) then cr3 w (crs (gq r) (vo 256 0) (0, -9, 999)) else -2)), M.set 40 (aI (l4 v1))) := by
  have wr' : wr r = r := wr_id (by omega) (by omega)
  have ww : wr w = w := wr_id (by omega) (by omega)
  by_cases h1 : 1 ≤ r ∧ r ≤ 5
  · by_cases h2 : 0 ≤ w ∧ w ≤ 2
    · rw [if_pos ⟨h1, h2⟩]
      obtain ⟨v1, k, hk, h⟩ := lp_X6_cross (st := st) (lk := lk) (len := len) (ac := ac) (nx := nx) (rf := rf) (lr := lr) (en := en) (lm := lm) (sd := sd) h1 h2 256 0 0 (-9) 999 v M none h0 h40 (by omega) (by omega) (by omega)
      generalize cr3 w (crs (gq r) (vo 256 0) (0, -9, 999)) = T at h ⊢
      refine ⟨v1, ?_⟩
      (refine am_fnR (tb := tb_X6_cross) (N := 50000) (Nat.le_of_ble_eq_true rfl) (Nat.le_of_ble_eq_true rfl) ?_; show Ru rx_X6_cross 50000 0 _ _ _ _)
      refine ⟨k + 40, by omega, ?_⟩
      simp [↓ri_X6_cross, rs_X6_cross_0, rs_X6_cross_1, rs_X6_cross_2, rs_X6_cross_3, rs_X6_cross_6, rs_X6_cross_9, rs_X6_cross_12, rs_X6_cross_13, rs_X6_cross_14, rs_X6_cross_15, rs_X6_cross_18, rs_X6_cross_21, rs_X6_cross_24, rs_X6_cross_27, rs_X6_cross_28, rs_X6_cross_29, rs_X6_cross_31, rs_X6_cross_33, rs_X6_cross_36, rs_X6_cross_38, rs_X6_cross_39, rs_X6_cross_43, rs_X6_cross_46, rs_X6_cross_49, rs_X6_cross_51, rs_X6_cross_52, rs_X6_cross_55, rs_X6_cross_57, rs_X6_cross_60, rs_X6_cross_61, rs_X6_cross_62, rs_X6_cross_64, rs_X6_cross_67, rs_X6_cross_69, rs_X6_cross_71, rs_X6_cross_73, rs_X6_cross_76, rs_X6_cross_77, rs_X6_cross_80, rs_X6_cross_82, rs_X6_cross_84, rs_X6_cross_87, rs_X6_cross_88, rs_X6_cross_89, rs_X6_cross_90, rs_X6_cross_93, rs_X6_cross_94, rs_X6_cross_95, rs_X6_cross_97, rs_X6_cross_99, rs_X6_cross_102, rs_X6_cross_104, rs_X6_cross_107, rs_X6_cross_110, rs_X6_cross_112, rs_X6_cross_114, rs_X6_cross_116, rs_X6_cross_118, rs_X6_cross_121, rs_X6_cross_123, rs_X6_cross_126, rs_X6_cross_128, rs_X6_cross_130, rs_X6_cross_133, rs_X6_cross_136, rs_X6_cross_137, rs_X6_cross_140, rs_X6_cross_141, rs_X6_cross_144, rs_X6_cross_145, rs_X6_cross_146, rs_X6_cross_149, rs_X6_cross_151, rs_X6_cross_154, rs_X6_cross_26, rs_X6_cross_156, -List.getElem?_eq_getElem, am_js, am_e, am_in, am_sl, rI, rZ, rV, rJ, rA, rC, kI, kJ, kR, am_one, am_nl, am_w8, tIc, tLc, tNul, tIld, tLld, tAld, tIst, tLst, tAst, tIinc, tI2, tDv, tL2, tLrem, tLs, tLcmp, tI2l, tL2i, tI2c, tDup, tDup2, tPop, tGo, tIfeq, tIfne, tIflt, tIfge, tIfgt, tIfle, tCmeq, tCmne, tCmlt, tCmge, tCmgt, tCmle, tNu, tTs, tGf, tPf, tGs, tIal, tIas, tBal, tBas, tAln, tSv, tSc, tSb, tSl, tSk, tCv, tCs, tCt, tMx, tMn, wr_10000, wr_100000, wr_1000000, wr_10000000, wr_100000000, wr_2400, wr_9999, wr_0, wr_1, wr_2, wr_3, wr_4, wr_5, wr_6, wr_7, wr_8, wr_9, wr_10, wr_11, wr_12, wr_13, wr_14, wr_15, wr_16, wr_17, wr_18, wr_19, wr_20, wr_21, wr_22, wr_23, wr_24, wr_25, wr_26, wr_27, wr_28, wr_29, wr_30, wr_31, wr_32, wr_33, wr_34, wr_35, wr_36, wr_37, wr_38, wr_39, wr_40, wr_41, wr_42, wr_43, wr_44, wr_45, wr_46, wr_47, wr_48, wr_49, wr_50, wr_51, wr_52, wr_53, wr_54, wr_55, wr_56, wr_57, wr_58, wr_59, wr_60, wr_61, wr_62, wr_63, wr_99, wr_100, wr_192, wr_255, wr_256, wr_343, wr_999, wr_1000, wr_2401, wr_2147483647, wr_65535, wr_m1, wr_m2, wr_m3, wr_m4, wr_m9, ak_1000, ak_1001, ak_1002, ak_0, ak_1, ak_2, ak_3, ak_4, ak_5, ak_6, ak_7, ak_8, ak_9, ak_10, ak_11, ak_12, ak_13, ak_14, ak_15, ak_16, ak_17, ak_18, ak_19, ak_20, ak_21, ak_22, ak_23, ak_24, ak_25, ak_26, ak_27, ak_28, ak_29, ak_30, ak_31, ak_32, ak_33, ak_34, ak_35, ak_36, ak_37, ak_38, ak_39, ak_40, ak_41, ak_42, ak_43, ak_44, ak_45, ak_46, ak_47, sp_X6_in, -Int32.toInt_ofInt, -not_and, wr_eq, jt_0, jt_1, jt_2, jt_3, jt_4, jt_5, jt_6, jt_8, jt_12, jt_30, jt_48, jt_49, jt_51, jt_57, jt_255, jt_9999, wr', ww, h1, h2]
      exact rm_X6_cross h (by omega)
    · rw [if_neg (fun z => h2 z.2)]
      refine ⟨v, ?_⟩
      rw [set_same h40]
      (refine am_fnI (tb := tb_X6_cross) (n := 60) (Nat.le_of_ble_eq_true rfl) (Nat.le_of_ble_eq_true rfl) ?_; show rx_X6_cross 60 0 _ _ _ = _)
      simp [↓ri_X6_cross, rs_X6_cross_0, rs_X6_cross_1, rs_X6_cross_2, rs_X6_cross_3, rs_X6_cross_6, rs_X6_cross_9, rs_X6_cross_12, rs_X6_cross_13, rs_X6_cross_14, rs_X6_cross_15, rs_X6_cross_18, rs_X6_cross_21, rs_X6_cross_24, rs_X6_cross_27, rs_X6_cross_28, rs_X6_cross_29, rs_X6_cross_31, rs_X6_cross_33, rs_X6_cross_36, rs_X6_cross_38, rs_X6_cross_39, rs_X6_cross_41, rs_X6_cross_43, rs_X6_cross_46, rs_X6_cross_49, rs_X6_cross_51, rs_X6_cross_52, rs_X6_cross_55, rs_X6_cross_57, rs_X6_cross_60, rs_X6_cross_61, rs_X6_cross_62, rs_X6_cross_64, rs_X6_cross_67, rs_X6_cross_69, rs_X6_cross_71, rs_X6_cross_73, rs_X6_cross_76, rs_X6_cross_77, rs_X6_cross_80, rs_X6_cross_82, rs_X6_cross_84, rs_X6_cross_87, rs_X6_cross_88, rs_X6_cross_89, rs_X6_cross_90, rs_X6_cross_93, rs_X6_cross_94, rs_X6_cross_95, rs_X6_cross_97, rs_X6_cross_99, rs_X6_cross_102, rs_X6_cross_104, rs_X6_cross_107, rs_X6_cross_110, rs_X6_cross_112, rs_X6_cross_114, rs_X6_cross_116, rs_X6_cross_118, rs_X6_cross_121, rs_X6_cross_123, rs_X6_cross_126, rs_X6_cross_128, rs_X6_cross_130, rs_X6_cross_133, rs_X6_cross_136, rs_X6_cross_137, rs_X6_cross_140, rs_X6_cross_141, rs_X6_cross_144, rs_X6_cross_145, rs_X6_cross_146, rs_X6_cross_149, rs_X6_cross_151, rs_X6_cross_154, rs_X6_cross_26, rs_X6_cross_156, -List.getElem?_eq_getElem, am_js, am_e, am_in, am_sl, rI, rZ, rV, rJ, rA, rC, kI, kJ, kR, am_one, am_nl, am_w8, tIc, tLc, tNul, tIld, tLld, tAld, tIst, tLst, tAst, tIinc, tI2, tDv, tL2, tLrem, tLs, tLcmp, tI2l, tL2i, tI2c, tDup, tDup2, tPop, tGo, tIfeq, tIfne, tIflt, tIfge, tIfgt, tIfle, tCmeq, tCmne, tCmlt, tCmge, tCmgt, tCmle, tNu, tTs, tGf, tPf, tGs, tIal, tIas, tBal, tBas, tAln, tSv, tSc, tSb, tSl, tSk, tCv, tCs, tCt, tMx, tMn, wr_10000, wr_100000, wr_1000000, wr_10000000, wr_100000000, wr_2400, wr_9999, wr_0, wr_1, wr_2, wr_3, wr_4, wr_5, wr_6, wr_7, wr_8, wr_9, wr_10, wr_11, wr_12, wr_13, wr_14, wr_15, wr_16, wr_17, wr_18, wr_19, wr_20, wr_21, wr_22, wr_23, wr_24, wr_25, wr_26, wr_27, wr_28, wr_29, wr_30, wr_31, wr_32, wr_33, wr_34, wr_35, wr_36, wr_37, wr_38, wr_39, wr_40, wr_41, wr_42, wr_43, wr_44, wr_45, wr_46, wr_47, wr_48, wr_49, wr_50, wr_51, wr_52, wr_53, wr_54, wr_55, wr_56, wr_57, wr_58, wr_59, wr_60, wr_61, wr_62, wr_63, wr_99, wr_100, wr_192, wr_255, wr_256, wr_343, wr_999, wr_1000, wr_2401, wr_2147483647, wr_65535, wr_m1, wr_m2, wr_m3, wr_m4, wr_m9, ak_1000, ak_1001, ak_1002, ak_0, ak_1, ak_2, ak_3, ak_4, ak_5, ak_6, ak_7, ak_8, ak_9, ak_10, ak_11, ak_12, ak_13, ak_14, ak_15, ak_16, ak_17, ak_18, ak_19, ak_20, ak_21, ak_22, ak_23, ak_24, ak_25, ak_26, ak_27, ak_28, ak_29, ak_30, ak_31, ak_32, ak_33, ak_34, ak_35, ak_36, ak_37, ak_38, ak_39, ak_40, ak_41, ak_42, ak_43, ak_44, ak_45, ak_46, ak_47, sp_X6_in, -Int32.toInt_ofInt, -not_and, wr_eq, jt_0, jt_1, jt_2, jt_3, jt_4, jt_5, jt_6, jt_8, jt_12, jt_30, jt_48, jt_49, jt_51, jt_57, jt_255, jt_9999, wr', ww, h1, h2]
  · rw [if_neg (fun z => h1 z.1)]
    refine ⟨v, ?_⟩
    rw [set_same h40]
    (refine am_fnI (tb := tb_X6_cross) (n := 60) (Nat.le_of_ble_eq_true rfl) (Nat.le_of_ble_eq_true rfl) ?_; show rx_X6_cross 60 0 _ _ _ = _)
    simp [↓ri_X6_cross, rs_X6_cross_0, rs_X6_cross_1, rs_X6_cross_2, rs_X6_cross_3, rs_X6_cross_6, rs_X6_cross_9, rs_X6_cross_12, rs_X6_cross_13, rs_X6_cross_14, rs_X6_cross_15, rs_X6_cross_18, rs_X6_cross_21, rs_X6_cross_24, rs_X6_cross_27, rs_X6_cross_28, rs_X6_cross_29, rs_X6_cross_31, rs_X6_cross_33, rs_X6_cross_36, rs_X6_cross_38, rs_X6_cross_39, rs_X6_cross_41, rs_X6_cross_43, rs_X6_cross_46, rs_X6_cross_49, rs_X6_cross_51, rs_X6_cross_52, rs_X6_cross_55, rs_X6_cross_57, rs_X6_cross_60, rs_X6_cross_61, rs_X6_cross_62, rs_X6_cross_64, rs_X6_cross_67, rs_X6_cross_69, rs_X6_cross_71, rs_X6_cross_73, rs_X6_cross_76, rs_X6_cross_77, rs_X6_cross_80, rs_X6_cross_82, rs_X6_cross_84, rs_X6_cross_87, rs_X6_cross_88, rs_X6_cross_89, rs_X6_cross_90, rs_X6_cross_93, rs_X6_cross_94, rs_X6_cross_95, rs_X6_cross_97, rs_X6_cross_99, rs_X6_cross_102, rs_X6_cross_104, rs_X6_cross_107, rs_X6_cross_110, rs_X6_cross_112, rs_X6_cross_114, rs_X6_cross_116, rs_X6_cross_118, rs_X6_cross_121, rs_X6_cross_123, rs_X6_cross_126, rs_X6_cross_128, rs_X6_cross_130, rs_X6_cross_133, rs_X6_cross_136, rs_X6_cross_137, rs_X6_cross_140, rs_X6_cross_141, rs_X6_cross_144, rs_X6_cross_145, rs_X6_cross_146, rs_X6_cross_149, rs_X6_cross_151, rs_X6_cross_154, rs_X6_cross_26, rs_X6_cross_156, -List.getElem?_eq_getElem, am_js, am_e, am_in, am_sl, rI, rZ, rV, rJ, rA, rC, kI, kJ, kR, am_one, am_nl, am_w8, tIc, tLc, tNul, tIld, tLld, tAld, tIst, tLst, tAst, tIinc, tI2, tDv, tL2, tLrem, tLs, tLcmp, tI2l, tL2i, tI2c, tDup, tDup2, tPop, tGo, tIfeq, tIfne, tIflt, tIfge, tIfgt, tIfle, tCmeq, tCmne, tCmlt, tCmge, tCmgt, tCmle, tNu, tTs, tGf, tPf, tGs, tIal, tIas, tBal, tBas, tAln, tSv, tSc, tSb, tSl, tSk, tCv, tCs, tCt, tMx, tMn, wr_10000, wr_100000, wr_1000000, wr_10000000, wr_100000000, wr_2400, wr_9999, wr_0, wr_1, wr_2, wr_3, wr_4, wr_5, wr_6, wr_7, wr_8, wr_9, wr_10, wr_11, wr_12, wr_13, wr_14, wr_15, wr_16, wr_17, wr_18, wr_19, wr_20, wr_21, wr_22, wr_23, wr_24, wr_25, wr_26, wr_27, wr_28, wr_29, wr_30, wr_31, wr_32, wr_33, wr_34, wr_35, wr_36, wr_37, wr_38, wr_39, wr_40, wr_41, wr_42, wr_43, wr_44, wr_45, wr_46, wr_47, wr_48, wr_49, wr_50, wr_51, wr_52, wr_53, wr_54, wr_55, wr_56, wr_57, wr_58, wr_59, wr_60, wr_61, wr_62, wr_63, wr_99, wr_100, wr_192, wr_255, wr_256, wr_343, wr_999, wr_1000, wr_2401, wr_2147483647, wr_65535, wr_m1, wr_m2, wr_m3, wr_m4, wr_m9, ak_1000, ak_1001, ak_1002, ak_0, ak_1, ak_2, ak_3, ak_4, ak_5, ak_6, ak_7, ak_8, ak_9, ak_10, ak_11, ak_12, ak_13, ak_14, ak_15, ak_16, ak_17, ak_18, ak_19, ak_20, ak_21, ak_22, ak_23, ak_24, ak_25, ak_26, ak_27, ak_28, ak_29, ak_30, ak_31, ak_32, ak_33, ak_34, ak_35, ak_36, ak_37, ak_38, ak_39, ak_40, ak_41, ak_42, ak_43, ak_44, ak_45, ak_46, ak_47, sp_X6_in, -Int32.toInt_ofInt, -not_and, wr_eq, jt_0, jt_1, jt_2, jt_3, jt_4, jt_5, jt_6, jt_8, jt_12, jt_30, jt_48, jt_49, jt_51, jt_57, jt_255, jt_9999, wr', h1]
end
