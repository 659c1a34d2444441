noncomputable section
def h3 (c : F3) (k : Nat) (x : Int) : F3 := match k with
  | 0 => (x, c.2.1, c.2.2)
  | 1 => (c.1, x, c.2.2)
  | _ => (c.1, c.2.1, x)
def hks (txt : List Int) : Nat → Nat → F3 × F3 → F3 × F3
  | 0, _, q => q
  | n + 1, k, q => hks txt n (k + 1) (h3 q.1 k (tf txt (11 + 3 * k)), h3 q.2 k (tf txt (12 + 3 * k)))
theorem h3_set {c : F3} {k : Nat} (hk : k < 3) (x : Int) : (l3 c).set k x = l3 (h3 c k x) := by
  match k, hk with
  | 0, _ => rfl
  | 1, _ => rfl
  | 2, _ => rfl
theorem hks_tf (txt : List Int) (c t : F3) : ∀ n : Nat, n ≤ 3 → hks txt n 0 (c, t) = (tfc txt n c, tft txt n t) := by
  intro n hn
  match n, hn with
  | 0, _ => simp [hks, tfc, tft]
  | 1, _ => simp [hks, tfc, tft, h3]
  | 2, _ => simp [hks, tfc, tft, h3]
  | 3, _ => simp [hks, tfc, tft, h3]
abbrev mi_X5_bed : Mi := (yX5_bed, cX5_bed, 2, some .int, 7)
theorem mf_X5_bed : am_mf mi_X5_bed 0 := ⟨w_co_X5_bed, w_in_X5, ⟨by decide +kernel, by decide +kernel⟩, by decide +kernel, by decide⟩
def tb_X5_bed : List (Nat × Tr) := [(0, tAld 0 1), (1, tCv 5 0 fn_X5_fault), (4, tIc (-9) 2), (6, tCmeq 12), (9, tIc (-3) 2), (12, tAld 0 1), (13, tGf 5 2), (16, tAld 0 1), (17, tIc 1 1), (18, tCv 5 1 fn_X5_figureAt), (21, tPf kI 4 0), (24, tIc 0 1), (25, tIst 1 1), (26, tIld 1 1), (27, tIc 4 1), (28, tCmge 90), (31, tAld 0 1), (32, tGf 5 2), (35, tGf 4 1), (38, tIld 1 1), (39, tAld 0 1), (40, tIc 2 1), (41, tIld 1 1), (42, tI2 (fun a b => a + b)), (43, tCv 5 1 fn_X5_figureAt), (46, tIas), (47, tAld 0 1), (48, tGf 5 2), (51, tGf 4 2), (54, tIld 1 1), (55, tAld 0 1), (56, tIc 6 2), (58, tIld 1 1), (59, tI2 (fun a b => a + b)), (60, tCv 5 1 fn_X5_figureAt), (63, tIas), (64, tAld 0 1), (65, tGf 5 2), (68, tGf 4 3), (71, tIld 1 1), (72, tIc 0 1), (73, tIas), (74, tAld 0 1), (75, tGf 5 2), (78, tGf 4 4), (81, tIld 1 1), (82, tIc 0 1), (83, tIas), (84, tIinc 1 1), (87, tGo 26), (90, tAld 0 1), (91, tGf 5 4), (94, tIc 0 1), (95, tPf kI 0 0), (98, tIc 10 2), (100, tIst 1 1), (101, tIld 1 1), (102, tAld 0 1), (103, tGf 5 1), (106, tCmge 136), (109, tAld 0 1), (110, tGf 5 4), (113, tAld 0 1), (114, tIld 1 1), (115, tIc 1 1), (116, tI2 (fun a b => a + b)), (117, tCv 5 1 fn_X5_figureAt), (120, tAld 0 1), (121, tIld 1 1), (122, tIc 2 1), (123, tI2 (fun a b => a + b)), (124, tCv 5 1 fn_X5_figureAt), (127, tCv 0 2 fn_X0_hear), (130, tIinc 1 3), (133, tGo 101), (136, tAld 0 1), (137, tIc 0 1), (138, tPf kI 5 7), (141, tIc 0 1), (142, tIst 1 1), (143, tIld 1 1), (144, tIc 2 1), (145, tCmge 161), (148, tAld 0 1), (149, tGf 5 9), (152, tIld 1 1), (153, tIc 0 1), (154, tBas), (155, tIinc 1 1), (158, tGo 143), (161, tAld 0 1), (162, tGf 5 4), (165, tGf 0 0)]
theorem ok_X5_bed : Tok mi_X5_bed tb_X5_bed :=
  Tc (sd_aload_n dX5_bed_0) <|
  Tc (sd_cv (T := TX5) fok_X5_fault mf_X5_fault rfl w_ml_X5_75 w_im_X5_fault w_se_X5_fault (by decide) dX5_bed_1) <|
  Tc (sd_bipush (by decide +kernel) dX5_bed_4) <|
  Tc (sd_cm_eq (by decide) dX5_bed_6) <|
  Tc (sd_bipush (by decide +kernel) dX5_bed_9) <|
  Tc (sd_aload_n dX5_bed_12) <|
  Tc (sd_getf (T := TX5) rfl giX5 (by decide) w_fl_X5_20 dX5_bed_13) <|
  Tc (sd_aload_n dX5_bed_16) <|
  Tc (sd_iconst rfl dX5_bed_17) <|
  Tc (sd_cv (T := TX5) fok_X5_figureAt mf_X5_figureAt rfl w_ml_X5_79 w_im_X5_figureAt w_se_X5_figureAt (by decide) dX5_bed_18) <|
  Tc (sd_putf (T := TX4) rfl giX4 (by decide) w_fl_X5_83 tyX4 tyX4_ok nmX4 (kI_ok) rfl dX5_bed_21) <|
  Tc (sd_iconst rfl dX5_bed_24) <|
  Tc (sd_istore_n dX5_bed_25) <|
  Tc (sd_iload_n dX5_bed_26) <|
  Tc (sd_iconst rfl dX5_bed_27) <|
  Tc (sd_cm_ge (by decide) dX5_bed_28) <|
  Tc (sd_aload_n dX5_bed_31) <|
  Tc (sd_getf (T := TX5) rfl giX5 (by decide) w_fl_X5_20 dX5_bed_32) <|
  Tc (sd_getf (T := TX4) rfl giX4 (by decide) w_fl_X5_86 dX5_bed_35) <|
  Tc (sd_iload_n dX5_bed_38) <|
  Tc (sd_aload_n dX5_bed_39) <|
  Tc (sd_iconst rfl dX5_bed_40) <|
  Tc (sd_iload_n dX5_bed_41) <|
  Tc (sd_iadd dX5_bed_42) <|
  Tc (sd_cv (T := TX5) fok_X5_figureAt mf_X5_figureAt rfl w_ml_X5_79 w_im_X5_figureAt w_se_X5_figureAt (by decide) dX5_bed_43) <|
  Tc (sd_ias dX5_bed_46) <|
  Tc (sd_aload_n dX5_bed_47) <|
  Tc (sd_getf (T := TX5) rfl giX5 (by decide) w_fl_X5_20 dX5_bed_48) <|
  Tc (sd_getf (T := TX4) rfl giX4 (by decide) w_fl_X5_89 dX5_bed_51) <|
  Tc (sd_iload_n dX5_bed_54) <|
  Tc (sd_aload_n dX5_bed_55) <|
  Tc (sd_bipush (by decide +kernel) dX5_bed_56) <|
  Tc (sd_iload_n dX5_bed_58) <|
  Tc (sd_iadd dX5_bed_59) <|
  Tc (sd_cv (T := TX5) fok_X5_figureAt mf_X5_figureAt rfl w_ml_X5_79 w_im_X5_figureAt w_se_X5_figureAt (by decide) dX5_bed_60) <|
  Tc (sd_ias dX5_bed_63) <|
  Tc (sd_aload_n dX5_bed_64) <|
  Tc (sd_getf (T := TX5) rfl giX5 (by decide) w_fl_X5_20 dX5_bed_65) <|
  Tc (sd_getf (T := TX4) rfl giX4 (by decide) w_fl_X5_92 dX5_bed_68) <|
  Tc (sd_iload_n dX5_bed_71) <|
  Tc (sd_iconst rfl dX5_bed_72) <|
  Tc (sd_ias dX5_bed_73) <|
  Tc (sd_aload_n dX5_bed_74) <|
  Tc (sd_getf (T := TX5) rfl giX5 (by decide) w_fl_X5_20 dX5_bed_75) <|
  Tc (sd_getf (T := TX4) rfl giX4 (by decide) w_fl_X5_95 dX5_bed_78) <|
  Tc (sd_iload_n dX5_bed_81) <|
  Tc (sd_iconst rfl dX5_bed_82) <|
  Tc (sd_ias dX5_bed_83) <|
  Tc (sd_iinc dX5_bed_84) <|
  Tc (sd_goto (by decide) dX5_bed_87) <|
  Tc (sd_aload_n dX5_bed_90) <|
  Tc (sd_getf (T := TX5) rfl giX5 (by decide) w_fl_X5_30 dX5_bed_91) <|
  Tc (sd_iconst rfl dX5_bed_94) <|
  Tc (sd_putf (T := TX0) rfl giX0 (by decide) w_fl_X5_98 tyX0 tyX0_ok nmX0 (kI_ok) rfl dX5_bed_95) <|
  Tc (sd_bipush (by decide +kernel) dX5_bed_98) <|
  Tc (sd_istore_n dX5_bed_100) <|
  Tc (sd_iload_n dX5_bed_101) <|
  Tc (sd_aload_n dX5_bed_102) <|
  Tc (sd_getf (T := TX5) rfl giX5 (by decide) w_fl_X5_13 dX5_bed_103) <|
  Tc (sd_cm_ge (by decide) dX5_bed_106) <|
  Tc (sd_aload_n dX5_bed_109) <|
  Tc (sd_getf (T := TX5) rfl giX5 (by decide) w_fl_X5_30 dX5_bed_110) <|
  Tc (sd_aload_n dX5_bed_113) <|
  Tc (sd_iload_n dX5_bed_114) <|
  Tc (sd_iconst rfl dX5_bed_115) <|
  Tc (sd_iadd dX5_bed_116) <|
  Tc (sd_cv (T := TX5) fok_X5_figureAt mf_X5_figureAt rfl w_ml_X5_79 w_im_X5_figureAt w_se_X5_figureAt (by decide) dX5_bed_117) <|
  Tc (sd_aload_n dX5_bed_120) <|
  Tc (sd_iload_n dX5_bed_121) <|
  Tc (sd_iconst rfl dX5_bed_122) <|
  Tc (sd_iadd dX5_bed_123) <|
  Tc (sd_cv (T := TX5) fok_X5_figureAt mf_X5_figureAt rfl w_ml_X5_79 w_im_X5_figureAt w_se_X5_figureAt (by decide) dX5_bed_124) <|
  Tc (sd_cv (T := TX0) fok_X0_hear mf_X0_hear rfl w_ml_X5_101 w_im_X0_hear w_se_X0_hear (by decide) dX5_bed_127) <|
  Tc (sd_iinc dX5_bed_130) <|
  Tc (sd_goto (by decide) dX5_bed_133) <|
  Tc (sd_aload_n dX5_bed_136) <|
  Tc (sd_iconst rfl dX5_bed_137) <|
  Tc (sd_putf (T := TX5) rfl giX5 (by decide) w_fl_X5_46 tyX5 tyX5_ok nmX5 (kI_ok) rfl dX5_bed_138) <|
  Tc (sd_iconst rfl dX5_bed_141) <|
  Tc (sd_istore_n dX5_bed_142) <|
  Tc (sd_iload_n dX5_bed_143) <|
  Tc (sd_iconst rfl dX5_bed_144) <|
  Tc (sd_cm_ge (by decide) dX5_bed_145) <|
  Tc (sd_aload_n dX5_bed_148) <|
  Tc (sd_getf (T := TX5) rfl giX5 (by decide) w_fl_X5_52 dX5_bed_149) <|
  Tc (sd_iload_n dX5_bed_152) <|
  Tc (sd_iconst rfl dX5_bed_153) <|
  Tc (sd_bas dX5_bed_154) <|
  Tc (sd_iinc dX5_bed_155) <|
  Tc (sd_goto (by decide) dX5_bed_158) <|
  Tc (sd_aload_n dX5_bed_161) <|
  Tc (sd_getf (T := TX5) rfl giX5 (by decide) w_fl_X5_30 dX5_bed_162) <|
  Tc (sd_getf (T := TX0) rfl giX0 (by decide) w_fl_X5_98 dX5_bed_165) <|
  Tn
theorem rk_X5_bed : Rok mi_X5_bed rI [11, 168] := rk_i dX5_bed_11 <| rk_i dX5_bed_168 <| rk_n
def rx_X5_bed : Nat → Nat → AL → List AV → List AC → Option (Option AV × List AC) := am_r tb_X5_bed rI [11, 168]
theorem rs_X5_bed_0 (n : Nat) (L : AL) (st : List AV) (M : List AC) : rx_X5_bed (n + 1) 0 L st M = am_j (rx_X5_bed n) ((tAld 0 1) 0 L st M) := rfl
theorem rs_X5_bed_1 (n : Nat) (L : AL) (st : List AV) (M : List AC) : rx_X5_bed (n + 1) 1 L st M = am_j (rx_X5_bed n) ((tCv 5 0 fn_X5_fault) 1 L st M) := rfl
theorem rs_X5_bed_4 (n : Nat) (L : AL) (st : List AV) (M : List AC) : rx_X5_bed (n + 1) 4 L st M = am_j (rx_X5_bed n) ((tIc (-9) 2) 4 L st M) := rfl
theorem rs_X5_bed_6 (n : Nat) (L : AL) (st : List AV) (M : List AC) : rx_X5_bed (n + 1) 6 L st M = am_j (rx_X5_bed n) ((tCmeq 12) 6 L st M) := rfl
theorem rs_X5_bed_9 (n : Nat) (L : AL) (st : List AV) (M : List AC) : rx_X5_bed (n + 1) 9 L st M = am_j (rx_X5_bed n) ((tIc (-3) 2) 9 L st M) := rfl
theorem rs_X5_bed_12 (n : Nat) (L : AL) (st : List AV) (M : List AC) : rx_X5_bed (n + 1) 12 L st M = am_j (rx_X5_bed n) ((tAld 0 1) 12 L st M) := rfl
theorem rs_X5_bed_13 (n : Nat) (L : AL) (st : List AV) (M : List AC) : rx_X5_bed (n + 1) 13 L st M = am_j (rx_X5_bed n) ((tGf 5 2) 13 L st M) := rfl
theorem rs_X5_bed_16 (n : Nat) (L : AL) (st : List AV) (M : List AC) : rx_X5_bed (n + 1) 16 L st M = am_j (rx_X5_bed n) ((tAld 0 1) 16 L st M) := rfl
theorem rs_X5_bed_17 (n : Nat) (L : AL) (st : List AV) (M : List AC) : rx_X5_bed (n + 1) 17 L st M = am_j (rx_X5_bed n) ((tIc 1 1) 17 L st M) := rfl
theorem rs_X5_bed_18 (n : Nat) (L : AL) (st : List AV) (M : List AC) : rx_X5_bed (n + 1) 18 L st M = am_j (rx_X5_bed n) ((tCv 5 1 fn_X5_figureAt) 18 L st M) := rfl
theorem rs_X5_bed_21 (n : Nat) (L : AL) (st : List AV) (M : List AC) : rx_X5_bed (n + 1) 21 L st M = am_j (rx_X5_bed n) ((tPf kI 4 0) 21 L st M) := rfl
theorem rs_X5_bed_24 (n : Nat) (L : AL) (st : List AV) (M : List AC) : rx_X5_bed (n + 1) 24 L st M = am_j (rx_X5_bed n) ((tIc 0 1) 24 L st M) := rfl
theorem rs_X5_bed_25 (n : Nat) (L : AL) (st : List AV) (M : List AC) : rx_X5_bed (n + 1) 25 L st M = am_j (rx_X5_bed n) ((tIst 1 1) 25 L st M) := rfl
theorem rs_X5_bed_26 (n : Nat) (L : AL) (st : List AV) (M : List AC) : rx_X5_bed (n + 1) 26 L st M = am_j (rx_X5_bed n) ((tIld 1 1) 26 L st M) := rfl
theorem rs_X5_bed_27 (n : Nat) (L : AL) (st : List AV) (M : List AC) : rx_X5_bed (n + 1) 27 L st M = am_j (rx_X5_bed n) ((tIc 4 1) 27 L st M) := rfl
theorem rs_X5_bed_28 (n : Nat) (L : AL) (st : List AV) (M : List AC) : rx_X5_bed (n + 1) 28 L st M = am_j (rx_X5_bed n) ((tCmge 90) 28 L st M) := rfl
theorem rs_X5_bed_31 (n : Nat) (L : AL) (st : List AV) (M : List AC) : rx_X5_bed (n + 1) 31 L st M = am_j (rx_X5_bed n) ((tAld 0 1) 31 L st M) := rfl
theorem rs_X5_bed_32 (n : Nat) (L : AL) (st : List AV) (M : List AC) : rx_X5_bed (n + 1) 32 L st M = am_j (rx_X5_bed n) ((tGf 5 2) 32 L st M) := rfl
theorem rs_X5_bed_35 (n : Nat) (L : AL) (st : List AV) (M : List AC) : rx_X5_bed (n + 1) 35 L st M = am_j (rx_X5_bed n) ((tGf 4 1) 35 L st M) := rfl
theorem rs_X5_bed_38 (n : Nat) (L : AL) (st : List AV) (M : List AC) : rx_X5_bed (n + 1) 38 L st M = am_j (rx_X5_bed n) ((tIld 1 1) 38 L st M) := rfl
theorem rs_X5_bed_39 (n : Nat) (L : AL) (st : List AV) (M : List AC) : rx_X5_bed (n + 1) 39 L st M = am_j (rx_X5_bed n) ((tAld 0 1) 39 L st M) := rfl
theorem rs_X5_bed_40 (n : Nat) (L : AL) (st : List AV) (M : List AC) : rx_X5_bed (n + 1) 40 L st M = am_j (rx_X5_bed n) ((tIc 2 1) 40 L st M) := rfl
theorem rs_X5_bed_41 (n : Nat) (L : AL) (st : List AV) (M : List AC) : rx_X5_bed (n + 1) 41 L st M = am_j (rx_X5_bed n) ((tIld 1 1) 41 L st M) := rfl
theorem rs_X5_bed_42 (n : Nat) (L : AL) (st : List AV) (M : List AC) : rx_X5_bed (n + 1) 42 L st M = am_j (rx_X5_bed n) ((tI2 (fun a b => a + b)) 42 L st M) := rfl
theorem rs_X5_bed_43 (n : Nat) (L : AL) (st : List AV) (M : List AC) : rx_X5_bed (n + 1) 43 L st M = am_j (rx_X5_bed n) ((tCv 5 1 fn_X5_figureAt) 43 L st M) := rfl
theorem rs_X5_bed_46 (n : Nat) (L : AL) (st : List AV) (M : List AC) : rx_X5_bed (n + 1) 46 L st M = am_j (rx_X5_bed n) (tIas 46 L st M) := rfl
theorem rs_X5_bed_47 (n : Nat) (L : AL) (st : List AV) (M : List AC) : rx_X5_bed (n + 1) 47 L st M = am_j (rx_X5_bed n) ((tAld 0 1) 47 L st M) := rfl
theorem rs_X5_bed_48 (n : Nat) (L : AL) (st : List AV) (M : List AC) : rx_X5_bed (n + 1) 48 L st M = am_j (rx_X5_bed n) ((tGf 5 2) 48 L st M) := rfl
theorem rs_X5_bed_51 (n : Nat) (L : AL) (st : List AV) (M : List AC) : rx_X5_bed (n + 1) 51 L st M = am_j (rx_X5_bed n) ((tGf 4 2) 51 L st M) := rfl
theorem rs_X5_bed_54 (n : Nat) (L : AL) (st : List AV) (M : List AC) : rx_X5_bed (n + 1) 54 L st M = am_j (rx_X5_bed n) ((tIld 1 1) 54 L st M) := rfl
theorem rs_X5_bed_55 (n : Nat) (L : AL) (st : List AV) (M : List AC) : rx_X5_bed (n + 1) 55 L st M = am_j (rx_X5_bed n) ((tAld 0 1) 55 L st M) := rfl
theorem rs_X5_bed_56 (n : Nat) (L : AL) (st : List AV) (M : List AC) : rx_X5_bed (n + 1) 56 L st M = am_j (rx_X5_bed n) ((tIc 6 2) 56 L st M) := rfl
theorem rs_X5_bed_58 (n : Nat) (L : AL) (st : List AV) (M : List AC) : rx_X5_bed (n + 1) 58 L st M = am_j (rx_X5_bed n) ((tIld 1 1) 58 L st M) := rfl
theorem rs_X5_bed_59 (n : Nat) (L : AL) (st : List AV) (M : List AC) : rx_X5_bed (n + 1) 59 L st M = am_j (rx_X5_bed n) ((tI2 (fun a b => a + b)) 59 L st M) := rfl
theorem rs_X5_bed_60 (n : Nat) (L : AL) (st : List AV) (M : List AC) : rx_X5_bed (n + 1) 60 L st M = am_j (rx_X5_bed n) ((tCv 5 1 fn_X5_figureAt) 60 L st M) := rfl
theorem rs_X5_bed_63 (n : Nat) (L : AL) (st : List AV) (M : List AC) : rx_X5_bed (n + 1) 63 L st M = am_j (rx_X5_bed n) (tIas 63 L st M) := rfl
theorem rs_X5_bed_64 (n : Nat) (L : AL) (st : List AV) (M : List AC) : rx_X5_bed (n + 1) 64 L st M = am_j (rx_X5_bed n) ((tAld 0 1) 64 L st M) := rfl
theorem rs_X5_bed_65 (n : Nat) (L : AL) (st : List AV) (M : List AC) : rx_X5_bed (n + 1) 65 L st M = am_j (rx_X5_bed n) ((tGf 5 2) 65 L st M) := rfl
theorem rs_X5_bed_68 (n : Nat) (L : AL) (st : List AV) (M : List AC) : rx_X5_bed (n + 1) 68 L st M = am_j (rx_X5_bed n) ((tGf 4 3) 68 L st M) := rfl
theorem rs_X5_bed_71 (n : Nat) (L : AL) (st : List AV) (M : List AC) : rx_X5_bed (n + 1) 71 L st M = am_j (rx_X5_bed n) ((tIld 1 1) 71 L st M) := rfl
theorem rs_X5_bed_72 (n : Nat) (L : AL) (st : List AV) (M : List AC) : rx_X5_bed (n + 1) 72 L st M = am_j (rx_X5_bed n) ((tIc 0 1) 72 L st M) := rfl
theorem rs_X5_bed_73 (n : Nat) (L : AL) (st : List AV) (M : List AC) : rx_X5_bed (n + 1) 73 L st M = am_j (rx_X5_bed n) (tIas 73 L st M) := rfl
theorem rs_X5_bed_74 (n : Nat) (L : AL) (st : List AV) (M : List AC) : rx_X5_bed (n + 1) 74 L st M = am_j (rx_X5_bed n) ((tAld 0 1) 74 L st M) := rfl
theorem rs_X5_bed_75 (n : Nat) (L : AL) (st : List AV) (M : List AC) : rx_X5_bed (n + 1) 75 L st M = am_j (rx_X5_bed n) ((tGf 5 2) 75 L st M) := rfl
theorem rs_X5_bed_78 (n : Nat) (L : AL) (st : List AV) (M : List AC) : rx_X5_bed (n + 1) 78 L st M = am_j (rx_X5_bed n) ((tGf 4 4) 78 L st M) := rfl
theorem rs_X5_bed_81 (n : Nat) (L : AL) (st : List AV) (M : List AC) : rx_X5_bed (n + 1) 81 L st M = am_j (rx_X5_bed n) ((tIld 1 1) 81 L st M) := rfl
theorem rs_X5_bed_82 (n : Nat) (L : AL) (st : List AV) (M : List AC) : rx_X5_bed (n + 1) 82 L st M = am_j (rx_X5_bed n) ((tIc 0 1) 82 L st M) := rfl
theorem rs_X5_bed_83 (n : Nat) (L : AL) (st : List AV) (M : List AC) : rx_X5_bed (n + 1) 83 L st M = am_j (rx_X5_bed n) (tIas 83 L st M) := rfl
theorem rs_X5_bed_84 (n : Nat) (L : AL) (st : List AV) (M : List AC) : rx_X5_bed (n + 1) 84 L st M = am_j (rx_X5_bed n) ((tIinc 1 1) 84 L st M) := rfl
theorem rs_X5_bed_87 (n : Nat) (L : AL) (st : List AV) (M : List AC) : rx_X5_bed (n + 1) 87 L st M = am_j (rx_X5_bed n) ((tGo 26) 87 L st M) := rfl
theorem rs_X5_bed_90 (n : Nat) (L : AL) (st : List AV) (M : List AC) : rx_X5_bed (n + 1) 90 L st M = am_j (rx_X5_bed n) ((tAld 0 1) 90 L st M) := rfl
theorem rs_X5_bed_91 (n : Nat) (L : AL) (st : List AV) (M : List AC) : rx_X5_bed (n + 1) 91 L st M = am_j (rx_X5_bed n) ((tGf 5 4) 91 L st M) := rfl
theorem rs_X5_bed_94 (n : Nat) (L : AL) (st : List AV) (M : List AC) : rx_X5_bed (n + 1) 94 L st M = am_j (rx_X5_bed n) ((tIc 0 1) 94 L st M) := rfl
theorem rs_X5_bed_95 (n : Nat) (L : AL) (st : List AV) (M : List AC) : rx_X5_bed (n + 1) 95 L st M = am_j (rx_X5_bed n) ((tPf kI 0 0) 95 L st M) := rfl
theorem rs_X5_bed_98 (n : Nat) (L : AL) (st : List AV) (M : List AC) : rx_X5_bed (n + 1) 98 L st M = am_j (rx_X5_bed n) ((tIc 10 2) 98 L st M) := rfl
theorem rs_X5_bed_100 (n : Nat) (L : AL) (st : List AV) (M : List AC) : rx_X5_bed (n + 1) 100 L st M = am_j (rx_X5_bed n) ((tIst 1 1) 100 L st M) := rfl
theorem rs_X5_bed_101 (n : Nat) (L : AL) (st : List AV) (M : List AC) : rx_X5_bed (n + 1) 101 L st M = am_j (rx_X5_bed n) ((tIld 1 1) 101 L st M) := rfl
theorem rs_X5_bed_102 (n : Nat) (L : AL) (st : List AV) (M : List AC) : rx_X5_bed (n + 1) 102 L st M = am_j (rx_X5_bed n) ((tAld 0 1) 102 L st M) := rfl
theorem rs_X5_bed_103 (n : Nat) (L : AL) (st : List AV) (M : List AC) : rx_X5_bed (n + 1) 103 L st M = am_j (rx_X5_bed n) ((tGf 5 1) 103 L st M) := rfl
theorem rs_X5_bed_106 (n : Nat) (L : AL) (st : List AV) (M : List AC) : rx_X5_bed (n + 1) 106 L st M = am_j (rx_X5_bed n) ((tCmge 136) 106 L st M) := rfl
theorem rs_X5_bed_109 (n : Nat) (L : AL) (st : List AV) (M : List AC) : rx_X5_bed (n + 1) 109 L st M = am_j (rx_X5_bed n) ((tAld 0 1) 109 L st M) := rfl
theorem rs_X5_bed_110 (n : Nat) (L : AL) (st : List AV) (M : List AC) : rx_X5_bed (n + 1) 110 L st M = am_j (rx_X5_bed n) ((tGf 5 4) 110 L st M) := rfl
theorem rs_X5_bed_113 (n : Nat) (L : AL) (st : List AV) (M : List AC) : rx_X5_bed (n + 1) 113 L st M = am_j (rx_X5_bed n) ((tAld 0 1) 113 L st M) := rfl
theorem rs_X5_bed_114 (n : Nat) (L : AL) (st : List AV) (M : List AC) : rx_X5_bed (n + 1) 114 L st M = am_j (rx_X5_bed n) ((tIld 1 1) 114 L st M) := rfl
theorem rs_X5_bed_115 (n : Nat) (L : AL) (st : List AV) (M : List AC) : rx_X5_bed (n + 1) 115 L st M = am_j (rx_X5_bed n) ((tIc 1 1) 115 L st M) := rfl
theorem rs_X5_bed_116 (n : Nat) (L : AL) (st : List AV) (M : List AC) : rx_X5_bed (n + 1) 116 L st M = am_j (rx_X5_bed n) ((tI2 (fun a b => a + b)) 116 L st M) := rfl
theorem rs_X5_bed_117 (n : Nat) (L : AL) (st : List AV) (M : List AC) : rx_X5_bed (n + 1) 117 L st M = am_j (rx_X5_bed n) ((tCv 5 1 fn_X5_figureAt) 117 L st M) := rfl
theorem rs_X5_bed_120 (n : Nat) (L : AL) (st : List AV) (M : List AC) : rx_X5_bed (n + 1) 120 L st M = am_j (rx_X5_bed n) ((tAld 0 1) 120 L st M) := rfl
theorem rs_X5_bed_121 (n : Nat) (L : AL) (st : List AV) (M : List AC) : rx_X5_bed (n + 1) 121 L st M = am_j (rx_X5_bed n) ((tIld 1 1) 121 L st M) := rfl
theorem rs_X5_bed_122 (n : Nat) (L : AL) (st : List AV) (M : List AC) : rx_X5_bed (n + 1) 122 L st M = am_j (rx_X5_bed n) ((tIc 2 1) 122 L st M) := rfl
theorem rs_X5_bed_123 (n : Nat) (L : AL) (st : List AV) (M : List AC) : rx_X5_bed (n + 1) 123 L st M = am_j (rx_X5_bed n) ((tI2 (fun a b => a + b)) 123 L st M) := rfl
theorem rs_X5_bed_124 (n : Nat) (L : AL) (st : List AV) (M : List AC) : rx_X5_bed (n + 1) 124 L st M = am_j (rx_X5_bed n) ((tCv 5 1 fn_X5_figureAt) 124 L st M) := rfl
theorem rs_X5_bed_127 (n : Nat) (L : AL) (st : List AV) (M : List AC) : rx_X5_bed (n + 1) 127 L st M = am_j (rx_X5_bed n) ((tCv 0 2 fn_X0_hear) 127 L st M) := rfl
theorem rs_X5_bed_130 (n : Nat) (L : AL) (st : List AV) (M : List AC) : rx_X5_bed (n + 1) 130 L st M = am_j (rx_X5_bed n) ((tIinc 1 3) 130 L st M) := rfl
theorem rs_X5_bed_133 (n : Nat) (L : AL) (st : List AV) (M : List AC) : rx_X5_bed (n + 1) 133 L st M = am_j (rx_X5_bed n) ((tGo 101) 133 L st M) := rfl
theorem rs_X5_bed_136 (n : Nat) (L : AL) (st : List AV) (M : List AC) : rx_X5_bed (n + 1) 136 L st M = am_j (rx_X5_bed n) ((tAld 0 1) 136 L st M) := rfl
theorem rs_X5_bed_137 (n : Nat) (L : AL) (st : List AV) (M : List AC) : rx_X5_bed (n + 1) 137 L st M = am_j (rx_X5_bed n) ((tIc 0 1) 137 L st M) := rfl
theorem rs_X5_bed_138 (n : Nat) (L : AL) (st : List AV) (M : List AC) : rx_X5_bed (n + 1) 138 L st M = am_j (rx_X5_bed n) ((tPf kI 5 7) 138 L st M) := rfl
theorem rs_X5_bed_141 (n : Nat) (L : AL) (st : List AV) (M : List AC) : rx_X5_bed (n + 1) 141 L st M = am_j (rx_X5_bed n) ((tIc 0 1) 141 L st M) := rfl
theorem rs_X5_bed_142 (n : Nat) (L : AL) (st : List AV) (M : List AC) : rx_X5_bed (n + 1) 142 L st M = am_j (rx_X5_bed n) ((tIst 1 1) 142 L st M) := rfl
theorem rs_X5_bed_143 (n : Nat) (L : AL) (st : List AV) (M : List AC) : rx_X5_bed (n + 1) 143 L st M = am_j (rx_X5_bed n) ((tIld 1 1) 143 L st M) := rfl
theorem rs_X5_bed_144 (n : Nat) (L : AL) (st : List AV) (M : List AC) : rx_X5_bed (n + 1) 144 L st M = am_j (rx_X5_bed n) ((tIc 2 1) 144 L st M) := rfl
theorem rs_X5_bed_145 (n : Nat) (L : AL) (st : List AV) (M : List AC) : rx_X5_bed (n + 1) 145 L st M = am_j (rx_X5_bed n) ((tCmge 161) 145 L st M) := rfl
theorem rs_X5_bed_148 (n : Nat) (L : AL) (st : List AV) (M : List AC) : rx_X5_bed (n + 1) 148 L st M = am_j (rx_X5_bed n) ((tAld 0 1) 148 L st M) := rfl
theorem rs_X5_bed_149 (n : Nat) (L : AL) (st : List AV) (M : List AC) : rx_X5_bed (n + 1) 149 L st M = am_j (rx_X5_bed n) ((tGf 5 9) 149 L st M) := rfl
theorem rs_X5_bed_152 (n : Nat) (L : AL) (st : List AV) (M : List AC) : rx_X5_bed (n + 1) 152 L st M = am_j (rx_X5_bed n) ((tIld 1 1) 152 L st M) := rfl
theorem rs_X5_bed_153 (n : Nat) (L : AL) (st : List AV) (M : List AC) : rx_X5_bed (n + 1) 153 L st M = am_j (rx_X5_bed n) ((tIc 0 1) 153 L st M) := rfl
theorem rs_X5_bed_154 (n : Nat) (L : AL) (st : List AV) (M : List AC) : rx_X5_bed (n + 1) 154 L st M = am_j (rx_X5_bed n) (tBas 154 L st M) := rfl
theorem rs_X5_bed_155 (n : Nat) (L : AL) (st : List AV) (M : List AC) : rx_X5_bed (n + 1) 155 L st M = am_j (rx_X5_bed n) ((tIinc 1 1) 155 L st M) := rfl
theorem rs_X5_bed_158 (n : Nat) (L : AL) (st : List AV) (M : List AC) : rx_X5_bed (n + 1) 158 L st M = am_j (rx_X5_bed n) ((tGo 143) 158 L st M) := rfl
theorem rs_X5_bed_161 (n : Nat) (L : AL) (st : List AV) (M : List AC) : rx_X5_bed (n + 1) 161 L st M = am_j (rx_X5_bed n) ((tAld 0 1) 161 L st M) := rfl
theorem rs_X5_bed_162 (n : Nat) (L : AL) (st : List AV) (M : List AC) : rx_X5_bed (n + 1) 162 L st M = am_j (rx_X5_bed n) ((tGf 5 4) 162 L st M) := rfl
theorem rs_X5_bed_165 (n : Nat) (L : AL) (st : List AV) (M : List AC) : rx_X5_bed (n + 1) 165 L st M = am_j (rx_X5_bed n) ((tGf 0 0) 165 L st M) := rfl
theorem rs_X5_bed_11 (n : Nat) (L : AL) (st : List AV) (M : List AC) : rx_X5_bed (n + 1) 11 L st M = am_e rI st M := rfl
theorem rs_X5_bed_168 (n : Nat) (L : AL) (st : List AV) (M : List AC) : rx_X5_bed (n + 1) 168 L st M = am_e rI st M := rfl
theorem ri_X5_bed (c : Prop) [Decidable c] (p q n : Nat) (L : AL) (st : List AV) (M : List AC) : rx_X5_bed n (if c then p else q) L st M = if c then rx_X5_bed n p L st M else rx_X5_bed n q L st M := by split <;> rfl
theorem rm_X5_bed {n k pc : Nat} {L : AL} {st : List AV} {M : List AC} {x : Option AV × List AC} (h : rx_X5_bed n pc L st M = some x) (hk : n ≤ k) : rx_X5_bed k pc L st M = some x := am_r_mono n k h hk
def fn_X5_bed : Fn := am_fn rx_X5_bed 2
theorem fok_X5_bed : Fok mi_X5_bed fn_X5_bed := fun _ _ _ _ h => am_fok ok_X5_bed rk_X5_bed rfl h
theorem l1_X5_bed {len fa ac : Int} {sr : AV} {sd : Int64} {txt : List Int} (ht : txt.length = 24) (hl : 0 ≤ len ∧ len ≤ 24) (y : Option AV × List AC) (N : Nat) : ∀ (n k : Nat) (c t : F3) (M : List AC), M[0]? = some (co len fa ac sr sd) → M[1]? = some (aI txt) → HL M k c t → len = 10 + 3 * ((k : Int) + n) → k + n ≤ 3 →
    Ru rx_X5_bed N 136 [some (vR 0), some (vI len)] [] (((M.set 12 (aO 0 [vI ((k : Int) + n), vR 13, vR 14])).set 13 (aI (l3 (hks txt n k (c, t)).1))).set 14 (aI (l3 (hks txt n k (c, t)).2))) y →
    Ru rx_X5_bed (N + 30 * n + 10) 101 [some (vR 0), some (vI (10 + 3 * (k : Int)))] [] M y
  | 0, k, c, t, M, h0, h1, hL, hlen, hk, kk => by
    have e : 10 + 3 * (k : Int) = len := by omega
    rw [e]
    have wl : wr len = len := wr_id (by omega) (by omega)
    obtain ⟨m, hm, h⟩ := kk
    obtain ⟨l0, l1, l2⟩ := hL
    have ek : (k : Int) + ((0 : Nat) : Int) = k := by omega
    rw [hks, ek, set_same l0, set_same l1, set_same l2] at h
    refine ⟨m + 9 + 1, by omega, ?_⟩
    rw [rs_X5_bed_101]
    simp only [co] at h0
    simp [↓ri_X5_bed, rs_X5_bed_0, rs_X5_bed_1, rs_X5_bed_4, rs_X5_bed_6, rs_X5_bed_9, rs_X5_bed_12, rs_X5_bed_13, rs_X5_bed_16, rs_X5_bed_17, rs_X5_bed_18, rs_X5_bed_21, rs_X5_bed_24, rs_X5_bed_25, rs_X5_bed_26, rs_X5_bed_27, rs_X5_bed_28, rs_X5_bed_31, rs_X5_bed_32, rs_X5_bed_35, rs_X5_bed_38, rs_X5_bed_39, rs_X5_bed_40, rs_X5_bed_41, rs_X5_bed_42, rs_X5_bed_43, rs_X5_bed_46, rs_X5_bed_47, rs_X5_bed_48, rs_X5_bed_51, rs_X5_bed_54, rs_X5_bed_55, rs_X5_bed_56, rs_X5_bed_58, rs_X5_bed_59, rs_X5_bed_60, rs_X5_bed_63, rs_X5_bed_64, rs_X5_bed_65, rs_X5_bed_68, rs_X5_bed_71, rs_X5_bed_72, rs_X5_bed_73, rs_X5_bed_74, rs_X5_bed_75, rs_X5_bed_78, rs_X5_bed_81, rs_X5_bed_82, rs_X5_bed_83, rs_X5_bed_84, rs_X5_bed_87, rs_X5_bed_90, rs_X5_bed_91, rs_X5_bed_94, rs_X5_bed_95, rs_X5_bed_98, rs_X5_bed_100, rs_X5_bed_102, rs_X5_bed_103, rs_X5_bed_106, rs_X5_bed_109, rs_X5_bed_110, rs_X5_bed_113, rs_X5_bed_114, rs_X5_bed_115, rs_X5_bed_116, rs_X5_bed_117, rs_X5_bed_120, rs_X5_bed_121, rs_X5_bed_122, rs_X5_bed_123, rs_X5_bed_124, rs_X5_bed_127, rs_X5_bed_130, rs_X5_bed_133, rs_X5_bed_137, rs_X5_bed_138, rs_X5_bed_141, rs_X5_bed_142, rs_X5_bed_143, rs_X5_bed_144, rs_X5_bed_145, rs_X5_bed_148, rs_X5_bed_149, rs_X5_bed_152, rs_X5_bed_153, rs_X5_bed_154, rs_X5_bed_155, rs_X5_bed_158, rs_X5_bed_161, rs_X5_bed_162, rs_X5_bed_165, rs_X5_bed_11, rs_X5_bed_168, -List.getElem?_eq_getElem, am_js, am_e, am_in, am_sl, rI, rZ, rV, rJ, rA, rC, kI, kJ, kR, am_one, am_nl, am_w8, tIc, tLc, tNul, tIld, tLld, tAld, tIst, tLst, tAst, tIinc, tI2, tDv, tL2, tLrem, tLs, tLcmp, tI2l, tL2i, tI2c, tDup, tDup2, tPop, tGo, tIfeq, tIfne, tIflt, tIfge, tIfgt, tIfle, tCmeq, tCmne, tCmlt, tCmge, tCmgt, tCmle, tNu, tTs, tGf, tPf, tGs, tIal, tIas, tBal, tBas, tAln, tSv, tSc, tSb, tSl, tSk, tCv, tCs, tCt, tMx, tMn, wr_10000, wr_100000, wr_1000000, wr_10000000, wr_100000000, wr_2400, wr_9999, wr_0, wr_1, wr_2, wr_3, wr_4, wr_5, wr_6, wr_7, wr_8, wr_9, wr_10, wr_11, wr_12, wr_13, wr_14, wr_15, wr_16, wr_17, wr_18, wr_19, wr_20, wr_21, wr_22, wr_23, wr_24, wr_25, wr_26, wr_27, wr_28, wr_29, wr_30, wr_31, wr_32, wr_33, wr_34, wr_35, wr_36, wr_37, wr_38, wr_39, wr_40, wr_41, wr_42, wr_43, wr_44, wr_45, wr_46, wr_47, wr_48, wr_49, wr_50, wr_51, wr_52, wr_53, wr_54, wr_55, wr_56, wr_57, wr_58, wr_59, wr_60, wr_61, wr_62, wr_63, wr_99, wr_100, wr_192, wr_255, wr_256, wr_343, wr_999, wr_1000, wr_2401, wr_2147483647, wr_65535, wr_m1, wr_m2, wr_m3, wr_m4, wr_m9, ak_1000, ak_1001, ak_1002, ak_0, ak_1, ak_2, ak_3, ak_4, ak_5, ak_6, ak_7, ak_8, ak_9, ak_10, ak_11, ak_12, ak_13, ak_14, ak_15, ak_16, ak_17, ak_18, ak_19, ak_20, ak_21, ak_22, ak_23, ak_24, ak_25, ak_26, ak_27, ak_28, ak_29, ak_30, ak_31, ak_32, ak_33, ak_34, ak_35, ak_36, ak_37, ak_38, ak_39, ak_40, ak_41, ak_42, ak_43, ak_44, ak_45, ak_46, ak_47, h0, wl]
    exact rm_X5_bed h (by omega)
  | n + 1, k, c, t, M, h0, h1, hL, hlen, hk, kk => by
    have wl : wr len = len := wr_id (by omega) (by omega)
    have wp : wr (10 + 3 * (k : Int)) = 10 + 3 * (k : Int) := wr_id (by omega) (by omega)
    have np : ¬ len ≤ 10 + 3 * (k : Int) := by omega
    have q1 := sp_X5_figureAt h0 h1 hl ht (10 + 3 * (k : Int) + 1) (by omega)
    have q2 := sp_X5_figureAt h0 h1 hl ht (10 + 3 * (k : Int) + 2) (by omega)
    rw [show (10 + 3 * (k : Int) + 1).toNat = 11 + 3 * k by omega] at q1
    rw [show (10 + 3 * (k : Int) + 2).toNat = 12 + 3 * k by omega] at q2
    change _ = some (some (vI (tf txt (11 + 3 * k))), M) at q1
    change _ = some (some (vI (tf txt (12 + 3 * k))), M) at q2
    have q3 := sp_X0_hear hL (by omega) (tf txt (11 + 3 * k)) (tf txt (12 + 3 * k))
    rw [Int.toNat_natCast, h3_set (by omega), h3_set (by omega)] at q3
    obtain ⟨l0, l1, l2⟩ := hL
    rw [hks] at kk
    have ek : ((k + 1 : Nat) : Int) = (k : Int) + 1 := by omega
    obtain ⟨m, hm, h⟩ := l1_X5_bed (fa := fa) (ac := ac) (sr := sr) (sd := sd) ht hl y N n (k + 1) (h3 c k (tf txt (11 + 3 * k))) (h3 t k (tf txt (12 + 3 * k))) (((M.set 12 (aO 0 [vI ((k : Int) + 1), vR 13, vR 14])).set 13 (aI (l3 (h3 c k (tf txt (11 + 3 * k)))))).set 14 (aI (l3 (h3 t k (tf txt (12 + 3 * k)))))) (by simp [-List.getElem?_eq_getElem, h0, gs h0]) (by simp [-List.getElem?_eq_getElem, h1, gs h1]) ⟨by simp [-List.getElem?_eq_getElem, gs l0], by simp [-List.getElem?_eq_getElem, gs l1], by simp [-List.getElem?_eq_getElem, gs l2]⟩ (by omega) (by omega) (by
      have e9 : ((k + 1 : Nat) : Int) + n = (k : Int) + ((n + 1 : Nat) : Int) := by omega
      rw [e9]
      simpa [ss (i := 12) (j := 13) (by decide), ss (i := 12) (j := 14) (by decide), ss (i := 13) (j := 14) (by decide)] using kk)
    clear kk
    rw [ek, show 10 + 3 * ((k : Int) + 1) = 10 + 3 * (k : Int) + 3 by omega] at h
    generalize l3 (h3 c k (tf txt (11 + 3 * k))) = L1 at q3 h
    generalize l3 (h3 t k (tf txt (12 + 3 * k))) = L2 at q3 h
    generalize tf txt (11 + 3 * k) = f1 at q1 q3
    generalize tf txt (12 + 3 * k) = f2 at q2 q3
    generalize 10 + 3 * (k : Int) = p at wp np q1 q2 h ⊢
    refine ⟨m + 29 + 1, by omega, ?_⟩
    rw [rs_X5_bed_101]
    simp only [co] at h0
    simp [↓ri_X5_bed, rs_X5_bed_0, rs_X5_bed_1, rs_X5_bed_4, rs_X5_bed_6, rs_X5_bed_9, rs_X5_bed_12, rs_X5_bed_13, rs_X5_bed_16, rs_X5_bed_17, rs_X5_bed_18, rs_X5_bed_21, rs_X5_bed_24, rs_X5_bed_25, rs_X5_bed_26, rs_X5_bed_27, rs_X5_bed_28, rs_X5_bed_31, rs_X5_bed_32, rs_X5_bed_35, rs_X5_bed_38, rs_X5_bed_39, rs_X5_bed_40, rs_X5_bed_41, rs_X5_bed_42, rs_X5_bed_43, rs_X5_bed_46, rs_X5_bed_47, rs_X5_bed_48, rs_X5_bed_51, rs_X5_bed_54, rs_X5_bed_55, rs_X5_bed_56, rs_X5_bed_58, rs_X5_bed_59, rs_X5_bed_60, rs_X5_bed_63, rs_X5_bed_64, rs_X5_bed_65, rs_X5_bed_68, rs_X5_bed_71, rs_X5_bed_72, rs_X5_bed_73, rs_X5_bed_74, rs_X5_bed_75, rs_X5_bed_78, rs_X5_bed_81, rs_X5_bed_82, rs_X5_bed_83, rs_X5_bed_84, rs_X5_bed_87, rs_X5_bed_90, rs_X5_bed_91, rs_X5_bed_94, rs_X5_bed_95, rs_X5_bed_98, rs_X5_bed_100, rs_X5_bed_102, rs_X5_bed_103, rs_X5_bed_106, rs_X5_bed_109, rs_X5_bed_110, rs_X5_bed_113, rs_X5_bed_114, rs_X5_bed_115, rs_X5_bed_116, rs_X5_bed_117, rs_X5_bed_120, rs_X5_bed_121, rs_X5_bed_122, rs_X5_bed_123, rs_X5_bed_124, rs_X5_bed_127, rs_X5_bed_130, rs_X5_bed_133, rs_X5_bed_137, rs_X5_bed_138, rs_X5_bed_141, rs_X5_bed_142, rs_X5_bed_143, rs_X5_bed_144, rs_X5_bed_145, rs_X5_bed_148, rs_X5_bed_149, rs_X5_bed_152, rs_X5_bed_153, rs_X5_bed_154, rs_X5_bed_155, rs_X5_bed_158, rs_X5_bed_161, rs_X5_bed_162, rs_X5_bed_165, rs_X5_bed_11, rs_X5_bed_168, -List.getElem?_eq_getElem, am_js, am_e, am_in, am_sl, rI, rZ, rV, rJ, rA, rC, kI, kJ, kR, am_one, am_nl, am_w8, tIc, tLc, tNul, tIld, tLld, tAld, tIst, tLst, tAst, tIinc, tI2, tDv, tL2, tLrem, tLs, tLcmp, tI2l, tL2i, tI2c, tDup, tDup2, tPop, tGo, tIfeq, tIfne, tIflt, tIfge, tIfgt, tIfle, tCmeq, tCmne, tCmlt, tCmge, tCmgt, tCmle, tNu, tTs, tGf, tPf, tGs, tIal, tIas, tBal, tBas, tAln, tSv, tSc, tSb, tSl, tSk, tCv, tCs, tCt, tMx, tMn, wr_10000, wr_100000, wr_1000000, wr_10000000, wr_100000000, wr_2400, wr_9999, wr_0, wr_1, wr_2, wr_3, wr_4, wr_5, wr_6, wr_7, wr_8, wr_9, wr_10, wr_11, wr_12, wr_13, wr_14, wr_15, wr_16, wr_17, wr_18, wr_19, wr_20, wr_21, wr_22, wr_23, wr_24, wr_25, wr_26, wr_27, wr_28, wr_29, wr_30, wr_31, wr_32, wr_33, wr_34, wr_35, wr_36, wr_37, wr_38, wr_39, wr_40, wr_41, wr_42, wr_43, wr_44, wr_45, wr_46, wr_47, wr_48, wr_49, wr_50, wr_51, wr_52, wr_53, wr_54, wr_55, wr_56, wr_57, wr_58, wr_59, wr_60, wr_61, wr_62, wr_63, wr_99, wr_100, wr_192, wr_255, wr_256, wr_343, wr_999, wr_1000, wr_2401, wr_2147483647, wr_65535, wr_m1, wr_m2, wr_m3, wr_m4, wr_m9, ak_1000, ak_1001, ak_1002, ak_0, ak_1, ak_2, ak_3, ak_4, ak_5, ak_6, ak_7, ak_8, ak_9, ak_10, ak_11, ak_12, ak_13, ak_14, ak_15, ak_16, ak_17, ak_18, ak_19, ak_20, ak_21, ak_22, ak_23, ak_24, ak_25, ak_26, ak_27, ak_28, ak_29, ak_30, ak_31, ak_32, ak_33, ak_34, ak_35, ak_36, ak_37, ak_38, ak_39, ak_40, ak_41, ak_42, ak_43, ak_44, ak_45, ak_46, ak_47, h0, l0, wl, wp, np, q1, q2, q3]
    exact rm_X5_bed h (by omega)
set_option maxRecDepth 100000 in
set_option maxHeartbeats 4000000 in
theorem sp_X5_bed {M : List AC} {len fa ac : Int} {sr : AV} {sd : Int64} (h0 : M[0]? = some (co len fa ac sr sd)) {txt : List Int} (h1 : M[1]? = some (aI txt)) {st : Int} {g s d b : F4} (hs : HS M 2 st g s d b) {lk : Int} {lc lt : F3} (hL : HL M lk lc lt) {f0 f1 : Int} (h23 : M[23]? = some (aB [f0, f1])) (ht : txt.length = 24) (hl : 0 ≤ len ∧ len ≤ 24) (hc : ∀ i : Nat, 0 ≤ txt.getD i 0 ∧ txt.getD i 0 < 256) : fn_X5_bed [vR 0] M = if fau txt len len.toNat 0 = -9 then some (some (vI ((len - 10) / 3)), (((((((((M.set 0 (co len fa 0 sr sd)).set 2 (aO 4 [vI (tf txt 1), vR 3, vR 4, vR 5, vR 6])).set 3 (aI (l4 (tfg txt)))).set 4 (aI (l4 (tfs txt)))).set 5 (aI (l4 (0, 0, 0, 0)))).set 6 (aI (l4 (0, 0, 0, 0)))).set 12 (aO 0 [vI ((len - 10) / 3), vR 13, vR 14])).set 13 (aI (l3 (tfc txt ((len - 10) / 3) lc)))).set 14 (aI (l3 (tft txt ((len - 10) / 3) lt)))).set 23 (aB [0, 0])) else some (some (vI (-3)), M) := by
  have q := sp_X5_fault h0 h1 ht hl hc
  obtain ⟨i0, i1, i2, i3, i4⟩ := hs.two
  obtain ⟨l0, l1, l2⟩ := hL
  by_cases h : fau txt len len.toNat 0 = -9
  · rw [if_pos h]
    rw [h] at q
    obtain ⟨hlen, -⟩ := fau_len hl h
    clear h hc
    obtain ⟨n, hn3, en⟩ : ∃ n : Nat, n ≤ 3 ∧ len = 10 + 3 * (n : Int) := by
      rcases hlen with rfl | rfl | rfl | rfl
      · exact ⟨0, by omega, by omega⟩
      · exact ⟨1, by omega, by omega⟩
      · exact ⟨2, by omega, by omega⟩
      · exact ⟨3, by omega, by omega⟩
    have ek : (len - 10) / 3 = (n : Int) := by omega
    rw [ek]
    have hk := hks_tf txt lc lt n hn3
    have FA : ∀ (N : List AC) (p : Int), N[0]? = some (co len fa ac sr sd) → N[1]? = some (aI txt) → 0 ≤ p → p < 10 → fn_X5_figureAt [vR 0, vI p] N = some (some (vI (txt.getD p.toNat 0 - 48)), N) := fun N p a1 a2 a3 a4 => sp_X5_figureAt a1 a2 hl ht p ⟨a3, by omega⟩
    have key := l1_X5_bed (fa := fa) (ac := ac) (sr := sr) (sd := sd) ht hl (some (vI (n : Int)), (((((((((M.set 0 (co len fa 0 sr sd)).set 2 (aO 4 [vI (tf txt 1), vR 3, vR 4, vR 5, vR 6])).set 3 (aI (l4 (tfg txt)))).set 4 (aI (l4 (tfs txt)))).set 5 (aI (l4 (0, 0, 0, 0)))).set 6 (aI (l4 (0, 0, 0, 0)))).set 12 (aO 0 [vI (n : Int), vR 13, vR 14])).set 13 (aI (l3 (tfc txt n lc)))).set 14 (aI (l3 (tft txt n lt)))).set 23 (aB [0, 0])) 60 n 0 lc lt ((((((M.set 2 (aO 4 [vI (tf txt 1), vR 3, vR 4, vR 5, vR 6])).set 3 (aI (l4 (tfg txt)))).set 4 (aI (l4 (tfs txt)))).set 5 (aI (l4 (0, 0, 0, 0)))).set 6 (aI (l4 (0, 0, 0, 0)))).set 12 (aO 0 [vI 0, vR 13, vR 14])) (by simp [-List.getElem?_eq_getElem, h0, gs h0]) (by simp [-List.getElem?_eq_getElem, h1, gs h1]) ⟨by simp [-List.getElem?_eq_getElem, gs l0], by simp [-List.getElem?_eq_getElem, l1], by simp [-List.getElem?_eq_getElem, l2]⟩ (by omega) (by omega) (by
      rw [hk]
      refine ⟨59 + 1, by omega, ?_⟩
      rw [rs_X5_bed_136]
      have ez : ((0 : Nat) : Int) + n = n := by omega
      rw [ez]
      generalize l3 (tfc txt n lc) = L1
      generalize l3 (tft txt n lt) = L2
      simp only [co] at h0 ⊢
      simp [↓ri_X5_bed, rs_X5_bed_0, rs_X5_bed_1, rs_X5_bed_4, rs_X5_bed_6, rs_X5_bed_9, rs_X5_bed_12, rs_X5_bed_13, rs_X5_bed_16, rs_X5_bed_17, rs_X5_bed_18, rs_X5_bed_21, rs_X5_bed_24, rs_X5_bed_25, rs_X5_bed_26, rs_X5_bed_27, rs_X5_bed_28, rs_X5_bed_31, rs_X5_bed_32, rs_X5_bed_35, rs_X5_bed_38, rs_X5_bed_39, rs_X5_bed_40, rs_X5_bed_41, rs_X5_bed_42, rs_X5_bed_43, rs_X5_bed_46, rs_X5_bed_47, rs_X5_bed_48, rs_X5_bed_51, rs_X5_bed_54, rs_X5_bed_55, rs_X5_bed_56, rs_X5_bed_58, rs_X5_bed_59, rs_X5_bed_60, rs_X5_bed_63, rs_X5_bed_64, rs_X5_bed_65, rs_X5_bed_68, rs_X5_bed_71, rs_X5_bed_72, rs_X5_bed_73, rs_X5_bed_74, rs_X5_bed_75, rs_X5_bed_78, rs_X5_bed_81, rs_X5_bed_82, rs_X5_bed_83, rs_X5_bed_84, rs_X5_bed_87, rs_X5_bed_90, rs_X5_bed_91, rs_X5_bed_94, rs_X5_bed_95, rs_X5_bed_98, rs_X5_bed_100, rs_X5_bed_101, rs_X5_bed_102, rs_X5_bed_103, rs_X5_bed_106, rs_X5_bed_109, rs_X5_bed_110, rs_X5_bed_113, rs_X5_bed_114, rs_X5_bed_115, rs_X5_bed_116, rs_X5_bed_117, rs_X5_bed_120, rs_X5_bed_121, rs_X5_bed_122, rs_X5_bed_123, rs_X5_bed_124, rs_X5_bed_127, rs_X5_bed_130, rs_X5_bed_133, rs_X5_bed_137, rs_X5_bed_138, rs_X5_bed_141, rs_X5_bed_142, rs_X5_bed_143, rs_X5_bed_144, rs_X5_bed_145, rs_X5_bed_148, rs_X5_bed_149, rs_X5_bed_152, rs_X5_bed_153, rs_X5_bed_154, rs_X5_bed_155, rs_X5_bed_158, rs_X5_bed_161, rs_X5_bed_162, rs_X5_bed_165, rs_X5_bed_11, rs_X5_bed_168, -List.getElem?_eq_getElem, am_js, am_e, am_in, am_sl, rI, rZ, rV, rJ, rA, rC, kI, kJ, kR, am_one, am_nl, am_w8, tIc, tLc, tNul, tIld, tLld, tAld, tIst, tLst, tAst, tIinc, tI2, tDv, tL2, tLrem, tLs, tLcmp, tI2l, tL2i, tI2c, tDup, tDup2, tPop, tGo, tIfeq, tIfne, tIflt, tIfge, tIfgt, tIfle, tCmeq, tCmne, tCmlt, tCmge, tCmgt, tCmle, tNu, tTs, tGf, tPf, tGs, tIal, tIas, tBal, tBas, tAln, tSv, tSc, tSb, tSl, tSk, tCv, tCs, tCt, tMx, tMn, wr_10000, wr_100000, wr_1000000, wr_10000000, wr_100000000, wr_2400, wr_9999, wr_0, wr_1, wr_2, wr_3, wr_4, wr_5, wr_6, wr_7, wr_8, wr_9, wr_10, wr_11, wr_12, wr_13, wr_14, wr_15, wr_16, wr_17, wr_18, wr_19, wr_20, wr_21, wr_22, wr_23, wr_24, wr_25, wr_26, wr_27, wr_28, wr_29, wr_30, wr_31, wr_32, wr_33, wr_34, wr_35, wr_36, wr_37, wr_38, wr_39, wr_40, wr_41, wr_42, wr_43, wr_44, wr_45, wr_46, wr_47, wr_48, wr_49, wr_50, wr_51, wr_52, wr_53, wr_54, wr_55, wr_56, wr_57, wr_58, wr_59, wr_60, wr_61, wr_62, wr_63, wr_99, wr_100, wr_192, wr_255, wr_256, wr_343, wr_999, wr_1000, wr_2401, wr_2147483647, wr_65535, wr_m1, wr_m2, wr_m3, wr_m4, wr_m9, ak_1000, ak_1001, ak_1002, ak_0, ak_1, ak_2, ak_3, ak_4, ak_5, ak_6, ak_7, ak_8, ak_9, ak_10, ak_11, ak_12, ak_13, ak_14, ak_15, ak_16, ak_17, ak_18, ak_19, ak_20, ak_21, ak_22, ak_23, ak_24, ak_25, ak_26, ak_27, ak_28, ak_29, ak_30, ak_31, ak_32, ak_33, ak_34, ak_35, ak_36, ak_37, ak_38, ak_39, ak_40, ak_41, ak_42, ak_43, ak_44, ak_45, ak_46, ak_47, h0, h23, gs h0, gs h23, gs l0, ss (i := 0) (j := 2) (by decide), ss (i := 0) (j := 3) (by decide), ss (i := 0) (j := 4) (by decide), ss (i := 0) (j := 5) (by decide), ss (i := 0) (j := 6) (by decide), ss (i := 0) (j := 12) (by decide), ss (i := 0) (j := 13) (by decide), ss (i := 0) (j := 14) (by decide), ss (i := 0) (j := 23) (by decide), ss (i := 2) (j := 3) (by decide), ss (i := 2) (j := 4) (by decide), ss (i := 2) (j := 5) (by decide), ss (i := 2) (j := 6) (by decide), ss (i := 2) (j := 12) (by decide), ss (i := 2) (j := 13) (by decide), ss (i := 2) (j := 14) (by decide), ss (i := 2) (j := 23) (by decide), ss (i := 3) (j := 4) (by decide), ss (i := 3) (j := 5) (by decide), ss (i := 3) (j := 6) (by decide), ss (i := 3) (j := 12) (by decide), ss (i := 3) (j := 13) (by decide), ss (i := 3) (j := 14) (by decide), ss (i := 3) (j := 23) (by decide), ss (i := 4) (j := 5) (by decide), ss (i := 4) (j := 6) (by decide), ss (i := 4) (j := 12) (by decide), ss (i := 4) (j := 13) (by decide), ss (i := 4) (j := 14) (by decide), ss (i := 4) (j := 23) (by decide), ss (i := 5) (j := 6) (by decide), ss (i := 5) (j := 12) (by decide), ss (i := 5) (j := 13) (by decide), ss (i := 5) (j := 14) (by decide), ss (i := 5) (j := 23) (by decide), ss (i := 6) (j := 12) (by decide), ss (i := 6) (j := 13) (by decide), ss (i := 6) (j := 14) (by decide), ss (i := 6) (j := 23) (by decide), ss (i := 12) (j := 13) (by decide), ss (i := 12) (j := 14) (by decide), ss (i := 12) (j := 23) (by decide), ss (i := 13) (j := 14) (by decide), ss (i := 13) (j := 23) (by decide), ss (i := 14) (j := 23) (by decide)])
    obtain ⟨m, hm, h'⟩ := key
    generalize (some (vI (n : Int)), (((((((((M.set 0 (co len fa 0 sr sd)).set 2 (aO 4 [vI (tf txt 1), vR 3, vR 4, vR 5, vR 6])).set 3 (aI (l4 (tfg txt)))).set 4 (aI (l4 (tfs txt)))).set 5 (aI (l4 (0, 0, 0, 0)))).set 6 (aI (l4 (0, 0, 0, 0)))).set 12 (aO 0 [vI (n : Int), vR 13, vR 14])).set 13 (aI (l3 (tfc txt n lc)))).set 14 (aI (l3 (tft txt n lt)))).set 23 (aB [0, 0])) = Y at h' ⊢
    (refine am_fnR (tb := tb_X5_bed) (N := 2000) (Nat.le_of_ble_eq_true rfl) (Nat.le_of_ble_eq_true rfl) ?_; show Ru rx_X5_bed 2000 0 _ _ _ _)
    refine ⟨m + 300, by omega, ?_⟩
    simp only [co] at h0 FA
    simp [tf, tfg, tfs, -List.getD_eq_getElem?_getD, ss (i := 2) (j := 3) (by decide), ss (i := 2) (j := 4) (by decide), ss (i := 2) (j := 5) (by decide), ss (i := 2) (j := 6) (by decide), ss (i := 2) (j := 12) (by decide), ss (i := 3) (j := 4) (by decide), ss (i := 3) (j := 5) (by decide), ss (i := 3) (j := 6) (by decide), ss (i := 3) (j := 12) (by decide), ss (i := 4) (j := 5) (by decide), ss (i := 4) (j := 6) (by decide), ss (i := 4) (j := 12) (by decide), ss (i := 5) (j := 6) (by decide), ss (i := 5) (j := 12) (by decide), ss (i := 6) (j := 12) (by decide)] at h'
    simp [↓ri_X5_bed, rs_X5_bed_0, rs_X5_bed_1, rs_X5_bed_4, rs_X5_bed_6, rs_X5_bed_9, rs_X5_bed_12, rs_X5_bed_13, rs_X5_bed_16, rs_X5_bed_17, rs_X5_bed_18, rs_X5_bed_21, rs_X5_bed_24, rs_X5_bed_25, rs_X5_bed_26, rs_X5_bed_27, rs_X5_bed_28, rs_X5_bed_31, rs_X5_bed_32, rs_X5_bed_35, rs_X5_bed_38, rs_X5_bed_39, rs_X5_bed_40, rs_X5_bed_41, rs_X5_bed_42, rs_X5_bed_43, rs_X5_bed_46, rs_X5_bed_47, rs_X5_bed_48, rs_X5_bed_51, rs_X5_bed_54, rs_X5_bed_55, rs_X5_bed_56, rs_X5_bed_58, rs_X5_bed_59, rs_X5_bed_60, rs_X5_bed_63, rs_X5_bed_64, rs_X5_bed_65, rs_X5_bed_68, rs_X5_bed_71, rs_X5_bed_72, rs_X5_bed_73, rs_X5_bed_74, rs_X5_bed_75, rs_X5_bed_78, rs_X5_bed_81, rs_X5_bed_82, rs_X5_bed_83, rs_X5_bed_84, rs_X5_bed_87, rs_X5_bed_90, rs_X5_bed_91, rs_X5_bed_94, rs_X5_bed_95, rs_X5_bed_98, rs_X5_bed_100, rs_X5_bed_102, rs_X5_bed_103, rs_X5_bed_106, rs_X5_bed_109, rs_X5_bed_110, rs_X5_bed_113, rs_X5_bed_114, rs_X5_bed_115, rs_X5_bed_116, rs_X5_bed_117, rs_X5_bed_120, rs_X5_bed_121, rs_X5_bed_122, rs_X5_bed_123, rs_X5_bed_124, rs_X5_bed_127, rs_X5_bed_130, rs_X5_bed_133, rs_X5_bed_136, rs_X5_bed_137, rs_X5_bed_138, rs_X5_bed_141, rs_X5_bed_142, rs_X5_bed_143, rs_X5_bed_144, rs_X5_bed_145, rs_X5_bed_148, rs_X5_bed_149, rs_X5_bed_152, rs_X5_bed_153, rs_X5_bed_154, rs_X5_bed_155, rs_X5_bed_158, rs_X5_bed_161, rs_X5_bed_162, rs_X5_bed_165, rs_X5_bed_11, rs_X5_bed_168, -List.getElem?_eq_getElem, am_js, am_e, am_in, am_sl, rI, rZ, rV, rJ, rA, rC, kI, kJ, kR, am_one, am_nl, am_w8, tIc, tLc, tNul, tIld, tLld, tAld, tIst, tLst, tAst, tIinc, tI2, tDv, tL2, tLrem, tLs, tLcmp, tI2l, tL2i, tI2c, tDup, tDup2, tPop, tGo, tIfeq, tIfne, tIflt, tIfge, tIfgt, tIfle, tCmeq, tCmne, tCmlt, tCmge, tCmgt, tCmle, tNu, tTs, tGf, tPf, tGs, tIal, tIas, tBal, tBas, tAln, tSv, tSc, tSb, tSl, tSk, tCv, tCs, tCt, tMx, tMn, wr_10000, wr_100000, wr_1000000, wr_10000000, wr_100000000, wr_2400, wr_9999, wr_0, wr_1, wr_2, wr_3, wr_4, wr_5, wr_6, wr_7, wr_8, wr_9, wr_10, wr_11, wr_12, wr_13, wr_14, wr_15, wr_16, wr_17, wr_18, wr_19, wr_20, wr_21, wr_22, wr_23, wr_24, wr_25, wr_26, wr_27, wr_28, wr_29, wr_30, wr_31, wr_32, wr_33, wr_34, wr_35, wr_36, wr_37, wr_38, wr_39, wr_40, wr_41, wr_42, wr_43, wr_44, wr_45, wr_46, wr_47, wr_48, wr_49, wr_50, wr_51, wr_52, wr_53, wr_54, wr_55, wr_56, wr_57, wr_58, wr_59, wr_60, wr_61, wr_62, wr_63, wr_99, wr_100, wr_192, wr_255, wr_256, wr_343, wr_999, wr_1000, wr_2401, wr_2147483647, wr_65535, wr_m1, wr_m2, wr_m3, wr_m4, wr_m9, ak_1000, ak_1001, ak_1002, ak_0, ak_1, ak_2, ak_3, ak_4, ak_5, ak_6, ak_7, ak_8, ak_9, ak_10, ak_11, ak_12, ak_13, ak_14, ak_15, ak_16, ak_17, ak_18, ak_19, ak_20, ak_21, ak_22, ak_23, ak_24, ak_25, ak_26, ak_27, ak_28, ak_29, ak_30, ak_31, ak_32, ak_33, ak_34, ak_35, ak_36, ak_37, ak_38, ak_39, ak_40, ak_41, ak_42, ak_43, ak_44, ak_45, ak_46, ak_47, -List.getD_eq_getElem?_getD, q, h0, h1, FA, i0, i1, i2, i3, i4, l0, gs i0, gs i1, gs i2, gs i3, gs i4, gs l0, ss (i := 2) (j := 3) (by decide), ss (i := 2) (j := 4) (by decide), ss (i := 2) (j := 5) (by decide), ss (i := 2) (j := 6) (by decide), ss (i := 2) (j := 12) (by decide), ss (i := 3) (j := 4) (by decide), ss (i := 3) (j := 5) (by decide), ss (i := 3) (j := 6) (by decide), ss (i := 3) (j := 12) (by decide), ss (i := 4) (j := 5) (by decide), ss (i := 4) (j := 6) (by decide), ss (i := 4) (j := 12) (by decide), ss (i := 5) (j := 6) (by decide), ss (i := 5) (j := 12) (by decide), ss (i := 6) (j := 12) (by decide)]
    exact rm_X5_bed h' (by omega)
  · rw [if_neg h]
    have hw : ∃ f : Int, fau txt len len.toNat 0 = f ∧ wr f ≠ -9 := by
      refine ⟨_, rfl, ?_⟩
      have : ∀ (n : Nat) (p : Int), 0 ≤ p → p + n = len → (fau txt len n p = -9 ∨ (0 ≤ fau txt len n p ∧ fau txt len n p ≤ 24)) := by
        intro n
        induction n with
        | zero =>
          intro p hp hpn
          rw [fau]
          split
          · exact Or.inl rfl
          · exact Or.inr hl
        | succ n ih =>
          intro p hp hpn
          rw [fau]
          split
          · exact Or.inr ⟨hp, by omega⟩
          · exact ih (p + 1) (by omega) (by omega)
      have h9 := this len.toNat 0 (by omega) (by omega)
      generalize fau txt len len.toNat 0 = f at h h9
      rcases h9 with h9 | h9
      · exact absurd h9 h
      · rw [wr_id (by omega) (by omega)]
        omega
    obtain ⟨f, ef, hf⟩ := hw
    rw [ef] at q
    simp only [co] at h0
    (refine am_fnI (tb := tb_X5_bed) (n := 60) (Nat.le_of_ble_eq_true rfl) (Nat.le_of_ble_eq_true rfl) ?_; show rx_X5_bed 60 0 _ _ _ = _)
    simp [↓ri_X5_bed, rs_X5_bed_0, rs_X5_bed_1, rs_X5_bed_4, rs_X5_bed_6, rs_X5_bed_9, rs_X5_bed_12, rs_X5_bed_13, rs_X5_bed_16, rs_X5_bed_17, rs_X5_bed_18, rs_X5_bed_21, rs_X5_bed_24, rs_X5_bed_25, rs_X5_bed_26, rs_X5_bed_27, rs_X5_bed_28, rs_X5_bed_31, rs_X5_bed_32, rs_X5_bed_35, rs_X5_bed_38, rs_X5_bed_39, rs_X5_bed_40, rs_X5_bed_41, rs_X5_bed_42, rs_X5_bed_43, rs_X5_bed_46, rs_X5_bed_47, rs_X5_bed_48, rs_X5_bed_51, rs_X5_bed_54, rs_X5_bed_55, rs_X5_bed_56, rs_X5_bed_58, rs_X5_bed_59, rs_X5_bed_60, rs_X5_bed_63, rs_X5_bed_64, rs_X5_bed_65, rs_X5_bed_68, rs_X5_bed_71, rs_X5_bed_72, rs_X5_bed_73, rs_X5_bed_74, rs_X5_bed_75, rs_X5_bed_78, rs_X5_bed_81, rs_X5_bed_82, rs_X5_bed_83, rs_X5_bed_84, rs_X5_bed_87, rs_X5_bed_90, rs_X5_bed_91, rs_X5_bed_94, rs_X5_bed_95, rs_X5_bed_98, rs_X5_bed_100, rs_X5_bed_101, rs_X5_bed_102, rs_X5_bed_103, rs_X5_bed_106, rs_X5_bed_109, rs_X5_bed_110, rs_X5_bed_113, rs_X5_bed_114, rs_X5_bed_115, rs_X5_bed_116, rs_X5_bed_117, rs_X5_bed_120, rs_X5_bed_121, rs_X5_bed_122, rs_X5_bed_123, rs_X5_bed_124, rs_X5_bed_127, rs_X5_bed_130, rs_X5_bed_133, rs_X5_bed_136, rs_X5_bed_137, rs_X5_bed_138, rs_X5_bed_141, rs_X5_bed_142, rs_X5_bed_143, rs_X5_bed_144, rs_X5_bed_145, rs_X5_bed_148, rs_X5_bed_149, rs_X5_bed_152, rs_X5_bed_153, rs_X5_bed_154, rs_X5_bed_155, rs_X5_bed_158, rs_X5_bed_161, rs_X5_bed_162, rs_X5_bed_165, rs_X5_bed_11, rs_X5_bed_168, -List.getElem?_eq_getElem, am_js, am_e, am_in, am_sl, rI, rZ, rV, rJ, rA, rC, kI, kJ, kR, am_one, am_nl, am_w8, tIc, tLc, tNul, tIld, tLld, tAld, tIst, tLst, tAst, tIinc, tI2, tDv, tL2, tLrem, tLs, tLcmp, tI2l, tL2i, tI2c, tDup, tDup2, tPop, tGo, tIfeq, tIfne, tIflt, tIfge, tIfgt, tIfle, tCmeq, tCmne, tCmlt, tCmge, tCmgt, tCmle, tNu, tTs, tGf, tPf, tGs, tIal, tIas, tBal, tBas, tAln, tSv, tSc, tSb, tSl, tSk, tCv, tCs, tCt, tMx, tMn, wr_10000, wr_100000, wr_1000000, wr_10000000, wr_100000000, wr_2400, wr_9999, wr_0, wr_1, wr_2, wr_3, wr_4, wr_5, wr_6, wr_7, wr_8, wr_9, wr_10, wr_11, wr_12, wr_13, wr_14, wr_15, wr_16, wr_17, wr_18, wr_19, wr_20, wr_21, wr_22, wr_23, wr_24, wr_25, wr_26, wr_27, wr_28, wr_29, wr_30, wr_31, wr_32, wr_33, wr_34, wr_35, wr_36, wr_37, wr_38, wr_39, wr_40, wr_41, wr_42, wr_43, wr_44, wr_45, wr_46, wr_47, wr_48, wr_49, wr_50, wr_51, wr_52, wr_53, wr_54, wr_55, wr_56, wr_57, wr_58, wr_59, wr_60, wr_61, wr_62, wr_63, wr_99, wr_100, wr_192, wr_255, wr_256, wr_343, wr_999, wr_1000, wr_2401, wr_2147483647, wr_65535, wr_m1, wr_m2, wr_m3, wr_m4, wr_m9, ak_1000, ak_1001, ak_1002, ak_0, ak_1, ak_2, ak_3, ak_4, ak_5, ak_6, ak_7, ak_8, ak_9, ak_10, ak_11, ak_12, ak_13, ak_14, ak_15, ak_16, ak_17, ak_18, ak_19, ak_20, ak_21, ak_22, ak_23, ak_24, ak_25, ak_26, ak_27, ak_28, ak_29, ak_30, ak_31, ak_32, ak_33, ak_34, ak_35, ak_36, ak_37, ak_38, ak_39, ak_40, ak_41, ak_42, ak_43, ak_44, ak_45, ak_46, ak_47, q, h0, hf]
end
