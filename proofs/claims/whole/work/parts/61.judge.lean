noncomputable section
/-- ten to the k -/
def pw (k : Int) : Int := if k = 0 then 1 else if k = 1 then 10 else if k = 2 then 100 else if k = 3 then 1000 else if k = 4 then 10000 else if k = 5 then 100000 else if k = 6 then 1000000 else if k = 7 then 10000000 else 100000000
theorem pw_rng (k : Int) : 1 ≤ pw k ∧ pw k ≤ 100000000 := by
  unfold pw
  (repeat' split) <;> omega
theorem tenTo_pw (k : Int) (hk : 0 ≤ k ∧ k ≤ 8) (M : List AC) : fn_X6_tenTo [vI k] M = some (some (vI (pw k)), M) := by
  obtain ⟨t0, t1, t2, t3, t4, t5, t6, t7, t8⟩ := sp_X6_tenTo M
  have hd : k = 0 ∨ k = 1 ∨ k = 2 ∨ k = 3 ∨ k = 4 ∨ k = 5 ∨ k = 6 ∨ k = 7 ∨ k = 8 := by omega
  rcases hd with rfl | rfl | rfl | rfl | rfl | rfl | rfl | rfl | rfl
  · exact t0
  · exact t1
  · exact t2
  · exact t3
  · exact t4
  · exact t5
  · exact t6
  · exact t7
  · exact t8
theorem sl_i4 (st : Int) (g s b : F4) : ∀ (n : Nat) (d : F4) (z : Int), i4 0 6 d → i4 0 6 (sl st g s b n d z).1
  | 0, _, _, h => h
  | n + 1, d, z, h => by
    unfold sl
    split
    · exact h
    · exact sl_i4 st g s b n _ _ (i4_s h _ (by decide) (by decide))
/-- the judged line: where it breaks (-9: nowhere), and the sheet behind it -/
def jud (st : Int) (g s b : F4) (nn x : Int) : Nat → Int → F4 → Int × F4
  | 0, _, d => (-9, d)
  | n + 1, t, d => if (x / pw (2 * (nn - t) - 1) % 10 ≤ 3 ∧ x / pw (2 * (nn - t) - 2) % 10 ≤ 6) ∧ ¬ g4 d (x / pw (2 * (nn - t) - 1) % 10).toNat = x / pw (2 * (nn - t) - 2) % 10 then (if wr (sl st g s b 4 (s4 d (x / pw (2 * (nn - t) - 1) % 10).toNat (x / pw (2 * (nn - t) - 2) % 10)) 0).2 = 0 then jud st g s b nn x n (t + 1) (sl st g s b 4 (s4 d (x / pw (2 * (nn - t) - 1) % 10).toNat (x / pw (2 * (nn - t) - 2) % 10)) 0).1 else (t, (sl st g s b 4 (s4 d (x / pw (2 * (nn - t) - 1) % 10).toNat (x / pw (2 * (nn - t) - 2) % 10)) 0).1)) else (t, d)
abbrev mi_X6_judge : Mi := (yX6_judge, cX6_judge, 6, some .int, 7)
theorem mf_X6_judge : am_mf mi_X6_judge 2 := ⟨w_co_X6_judge, w_in_X6, ⟨by decide +kernel, by decide +kernel⟩, by decide +kernel, by decide⟩
def tb_X6_judge : List (Nat × Tr) := [(0, tIld 1 1), (1, tI2l), (2, tLc 1 1), (3, tLc 4 3), (6, tCs 3 fn_X6_in), (9, tIfeq 30), (12, tIld 2 1), (13, tI2l), (14, tLc 0 1), (15, tIc 2 1), (16, tIld 1 1), (17, tI2 (fun a b => a * b)), (18, tCs 1 fn_X6_tenTo), (21, tIc 1 1), (22, tI2 (fun a b => a - b)), (23, tI2l), (24, tCs 3 fn_X6_in), (27, tIfne 33), (30, tIc (-2) 2), (33, tAld 0 1), (34, tCv 6 0 fn_X6_layNow), (37, tIc 0 1), (38, tIst 3 1), (39, tIld 3 1), (40, tIld 1 1), (41, tCmge 131), (44, tIld 2 1), (45, tIc 2 1), (46, tIld 1 1), (47, tIld 3 1), (48, tI2 (fun a b => a - b)), (49, tI2 (fun a b => a * b)), (50, tIc 1 1), (51, tI2 (fun a b => a - b)), (52, tCs 1 fn_X6_tenTo), (55, tDv Int.tdiv), (56, tIc 10 2), (58, tDv Int.tmod), (59, tIst 4 2), (61, tIld 2 1), (62, tIc 2 1), (63, tIld 1 1), (64, tIld 3 1), (65, tI2 (fun a b => a - b)), (66, tI2 (fun a b => a * b)), (67, tIc 2 1), (68, tI2 (fun a b => a - b)), (69, tCs 1 fn_X6_tenTo), (72, tDv Int.tdiv), (73, tIc 10 2), (75, tDv Int.tmod), (76, tIst 5 2), (78, tIld 4 2), (80, tCs 1 fn_X6_isCorner), (83, tIfeq 105), (86, tIld 5 2), (88, tIc 6 2), (90, tCmgt 105), (93, tAld 0 1), (94, tGf 6 8), (97, tIld 4 2), (99, tIal), (100, tIld 5 2), (102, tCmne 107), (105, tIld 3 1), (107, tAld 0 1), (108, tGf 6 8), (111, tIld 4 2), (113, tIld 5 2), (115, tIas), (116, tAld 0 1), (117, tCv 6 0 fn_X6_slips), (120, tIfeq 125), (123, tIld 3 1), (125, tIinc 3 1), (128, tGo 39), (131, tIc (-9) 2)]
theorem ok_X6_judge : Tok mi_X6_judge tb_X6_judge :=
  Tc (sd_iload_n dX6_judge_0) <|
  Tc (sd_i2l dX6_judge_1) <|
  Tc (sd_lconst rfl dX6_judge_2) <|
  Tc (sd_ldc2 w_cl_X6_153 dX6_judge_3) <|
  Tc (sd_cs fok_X6_in mf_X6_in w_ml_X6_65 w_st_X6_in (by decide) dX6_judge_6) <|
  Tc (sd_if_eq (by decide) dX6_judge_9) <|
  Tc (sd_iload_n dX6_judge_12) <|
  Tc (sd_i2l dX6_judge_13) <|
  Tc (sd_lconst rfl dX6_judge_14) <|
  Tc (sd_iconst rfl dX6_judge_15) <|
  Tc (sd_iload_n dX6_judge_16) <|
  Tc (sd_imul dX6_judge_17) <|
  Tc (sd_cs fok_X6_tenTo mf_X6_tenTo w_ml_X6_120 w_st_X6_tenTo (by decide) dX6_judge_18) <|
  Tc (sd_iconst rfl dX6_judge_21) <|
  Tc (sd_isub dX6_judge_22) <|
  Tc (sd_i2l dX6_judge_23) <|
  Tc (sd_cs fok_X6_in mf_X6_in w_ml_X6_65 w_st_X6_in (by decide) dX6_judge_24) <|
  Tc (sd_if_ne (by decide) dX6_judge_27) <|
  Tc (sd_bipush (by decide +kernel) dX6_judge_30) <|
  Tc (sd_aload_n dX6_judge_33) <|
  Tc (sd_cv (T := TX6) fok_X6_layNow mf_X6_layNow rfl w_ml_X6_115 w_im_X6_layNow w_se_X6_layNow (by decide) dX6_judge_34) <|
  Tc (sd_iconst rfl dX6_judge_37) <|
  Tc (sd_istore_n dX6_judge_38) <|
  Tc (sd_iload_n dX6_judge_39) <|
  Tc (sd_iload_n dX6_judge_40) <|
  Tc (sd_cm_ge (by decide) dX6_judge_41) <|
  Tc (sd_iload_n dX6_judge_44) <|
  Tc (sd_iconst rfl dX6_judge_45) <|
  Tc (sd_iload_n dX6_judge_46) <|
  Tc (sd_iload_n dX6_judge_47) <|
  Tc (sd_isub dX6_judge_48) <|
  Tc (sd_imul dX6_judge_49) <|
  Tc (sd_iconst rfl dX6_judge_50) <|
  Tc (sd_isub dX6_judge_51) <|
  Tc (sd_cs fok_X6_tenTo mf_X6_tenTo w_ml_X6_120 w_st_X6_tenTo (by decide) dX6_judge_52) <|
  Tc (sd_idiv dX6_judge_55) <|
  Tc (sd_bipush (by decide +kernel) dX6_judge_56) <|
  Tc (sd_irem dX6_judge_58) <|
  Tc (sd_istore dX6_judge_59) <|
  Tc (sd_iload_n dX6_judge_61) <|
  Tc (sd_iconst rfl dX6_judge_62) <|
  Tc (sd_iload_n dX6_judge_63) <|
  Tc (sd_iload_n dX6_judge_64) <|
  Tc (sd_isub dX6_judge_65) <|
  Tc (sd_imul dX6_judge_66) <|
  Tc (sd_iconst rfl dX6_judge_67) <|
  Tc (sd_isub dX6_judge_68) <|
  Tc (sd_cs fok_X6_tenTo mf_X6_tenTo w_ml_X6_120 w_st_X6_tenTo (by decide) dX6_judge_69) <|
  Tc (sd_idiv dX6_judge_72) <|
  Tc (sd_bipush (by decide +kernel) dX6_judge_73) <|
  Tc (sd_irem dX6_judge_75) <|
  Tc (sd_istore dX6_judge_76) <|
  Tc (sd_iload dX6_judge_78) <|
  Tc (sd_cs fok_X6_isCorner mf_X6_isCorner w_ml_X6_112 w_st_X6_isCorner (by decide) dX6_judge_80) <|
  Tc (sd_if_eq (by decide) dX6_judge_83) <|
  Tc (sd_iload dX6_judge_86) <|
  Tc (sd_bipush (by decide +kernel) dX6_judge_88) <|
  Tc (sd_cm_gt (by decide) dX6_judge_90) <|
  Tc (sd_aload_n dX6_judge_93) <|
  Tc (sd_getf (T := TX6) rfl giX6 (by decide) w_fl_X6_25 dX6_judge_94) <|
  Tc (sd_iload dX6_judge_97) <|
  Tc (sd_ial dX6_judge_99) <|
  Tc (sd_iload dX6_judge_100) <|
  Tc (sd_cm_ne (by decide) dX6_judge_102) <|
  Tc (sd_iload_n dX6_judge_105) <|
  Tc (sd_aload_n dX6_judge_107) <|
  Tc (sd_getf (T := TX6) rfl giX6 (by decide) w_fl_X6_25 dX6_judge_108) <|
  Tc (sd_iload dX6_judge_111) <|
  Tc (sd_iload dX6_judge_113) <|
  Tc (sd_ias dX6_judge_115) <|
  Tc (sd_aload_n dX6_judge_116) <|
  Tc (sd_cv (T := TX6) fok_X6_slips mf_X6_slips rfl w_ml_X6_135 w_im_X6_slips w_se_X6_slips (by decide) dX6_judge_117) <|
  Tc (sd_if_eq (by decide) dX6_judge_120) <|
  Tc (sd_iload_n dX6_judge_123) <|
  Tc (sd_iinc dX6_judge_125) <|
  Tc (sd_goto (by decide) dX6_judge_128) <|
  Tc (sd_bipush (by decide +kernel) dX6_judge_131) <|
  Tn
theorem rk_X6_judge : Rok mi_X6_judge rI [32, 106, 124, 133] := rk_i dX6_judge_32 <| rk_i dX6_judge_106 <| rk_i dX6_judge_124 <| rk_i dX6_judge_133 <| rk_n
def rx_X6_judge : Nat → Nat → AL → List AV → List AC → Option (Option AV × List AC) := am_r tb_X6_judge rI [32, 106, 124, 133]
theorem rs_X6_judge_0 (n : Nat) (L : AL) (st : List AV) (M : List AC) : rx_X6_judge (n + 1) 0 L st M = am_j (rx_X6_judge n) ((tIld 1 1) 0 L st M) := rfl
theorem rs_X6_judge_1 (n : Nat) (L : AL) (st : List AV) (M : List AC) : rx_X6_judge (n + 1) 1 L st M = am_j (rx_X6_judge n) (tI2l 1 L st M) := rfl
theorem rs_X6_judge_2 (n : Nat) (L : AL) (st : List AV) (M : List AC) : rx_X6_judge (n + 1) 2 L st M = am_j (rx_X6_judge n) ((tLc 1 1) 2 L st M) := rfl
theorem rs_X6_judge_3 (n : Nat) (L : AL) (st : List AV) (M : List AC) : rx_X6_judge (n + 1) 3 L st M = am_j (rx_X6_judge n) ((tLc 4 3) 3 L st M) := rfl
theorem rs_X6_judge_6 (n : Nat) (L : AL) (st : List AV) (M : List AC) : rx_X6_judge (n + 1) 6 L st M = am_j (rx_X6_judge n) ((tCs 3 fn_X6_in) 6 L st M) := rfl
theorem rs_X6_judge_9 (n : Nat) (L : AL) (st : List AV) (M : List AC) : rx_X6_judge (n + 1) 9 L st M = am_j (rx_X6_judge n) ((tIfeq 30) 9 L st M) := rfl
theorem rs_X6_judge_12 (n : Nat) (L : AL) (st : List AV) (M : List AC) : rx_X6_judge (n + 1) 12 L st M = am_j (rx_X6_judge n) ((tIld 2 1) 12 L st M) := rfl
theorem rs_X6_judge_13 (n : Nat) (L : AL) (st : List AV) (M : List AC) : rx_X6_judge (n + 1) 13 L st M = am_j (rx_X6_judge n) (tI2l 13 L st M) := rfl
theorem rs_X6_judge_14 (n : Nat) (L : AL) (st : List AV) (M : List AC) : rx_X6_judge (n + 1) 14 L st M = am_j (rx_X6_judge n) ((tLc 0 1) 14 L st M) := rfl
theorem rs_X6_judge_15 (n : Nat) (L : AL) (st : List AV) (M : List AC) : rx_X6_judge (n + 1) 15 L st M = am_j (rx_X6_judge n) ((tIc 2 1) 15 L st M) := rfl
theorem rs_X6_judge_16 (n : Nat) (L : AL) (st : List AV) (M : List AC) : rx_X6_judge (n + 1) 16 L st M = am_j (rx_X6_judge n) ((tIld 1 1) 16 L st M) := rfl
theorem rs_X6_judge_17 (n : Nat) (L : AL) (st : List AV) (M : List AC) : rx_X6_judge (n + 1) 17 L st M = am_j (rx_X6_judge n) ((tI2 (fun a b => a * b)) 17 L st M) := rfl
theorem rs_X6_judge_18 (n : Nat) (L : AL) (st : List AV) (M : List AC) : rx_X6_judge (n + 1) 18 L st M = am_j (rx_X6_judge n) ((tCs 1 fn_X6_tenTo) 18 L st M) := rfl
theorem rs_X6_judge_21 (n : Nat) (L : AL) (st : List AV) (M : List AC) : rx_X6_judge (n + 1) 21 L st M = am_j (rx_X6_judge n) ((tIc 1 1) 21 L st M) := rfl
theorem rs_X6_judge_22 (n : Nat) (L : AL) (st : List AV) (M : List AC) : rx_X6_judge (n + 1) 22 L st M = am_j (rx_X6_judge n) ((tI2 (fun a b => a - b)) 22 L st M) := rfl
theorem rs_X6_judge_23 (n : Nat) (L : AL) (st : List AV) (M : List AC) : rx_X6_judge (n + 1) 23 L st M = am_j (rx_X6_judge n) (tI2l 23 L st M) := rfl
theorem rs_X6_judge_24 (n : Nat) (L : AL) (st : List AV) (M : List AC) : rx_X6_judge (n + 1) 24 L st M = am_j (rx_X6_judge n) ((tCs 3 fn_X6_in) 24 L st M) := rfl
theorem rs_X6_judge_27 (n : Nat) (L : AL) (st : List AV) (M : List AC) : rx_X6_judge (n + 1) 27 L st M = am_j (rx_X6_judge n) ((tIfne 33) 27 L st M) := rfl
theorem rs_X6_judge_30 (n : Nat) (L : AL) (st : List AV) (M : List AC) : rx_X6_judge (n + 1) 30 L st M = am_j (rx_X6_judge n) ((tIc (-2) 2) 30 L st M) := rfl
theorem rs_X6_judge_33 (n : Nat) (L : AL) (st : List AV) (M : List AC) : rx_X6_judge (n + 1) 33 L st M = am_j (rx_X6_judge n) ((tAld 0 1) 33 L st M) := rfl
theorem rs_X6_judge_34 (n : Nat) (L : AL) (st : List AV) (M : List AC) : rx_X6_judge (n + 1) 34 L st M = am_j (rx_X6_judge n) ((tCv 6 0 fn_X6_layNow) 34 L st M) := rfl
theorem rs_X6_judge_37 (n : Nat) (L : AL) (st : List AV) (M : List AC) : rx_X6_judge (n + 1) 37 L st M = am_j (rx_X6_judge n) ((tIc 0 1) 37 L st M) := rfl
theorem rs_X6_judge_38 (n : Nat) (L : AL) (st : List AV) (M : List AC) : rx_X6_judge (n + 1) 38 L st M = am_j (rx_X6_judge n) ((tIst 3 1) 38 L st M) := rfl
theorem rs_X6_judge_39 (n : Nat) (L : AL) (st : List AV) (M : List AC) : rx_X6_judge (n + 1) 39 L st M = am_j (rx_X6_judge n) ((tIld 3 1) 39 L st M) := rfl
theorem rs_X6_judge_40 (n : Nat) (L : AL) (st : List AV) (M : List AC) : rx_X6_judge (n + 1) 40 L st M = am_j (rx_X6_judge n) ((tIld 1 1) 40 L st M) := rfl
theorem rs_X6_judge_41 (n : Nat) (L : AL) (st : List AV) (M : List AC) : rx_X6_judge (n + 1) 41 L st M = am_j (rx_X6_judge n) ((tCmge 131) 41 L st M) := rfl
theorem rs_X6_judge_44 (n : Nat) (L : AL) (st : List AV) (M : List AC) : rx_X6_judge (n + 1) 44 L st M = am_j (rx_X6_judge n) ((tIld 2 1) 44 L st M) := rfl
theorem rs_X6_judge_45 (n : Nat) (L : AL) (st : List AV) (M : List AC) : rx_X6_judge (n + 1) 45 L st M = am_j (rx_X6_judge n) ((tIc 2 1) 45 L st M) := rfl
theorem rs_X6_judge_46 (n : Nat) (L : AL) (st : List AV) (M : List AC) : rx_X6_judge (n + 1) 46 L st M = am_j (rx_X6_judge n) ((tIld 1 1) 46 L st M) := rfl
theorem rs_X6_judge_47 (n : Nat) (L : AL) (st : List AV) (M : List AC) : rx_X6_judge (n + 1) 47 L st M = am_j (rx_X6_judge n) ((tIld 3 1) 47 L st M) := rfl
theorem rs_X6_judge_48 (n : Nat) (L : AL) (st : List AV) (M : List AC) : rx_X6_judge (n + 1) 48 L st M = am_j (rx_X6_judge n) ((tI2 (fun a b => a - b)) 48 L st M) := rfl
theorem rs_X6_judge_49 (n : Nat) (L : AL) (st : List AV) (M : List AC) : rx_X6_judge (n + 1) 49 L st M = am_j (rx_X6_judge n) ((tI2 (fun a b => a * b)) 49 L st M) := rfl
theorem rs_X6_judge_50 (n : Nat) (L : AL) (st : List AV) (M : List AC) : rx_X6_judge (n + 1) 50 L st M = am_j (rx_X6_judge n) ((tIc 1 1) 50 L st M) := rfl
theorem rs_X6_judge_51 (n : Nat) (L : AL) (st : List AV) (M : List AC) : rx_X6_judge (n + 1) 51 L st M = am_j (rx_X6_judge n) ((tI2 (fun a b => a - b)) 51 L st M) := rfl
theorem rs_X6_judge_52 (n : Nat) (L : AL) (st : List AV) (M : List AC) : rx_X6_judge (n + 1) 52 L st M = am_j (rx_X6_judge n) ((tCs 1 fn_X6_tenTo) 52 L st M) := rfl
theorem rs_X6_judge_55 (n : Nat) (L : AL) (st : List AV) (M : List AC) : rx_X6_judge (n + 1) 55 L st M = am_j (rx_X6_judge n) ((tDv Int.tdiv) 55 L st M) := rfl
theorem rs_X6_judge_56 (n : Nat) (L : AL) (st : List AV) (M : List AC) : rx_X6_judge (n + 1) 56 L st M = am_j (rx_X6_judge n) ((tIc 10 2) 56 L st M) := rfl
theorem rs_X6_judge_58 (n : Nat) (L : AL) (st : List AV) (M : List AC) : rx_X6_judge (n + 1) 58 L st M = am_j (rx_X6_judge n) ((tDv Int.tmod) 58 L st M) := rfl
theorem rs_X6_judge_59 (n : Nat) (L : AL) (st : List AV) (M : List AC) : rx_X6_judge (n + 1) 59 L st M = am_j (rx_X6_judge n) ((tIst 4 2) 59 L st M) := rfl
theorem rs_X6_judge_61 (n : Nat) (L : AL) (st : List AV) (M : List AC) : rx_X6_judge (n + 1) 61 L st M = am_j (rx_X6_judge n) ((tIld 2 1) 61 L st M) := rfl
theorem rs_X6_judge_62 (n : Nat) (L : AL) (st : List AV) (M : List AC) : rx_X6_judge (n + 1) 62 L st M = am_j (rx_X6_judge n) ((tIc 2 1) 62 L st M) := rfl
theorem rs_X6_judge_63 (n : Nat) (L : AL) (st : List AV) (M : List AC) : rx_X6_judge (n + 1) 63 L st M = am_j (rx_X6_judge n) ((tIld 1 1) 63 L st M) := rfl
theorem rs_X6_judge_64 (n : Nat) (L : AL) (st : List AV) (M : List AC) : rx_X6_judge (n + 1) 64 L st M = am_j (rx_X6_judge n) ((tIld 3 1) 64 L st M) := rfl
theorem rs_X6_judge_65 (n : Nat) (L : AL) (st : List AV) (M : List AC) : rx_X6_judge (n + 1) 65 L st M = am_j (rx_X6_judge n) ((tI2 (fun a b => a - b)) 65 L st M) := rfl
theorem rs_X6_judge_66 (n : Nat) (L : AL) (st : List AV) (M : List AC) : rx_X6_judge (n + 1) 66 L st M = am_j (rx_X6_judge n) ((tI2 (fun a b => a * b)) 66 L st M) := rfl
theorem rs_X6_judge_67 (n : Nat) (L : AL) (st : List AV) (M : List AC) : rx_X6_judge (n + 1) 67 L st M = am_j (rx_X6_judge n) ((tIc 2 1) 67 L st M) := rfl
theorem rs_X6_judge_68 (n : Nat) (L : AL) (st : List AV) (M : List AC) : rx_X6_judge (n + 1) 68 L st M = am_j (rx_X6_judge n) ((tI2 (fun a b => a - b)) 68 L st M) := rfl
theorem rs_X6_judge_69 (n : Nat) (L : AL) (st : List AV) (M : List AC) : rx_X6_judge (n + 1) 69 L st M = am_j (rx_X6_judge n) ((tCs 1 fn_X6_tenTo) 69 L st M) := rfl
theorem rs_X6_judge_72 (n : Nat) (L : AL) (st : List AV) (M : List AC) : rx_X6_judge (n + 1) 72 L st M = am_j (rx_X6_judge n) ((tDv Int.tdiv) 72 L st M) := rfl
theorem rs_X6_judge_73 (n : Nat) (L : AL) (st : List AV) (M : List AC) : rx_X6_judge (n + 1) 73 L st M = am_j (rx_X6_judge n) ((tIc 10 2) 73 L st M) := rfl
theorem rs_X6_judge_75 (n : Nat) (L : AL) (st : List AV) (M : List AC) : rx_X6_judge (n + 1) 75 L st M = am_j (rx_X6_judge n) ((tDv Int.tmod) 75 L st M) := rfl
theorem rs_X6_judge_76 (n : Nat) (L : AL) (st : List AV) (M : List AC) : rx_X6_judge (n + 1) 76 L st M = am_j (rx_X6_judge n) ((tIst 5 2) 76 L st M) := rfl
theorem rs_X6_judge_78 (n : Nat) (L : AL) (st : List AV) (M : List AC) : rx_X6_judge (n + 1) 78 L st M = am_j (rx_X6_judge n) ((tIld 4 2) 78 L st M) := rfl
theorem rs_X6_judge_80 (n : Nat) (L : AL) (st : List AV) (M : List AC) : rx_X6_judge (n + 1) 80 L st M = am_j (rx_X6_judge n) ((tCs 1 fn_X6_isCorner) 80 L st M) := rfl
theorem rs_X6_judge_83 (n : Nat) (L : AL) (st : List AV) (M : List AC) : rx_X6_judge (n + 1) 83 L st M = am_j (rx_X6_judge n) ((tIfeq 105) 83 L st M) := rfl
theorem rs_X6_judge_86 (n : Nat) (L : AL) (st : List AV) (M : List AC) : rx_X6_judge (n + 1) 86 L st M = am_j (rx_X6_judge n) ((tIld 5 2) 86 L st M) := rfl
theorem rs_X6_judge_88 (n : Nat) (L : AL) (st : List AV) (M : List AC) : rx_X6_judge (n + 1) 88 L st M = am_j (rx_X6_judge n) ((tIc 6 2) 88 L st M) := rfl
theorem rs_X6_judge_90 (n : Nat) (L : AL) (st : List AV) (M : List AC) : rx_X6_judge (n + 1) 90 L st M = am_j (rx_X6_judge n) ((tCmgt 105) 90 L st M) := rfl
theorem rs_X6_judge_93 (n : Nat) (L : AL) (st : List AV) (M : List AC) : rx_X6_judge (n + 1) 93 L st M = am_j (rx_X6_judge n) ((tAld 0 1) 93 L st M) := rfl
theorem rs_X6_judge_94 (n : Nat) (L : AL) (st : List AV) (M : List AC) : rx_X6_judge (n + 1) 94 L st M = am_j (rx_X6_judge n) ((tGf 6 8) 94 L st M) := rfl
theorem rs_X6_judge_97 (n : Nat) (L : AL) (st : List AV) (M : List AC) : rx_X6_judge (n + 1) 97 L st M = am_j (rx_X6_judge n) ((tIld 4 2) 97 L st M) := rfl
theorem rs_X6_judge_99 (n : Nat) (L : AL) (st : List AV) (M : List AC) : rx_X6_judge (n + 1) 99 L st M = am_j (rx_X6_judge n) (tIal 99 L st M) := rfl
theorem rs_X6_judge_100 (n : Nat) (L : AL) (st : List AV) (M : List AC) : rx_X6_judge (n + 1) 100 L st M = am_j (rx_X6_judge n) ((tIld 5 2) 100 L st M) := rfl
theorem rs_X6_judge_102 (n : Nat) (L : AL) (st : List AV) (M : List AC) : rx_X6_judge (n + 1) 102 L st M = am_j (rx_X6_judge n) ((tCmne 107) 102 L st M) := rfl
theorem rs_X6_judge_105 (n : Nat) (L : AL) (st : List AV) (M : List AC) : rx_X6_judge (n + 1) 105 L st M = am_j (rx_X6_judge n) ((tIld 3 1) 105 L st M) := rfl
theorem rs_X6_judge_107 (n : Nat) (L : AL) (st : List AV) (M : List AC) : rx_X6_judge (n + 1) 107 L st M = am_j (rx_X6_judge n) ((tAld 0 1) 107 L st M) := rfl
theorem rs_X6_judge_108 (n : Nat) (L : AL) (st : List AV) (M : List AC) : rx_X6_judge (n + 1) 108 L st M = am_j (rx_X6_judge n) ((tGf 6 8) 108 L st M) := rfl
theorem rs_X6_judge_111 (n : Nat) (L : AL) (st : List AV) (M : List AC) : rx_X6_judge (n + 1) 111 L st M = am_j (rx_X6_judge n) ((tIld 4 2) 111 L st M) := rfl
theorem rs_X6_judge_113 (n : Nat) (L : AL) (st : List AV) (M : List AC) : rx_X6_judge (n + 1) 113 L st M = am_j (rx_X6_judge n) ((tIld 5 2) 113 L st M) := rfl
theorem rs_X6_judge_115 (n : Nat) (L : AL) (st : List AV) (M : List AC) : rx_X6_judge (n + 1) 115 L st M = am_j (rx_X6_judge n) (tIas 115 L st M) := rfl
theorem rs_X6_judge_116 (n : Nat) (L : AL) (st : List AV) (M : List AC) : rx_X6_judge (n + 1) 116 L st M = am_j (rx_X6_judge n) ((tAld 0 1) 116 L st M) := rfl
theorem rs_X6_judge_117 (n : Nat) (L : AL) (st : List AV) (M : List AC) : rx_X6_judge (n + 1) 117 L st M = am_j (rx_X6_judge n) ((tCv 6 0 fn_X6_slips) 117 L st M) := rfl
theorem rs_X6_judge_120 (n : Nat) (L : AL) (st : List AV) (M : List AC) : rx_X6_judge (n + 1) 120 L st M = am_j (rx_X6_judge n) ((tIfeq 125) 120 L st M) := rfl
theorem rs_X6_judge_123 (n : Nat) (L : AL) (st : List AV) (M : List AC) : rx_X6_judge (n + 1) 123 L st M = am_j (rx_X6_judge n) ((tIld 3 1) 123 L st M) := rfl
theorem rs_X6_judge_125 (n : Nat) (L : AL) (st : List AV) (M : List AC) : rx_X6_judge (n + 1) 125 L st M = am_j (rx_X6_judge n) ((tIinc 3 1) 125 L st M) := rfl
theorem rs_X6_judge_128 (n : Nat) (L : AL) (st : List AV) (M : List AC) : rx_X6_judge (n + 1) 128 L st M = am_j (rx_X6_judge n) ((tGo 39) 128 L st M) := rfl
theorem rs_X6_judge_131 (n : Nat) (L : AL) (st : List AV) (M : List AC) : rx_X6_judge (n + 1) 131 L st M = am_j (rx_X6_judge n) ((tIc (-9) 2) 131 L st M) := rfl
theorem rs_X6_judge_32 (n : Nat) (L : AL) (st : List AV) (M : List AC) : rx_X6_judge (n + 1) 32 L st M = am_e rI st M := rfl
theorem rs_X6_judge_106 (n : Nat) (L : AL) (st : List AV) (M : List AC) : rx_X6_judge (n + 1) 106 L st M = am_e rI st M := rfl
theorem rs_X6_judge_124 (n : Nat) (L : AL) (st : List AV) (M : List AC) : rx_X6_judge (n + 1) 124 L st M = am_e rI st M := rfl
theorem rs_X6_judge_133 (n : Nat) (L : AL) (st : List AV) (M : List AC) : rx_X6_judge (n + 1) 133 L st M = am_e rI st M := rfl
theorem ri_X6_judge (c : Prop) [Decidable c] (p q n : Nat) (L : AL) (st : List AV) (M : List AC) : rx_X6_judge n (if c then p else q) L st M = if c then rx_X6_judge n p L st M else rx_X6_judge n q L st M := by split <;> rfl
theorem rm_X6_judge {n k pc : Nat} {L : AL} {st : List AV} {M : List AC} {x : Option AV × List AC} (h : rx_X6_judge n pc L st M = some x) (hk : n ≤ k) : rx_X6_judge k pc L st M = some x := am_r_mono n k h hk
def fn_X6_judge : Fn := am_fn rx_X6_judge 6
theorem fok_X6_judge : Fok mi_X6_judge fn_X6_judge := fun _ _ _ _ h => am_fok ok_X6_judge rk_X6_judge rfl h
theorem lp_X6_judge {st lk len ac nx rf lr en lm nn x : Int} {sd : Int64} {g s b : F4} (hst : 1 ≤ st ∧ st ≤ 3) (hg : i4 1 9 g) (hs9 : i4 0 9 s) (hb : i4 0 3 b) (hn : 1 ≤ nn ∧ nn ≤ 4) (hx : 0 ≤ x ∧ x < 100000000) : ∀ (n : Nat) (t : Int) (d : F4) (M : List AC) (x4 x5 : Option AV), M[26]? = some (mo st lk len ac nx rf lr en lm sd) → M[27]? = some (aI (l4 g)) → M[32]? = some (aI (l4 d)) → M[33]? = some (aI (l4 b)) → M[34]? = some (aI (l4 s)) → i4 0 6 d → t + n = nn → 0 ≤ t →
    Ru rx_X6_judge (80 * n + 10) 39 [some (vR 26), some (vI nn), some (vI x), some (vI t), x4, x5] [] M (some (vI (jud st g s b nn x n t d).1), M.set 32 (aI (l4 (jud st g s b nn x n t d).2)))
  | 0, t, d, M, x4, x5, h0, h27, h32, h33, h34, hd, ht, ht0 => by
    have e : t = nn := by omega
    subst e
    have wt : wr t = t := wr_id (by omega) (by omega)
    refine ⟨9 + 1, by omega, ?_⟩
    rw [rs_X6_judge_39]
    simp only [jud]
    rw [set_same h32]
    simp [↓ri_X6_judge, rs_X6_judge_0, rs_X6_judge_1, rs_X6_judge_2, rs_X6_judge_3, rs_X6_judge_6, rs_X6_judge_9, rs_X6_judge_12, rs_X6_judge_13, rs_X6_judge_14, rs_X6_judge_15, rs_X6_judge_16, rs_X6_judge_17, rs_X6_judge_18, rs_X6_judge_21, rs_X6_judge_22, rs_X6_judge_23, rs_X6_judge_24, rs_X6_judge_27, rs_X6_judge_30, rs_X6_judge_33, rs_X6_judge_34, rs_X6_judge_37, rs_X6_judge_38, rs_X6_judge_40, rs_X6_judge_41, rs_X6_judge_44, rs_X6_judge_45, rs_X6_judge_46, rs_X6_judge_47, rs_X6_judge_48, rs_X6_judge_49, rs_X6_judge_50, rs_X6_judge_51, rs_X6_judge_52, rs_X6_judge_55, rs_X6_judge_56, rs_X6_judge_58, rs_X6_judge_59, rs_X6_judge_61, rs_X6_judge_62, rs_X6_judge_63, rs_X6_judge_64, rs_X6_judge_65, rs_X6_judge_66, rs_X6_judge_67, rs_X6_judge_68, rs_X6_judge_69, rs_X6_judge_72, rs_X6_judge_73, rs_X6_judge_75, rs_X6_judge_76, rs_X6_judge_78, rs_X6_judge_80, rs_X6_judge_83, rs_X6_judge_86, rs_X6_judge_88, rs_X6_judge_90, rs_X6_judge_93, rs_X6_judge_94, rs_X6_judge_97, rs_X6_judge_99, rs_X6_judge_100, rs_X6_judge_102, rs_X6_judge_105, rs_X6_judge_107, rs_X6_judge_108, rs_X6_judge_111, rs_X6_judge_113, rs_X6_judge_115, rs_X6_judge_116, rs_X6_judge_117, rs_X6_judge_120, rs_X6_judge_123, rs_X6_judge_125, rs_X6_judge_128, rs_X6_judge_131, rs_X6_judge_32, rs_X6_judge_106, rs_X6_judge_124, rs_X6_judge_133, -List.getElem?_eq_getElem, am_js, am_e, am_in, am_sl, rI, rZ, rV, rJ, rA, rC, kI, kJ, kR, am_one, am_nl, am_w8, tIc, tLc, tNul, tIld, tLld, tAld, tIst, tLst, tAst, tIinc, tI2, tDv, tL2, tLrem, tLs, tLcmp, tI2l, tL2i, tI2c, tDup, tDup2, tPop, tGo, tIfeq, tIfne, tIflt, tIfge, tIfgt, tIfle, tCmeq, tCmne, tCmlt, tCmge, tCmgt, tCmle, tNu, tTs, tGf, tPf, tGs, tIal, tIas, tBal, tBas, tAln, tSv, tSc, tSb, tSl, tSk, tCv, tCs, tCt, tMx, tMn, wr_10000, wr_100000, wr_1000000, wr_10000000, wr_100000000, wr_2400, wr_9999, wr_0, wr_1, wr_2, wr_3, wr_4, wr_5, wr_6, wr_7, wr_8, wr_9, wr_10, wr_11, wr_12, wr_13, wr_14, wr_15, wr_16, wr_17, wr_18, wr_19, wr_20, wr_21, wr_22, wr_23, wr_24, wr_25, wr_26, wr_27, wr_28, wr_29, wr_30, wr_31, wr_32, wr_33, wr_34, wr_35, wr_36, wr_37, wr_38, wr_39, wr_40, wr_41, wr_42, wr_43, wr_44, wr_45, wr_46, wr_47, wr_48, wr_49, wr_50, wr_51, wr_52, wr_53, wr_54, wr_55, wr_56, wr_57, wr_58, wr_59, wr_60, wr_61, wr_62, wr_63, wr_99, wr_100, wr_192, wr_255, wr_256, wr_343, wr_999, wr_1000, wr_2401, wr_2147483647, wr_65535, wr_m1, wr_m2, wr_m3, wr_m4, wr_m9, ak_1000, ak_1001, ak_1002, ak_0, ak_1, ak_2, ak_3, ak_4, ak_5, ak_6, ak_7, ak_8, ak_9, ak_10, ak_11, ak_12, ak_13, ak_14, ak_15, ak_16, ak_17, ak_18, ak_19, ak_20, ak_21, ak_22, ak_23, ak_24, ak_25, ak_26, ak_27, ak_28, ak_29, ak_30, ak_31, ak_32, ak_33, ak_34, ak_35, ak_36, ak_37, ak_38, ak_39, ak_40, ak_41, ak_42, ak_43, ak_44, ak_45, ak_46, ak_47, wt]
  | n + 1, t, d, M, x4, x5, h0, h27, h32, h33, h34, hd, ht, ht0 => by
    have wt : wr t = t := wr_id (by omega) (by omega)
    have wn : wr nn = nn := wr_id (by omega) (by omega)
    have wx : wr x = x := wr_id (by omega) (by omega)
    have nt : ¬ nn ≤ t := by omega
    have q1 := tenTo_pw (2 * (nn - t) - 1) (by omega) M
    have q2 := tenTo_pw (2 * (nn - t) - 2) (by omega) M
    have p1 := pw_rng (2 * (nn - t) - 1)
    have p2 := pw_rng (2 * (nn - t) - 2)
    rw [jud]
    generalize pw (2 * (nn - t) - 1) = a1 at q1 p1 ⊢
    generalize pw (2 * (nn - t) - 2) = a2 at q2 p2 ⊢
    have v1 : wr a1 = a1 := wr_id (by omega) (by omega)
    have v2 : wr a2 = a2 := wr_id (by omega) (by omega)
    have z1 : ¬ a1 = 0 := by omega
    have z2 : ¬ a2 = 0 := by omega
    have d1 : x.tdiv a1 = x / a1 := Int.tdiv_eq_ediv_of_nonneg hx.1
    have d2 : x.tdiv a2 = x / a2 := Int.tdiv_eq_ediv_of_nonneg hx.1
    have b1 : 0 ≤ x / a1 ∧ x / a1 ≤ x := ⟨Int.ediv_nonneg hx.1 (by omega), Int.ediv_le_self _ hx.1⟩
    have b2 : 0 ≤ x / a2 ∧ x / a2 ≤ x := ⟨Int.ediv_nonneg hx.1 (by omega), Int.ediv_le_self _ hx.1⟩
    generalize x / a1 = y1 at d1 b1 ⊢
    generalize x / a2 = y2 at d2 b2 ⊢
    have u1 : wr y1 = y1 := wr_id (by omega) (by omega)
    have u2 : wr y2 = y2 := wr_id (by omega) (by omega)
    have m1 : y1.tmod 10 = y1 % 10 := Int.tmod_eq_emod_of_nonneg b1.1
    have m2 : y2.tmod 10 = y2 % 10 := Int.tmod_eq_emod_of_nonneg b2.1
    have r1 : 0 ≤ y1 % 10 ∧ y1 % 10 < 10 := by clear m1 m2 d1 d2; omega
    have r2 : 0 ≤ y2 % 10 ∧ y2 % 10 < 10 := by clear m1 m2 d1 d2; omega
    generalize y1 % 10 = c at m1 r1 ⊢
    generalize y2 % 10 = f at m2 r2 ⊢
    have wc : wr c = c := by clear m1 m2 d1 d2; exact wr_id (by omega) (by omega)
    have wf : wr f = f := by clear m1 m2 d1 d2; exact wr_id (by omega) (by omega)
    obtain ⟨wd0, wd1, wd2, wd3⟩ := i4_wr hd (by decide) (by decide)
    by_cases hq : (c ≤ 3 ∧ f ≤ 6) ∧ ¬ g4 d c.toNat = f
    · rw [if_pos hq]
      have hc4 : 0 ≤ c ∧ c < 4 := by clear m1 m2 d1 d2; omega
      have hf6 : ¬ 6 < f := by clear m1 m2 d1 d2; omega
      have hd' : i4 0 6 (s4 d c.toNat f) := i4_s hd _ (by clear m1 m2 d1 d2; omega) (by clear m1 m2 d1 d2; omega)
      have hs : HD (M.set 32 (aI (l4 (s4 d c.toNat f)))) st g s (s4 d c.toNat f) b := ⟨⟨lk, len, ac, nx, rf, lr, en, lm, sd, by simp [-List.getElem?_eq_getElem, h0]⟩, by simp [-List.getElem?_eq_getElem, h27], by simp [-List.getElem?_eq_getElem, gs h32], by simp [-List.getElem?_eq_getElem, h33], by simp [-List.getElem?_eq_getElem, h34]⟩
      have q3 := sp_X6_slips hs ⟨hst, hg, hs9, hd', hb⟩
      have hd2 := sl_i4 st g s b 4 _ 0 hd'
      clear hs hd'
      rw [List.set_set] at q3
      have ih := lp_X6_judge (lk := lk) (len := len) (ac := ac) (nx := nx) (rf := rf) (lr := lr) (en := en) (lm := lm) (sd := sd) hst hg hs9 hb hn hx n (t + 1) (sl st g s b 4 (s4 d c.toNat f) 0).1 (M.set 32 (aI (l4 (sl st g s b 4 (s4 d c.toNat f) 0).1))) (some (vI c)) (some (vI f)) (by simp [-List.getElem?_eq_getElem, h0]) (by simp [-List.getElem?_eq_getElem, h27]) (by simp [-List.getElem?_eq_getElem, gs h32]) (by simp [-List.getElem?_eq_getElem, h33]) (by simp [-List.getElem?_eq_getElem, h34]) hd2 (by clear m1 m2 d1 d2; omega) (by clear m1 m2 d1 d2; omega)
      rw [List.set_set] at ih
      clear hd2
      generalize hS : sl st g s b 4 (s4 d c.toNat f) 0 = q at q3 ih ⊢
      clear hS
      by_cases hz : wr q.2 = 0
      · rw [if_pos hz]
        generalize jud st g s b nn x n (t + 1) q.1 = jj at ih ⊢
        obtain ⟨k, hk, h⟩ := ih
        refine ⟨k + 79 + 1, by clear m1 m2 d1 d2; omega, ?_⟩
        rw [rs_X6_judge_39]
        have he := hq.2
        rcases c4 hc4 with rfl | rfl | rfl | rfl <;> simp [g4] at he <;> simp [s4] at q3 <;>
        simp [↓ri_X6_judge, rs_X6_judge_0, rs_X6_judge_1, rs_X6_judge_2, rs_X6_judge_3, rs_X6_judge_6, rs_X6_judge_9, rs_X6_judge_12, rs_X6_judge_13, rs_X6_judge_14, rs_X6_judge_15, rs_X6_judge_16, rs_X6_judge_17, rs_X6_judge_18, rs_X6_judge_21, rs_X6_judge_22, rs_X6_judge_23, rs_X6_judge_24, rs_X6_judge_27, rs_X6_judge_30, rs_X6_judge_33, rs_X6_judge_34, rs_X6_judge_37, rs_X6_judge_38, rs_X6_judge_40, rs_X6_judge_41, rs_X6_judge_44, rs_X6_judge_45, rs_X6_judge_46, rs_X6_judge_47, rs_X6_judge_48, rs_X6_judge_49, rs_X6_judge_50, rs_X6_judge_51, rs_X6_judge_52, rs_X6_judge_55, rs_X6_judge_56, rs_X6_judge_58, rs_X6_judge_59, rs_X6_judge_61, rs_X6_judge_62, rs_X6_judge_63, rs_X6_judge_64, rs_X6_judge_65, rs_X6_judge_66, rs_X6_judge_67, rs_X6_judge_68, rs_X6_judge_69, rs_X6_judge_72, rs_X6_judge_73, rs_X6_judge_75, rs_X6_judge_76, rs_X6_judge_78, rs_X6_judge_80, rs_X6_judge_83, rs_X6_judge_86, rs_X6_judge_88, rs_X6_judge_90, rs_X6_judge_93, rs_X6_judge_94, rs_X6_judge_97, rs_X6_judge_99, rs_X6_judge_100, rs_X6_judge_102, rs_X6_judge_105, rs_X6_judge_107, rs_X6_judge_108, rs_X6_judge_111, rs_X6_judge_113, rs_X6_judge_115, rs_X6_judge_116, rs_X6_judge_117, rs_X6_judge_120, rs_X6_judge_123, rs_X6_judge_125, rs_X6_judge_128, rs_X6_judge_131, rs_X6_judge_32, rs_X6_judge_106, rs_X6_judge_124, rs_X6_judge_133, -List.getElem?_eq_getElem, am_js, am_e, am_in, am_sl, rI, rZ, rV, rJ, rA, rC, kI, kJ, kR, am_one, am_nl, am_w8, tIc, tLc, tNul, tIld, tLld, tAld, tIst, tLst, tAst, tIinc, tI2, tDv, tL2, tLrem, tLs, tLcmp, tI2l, tL2i, tI2c, tDup, tDup2, tPop, tGo, tIfeq, tIfne, tIflt, tIfge, tIfgt, tIfle, tCmeq, tCmne, tCmlt, tCmge, tCmgt, tCmle, tNu, tTs, tGf, tPf, tGs, tIal, tIas, tBal, tBas, tAln, tSv, tSc, tSb, tSl, tSk, tCv, tCs, tCt, tMx, tMn, wr_10000, wr_100000, wr_1000000, wr_10000000, wr_100000000, wr_2400, wr_9999, wr_0, wr_1, wr_2, wr_3, wr_4, wr_5, wr_6, wr_7, wr_8, wr_9, wr_10, wr_11, wr_12, wr_13, wr_14, wr_15, wr_16, wr_17, wr_18, wr_19, wr_20, wr_21, wr_22, wr_23, wr_24, wr_25, wr_26, wr_27, wr_28, wr_29, wr_30, wr_31, wr_32, wr_33, wr_34, wr_35, wr_36, wr_37, wr_38, wr_39, wr_40, wr_41, wr_42, wr_43, wr_44, wr_45, wr_46, wr_47, wr_48, wr_49, wr_50, wr_51, wr_52, wr_53, wr_54, wr_55, wr_56, wr_57, wr_58, wr_59, wr_60, wr_61, wr_62, wr_63, wr_99, wr_100, wr_192, wr_255, wr_256, wr_343, wr_999, wr_1000, wr_2401, wr_2147483647, wr_65535, wr_m1, wr_m2, wr_m3, wr_m4, wr_m9, ak_1000, ak_1001, ak_1002, ak_0, ak_1, ak_2, ak_3, ak_4, ak_5, ak_6, ak_7, ak_8, ak_9, ak_10, ak_11, ak_12, ak_13, ak_14, ak_15, ak_16, ak_17, ak_18, ak_19, ak_20, ak_21, ak_22, ak_23, ak_24, ak_25, ak_26, ak_27, ak_28, ak_29, ak_30, ak_31, ak_32, ak_33, ak_34, ak_35, ak_36, ak_37, ak_38, ak_39, ak_40, ak_41, ak_42, ak_43, ak_44, ak_45, ak_46, ak_47, sp_X6_in, -Int32.toInt_ofInt, -not_and, wr_eq, jt_0, jt_1, jt_2, jt_3, jt_4, jt_5, jt_6, jt_8, jt_12, jt_30, jt_48, jt_49, jt_51, jt_57, jt_255, jt_9999, sp_X6_isCorner, h0, mo, h32, wt, wn, wx, nt, q1, q2, v1, v2, z1, z2, d1, d2, u1, u2, m1, m2, wf, hf6, wd0, wd1, wd2, wd3, he, q3, hz, gs h32] <;>
        exact rm_X6_judge h (by omega)
      · rw [if_neg hz]
        refine ⟨79 + 1, by clear m1 m2 d1 d2; omega, ?_⟩
        rw [rs_X6_judge_39]
        have he := hq.2
        rcases c4 hc4 with rfl | rfl | rfl | rfl <;> simp [g4] at he <;> simp [s4] at q3 <;>
        simp [↓ri_X6_judge, rs_X6_judge_0, rs_X6_judge_1, rs_X6_judge_2, rs_X6_judge_3, rs_X6_judge_6, rs_X6_judge_9, rs_X6_judge_12, rs_X6_judge_13, rs_X6_judge_14, rs_X6_judge_15, rs_X6_judge_16, rs_X6_judge_17, rs_X6_judge_18, rs_X6_judge_21, rs_X6_judge_22, rs_X6_judge_23, rs_X6_judge_24, rs_X6_judge_27, rs_X6_judge_30, rs_X6_judge_33, rs_X6_judge_34, rs_X6_judge_37, rs_X6_judge_38, rs_X6_judge_40, rs_X6_judge_41, rs_X6_judge_44, rs_X6_judge_45, rs_X6_judge_46, rs_X6_judge_47, rs_X6_judge_48, rs_X6_judge_49, rs_X6_judge_50, rs_X6_judge_51, rs_X6_judge_52, rs_X6_judge_55, rs_X6_judge_56, rs_X6_judge_58, rs_X6_judge_59, rs_X6_judge_61, rs_X6_judge_62, rs_X6_judge_63, rs_X6_judge_64, rs_X6_judge_65, rs_X6_judge_66, rs_X6_judge_67, rs_X6_judge_68, rs_X6_judge_69, rs_X6_judge_72, rs_X6_judge_73, rs_X6_judge_75, rs_X6_judge_76, rs_X6_judge_78, rs_X6_judge_80, rs_X6_judge_83, rs_X6_judge_86, rs_X6_judge_88, rs_X6_judge_90, rs_X6_judge_93, rs_X6_judge_94, rs_X6_judge_97, rs_X6_judge_99, rs_X6_judge_100, rs_X6_judge_102, rs_X6_judge_105, rs_X6_judge_107, rs_X6_judge_108, rs_X6_judge_111, rs_X6_judge_113, rs_X6_judge_115, rs_X6_judge_116, rs_X6_judge_117, rs_X6_judge_120, rs_X6_judge_123, rs_X6_judge_125, rs_X6_judge_128, rs_X6_judge_131, rs_X6_judge_32, rs_X6_judge_106, rs_X6_judge_124, rs_X6_judge_133, -List.getElem?_eq_getElem, am_js, am_e, am_in, am_sl, rI, rZ, rV, rJ, rA, rC, kI, kJ, kR, am_one, am_nl, am_w8, tIc, tLc, tNul, tIld, tLld, tAld, tIst, tLst, tAst, tIinc, tI2, tDv, tL2, tLrem, tLs, tLcmp, tI2l, tL2i, tI2c, tDup, tDup2, tPop, tGo, tIfeq, tIfne, tIflt, tIfge, tIfgt, tIfle, tCmeq, tCmne, tCmlt, tCmge, tCmgt, tCmle, tNu, tTs, tGf, tPf, tGs, tIal, tIas, tBal, tBas, tAln, tSv, tSc, tSb, tSl, tSk, tCv, tCs, tCt, tMx, tMn, wr_10000, wr_100000, wr_1000000, wr_10000000, wr_100000000, wr_2400, wr_9999, wr_0, wr_1, wr_2, wr_3, wr_4, wr_5, wr_6, wr_7, wr_8, wr_9, wr_10, wr_11, wr_12, wr_13, wr_14, wr_15, wr_16, wr_17, wr_18, wr_19, wr_20, wr_21, wr_22, wr_23, wr_24, wr_25, wr_26, wr_27, wr_28, wr_29, wr_30, wr_31, wr_32, wr_33, wr_34, wr_35, wr_36, wr_37, wr_38, wr_39, wr_40, wr_41, wr_42, wr_43, wr_44, wr_45, wr_46, wr_47, wr_48, wr_49, wr_50, wr_51, wr_52, wr_53, wr_54, wr_55, wr_56, wr_57, wr_58, wr_59, wr_60, wr_61, wr_62, wr_63, wr_99, wr_100, wr_192, wr_255, wr_256, wr_343, wr_999, wr_1000, wr_2401, wr_2147483647, wr_65535, wr_m1, wr_m2, wr_m3, wr_m4, wr_m9, ak_1000, ak_1001, ak_1002, ak_0, ak_1, ak_2, ak_3, ak_4, ak_5, ak_6, ak_7, ak_8, ak_9, ak_10, ak_11, ak_12, ak_13, ak_14, ak_15, ak_16, ak_17, ak_18, ak_19, ak_20, ak_21, ak_22, ak_23, ak_24, ak_25, ak_26, ak_27, ak_28, ak_29, ak_30, ak_31, ak_32, ak_33, ak_34, ak_35, ak_36, ak_37, ak_38, ak_39, ak_40, ak_41, ak_42, ak_43, ak_44, ak_45, ak_46, ak_47, sp_X6_in, -Int32.toInt_ofInt, -not_and, wr_eq, jt_0, jt_1, jt_2, jt_3, jt_4, jt_5, jt_6, jt_8, jt_12, jt_30, jt_48, jt_49, jt_51, jt_57, jt_255, jt_9999, sp_X6_isCorner, h0, mo, h32, wt, wn, wx, nt, q1, q2, v1, v2, z1, z2, d1, d2, u1, u2, m1, m2, wf, hf6, wd0, wd1, wd2, wd3, he, q3, hz, gs h32]
    · rw [if_neg hq, set_same h32]
      refine ⟨79 + 1, by clear m1 m2 d1 d2; omega, ?_⟩
      rw [rs_X6_judge_39]
      by_cases hc : c ≤ 3
      · have hc4 : 0 ≤ c ∧ c < 4 := by clear m1 m2 d1 d2; omega
        by_cases hf : 6 < f
        · rcases c4 hc4 with rfl | rfl | rfl | rfl <;>
          simp [↓ri_X6_judge, rs_X6_judge_0, rs_X6_judge_1, rs_X6_judge_2, rs_X6_judge_3, rs_X6_judge_6, rs_X6_judge_9, rs_X6_judge_12, rs_X6_judge_13, rs_X6_judge_14, rs_X6_judge_15, rs_X6_judge_16, rs_X6_judge_17, rs_X6_judge_18, rs_X6_judge_21, rs_X6_judge_22, rs_X6_judge_23, rs_X6_judge_24, rs_X6_judge_27, rs_X6_judge_30, rs_X6_judge_33, rs_X6_judge_34, rs_X6_judge_37, rs_X6_judge_38, rs_X6_judge_40, rs_X6_judge_41, rs_X6_judge_44, rs_X6_judge_45, rs_X6_judge_46, rs_X6_judge_47, rs_X6_judge_48, rs_X6_judge_49, rs_X6_judge_50, rs_X6_judge_51, rs_X6_judge_52, rs_X6_judge_55, rs_X6_judge_56, rs_X6_judge_58, rs_X6_judge_59, rs_X6_judge_61, rs_X6_judge_62, rs_X6_judge_63, rs_X6_judge_64, rs_X6_judge_65, rs_X6_judge_66, rs_X6_judge_67, rs_X6_judge_68, rs_X6_judge_69, rs_X6_judge_72, rs_X6_judge_73, rs_X6_judge_75, rs_X6_judge_76, rs_X6_judge_78, rs_X6_judge_80, rs_X6_judge_83, rs_X6_judge_86, rs_X6_judge_88, rs_X6_judge_90, rs_X6_judge_93, rs_X6_judge_94, rs_X6_judge_97, rs_X6_judge_99, rs_X6_judge_100, rs_X6_judge_102, rs_X6_judge_105, rs_X6_judge_107, rs_X6_judge_108, rs_X6_judge_111, rs_X6_judge_113, rs_X6_judge_115, rs_X6_judge_116, rs_X6_judge_117, rs_X6_judge_120, rs_X6_judge_123, rs_X6_judge_125, rs_X6_judge_128, rs_X6_judge_131, rs_X6_judge_32, rs_X6_judge_106, rs_X6_judge_124, rs_X6_judge_133, -List.getElem?_eq_getElem, am_js, am_e, am_in, am_sl, rI, rZ, rV, rJ, rA, rC, kI, kJ, kR, am_one, am_nl, am_w8, tIc, tLc, tNul, tIld, tLld, tAld, tIst, tLst, tAst, tIinc, tI2, tDv, tL2, tLrem, tLs, tLcmp, tI2l, tL2i, tI2c, tDup, tDup2, tPop, tGo, tIfeq, tIfne, tIflt, tIfge, tIfgt, tIfle, tCmeq, tCmne, tCmlt, tCmge, tCmgt, tCmle, tNu, tTs, tGf, tPf, tGs, tIal, tIas, tBal, tBas, tAln, tSv, tSc, tSb, tSl, tSk, tCv, tCs, tCt, tMx, tMn, wr_10000, wr_100000, wr_1000000, wr_10000000, wr_100000000, wr_2400, wr_9999, wr_0, wr_1, wr_2, wr_3, wr_4, wr_5, wr_6, wr_7, wr_8, wr_9, wr_10, wr_11, wr_12, wr_13, wr_14, wr_15, wr_16, wr_17, wr_18, wr_19, wr_20, wr_21, wr_22, wr_23, wr_24, wr_25, wr_26, wr_27, wr_28, wr_29, wr_30, wr_31, wr_32, wr_33, wr_34, wr_35, wr_36, wr_37, wr_38, wr_39, wr_40, wr_41, wr_42, wr_43, wr_44, wr_45, wr_46, wr_47, wr_48, wr_49, wr_50, wr_51, wr_52, wr_53, wr_54, wr_55, wr_56, wr_57, wr_58, wr_59, wr_60, wr_61, wr_62, wr_63, wr_99, wr_100, wr_192, wr_255, wr_256, wr_343, wr_999, wr_1000, wr_2401, wr_2147483647, wr_65535, wr_m1, wr_m2, wr_m3, wr_m4, wr_m9, ak_1000, ak_1001, ak_1002, ak_0, ak_1, ak_2, ak_3, ak_4, ak_5, ak_6, ak_7, ak_8, ak_9, ak_10, ak_11, ak_12, ak_13, ak_14, ak_15, ak_16, ak_17, ak_18, ak_19, ak_20, ak_21, ak_22, ak_23, ak_24, ak_25, ak_26, ak_27, ak_28, ak_29, ak_30, ak_31, ak_32, ak_33, ak_34, ak_35, ak_36, ak_37, ak_38, ak_39, ak_40, ak_41, ak_42, ak_43, ak_44, ak_45, ak_46, ak_47, sp_X6_in, -Int32.toInt_ofInt, -not_and, wr_eq, jt_0, jt_1, jt_2, jt_3, jt_4, jt_5, jt_6, jt_8, jt_12, jt_30, jt_48, jt_49, jt_51, jt_57, jt_255, jt_9999, sp_X6_isCorner, h0, mo, h32, wt, wn, wx, nt, q1, q2, v1, v2, z1, z2, d1, d2, u1, u2, m1, m2, wf, hf]
        · have he : g4 d c.toNat = f := by
            apply Classical.byContradiction
            intro z
            exact hq ⟨⟨hc, by clear m1 m2 d1 d2; omega⟩, z⟩
          clear hq
          rcases c4 hc4 with rfl | rfl | rfl | rfl <;> simp [g4] at he <;>
          simp [↓ri_X6_judge, rs_X6_judge_0, rs_X6_judge_1, rs_X6_judge_2, rs_X6_judge_3, rs_X6_judge_6, rs_X6_judge_9, rs_X6_judge_12, rs_X6_judge_13, rs_X6_judge_14, rs_X6_judge_15, rs_X6_judge_16, rs_X6_judge_17, rs_X6_judge_18, rs_X6_judge_21, rs_X6_judge_22, rs_X6_judge_23, rs_X6_judge_24, rs_X6_judge_27, rs_X6_judge_30, rs_X6_judge_33, rs_X6_judge_34, rs_X6_judge_37, rs_X6_judge_38, rs_X6_judge_40, rs_X6_judge_41, rs_X6_judge_44, rs_X6_judge_45, rs_X6_judge_46, rs_X6_judge_47, rs_X6_judge_48, rs_X6_judge_49, rs_X6_judge_50, rs_X6_judge_51, rs_X6_judge_52, rs_X6_judge_55, rs_X6_judge_56, rs_X6_judge_58, rs_X6_judge_59, rs_X6_judge_61, rs_X6_judge_62, rs_X6_judge_63, rs_X6_judge_64, rs_X6_judge_65, rs_X6_judge_66, rs_X6_judge_67, rs_X6_judge_68, rs_X6_judge_69, rs_X6_judge_72, rs_X6_judge_73, rs_X6_judge_75, rs_X6_judge_76, rs_X6_judge_78, rs_X6_judge_80, rs_X6_judge_83, rs_X6_judge_86, rs_X6_judge_88, rs_X6_judge_90, rs_X6_judge_93, rs_X6_judge_94, rs_X6_judge_97, rs_X6_judge_99, rs_X6_judge_100, rs_X6_judge_102, rs_X6_judge_105, rs_X6_judge_107, rs_X6_judge_108, rs_X6_judge_111, rs_X6_judge_113, rs_X6_judge_115, rs_X6_judge_116, rs_X6_judge_117, rs_X6_judge_120, rs_X6_judge_123, rs_X6_judge_125, rs_X6_judge_128, rs_X6_judge_131, rs_X6_judge_32, rs_X6_judge_106, rs_X6_judge_124, rs_X6_judge_133, -List.getElem?_eq_getElem, am_js, am_e, am_in, am_sl, rI, rZ, rV, rJ, rA, rC, kI, kJ, kR, am_one, am_nl, am_w8, tIc, tLc, tNul, tIld, tLld, tAld, tIst, tLst, tAst, tIinc, tI2, tDv, tL2, tLrem, tLs, tLcmp, tI2l, tL2i, tI2c, tDup, tDup2, tPop, tGo, tIfeq, tIfne, tIflt, tIfge, tIfgt, tIfle, tCmeq, tCmne, tCmlt, tCmge, tCmgt, tCmle, tNu, tTs, tGf, tPf, tGs, tIal, tIas, tBal, tBas, tAln, tSv, tSc, tSb, tSl, tSk, tCv, tCs, tCt, tMx, tMn, wr_10000, wr_100000, wr_1000000, wr_10000000, wr_100000000, wr_2400, wr_9999, wr_0, wr_1, wr_2, wr_3, wr_4, wr_5, wr_6, wr_7, wr_8, wr_9, wr_10, wr_11, wr_12, wr_13, wr_14, wr_15, wr_16, wr_17, wr_18, wr_19, wr_20, wr_21, wr_22, wr_23, wr_24, wr_25, wr_26, wr_27, wr_28, wr_29, wr_30, wr_31, wr_32, wr_33, wr_34, wr_35, wr_36, wr_37, wr_38, wr_39, wr_40, wr_41, wr_42, wr_43, wr_44, wr_45, wr_46, wr_47, wr_48, wr_49, wr_50, wr_51, wr_52, wr_53, wr_54, wr_55, wr_56, wr_57, wr_58, wr_59, wr_60, wr_61, wr_62, wr_63, wr_99, wr_100, wr_192, wr_255, wr_256, wr_343, wr_999, wr_1000, wr_2401, wr_2147483647, wr_65535, wr_m1, wr_m2, wr_m3, wr_m4, wr_m9, ak_1000, ak_1001, ak_1002, ak_0, ak_1, ak_2, ak_3, ak_4, ak_5, ak_6, ak_7, ak_8, ak_9, ak_10, ak_11, ak_12, ak_13, ak_14, ak_15, ak_16, ak_17, ak_18, ak_19, ak_20, ak_21, ak_22, ak_23, ak_24, ak_25, ak_26, ak_27, ak_28, ak_29, ak_30, ak_31, ak_32, ak_33, ak_34, ak_35, ak_36, ak_37, ak_38, ak_39, ak_40, ak_41, ak_42, ak_43, ak_44, ak_45, ak_46, ak_47, sp_X6_in, -Int32.toInt_ofInt, -not_and, wr_eq, jt_0, jt_1, jt_2, jt_3, jt_4, jt_5, jt_6, jt_8, jt_12, jt_30, jt_48, jt_49, jt_51, jt_57, jt_255, jt_9999, sp_X6_isCorner, h0, mo, h32, wt, wn, wx, nt, q1, q2, v1, v2, z1, z2, d1, d2, u1, u2, m1, m2, wf, hf, wd0, wd1, wd2, wd3, he]
      · have hcn : ¬ (0 ≤ c ∧ c ≤ 3) := fun z => hc z.2
        clear hq
        simp [↓ri_X6_judge, rs_X6_judge_0, rs_X6_judge_1, rs_X6_judge_2, rs_X6_judge_3, rs_X6_judge_6, rs_X6_judge_9, rs_X6_judge_12, rs_X6_judge_13, rs_X6_judge_14, rs_X6_judge_15, rs_X6_judge_16, rs_X6_judge_17, rs_X6_judge_18, rs_X6_judge_21, rs_X6_judge_22, rs_X6_judge_23, rs_X6_judge_24, rs_X6_judge_27, rs_X6_judge_30, rs_X6_judge_33, rs_X6_judge_34, rs_X6_judge_37, rs_X6_judge_38, rs_X6_judge_40, rs_X6_judge_41, rs_X6_judge_44, rs_X6_judge_45, rs_X6_judge_46, rs_X6_judge_47, rs_X6_judge_48, rs_X6_judge_49, rs_X6_judge_50, rs_X6_judge_51, rs_X6_judge_52, rs_X6_judge_55, rs_X6_judge_56, rs_X6_judge_58, rs_X6_judge_59, rs_X6_judge_61, rs_X6_judge_62, rs_X6_judge_63, rs_X6_judge_64, rs_X6_judge_65, rs_X6_judge_66, rs_X6_judge_67, rs_X6_judge_68, rs_X6_judge_69, rs_X6_judge_72, rs_X6_judge_73, rs_X6_judge_75, rs_X6_judge_76, rs_X6_judge_78, rs_X6_judge_80, rs_X6_judge_83, rs_X6_judge_86, rs_X6_judge_88, rs_X6_judge_90, rs_X6_judge_93, rs_X6_judge_94, rs_X6_judge_97, rs_X6_judge_99, rs_X6_judge_100, rs_X6_judge_102, rs_X6_judge_105, rs_X6_judge_107, rs_X6_judge_108, rs_X6_judge_111, rs_X6_judge_113, rs_X6_judge_115, rs_X6_judge_116, rs_X6_judge_117, rs_X6_judge_120, rs_X6_judge_123, rs_X6_judge_125, rs_X6_judge_128, rs_X6_judge_131, rs_X6_judge_32, rs_X6_judge_106, rs_X6_judge_124, rs_X6_judge_133, -List.getElem?_eq_getElem, am_js, am_e, am_in, am_sl, rI, rZ, rV, rJ, rA, rC, kI, kJ, kR, am_one, am_nl, am_w8, tIc, tLc, tNul, tIld, tLld, tAld, tIst, tLst, tAst, tIinc, tI2, tDv, tL2, tLrem, tLs, tLcmp, tI2l, tL2i, tI2c, tDup, tDup2, tPop, tGo, tIfeq, tIfne, tIflt, tIfge, tIfgt, tIfle, tCmeq, tCmne, tCmlt, tCmge, tCmgt, tCmle, tNu, tTs, tGf, tPf, tGs, tIal, tIas, tBal, tBas, tAln, tSv, tSc, tSb, tSl, tSk, tCv, tCs, tCt, tMx, tMn, wr_10000, wr_100000, wr_1000000, wr_10000000, wr_100000000, wr_2400, wr_9999, wr_0, wr_1, wr_2, wr_3, wr_4, wr_5, wr_6, wr_7, wr_8, wr_9, wr_10, wr_11, wr_12, wr_13, wr_14, wr_15, wr_16, wr_17, wr_18, wr_19, wr_20, wr_21, wr_22, wr_23, wr_24, wr_25, wr_26, wr_27, wr_28, wr_29, wr_30, wr_31, wr_32, wr_33, wr_34, wr_35, wr_36, wr_37, wr_38, wr_39, wr_40, wr_41, wr_42, wr_43, wr_44, wr_45, wr_46, wr_47, wr_48, wr_49, wr_50, wr_51, wr_52, wr_53, wr_54, wr_55, wr_56, wr_57, wr_58, wr_59, wr_60, wr_61, wr_62, wr_63, wr_99, wr_100, wr_192, wr_255, wr_256, wr_343, wr_999, wr_1000, wr_2401, wr_2147483647, wr_65535, wr_m1, wr_m2, wr_m3, wr_m4, wr_m9, ak_1000, ak_1001, ak_1002, ak_0, ak_1, ak_2, ak_3, ak_4, ak_5, ak_6, ak_7, ak_8, ak_9, ak_10, ak_11, ak_12, ak_13, ak_14, ak_15, ak_16, ak_17, ak_18, ak_19, ak_20, ak_21, ak_22, ak_23, ak_24, ak_25, ak_26, ak_27, ak_28, ak_29, ak_30, ak_31, ak_32, ak_33, ak_34, ak_35, ak_36, ak_37, ak_38, ak_39, ak_40, ak_41, ak_42, ak_43, ak_44, ak_45, ak_46, ak_47, sp_X6_in, -Int32.toInt_ofInt, -not_and, wr_eq, jt_0, jt_1, jt_2, jt_3, jt_4, jt_5, jt_6, jt_8, jt_12, jt_30, jt_48, jt_49, jt_51, jt_57, jt_255, jt_9999, sp_X6_isCorner, h0, mo, h32, wt, wn, wx, nt, q1, q2, v1, v2, z1, z2, d1, d2, u1, u2, m1, m2, wc, wf, hc, hcn]
end
