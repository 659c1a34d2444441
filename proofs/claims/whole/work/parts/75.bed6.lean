noncomputable section
theorem ft_one {p c : Int} (h : ft p c = 1) : p < 19 ∧ am_b1.getD p.toNat 0 ≤ c ∧ c ≤ am_b2.getD p.toNat 0 := by
  unfold ft at h
  split at h
  · assumption
  · cases h
/-- a text without a fault -/
theorem fau_ok (txt : List Int) (len : Int) (hl : 0 ≤ len) : ∀ (n : Nat) (p : Int), p + n = len → 0 ≤ p → fau txt len n p = -9 → (10 ≤ len ∧ (len - 10) % 3 = 0) ∧ ∀ j : Int, p ≤ j → j < len → ft j (txt.getD j.toNat 0) = 1
  | 0, p, hp, hp0, h => by
    rw [fau] at h
    split at h
    · next hq => exact ⟨hq, fun j h1 h2 => by omega⟩
    · omega
  | n + 1, p, hp, hp0, h => by
    rw [fau] at h
    split at h
    · omega
    · next hq =>
      obtain ⟨h1, h2⟩ := fau_ok txt len hl n (p + 1) (by omega) (by omega) h
      refine ⟨h1, fun j a b => ?_⟩
      by_cases e : j = p
      · rw [e]
        exact (ft_01 p (txt.getD p.toNat 0)).resolve_left hq
      · exact h2 j (by omega) b
theorem fau_len {txt : List Int} {len : Int} (hl : 0 ≤ len ∧ len ≤ 24) (h : fau txt len len.toNat 0 = -9) : (len = 10 ∨ len = 13 ∨ len = 16 ∨ len = 19) ∧ ∀ j : Int, 0 ≤ j → j < len → ft j (txt.getD j.toNat 0) = 1 := by
  obtain ⟨h1, h2⟩ := fau_ok txt len hl.1 len.toNat 0 (by omega) (by omega) h
  refine ⟨?_, h2⟩
  have : len ≤ 19 := by
    rcases Int.lt_or_le 19 len with q | q
    · have := (ft_one (h2 19 (by omega) q)).1
      omega
    · exact q
  omega
/-- the figure at a place of the text -/
def tf (txt : List Int) (i : Nat) : Int := txt.getD i 0 - 48
def tfg (txt : List Int) : F4 := (tf txt 2, tf txt 3, tf txt 4, tf txt 5)
def tfs (txt : List Int) : F4 := (tf txt 6, tf txt 7, tf txt 8, tf txt 9)
def tfc (txt : List Int) (k : Int) (c : F3) : F3 := (if 1 ≤ k then tf txt 11 else c.1, if 2 ≤ k then tf txt 14 else c.2.1, if 3 ≤ k then tf txt 17 else c.2.2)
def tft (txt : List Int) (k : Int) (c : F3) : F3 := (if 1 ≤ k then tf txt 12 else c.1, if 2 ≤ k then tf txt 15 else c.2.1, if 3 ≤ k then tf txt 18 else c.2.2)
abbrev mi_X6_bed : Mi := (yX6_bed, cX6_bed, 2, some .int, 4)
theorem mf_X6_bed : am_mf mi_X6_bed 0 := ⟨w_co_X6_bed, w_in_X6, ⟨by decide +kernel, by decide +kernel⟩, by decide +kernel, by decide⟩
def tb_X6_bed : List (Nat × Tr) := [(0, tAld 0 1), (1, tCv 6 0 fn_X6_fault), (4, tIc (-9) 2), (6, tCmeq 12), (9, tIc (-3) 2), (12, tAld 0 1), (13, tAld 0 1), (14, tGf 6 6), (17, tIc 1 1), (18, tIal), (19, tIc 48 2), (21, tI2 (fun a b => a - b)), (22, tPf kI 6 0), (25, tIc 0 1), (26, tIst 1 1), (27, tIld 1 1), (28, tIc 4 1), (29, tCmge 92), (32, tAld 0 1), (33, tGf 6 1), (36, tIld 1 1), (37, tAld 0 1), (38, tGf 6 6), (41, tIc 2 1), (42, tIld 1 1), (43, tI2 (fun a b => a + b)), (44, tIal), (45, tIc 48 2), (47, tI2 (fun a b => a - b)), (48, tIas), (49, tAld 0 1), (50, tGf 6 2), (53, tIld 1 1), (54, tIc 0 1), (55, tIas), (56, tAld 0 1), (57, tGf 6 2), (60, tIc 4 1), (61, tIld 1 1), (62, tI2 (fun a b => a + b)), (63, tIc 0 1), (64, tIas), (65, tAld 0 1), (66, tGf 6 2), (69, tIc 8 2), (71, tIld 1 1), (72, tI2 (fun a b => a + b)), (73, tAld 0 1), (74, tGf 6 6), (77, tIc 6 2), (79, tIld 1 1), (80, tI2 (fun a b => a + b)), (81, tIal), (82, tIc 48 2), (84, tI2 (fun a b => a - b)), (85, tIas), (86, tIinc 1 1), (89, tGo 27), (92, tAld 0 1), (93, tAld 0 1), (94, tGf 6 7), (97, tIc 10 2), (99, tI2 (fun a b => a - b)), (100, tIc 3 1), (101, tDv Int.tdiv), (102, tPf kI 6 3), (105, tIc 0 1), (106, tIst 1 1), (107, tIld 1 1), (108, tAld 0 1), (109, tGf 6 3), (112, tCmge 161), (115, tAld 0 1), (116, tGf 6 4), (119, tIld 1 1), (120, tAld 0 1), (121, tGf 6 6), (124, tIc 11 2), (126, tIc 3 1), (127, tIld 1 1), (128, tI2 (fun a b => a * b)), (129, tI2 (fun a b => a + b)), (130, tIal), (131, tIc 48 2), (133, tI2 (fun a b => a - b)), (134, tIas), (135, tAld 0 1), (136, tGf 6 5), (139, tIld 1 1), (140, tAld 0 1), (141, tGf 6 6), (144, tIc 12 2), (146, tIc 3 1), (147, tIld 1 1), (148, tI2 (fun a b => a * b)), (149, tI2 (fun a b => a + b)), (150, tIal), (151, tIc 48 2), (153, tI2 (fun a b => a - b)), (154, tIas), (155, tIinc 1 1), (158, tGo 107), (161, tAld 0 1), (162, tIc 0 1), (163, tPf kI 6 11), (166, tAld 0 1), (167, tGf 6 24), (170, tIc 0 1), (171, tIc 0 1), (172, tBas), (173, tAld 0 1), (174, tGf 6 24), (177, tIc 1 1), (178, tIc 0 1), (179, tBas), (180, tAld 0 1), (181, tGf 6 3)]
theorem ok_X6_bed : Tok mi_X6_bed tb_X6_bed :=
  Tc (sd_aload_n dX6_bed_0) <|
  Tc (sd_cv (T := TX6) fok_X6_fault mf_X6_fault rfl w_ml_X6_84 w_im_X6_fault w_se_X6_fault (by decide) dX6_bed_1) <|
  Tc (sd_bipush (by decide +kernel) dX6_bed_4) <|
  Tc (sd_cm_eq (by decide) dX6_bed_6) <|
  Tc (sd_bipush (by decide +kernel) dX6_bed_9) <|
  Tc (sd_aload_n dX6_bed_12) <|
  Tc (sd_aload_n dX6_bed_13) <|
  Tc (sd_getf (T := TX6) rfl giX6 (by decide) w_fl_X6_22 dX6_bed_14) <|
  Tc (sd_iconst rfl dX6_bed_17) <|
  Tc (sd_ial dX6_bed_18) <|
  Tc (sd_bipush (by decide +kernel) dX6_bed_19) <|
  Tc (sd_isub dX6_bed_21) <|
  Tc (sd_putf (T := TX6) rfl giX6 (by decide) w_fl_X6_59 tyX6 tyX6_ok nmX6 (kI_ok) rfl dX6_bed_22) <|
  Tc (sd_iconst rfl dX6_bed_25) <|
  Tc (sd_istore_n dX6_bed_26) <|
  Tc (sd_iload_n dX6_bed_27) <|
  Tc (sd_iconst rfl dX6_bed_28) <|
  Tc (sd_cm_ge (by decide) dX6_bed_29) <|
  Tc (sd_aload_n dX6_bed_32) <|
  Tc (sd_getf (T := TX6) rfl giX6 (by decide) w_fl_X6_7 dX6_bed_33) <|
  Tc (sd_iload_n dX6_bed_36) <|
  Tc (sd_aload_n dX6_bed_37) <|
  Tc (sd_getf (T := TX6) rfl giX6 (by decide) w_fl_X6_22 dX6_bed_38) <|
  Tc (sd_iconst rfl dX6_bed_41) <|
  Tc (sd_iload_n dX6_bed_42) <|
  Tc (sd_iadd dX6_bed_43) <|
  Tc (sd_ial dX6_bed_44) <|
  Tc (sd_bipush (by decide +kernel) dX6_bed_45) <|
  Tc (sd_isub dX6_bed_47) <|
  Tc (sd_ias dX6_bed_48) <|
  Tc (sd_aload_n dX6_bed_49) <|
  Tc (sd_getf (T := TX6) rfl giX6 (by decide) w_fl_X6_13 dX6_bed_50) <|
  Tc (sd_iload_n dX6_bed_53) <|
  Tc (sd_iconst rfl dX6_bed_54) <|
  Tc (sd_ias dX6_bed_55) <|
  Tc (sd_aload_n dX6_bed_56) <|
  Tc (sd_getf (T := TX6) rfl giX6 (by decide) w_fl_X6_13 dX6_bed_57) <|
  Tc (sd_iconst rfl dX6_bed_60) <|
  Tc (sd_iload_n dX6_bed_61) <|
  Tc (sd_iadd dX6_bed_62) <|
  Tc (sd_iconst rfl dX6_bed_63) <|
  Tc (sd_ias dX6_bed_64) <|
  Tc (sd_aload_n dX6_bed_65) <|
  Tc (sd_getf (T := TX6) rfl giX6 (by decide) w_fl_X6_13 dX6_bed_66) <|
  Tc (sd_bipush (by decide +kernel) dX6_bed_69) <|
  Tc (sd_iload_n dX6_bed_71) <|
  Tc (sd_iadd dX6_bed_72) <|
  Tc (sd_aload_n dX6_bed_73) <|
  Tc (sd_getf (T := TX6) rfl giX6 (by decide) w_fl_X6_22 dX6_bed_74) <|
  Tc (sd_bipush (by decide +kernel) dX6_bed_77) <|
  Tc (sd_iload_n dX6_bed_79) <|
  Tc (sd_iadd dX6_bed_80) <|
  Tc (sd_ial dX6_bed_81) <|
  Tc (sd_bipush (by decide +kernel) dX6_bed_82) <|
  Tc (sd_isub dX6_bed_84) <|
  Tc (sd_ias dX6_bed_85) <|
  Tc (sd_iinc dX6_bed_86) <|
  Tc (sd_goto (by decide) dX6_bed_89) <|
  Tc (sd_aload_n dX6_bed_92) <|
  Tc (sd_aload_n dX6_bed_93) <|
  Tc (sd_getf (T := TX6) rfl giX6 (by decide) w_fl_X6_69 dX6_bed_94) <|
  Tc (sd_bipush (by decide +kernel) dX6_bed_97) <|
  Tc (sd_isub dX6_bed_99) <|
  Tc (sd_iconst rfl dX6_bed_100) <|
  Tc (sd_idiv dX6_bed_101) <|
  Tc (sd_putf (T := TX6) rfl giX6 (by decide) w_fl_X6_88 tyX6 tyX6_ok nmX6 (kI_ok) rfl dX6_bed_102) <|
  Tc (sd_iconst rfl dX6_bed_105) <|
  Tc (sd_istore_n dX6_bed_106) <|
  Tc (sd_iload_n dX6_bed_107) <|
  Tc (sd_aload_n dX6_bed_108) <|
  Tc (sd_getf (T := TX6) rfl giX6 (by decide) w_fl_X6_88 dX6_bed_109) <|
  Tc (sd_cm_ge (by decide) dX6_bed_112) <|
  Tc (sd_aload_n dX6_bed_115) <|
  Tc (sd_getf (T := TX6) rfl giX6 (by decide) w_fl_X6_16 dX6_bed_116) <|
  Tc (sd_iload_n dX6_bed_119) <|
  Tc (sd_aload_n dX6_bed_120) <|
  Tc (sd_getf (T := TX6) rfl giX6 (by decide) w_fl_X6_22 dX6_bed_121) <|
  Tc (sd_bipush (by decide +kernel) dX6_bed_124) <|
  Tc (sd_iconst rfl dX6_bed_126) <|
  Tc (sd_iload_n dX6_bed_127) <|
  Tc (sd_imul dX6_bed_128) <|
  Tc (sd_iadd dX6_bed_129) <|
  Tc (sd_ial dX6_bed_130) <|
  Tc (sd_bipush (by decide +kernel) dX6_bed_131) <|
  Tc (sd_isub dX6_bed_133) <|
  Tc (sd_ias dX6_bed_134) <|
  Tc (sd_aload_n dX6_bed_135) <|
  Tc (sd_getf (T := TX6) rfl giX6 (by decide) w_fl_X6_19 dX6_bed_136) <|
  Tc (sd_iload_n dX6_bed_139) <|
  Tc (sd_aload_n dX6_bed_140) <|
  Tc (sd_getf (T := TX6) rfl giX6 (by decide) w_fl_X6_22 dX6_bed_141) <|
  Tc (sd_bipush (by decide +kernel) dX6_bed_144) <|
  Tc (sd_iconst rfl dX6_bed_146) <|
  Tc (sd_iload_n dX6_bed_147) <|
  Tc (sd_imul dX6_bed_148) <|
  Tc (sd_iadd dX6_bed_149) <|
  Tc (sd_ial dX6_bed_150) <|
  Tc (sd_bipush (by decide +kernel) dX6_bed_151) <|
  Tc (sd_isub dX6_bed_153) <|
  Tc (sd_ias dX6_bed_154) <|
  Tc (sd_iinc dX6_bed_155) <|
  Tc (sd_goto (by decide) dX6_bed_158) <|
  Tc (sd_aload_n dX6_bed_161) <|
  Tc (sd_iconst rfl dX6_bed_162) <|
  Tc (sd_putf (T := TX6) rfl giX6 (by decide) w_fl_X6_91 tyX6 tyX6_ok nmX6 (kI_ok) rfl dX6_bed_163) <|
  Tc (sd_aload_n dX6_bed_166) <|
  Tc (sd_getf (T := TX6) rfl giX6 (by decide) w_fl_X6_52 dX6_bed_167) <|
  Tc (sd_iconst rfl dX6_bed_170) <|
  Tc (sd_iconst rfl dX6_bed_171) <|
  Tc (sd_bas dX6_bed_172) <|
  Tc (sd_aload_n dX6_bed_173) <|
  Tc (sd_getf (T := TX6) rfl giX6 (by decide) w_fl_X6_52 dX6_bed_174) <|
  Tc (sd_iconst rfl dX6_bed_177) <|
  Tc (sd_iconst rfl dX6_bed_178) <|
  Tc (sd_bas dX6_bed_179) <|
  Tc (sd_aload_n dX6_bed_180) <|
  Tc (sd_getf (T := TX6) rfl giX6 (by decide) w_fl_X6_88 dX6_bed_181) <|
  Tn
theorem rk_X6_bed : Rok mi_X6_bed rI [11, 184] := rk_i dX6_bed_11 <| rk_i dX6_bed_184 <| rk_n
def rx_X6_bed : Nat → Nat → AL → List AV → List AC → Option (Option AV × List AC) := am_r tb_X6_bed rI [11, 184]
theorem rs_X6_bed_0 (n : Nat) (L : AL) (st : List AV) (M : List AC) : rx_X6_bed (n + 1) 0 L st M = am_j (rx_X6_bed n) ((tAld 0 1) 0 L st M) := rfl
theorem rs_X6_bed_1 (n : Nat) (L : AL) (st : List AV) (M : List AC) : rx_X6_bed (n + 1) 1 L st M = am_j (rx_X6_bed n) ((tCv 6 0 fn_X6_fault) 1 L st M) := rfl
theorem rs_X6_bed_4 (n : Nat) (L : AL) (st : List AV) (M : List AC) : rx_X6_bed (n + 1) 4 L st M = am_j (rx_X6_bed n) ((tIc (-9) 2) 4 L st M) := rfl
theorem rs_X6_bed_6 (n : Nat) (L : AL) (st : List AV) (M : List AC) : rx_X6_bed (n + 1) 6 L st M = am_j (rx_X6_bed n) ((tCmeq 12) 6 L st M) := rfl
theorem rs_X6_bed_9 (n : Nat) (L : AL) (st : List AV) (M : List AC) : rx_X6_bed (n + 1) 9 L st M = am_j (rx_X6_bed n) ((tIc (-3) 2) 9 L st M) := rfl
theorem rs_X6_bed_12 (n : Nat) (L : AL) (st : List AV) (M : List AC) : rx_X6_bed (n + 1) 12 L st M = am_j (rx_X6_bed n) ((tAld 0 1) 12 L st M) := rfl
theorem rs_X6_bed_13 (n : Nat) (L : AL) (st : List AV) (M : List AC) : rx_X6_bed (n + 1) 13 L st M = am_j (rx_X6_bed n) ((tAld 0 1) 13 L st M) := rfl
theorem rs_X6_bed_14 (n : Nat) (L : AL) (st : List AV) (M : List AC) : rx_X6_bed (n + 1) 14 L st M = am_j (rx_X6_bed n) ((tGf 6 6) 14 L st M) := rfl
theorem rs_X6_bed_17 (n : Nat) (L : AL) (st : List AV) (M : List AC) : rx_X6_bed (n + 1) 17 L st M = am_j (rx_X6_bed n) ((tIc 1 1) 17 L st M) := rfl
theorem rs_X6_bed_18 (n : Nat) (L : AL) (st : List AV) (M : List AC) : rx_X6_bed (n + 1) 18 L st M = am_j (rx_X6_bed n) (tIal 18 L st M) := rfl
theorem rs_X6_bed_19 (n : Nat) (L : AL) (st : List AV) (M : List AC) : rx_X6_bed (n + 1) 19 L st M = am_j (rx_X6_bed n) ((tIc 48 2) 19 L st M) := rfl
theorem rs_X6_bed_21 (n : Nat) (L : AL) (st : List AV) (M : List AC) : rx_X6_bed (n + 1) 21 L st M = am_j (rx_X6_bed n) ((tI2 (fun a b => a - b)) 21 L st M) := rfl
theorem rs_X6_bed_22 (n : Nat) (L : AL) (st : List AV) (M : List AC) : rx_X6_bed (n + 1) 22 L st M = am_j (rx_X6_bed n) ((tPf kI 6 0) 22 L st M) := rfl
theorem rs_X6_bed_25 (n : Nat) (L : AL) (st : List AV) (M : List AC) : rx_X6_bed (n + 1) 25 L st M = am_j (rx_X6_bed n) ((tIc 0 1) 25 L st M) := rfl
theorem rs_X6_bed_26 (n : Nat) (L : AL) (st : List AV) (M : List AC) : rx_X6_bed (n + 1) 26 L st M = am_j (rx_X6_bed n) ((tIst 1 1) 26 L st M) := rfl
theorem rs_X6_bed_27 (n : Nat) (L : AL) (st : List AV) (M : List AC) : rx_X6_bed (n + 1) 27 L st M = am_j (rx_X6_bed n) ((tIld 1 1) 27 L st M) := rfl
theorem rs_X6_bed_28 (n : Nat) (L : AL) (st : List AV) (M : List AC) : rx_X6_bed (n + 1) 28 L st M = am_j (rx_X6_bed n) ((tIc 4 1) 28 L st M) := rfl
theorem rs_X6_bed_29 (n : Nat) (L : AL) (st : List AV) (M : List AC) : rx_X6_bed (n + 1) 29 L st M = am_j (rx_X6_bed n) ((tCmge 92) 29 L st M) := rfl
theorem rs_X6_bed_32 (n : Nat) (L : AL) (st : List AV) (M : List AC) : rx_X6_bed (n + 1) 32 L st M = am_j (rx_X6_bed n) ((tAld 0 1) 32 L st M) := rfl
theorem rs_X6_bed_33 (n : Nat) (L : AL) (st : List AV) (M : List AC) : rx_X6_bed (n + 1) 33 L st M = am_j (rx_X6_bed n) ((tGf 6 1) 33 L st M) := rfl
theorem rs_X6_bed_36 (n : Nat) (L : AL) (st : List AV) (M : List AC) : rx_X6_bed (n + 1) 36 L st M = am_j (rx_X6_bed n) ((tIld 1 1) 36 L st M) := rfl
theorem rs_X6_bed_37 (n : Nat) (L : AL) (st : List AV) (M : List AC) : rx_X6_bed (n + 1) 37 L st M = am_j (rx_X6_bed n) ((tAld 0 1) 37 L st M) := rfl
theorem rs_X6_bed_38 (n : Nat) (L : AL) (st : List AV) (M : List AC) : rx_X6_bed (n + 1) 38 L st M = am_j (rx_X6_bed n) ((tGf 6 6) 38 L st M) := rfl
theorem rs_X6_bed_41 (n : Nat) (L : AL) (st : List AV) (M : List AC) : rx_X6_bed (n + 1) 41 L st M = am_j (rx_X6_bed n) ((tIc 2 1) 41 L st M) := rfl
theorem rs_X6_bed_42 (n : Nat) (L : AL) (st : List AV) (M : List AC) : rx_X6_bed (n + 1) 42 L st M = am_j (rx_X6_bed n) ((tIld 1 1) 42 L st M) := rfl
theorem rs_X6_bed_43 (n : Nat) (L : AL) (st : List AV) (M : List AC) : rx_X6_bed (n + 1) 43 L st M = am_j (rx_X6_bed n) ((tI2 (fun a b => a + b)) 43 L st M) := rfl
theorem rs_X6_bed_44 (n : Nat) (L : AL) (st : List AV) (M : List AC) : rx_X6_bed (n + 1) 44 L st M = am_j (rx_X6_bed n) (tIal 44 L st M) := rfl
theorem rs_X6_bed_45 (n : Nat) (L : AL) (st : List AV) (M : List AC) : rx_X6_bed (n + 1) 45 L st M = am_j (rx_X6_bed n) ((tIc 48 2) 45 L st M) := rfl
theorem rs_X6_bed_47 (n : Nat) (L : AL) (st : List AV) (M : List AC) : rx_X6_bed (n + 1) 47 L st M = am_j (rx_X6_bed n) ((tI2 (fun a b => a - b)) 47 L st M) := rfl
theorem rs_X6_bed_48 (n : Nat) (L : AL) (st : List AV) (M : List AC) : rx_X6_bed (n + 1) 48 L st M = am_j (rx_X6_bed n) (tIas 48 L st M) := rfl
theorem rs_X6_bed_49 (n : Nat) (L : AL) (st : List AV) (M : List AC) : rx_X6_bed (n + 1) 49 L st M = am_j (rx_X6_bed n) ((tAld 0 1) 49 L st M) := rfl
theorem rs_X6_bed_50 (n : Nat) (L : AL) (st : List AV) (M : List AC) : rx_X6_bed (n + 1) 50 L st M = am_j (rx_X6_bed n) ((tGf 6 2) 50 L st M) := rfl
theorem rs_X6_bed_53 (n : Nat) (L : AL) (st : List AV) (M : List AC) : rx_X6_bed (n + 1) 53 L st M = am_j (rx_X6_bed n) ((tIld 1 1) 53 L st M) := rfl
theorem rs_X6_bed_54 (n : Nat) (L : AL) (st : List AV) (M : List AC) : rx_X6_bed (n + 1) 54 L st M = am_j (rx_X6_bed n) ((tIc 0 1) 54 L st M) := rfl
theorem rs_X6_bed_55 (n : Nat) (L : AL) (st : List AV) (M : List AC) : rx_X6_bed (n + 1) 55 L st M = am_j (rx_X6_bed n) (tIas 55 L st M) := rfl
theorem rs_X6_bed_56 (n : Nat) (L : AL) (st : List AV) (M : List AC) : rx_X6_bed (n + 1) 56 L st M = am_j (rx_X6_bed n) ((tAld 0 1) 56 L st M) := rfl
theorem rs_X6_bed_57 (n : Nat) (L : AL) (st : List AV) (M : List AC) : rx_X6_bed (n + 1) 57 L st M = am_j (rx_X6_bed n) ((tGf 6 2) 57 L st M) := rfl
theorem rs_X6_bed_60 (n : Nat) (L : AL) (st : List AV) (M : List AC) : rx_X6_bed (n + 1) 60 L st M = am_j (rx_X6_bed n) ((tIc 4 1) 60 L st M) := rfl
theorem rs_X6_bed_61 (n : Nat) (L : AL) (st : List AV) (M : List AC) : rx_X6_bed (n + 1) 61 L st M = am_j (rx_X6_bed n) ((tIld 1 1) 61 L st M) := rfl
theorem rs_X6_bed_62 (n : Nat) (L : AL) (st : List AV) (M : List AC) : rx_X6_bed (n + 1) 62 L st M = am_j (rx_X6_bed n) ((tI2 (fun a b => a + b)) 62 L st M) := rfl
theorem rs_X6_bed_63 (n : Nat) (L : AL) (st : List AV) (M : List AC) : rx_X6_bed (n + 1) 63 L st M = am_j (rx_X6_bed n) ((tIc 0 1) 63 L st M) := rfl
theorem rs_X6_bed_64 (n : Nat) (L : AL) (st : List AV) (M : List AC) : rx_X6_bed (n + 1) 64 L st M = am_j (rx_X6_bed n) (tIas 64 L st M) := rfl
theorem rs_X6_bed_65 (n : Nat) (L : AL) (st : List AV) (M : List AC) : rx_X6_bed (n + 1) 65 L st M = am_j (rx_X6_bed n) ((tAld 0 1) 65 L st M) := rfl
theorem rs_X6_bed_66 (n : Nat) (L : AL) (st : List AV) (M : List AC) : rx_X6_bed (n + 1) 66 L st M = am_j (rx_X6_bed n) ((tGf 6 2) 66 L st M) := rfl
theorem rs_X6_bed_69 (n : Nat) (L : AL) (st : List AV) (M : List AC) : rx_X6_bed (n + 1) 69 L st M = am_j (rx_X6_bed n) ((tIc 8 2) 69 L st M) := rfl
theorem rs_X6_bed_71 (n : Nat) (L : AL) (st : List AV) (M : List AC) : rx_X6_bed (n + 1) 71 L st M = am_j (rx_X6_bed n) ((tIld 1 1) 71 L st M) := rfl
theorem rs_X6_bed_72 (n : Nat) (L : AL) (st : List AV) (M : List AC) : rx_X6_bed (n + 1) 72 L st M = am_j (rx_X6_bed n) ((tI2 (fun a b => a + b)) 72 L st M) := rfl
theorem rs_X6_bed_73 (n : Nat) (L : AL) (st : List AV) (M : List AC) : rx_X6_bed (n + 1) 73 L st M = am_j (rx_X6_bed n) ((tAld 0 1) 73 L st M) := rfl
theorem rs_X6_bed_74 (n : Nat) (L : AL) (st : List AV) (M : List AC) : rx_X6_bed (n + 1) 74 L st M = am_j (rx_X6_bed n) ((tGf 6 6) 74 L st M) := rfl
theorem rs_X6_bed_77 (n : Nat) (L : AL) (st : List AV) (M : List AC) : rx_X6_bed (n + 1) 77 L st M = am_j (rx_X6_bed n) ((tIc 6 2) 77 L st M) := rfl
theorem rs_X6_bed_79 (n : Nat) (L : AL) (st : List AV) (M : List AC) : rx_X6_bed (n + 1) 79 L st M = am_j (rx_X6_bed n) ((tIld 1 1) 79 L st M) := rfl
theorem rs_X6_bed_80 (n : Nat) (L : AL) (st : List AV) (M : List AC) : rx_X6_bed (n + 1) 80 L st M = am_j (rx_X6_bed n) ((tI2 (fun a b => a + b)) 80 L st M) := rfl
theorem rs_X6_bed_81 (n : Nat) (L : AL) (st : List AV) (M : List AC) : rx_X6_bed (n + 1) 81 L st M = am_j (rx_X6_bed n) (tIal 81 L st M) := rfl
theorem rs_X6_bed_82 (n : Nat) (L : AL) (st : List AV) (M : List AC) : rx_X6_bed (n + 1) 82 L st M = am_j (rx_X6_bed n) ((tIc 48 2) 82 L st M) := rfl
theorem rs_X6_bed_84 (n : Nat) (L : AL) (st : List AV) (M : List AC) : rx_X6_bed (n + 1) 84 L st M = am_j (rx_X6_bed n) ((tI2 (fun a b => a - b)) 84 L st M) := rfl
theorem rs_X6_bed_85 (n : Nat) (L : AL) (st : List AV) (M : List AC) : rx_X6_bed (n + 1) 85 L st M = am_j (rx_X6_bed n) (tIas 85 L st M) := rfl
theorem rs_X6_bed_86 (n : Nat) (L : AL) (st : List AV) (M : List AC) : rx_X6_bed (n + 1) 86 L st M = am_j (rx_X6_bed n) ((tIinc 1 1) 86 L st M) := rfl
theorem rs_X6_bed_89 (n : Nat) (L : AL) (st : List AV) (M : List AC) : rx_X6_bed (n + 1) 89 L st M = am_j (rx_X6_bed n) ((tGo 27) 89 L st M) := rfl
theorem rs_X6_bed_92 (n : Nat) (L : AL) (st : List AV) (M : List AC) : rx_X6_bed (n + 1) 92 L st M = am_j (rx_X6_bed n) ((tAld 0 1) 92 L st M) := rfl
theorem rs_X6_bed_93 (n : Nat) (L : AL) (st : List AV) (M : List AC) : rx_X6_bed (n + 1) 93 L st M = am_j (rx_X6_bed n) ((tAld 0 1) 93 L st M) := rfl
theorem rs_X6_bed_94 (n : Nat) (L : AL) (st : List AV) (M : List AC) : rx_X6_bed (n + 1) 94 L st M = am_j (rx_X6_bed n) ((tGf 6 7) 94 L st M) := rfl
theorem rs_X6_bed_97 (n : Nat) (L : AL) (st : List AV) (M : List AC) : rx_X6_bed (n + 1) 97 L st M = am_j (rx_X6_bed n) ((tIc 10 2) 97 L st M) := rfl
theorem rs_X6_bed_99 (n : Nat) (L : AL) (st : List AV) (M : List AC) : rx_X6_bed (n + 1) 99 L st M = am_j (rx_X6_bed n) ((tI2 (fun a b => a - b)) 99 L st M) := rfl
theorem rs_X6_bed_100 (n : Nat) (L : AL) (st : List AV) (M : List AC) : rx_X6_bed (n + 1) 100 L st M = am_j (rx_X6_bed n) ((tIc 3 1) 100 L st M) := rfl
theorem rs_X6_bed_101 (n : Nat) (L : AL) (st : List AV) (M : List AC) : rx_X6_bed (n + 1) 101 L st M = am_j (rx_X6_bed n) ((tDv Int.tdiv) 101 L st M) := rfl
theorem rs_X6_bed_102 (n : Nat) (L : AL) (st : List AV) (M : List AC) : rx_X6_bed (n + 1) 102 L st M = am_j (rx_X6_bed n) ((tPf kI 6 3) 102 L st M) := rfl
theorem rs_X6_bed_105 (n : Nat) (L : AL) (st : List AV) (M : List AC) : rx_X6_bed (n + 1) 105 L st M = am_j (rx_X6_bed n) ((tIc 0 1) 105 L st M) := rfl
theorem rs_X6_bed_106 (n : Nat) (L : AL) (st : List AV) (M : List AC) : rx_X6_bed (n + 1) 106 L st M = am_j (rx_X6_bed n) ((tIst 1 1) 106 L st M) := rfl
theorem rs_X6_bed_107 (n : Nat) (L : AL) (st : List AV) (M : List AC) : rx_X6_bed (n + 1) 107 L st M = am_j (rx_X6_bed n) ((tIld 1 1) 107 L st M) := rfl
theorem rs_X6_bed_108 (n : Nat) (L : AL) (st : List AV) (M : List AC) : rx_X6_bed (n + 1) 108 L st M = am_j (rx_X6_bed n) ((tAld 0 1) 108 L st M) := rfl
theorem rs_X6_bed_109 (n : Nat) (L : AL) (st : List AV) (M : List AC) : rx_X6_bed (n + 1) 109 L st M = am_j (rx_X6_bed n) ((tGf 6 3) 109 L st M) := rfl
theorem rs_X6_bed_112 (n : Nat) (L : AL) (st : List AV) (M : List AC) : rx_X6_bed (n + 1) 112 L st M = am_j (rx_X6_bed n) ((tCmge 161) 112 L st M) := rfl
theorem rs_X6_bed_115 (n : Nat) (L : AL) (st : List AV) (M : List AC) : rx_X6_bed (n + 1) 115 L st M = am_j (rx_X6_bed n) ((tAld 0 1) 115 L st M) := rfl
theorem rs_X6_bed_116 (n : Nat) (L : AL) (st : List AV) (M : List AC) : rx_X6_bed (n + 1) 116 L st M = am_j (rx_X6_bed n) ((tGf 6 4) 116 L st M) := rfl
theorem rs_X6_bed_119 (n : Nat) (L : AL) (st : List AV) (M : List AC) : rx_X6_bed (n + 1) 119 L st M = am_j (rx_X6_bed n) ((tIld 1 1) 119 L st M) := rfl
theorem rs_X6_bed_120 (n : Nat) (L : AL) (st : List AV) (M : List AC) : rx_X6_bed (n + 1) 120 L st M = am_j (rx_X6_bed n) ((tAld 0 1) 120 L st M) := rfl
theorem rs_X6_bed_121 (n : Nat) (L : AL) (st : List AV) (M : List AC) : rx_X6_bed (n + 1) 121 L st M = am_j (rx_X6_bed n) ((tGf 6 6) 121 L st M) := rfl
theorem rs_X6_bed_124 (n : Nat) (L : AL) (st : List AV) (M : List AC) : rx_X6_bed (n + 1) 124 L st M = am_j (rx_X6_bed n) ((tIc 11 2) 124 L st M) := rfl
theorem rs_X6_bed_126 (n : Nat) (L : AL) (st : List AV) (M : List AC) : rx_X6_bed (n + 1) 126 L st M = am_j (rx_X6_bed n) ((tIc 3 1) 126 L st M) := rfl
theorem rs_X6_bed_127 (n : Nat) (L : AL) (st : List AV) (M : List AC) : rx_X6_bed (n + 1) 127 L st M = am_j (rx_X6_bed n) ((tIld 1 1) 127 L st M) := rfl
theorem rs_X6_bed_128 (n : Nat) (L : AL) (st : List AV) (M : List AC) : rx_X6_bed (n + 1) 128 L st M = am_j (rx_X6_bed n) ((tI2 (fun a b => a * b)) 128 L st M) := rfl
theorem rs_X6_bed_129 (n : Nat) (L : AL) (st : List AV) (M : List AC) : rx_X6_bed (n + 1) 129 L st M = am_j (rx_X6_bed n) ((tI2 (fun a b => a + b)) 129 L st M) := rfl
theorem rs_X6_bed_130 (n : Nat) (L : AL) (st : List AV) (M : List AC) : rx_X6_bed (n + 1) 130 L st M = am_j (rx_X6_bed n) (tIal 130 L st M) := rfl
theorem rs_X6_bed_131 (n : Nat) (L : AL) (st : List AV) (M : List AC) : rx_X6_bed (n + 1) 131 L st M = am_j (rx_X6_bed n) ((tIc 48 2) 131 L st M) := rfl
theorem rs_X6_bed_133 (n : Nat) (L : AL) (st : List AV) (M : List AC) : rx_X6_bed (n + 1) 133 L st M = am_j (rx_X6_bed n) ((tI2 (fun a b => a - b)) 133 L st M) := rfl
theorem rs_X6_bed_134 (n : Nat) (L : AL) (st : List AV) (M : List AC) : rx_X6_bed (n + 1) 134 L st M = am_j (rx_X6_bed n) (tIas 134 L st M) := rfl
theorem rs_X6_bed_135 (n : Nat) (L : AL) (st : List AV) (M : List AC) : rx_X6_bed (n + 1) 135 L st M = am_j (rx_X6_bed n) ((tAld 0 1) 135 L st M) := rfl
theorem rs_X6_bed_136 (n : Nat) (L : AL) (st : List AV) (M : List AC) : rx_X6_bed (n + 1) 136 L st M = am_j (rx_X6_bed n) ((tGf 6 5) 136 L st M) := rfl
theorem rs_X6_bed_139 (n : Nat) (L : AL) (st : List AV) (M : List AC) : rx_X6_bed (n + 1) 139 L st M = am_j (rx_X6_bed n) ((tIld 1 1) 139 L st M) := rfl
theorem rs_X6_bed_140 (n : Nat) (L : AL) (st : List AV) (M : List AC) : rx_X6_bed (n + 1) 140 L st M = am_j (rx_X6_bed n) ((tAld 0 1) 140 L st M) := rfl
theorem rs_X6_bed_141 (n : Nat) (L : AL) (st : List AV) (M : List AC) : rx_X6_bed (n + 1) 141 L st M = am_j (rx_X6_bed n) ((tGf 6 6) 141 L st M) := rfl
theorem rs_X6_bed_144 (n : Nat) (L : AL) (st : List AV) (M : List AC) : rx_X6_bed (n + 1) 144 L st M = am_j (rx_X6_bed n) ((tIc 12 2) 144 L st M) := rfl
theorem rs_X6_bed_146 (n : Nat) (L : AL) (st : List AV) (M : List AC) : rx_X6_bed (n + 1) 146 L st M = am_j (rx_X6_bed n) ((tIc 3 1) 146 L st M) := rfl
theorem rs_X6_bed_147 (n : Nat) (L : AL) (st : List AV) (M : List AC) : rx_X6_bed (n + 1) 147 L st M = am_j (rx_X6_bed n) ((tIld 1 1) 147 L st M) := rfl
theorem rs_X6_bed_148 (n : Nat) (L : AL) (st : List AV) (M : List AC) : rx_X6_bed (n + 1) 148 L st M = am_j (rx_X6_bed n) ((tI2 (fun a b => a * b)) 148 L st M) := rfl
theorem rs_X6_bed_149 (n : Nat) (L : AL) (st : List AV) (M : List AC) : rx_X6_bed (n + 1) 149 L st M = am_j (rx_X6_bed n) ((tI2 (fun a b => a + b)) 149 L st M) := rfl
theorem rs_X6_bed_150 (n : Nat) (L : AL) (st : List AV) (M : List AC) : rx_X6_bed (n + 1) 150 L st M = am_j (rx_X6_bed n) (tIal 150 L st M) := rfl
theorem rs_X6_bed_151 (n : Nat) (L : AL) (st : List AV) (M : List AC) : rx_X6_bed (n + 1) 151 L st M = am_j (rx_X6_bed n) ((tIc 48 2) 151 L st M) := rfl
theorem rs_X6_bed_153 (n : Nat) (L : AL) (st : List AV) (M : List AC) : rx_X6_bed (n + 1) 153 L st M = am_j (rx_X6_bed n) ((tI2 (fun a b => a - b)) 153 L st M) := rfl
theorem rs_X6_bed_154 (n : Nat) (L : AL) (st : List AV) (M : List AC) : rx_X6_bed (n + 1) 154 L st M = am_j (rx_X6_bed n) (tIas 154 L st M) := rfl
theorem rs_X6_bed_155 (n : Nat) (L : AL) (st : List AV) (M : List AC) : rx_X6_bed (n + 1) 155 L st M = am_j (rx_X6_bed n) ((tIinc 1 1) 155 L st M) := rfl
theorem rs_X6_bed_158 (n : Nat) (L : AL) (st : List AV) (M : List AC) : rx_X6_bed (n + 1) 158 L st M = am_j (rx_X6_bed n) ((tGo 107) 158 L st M) := rfl
theorem rs_X6_bed_161 (n : Nat) (L : AL) (st : List AV) (M : List AC) : rx_X6_bed (n + 1) 161 L st M = am_j (rx_X6_bed n) ((tAld 0 1) 161 L st M) := rfl
theorem rs_X6_bed_162 (n : Nat) (L : AL) (st : List AV) (M : List AC) : rx_X6_bed (n + 1) 162 L st M = am_j (rx_X6_bed n) ((tIc 0 1) 162 L st M) := rfl
theorem rs_X6_bed_163 (n : Nat) (L : AL) (st : List AV) (M : List AC) : rx_X6_bed (n + 1) 163 L st M = am_j (rx_X6_bed n) ((tPf kI 6 11) 163 L st M) := rfl
theorem rs_X6_bed_166 (n : Nat) (L : AL) (st : List AV) (M : List AC) : rx_X6_bed (n + 1) 166 L st M = am_j (rx_X6_bed n) ((tAld 0 1) 166 L st M) := rfl
theorem rs_X6_bed_167 (n : Nat) (L : AL) (st : List AV) (M : List AC) : rx_X6_bed (n + 1) 167 L st M = am_j (rx_X6_bed n) ((tGf 6 24) 167 L st M) := rfl
theorem rs_X6_bed_170 (n : Nat) (L : AL) (st : List AV) (M : List AC) : rx_X6_bed (n + 1) 170 L st M = am_j (rx_X6_bed n) ((tIc 0 1) 170 L st M) := rfl
theorem rs_X6_bed_171 (n : Nat) (L : AL) (st : List AV) (M : List AC) : rx_X6_bed (n + 1) 171 L st M = am_j (rx_X6_bed n) ((tIc 0 1) 171 L st M) := rfl
theorem rs_X6_bed_172 (n : Nat) (L : AL) (st : List AV) (M : List AC) : rx_X6_bed (n + 1) 172 L st M = am_j (rx_X6_bed n) (tBas 172 L st M) := rfl
theorem rs_X6_bed_173 (n : Nat) (L : AL) (st : List AV) (M : List AC) : rx_X6_bed (n + 1) 173 L st M = am_j (rx_X6_bed n) ((tAld 0 1) 173 L st M) := rfl
theorem rs_X6_bed_174 (n : Nat) (L : AL) (st : List AV) (M : List AC) : rx_X6_bed (n + 1) 174 L st M = am_j (rx_X6_bed n) ((tGf 6 24) 174 L st M) := rfl
theorem rs_X6_bed_177 (n : Nat) (L : AL) (st : List AV) (M : List AC) : rx_X6_bed (n + 1) 177 L st M = am_j (rx_X6_bed n) ((tIc 1 1) 177 L st M) := rfl
theorem rs_X6_bed_178 (n : Nat) (L : AL) (st : List AV) (M : List AC) : rx_X6_bed (n + 1) 178 L st M = am_j (rx_X6_bed n) ((tIc 0 1) 178 L st M) := rfl
theorem rs_X6_bed_179 (n : Nat) (L : AL) (st : List AV) (M : List AC) : rx_X6_bed (n + 1) 179 L st M = am_j (rx_X6_bed n) (tBas 179 L st M) := rfl
theorem rs_X6_bed_180 (n : Nat) (L : AL) (st : List AV) (M : List AC) : rx_X6_bed (n + 1) 180 L st M = am_j (rx_X6_bed n) ((tAld 0 1) 180 L st M) := rfl
theorem rs_X6_bed_181 (n : Nat) (L : AL) (st : List AV) (M : List AC) : rx_X6_bed (n + 1) 181 L st M = am_j (rx_X6_bed n) ((tGf 6 3) 181 L st M) := rfl
theorem rs_X6_bed_11 (n : Nat) (L : AL) (st : List AV) (M : List AC) : rx_X6_bed (n + 1) 11 L st M = am_e rI st M := rfl
theorem rs_X6_bed_184 (n : Nat) (L : AL) (st : List AV) (M : List AC) : rx_X6_bed (n + 1) 184 L st M = am_e rI st M := rfl
theorem ri_X6_bed (c : Prop) [Decidable c] (p q n : Nat) (L : AL) (st : List AV) (M : List AC) : rx_X6_bed n (if c then p else q) L st M = if c then rx_X6_bed n p L st M else rx_X6_bed n q L st M := by split <;> rfl
theorem rm_X6_bed {n k pc : Nat} {L : AL} {st : List AV} {M : List AC} {x : Option AV × List AC} (h : rx_X6_bed n pc L st M = some x) (hk : n ≤ k) : rx_X6_bed k pc L st M = some x := am_r_mono n k h hk
def fn_X6_bed : Fn := am_fn rx_X6_bed 2
theorem fok_X6_bed : Fok mi_X6_bed fn_X6_bed := fun _ _ _ _ h => am_fok ok_X6_bed rk_X6_bed rfl h
set_option maxRecDepth 100000 in
set_option maxHeartbeats 4000000 in
theorem sp_X6_bed {M : List AC} {st lk len ac nx rf lr en lm : Int} {sd : Int64} (h0 : M[26]? = some (mo st lk len ac nx rf lr en lm sd)) {g d b s : F4} {lc lt : F3} {k0 k1 : Int} (h27 : M[27]? = some (aI (l4 g))) (h28 : M[28]? = some (aI (nw d b s))) (h29 : M[29]? = some (aI (l3 lc))) (h30 : M[30]? = some (aI (l3 lt))) (h41 : M[41]? = some (aB [k0, k1])) {txt : List Int} (h31 : M[31]? = some (aI txt)) (ht : txt.length = 24) (hl : 0 ≤ len ∧ len ≤ 24) (hc : ∀ i : Nat, 0 ≤ txt.getD i 0 ∧ txt.getD i 0 < 256) : fn_X6_bed [vR 26] M = if fau txt len len.toNat 0 = -9 then some (some (vI ((len - 10) / 3)), (((((M.set 26 (mo (tf txt 1) ((len - 10) / 3) len 0 nx rf lr en lm sd)).set 27 (aI (l4 (tfg txt)))).set 28 (aI (nw (0, 0, 0, 0) (0, 0, 0, 0) (tfs txt)))).set 29 (aI (l3 (tfc txt ((len - 10) / 3) lc)))).set 30 (aI (l3 (tft txt ((len - 10) / 3) lt)))).set 41 (aB [0, 0])) else some (some (vI (-3)), M) := by
  have q := sp_X6_fault h0 h31 ht hl hc
  by_cases h : fau txt len len.toNat 0 = -9
  · rw [if_pos h]
    rw [h] at q
    obtain ⟨hlen, -⟩ := fau_len hl h
    clear h hc
    have e29 : ∀ N : List AC, N[29]? = some (aI (l3 lc)) → N.set 29 (aI (l3 (lc.1, lc.2.1, lc.2.2))) = N := fun N h => set_same h
    have e30 : ∀ N : List AC, N[30]? = some (aI (l3 lt)) → N.set 30 (aI (l3 (lt.1, lt.2.1, lt.2.2))) = N := fun N h => set_same h
    rcases hlen with rfl | rfl | rfl | rfl
    · (refine am_fnI (tb := tb_X6_bed) (n := 400) (Nat.le_of_ble_eq_true rfl) (Nat.le_of_ble_eq_true rfl) ?_; show rx_X6_bed 400 0 _ _ _ = _)
      simp [↓ri_X6_bed, rs_X6_bed_0, rs_X6_bed_1, rs_X6_bed_4, rs_X6_bed_6, rs_X6_bed_9, rs_X6_bed_12, rs_X6_bed_13, rs_X6_bed_14, rs_X6_bed_17, rs_X6_bed_18, rs_X6_bed_19, rs_X6_bed_21, rs_X6_bed_22, rs_X6_bed_25, rs_X6_bed_26, rs_X6_bed_27, rs_X6_bed_28, rs_X6_bed_29, rs_X6_bed_32, rs_X6_bed_33, rs_X6_bed_36, rs_X6_bed_37, rs_X6_bed_38, rs_X6_bed_41, rs_X6_bed_42, rs_X6_bed_43, rs_X6_bed_44, rs_X6_bed_45, rs_X6_bed_47, rs_X6_bed_48, rs_X6_bed_49, rs_X6_bed_50, rs_X6_bed_53, rs_X6_bed_54, rs_X6_bed_55, rs_X6_bed_56, rs_X6_bed_57, rs_X6_bed_60, rs_X6_bed_61, rs_X6_bed_62, rs_X6_bed_63, rs_X6_bed_64, rs_X6_bed_65, rs_X6_bed_66, rs_X6_bed_69, rs_X6_bed_71, rs_X6_bed_72, rs_X6_bed_73, rs_X6_bed_74, rs_X6_bed_77, rs_X6_bed_79, rs_X6_bed_80, rs_X6_bed_81, rs_X6_bed_82, rs_X6_bed_84, rs_X6_bed_85, rs_X6_bed_86, rs_X6_bed_89, rs_X6_bed_92, rs_X6_bed_93, rs_X6_bed_94, rs_X6_bed_97, rs_X6_bed_99, rs_X6_bed_100, rs_X6_bed_101, rs_X6_bed_102, rs_X6_bed_105, rs_X6_bed_106, rs_X6_bed_107, rs_X6_bed_108, rs_X6_bed_109, rs_X6_bed_112, rs_X6_bed_115, rs_X6_bed_116, rs_X6_bed_119, rs_X6_bed_120, rs_X6_bed_121, rs_X6_bed_124, rs_X6_bed_126, rs_X6_bed_127, rs_X6_bed_128, rs_X6_bed_129, rs_X6_bed_130, rs_X6_bed_131, rs_X6_bed_133, rs_X6_bed_134, rs_X6_bed_135, rs_X6_bed_136, rs_X6_bed_139, rs_X6_bed_140, rs_X6_bed_141, rs_X6_bed_144, rs_X6_bed_146, rs_X6_bed_147, rs_X6_bed_148, rs_X6_bed_149, rs_X6_bed_150, rs_X6_bed_151, rs_X6_bed_153, rs_X6_bed_154, rs_X6_bed_155, rs_X6_bed_158, rs_X6_bed_161, rs_X6_bed_162, rs_X6_bed_163, rs_X6_bed_166, rs_X6_bed_167, rs_X6_bed_170, rs_X6_bed_171, rs_X6_bed_172, rs_X6_bed_173, rs_X6_bed_174, rs_X6_bed_177, rs_X6_bed_178, rs_X6_bed_179, rs_X6_bed_180, rs_X6_bed_181, rs_X6_bed_11, rs_X6_bed_184, -List.getElem?_eq_getElem, am_js, am_e, am_in, am_sl, rI, rZ, rV, rJ, rA, rC, kI, kJ, kR, am_one, am_nl, am_w8, tIc, tLc, tNul, tIld, tLld, tAld, tIst, tLst, tAst, tIinc, tI2, tDv, tL2, tLrem, tLs, tLcmp, tI2l, tL2i, tI2c, tDup, tDup2, tPop, tGo, tIfeq, tIfne, tIflt, tIfge, tIfgt, tIfle, tCmeq, tCmne, tCmlt, tCmge, tCmgt, tCmle, tNu, tTs, tGf, tPf, tGs, tIal, tIas, tBal, tBas, tAln, tSv, tSc, tSb, tSl, tSk, tCv, tCs, tCt, tMx, tMn, wr_10000, wr_100000, wr_1000000, wr_10000000, wr_100000000, wr_2400, wr_9999, wr_0, wr_1, wr_2, wr_3, wr_4, wr_5, wr_6, wr_7, wr_8, wr_9, wr_10, wr_11, wr_12, wr_13, wr_14, wr_15, wr_16, wr_17, wr_18, wr_19, wr_20, wr_21, wr_22, wr_23, wr_24, wr_25, wr_26, wr_27, wr_28, wr_29, wr_30, wr_31, wr_32, wr_33, wr_34, wr_35, wr_36, wr_37, wr_38, wr_39, wr_40, wr_41, wr_42, wr_43, wr_44, wr_45, wr_46, wr_47, wr_48, wr_49, wr_50, wr_51, wr_52, wr_53, wr_54, wr_55, wr_56, wr_57, wr_58, wr_59, wr_60, wr_61, wr_62, wr_63, wr_99, wr_100, wr_192, wr_255, wr_256, wr_343, wr_999, wr_1000, wr_2401, wr_2147483647, wr_65535, wr_m1, wr_m2, wr_m3, wr_m4, wr_m9, ak_1000, ak_1001, ak_1002, ak_0, ak_1, ak_2, ak_3, ak_4, ak_5, ak_6, ak_7, ak_8, ak_9, ak_10, ak_11, ak_12, ak_13, ak_14, ak_15, ak_16, ak_17, ak_18, ak_19, ak_20, ak_21, ak_22, ak_23, ak_24, ak_25, ak_26, ak_27, ak_28, ak_29, ak_30, ak_31, ak_32, ak_33, ak_34, ak_35, ak_36, ak_37, ak_38, ak_39, ak_40, ak_41, ak_42, ak_43, ak_44, ak_45, ak_46, ak_47, -List.getD_eq_getElem?_getD, q, h0, mo, h27, h28, h29, h30, h31, h41, ht, gs h0, gs h27, gs h28, gs h29, gs h30, gs h41, tf, tfg, tfs, tfc, tft, ss (i := 26) (j := 27) (by decide), ss (i := 26) (j := 28) (by decide), ss (i := 26) (j := 29) (by decide), ss (i := 26) (j := 30) (by decide), ss (i := 26) (j := 41) (by decide), ss (i := 27) (j := 28) (by decide), ss (i := 27) (j := 29) (by decide), ss (i := 27) (j := 30) (by decide), ss (i := 27) (j := 41) (by decide), ss (i := 28) (j := 29) (by decide), ss (i := 28) (j := 30) (by decide), ss (i := 28) (j := 41) (by decide), ss (i := 29) (j := 30) (by decide), ss (i := 29) (j := 41) (by decide), ss (i := 30) (j := 41) (by decide), e29, e30]
    · (refine am_fnI (tb := tb_X6_bed) (n := 400) (Nat.le_of_ble_eq_true rfl) (Nat.le_of_ble_eq_true rfl) ?_; show rx_X6_bed 400 0 _ _ _ = _)
      simp [↓ri_X6_bed, rs_X6_bed_0, rs_X6_bed_1, rs_X6_bed_4, rs_X6_bed_6, rs_X6_bed_9, rs_X6_bed_12, rs_X6_bed_13, rs_X6_bed_14, rs_X6_bed_17, rs_X6_bed_18, rs_X6_bed_19, rs_X6_bed_21, rs_X6_bed_22, rs_X6_bed_25, rs_X6_bed_26, rs_X6_bed_27, rs_X6_bed_28, rs_X6_bed_29, rs_X6_bed_32, rs_X6_bed_33, rs_X6_bed_36, rs_X6_bed_37, rs_X6_bed_38, rs_X6_bed_41, rs_X6_bed_42, rs_X6_bed_43, rs_X6_bed_44, rs_X6_bed_45, rs_X6_bed_47, rs_X6_bed_48, rs_X6_bed_49, rs_X6_bed_50, rs_X6_bed_53, rs_X6_bed_54, rs_X6_bed_55, rs_X6_bed_56, rs_X6_bed_57, rs_X6_bed_60, rs_X6_bed_61, rs_X6_bed_62, rs_X6_bed_63, rs_X6_bed_64, rs_X6_bed_65, rs_X6_bed_66, rs_X6_bed_69, rs_X6_bed_71, rs_X6_bed_72, rs_X6_bed_73, rs_X6_bed_74, rs_X6_bed_77, rs_X6_bed_79, rs_X6_bed_80, rs_X6_bed_81, rs_X6_bed_82, rs_X6_bed_84, rs_X6_bed_85, rs_X6_bed_86, rs_X6_bed_89, rs_X6_bed_92, rs_X6_bed_93, rs_X6_bed_94, rs_X6_bed_97, rs_X6_bed_99, rs_X6_bed_100, rs_X6_bed_101, rs_X6_bed_102, rs_X6_bed_105, rs_X6_bed_106, rs_X6_bed_107, rs_X6_bed_108, rs_X6_bed_109, rs_X6_bed_112, rs_X6_bed_115, rs_X6_bed_116, rs_X6_bed_119, rs_X6_bed_120, rs_X6_bed_121, rs_X6_bed_124, rs_X6_bed_126, rs_X6_bed_127, rs_X6_bed_128, rs_X6_bed_129, rs_X6_bed_130, rs_X6_bed_131, rs_X6_bed_133, rs_X6_bed_134, rs_X6_bed_135, rs_X6_bed_136, rs_X6_bed_139, rs_X6_bed_140, rs_X6_bed_141, rs_X6_bed_144, rs_X6_bed_146, rs_X6_bed_147, rs_X6_bed_148, rs_X6_bed_149, rs_X6_bed_150, rs_X6_bed_151, rs_X6_bed_153, rs_X6_bed_154, rs_X6_bed_155, rs_X6_bed_158, rs_X6_bed_161, rs_X6_bed_162, rs_X6_bed_163, rs_X6_bed_166, rs_X6_bed_167, rs_X6_bed_170, rs_X6_bed_171, rs_X6_bed_172, rs_X6_bed_173, rs_X6_bed_174, rs_X6_bed_177, rs_X6_bed_178, rs_X6_bed_179, rs_X6_bed_180, rs_X6_bed_181, rs_X6_bed_11, rs_X6_bed_184, -List.getElem?_eq_getElem, am_js, am_e, am_in, am_sl, rI, rZ, rV, rJ, rA, rC, kI, kJ, kR, am_one, am_nl, am_w8, tIc, tLc, tNul, tIld, tLld, tAld, tIst, tLst, tAst, tIinc, tI2, tDv, tL2, tLrem, tLs, tLcmp, tI2l, tL2i, tI2c, tDup, tDup2, tPop, tGo, tIfeq, tIfne, tIflt, tIfge, tIfgt, tIfle, tCmeq, tCmne, tCmlt, tCmge, tCmgt, tCmle, tNu, tTs, tGf, tPf, tGs, tIal, tIas, tBal, tBas, tAln, tSv, tSc, tSb, tSl, tSk, tCv, tCs, tCt, tMx, tMn, wr_10000, wr_100000, wr_1000000, wr_10000000, wr_100000000, wr_2400, wr_9999, wr_0, wr_1, wr_2, wr_3, wr_4, wr_5, wr_6, wr_7, wr_8, wr_9, wr_10, wr_11, wr_12, wr_13, wr_14, wr_15, wr_16, wr_17, wr_18, wr_19, wr_20, wr_21, wr_22, wr_23, wr_24, wr_25, wr_26, wr_27, wr_28, wr_29, wr_30, wr_31, wr_32, wr_33, wr_34, wr_35, wr_36, wr_37, wr_38, wr_39, wr_40, wr_41, wr_42, wr_43, wr_44, wr_45, wr_46, wr_47, wr_48, wr_49, wr_50, wr_51, wr_52, wr_53, wr_54, wr_55, wr_56, wr_57, wr_58, wr_59, wr_60, wr_61, wr_62, wr_63, wr_99, wr_100, wr_192, wr_255, wr_256, wr_343, wr_999, wr_1000, wr_2401, wr_2147483647, wr_65535, wr_m1, wr_m2, wr_m3, wr_m4, wr_m9, ak_1000, ak_1001, ak_1002, ak_0, ak_1, ak_2, ak_3, ak_4, ak_5, ak_6, ak_7, ak_8, ak_9, ak_10, ak_11, ak_12, ak_13, ak_14, ak_15, ak_16, ak_17, ak_18, ak_19, ak_20, ak_21, ak_22, ak_23, ak_24, ak_25, ak_26, ak_27, ak_28, ak_29, ak_30, ak_31, ak_32, ak_33, ak_34, ak_35, ak_36, ak_37, ak_38, ak_39, ak_40, ak_41, ak_42, ak_43, ak_44, ak_45, ak_46, ak_47, -List.getD_eq_getElem?_getD, q, h0, mo, h27, h28, h29, h30, h31, h41, ht, gs h0, gs h27, gs h28, gs h29, gs h30, gs h41, tf, tfg, tfs, tfc, tft, ss (i := 26) (j := 27) (by decide), ss (i := 26) (j := 28) (by decide), ss (i := 26) (j := 29) (by decide), ss (i := 26) (j := 30) (by decide), ss (i := 26) (j := 41) (by decide), ss (i := 27) (j := 28) (by decide), ss (i := 27) (j := 29) (by decide), ss (i := 27) (j := 30) (by decide), ss (i := 27) (j := 41) (by decide), ss (i := 28) (j := 29) (by decide), ss (i := 28) (j := 30) (by decide), ss (i := 28) (j := 41) (by decide), ss (i := 29) (j := 30) (by decide), ss (i := 29) (j := 41) (by decide), ss (i := 30) (j := 41) (by decide)]
    · (refine am_fnI (tb := tb_X6_bed) (n := 400) (Nat.le_of_ble_eq_true rfl) (Nat.le_of_ble_eq_true rfl) ?_; show rx_X6_bed 400 0 _ _ _ = _)
      simp [↓ri_X6_bed, rs_X6_bed_0, rs_X6_bed_1, rs_X6_bed_4, rs_X6_bed_6, rs_X6_bed_9, rs_X6_bed_12, rs_X6_bed_13, rs_X6_bed_14, rs_X6_bed_17, rs_X6_bed_18, rs_X6_bed_19, rs_X6_bed_21, rs_X6_bed_22, rs_X6_bed_25, rs_X6_bed_26, rs_X6_bed_27, rs_X6_bed_28, rs_X6_bed_29, rs_X6_bed_32, rs_X6_bed_33, rs_X6_bed_36, rs_X6_bed_37, rs_X6_bed_38, rs_X6_bed_41, rs_X6_bed_42, rs_X6_bed_43, rs_X6_bed_44, rs_X6_bed_45, rs_X6_bed_47, rs_X6_bed_48, rs_X6_bed_49, rs_X6_bed_50, rs_X6_bed_53, rs_X6_bed_54, rs_X6_bed_55, rs_X6_bed_56, rs_X6_bed_57, rs_X6_bed_60, rs_X6_bed_61, rs_X6_bed_62, rs_X6_bed_63, rs_X6_bed_64, rs_X6_bed_65, rs_X6_bed_66, rs_X6_bed_69, rs_X6_bed_71, rs_X6_bed_72, rs_X6_bed_73, rs_X6_bed_74, rs_X6_bed_77, rs_X6_bed_79, rs_X6_bed_80, rs_X6_bed_81, rs_X6_bed_82, rs_X6_bed_84, rs_X6_bed_85, rs_X6_bed_86, rs_X6_bed_89, rs_X6_bed_92, rs_X6_bed_93, rs_X6_bed_94, rs_X6_bed_97, rs_X6_bed_99, rs_X6_bed_100, rs_X6_bed_101, rs_X6_bed_102, rs_X6_bed_105, rs_X6_bed_106, rs_X6_bed_107, rs_X6_bed_108, rs_X6_bed_109, rs_X6_bed_112, rs_X6_bed_115, rs_X6_bed_116, rs_X6_bed_119, rs_X6_bed_120, rs_X6_bed_121, rs_X6_bed_124, rs_X6_bed_126, rs_X6_bed_127, rs_X6_bed_128, rs_X6_bed_129, rs_X6_bed_130, rs_X6_bed_131, rs_X6_bed_133, rs_X6_bed_134, rs_X6_bed_135, rs_X6_bed_136, rs_X6_bed_139, rs_X6_bed_140, rs_X6_bed_141, rs_X6_bed_144, rs_X6_bed_146, rs_X6_bed_147, rs_X6_bed_148, rs_X6_bed_149, rs_X6_bed_150, rs_X6_bed_151, rs_X6_bed_153, rs_X6_bed_154, rs_X6_bed_155, rs_X6_bed_158, rs_X6_bed_161, rs_X6_bed_162, rs_X6_bed_163, rs_X6_bed_166, rs_X6_bed_167, rs_X6_bed_170, rs_X6_bed_171, rs_X6_bed_172, rs_X6_bed_173, rs_X6_bed_174, rs_X6_bed_177, rs_X6_bed_178, rs_X6_bed_179, rs_X6_bed_180, rs_X6_bed_181, rs_X6_bed_11, rs_X6_bed_184, -List.getElem?_eq_getElem, am_js, am_e, am_in, am_sl, rI, rZ, rV, rJ, rA, rC, kI, kJ, kR, am_one, am_nl, am_w8, tIc, tLc, tNul, tIld, tLld, tAld, tIst, tLst, tAst, tIinc, tI2, tDv, tL2, tLrem, tLs, tLcmp, tI2l, tL2i, tI2c, tDup, tDup2, tPop, tGo, tIfeq, tIfne, tIflt, tIfge, tIfgt, tIfle, tCmeq, tCmne, tCmlt, tCmge, tCmgt, tCmle, tNu, tTs, tGf, tPf, tGs, tIal, tIas, tBal, tBas, tAln, tSv, tSc, tSb, tSl, tSk, tCv, tCs, tCt, tMx, tMn, wr_10000, wr_100000, wr_1000000, wr_10000000, wr_100000000, wr_2400, wr_9999, wr_0, wr_1, wr_2, wr_3, wr_4, wr_5, wr_6, wr_7, wr_8, wr_9, wr_10, wr_11, wr_12, wr_13, wr_14, wr_15, wr_16, wr_17, wr_18, wr_19, wr_20, wr_21, wr_22, wr_23, wr_24, wr_25, wr_26, wr_27, wr_28, wr_29, wr_30, wr_31, wr_32, wr_33, wr_34, wr_35, wr_36, wr_37, wr_38, wr_39, wr_40, wr_41, wr_42, wr_43, wr_44, wr_45, wr_46, wr_47, wr_48, wr_49, wr_50, wr_51, wr_52, wr_53, wr_54, wr_55, wr_56, wr_57, wr_58, wr_59, wr_60, wr_61, wr_62, wr_63, wr_99, wr_100, wr_192, wr_255, wr_256, wr_343, wr_999, wr_1000, wr_2401, wr_2147483647, wr_65535, wr_m1, wr_m2, wr_m3, wr_m4, wr_m9, ak_1000, ak_1001, ak_1002, ak_0, ak_1, ak_2, ak_3, ak_4, ak_5, ak_6, ak_7, ak_8, ak_9, ak_10, ak_11, ak_12, ak_13, ak_14, ak_15, ak_16, ak_17, ak_18, ak_19, ak_20, ak_21, ak_22, ak_23, ak_24, ak_25, ak_26, ak_27, ak_28, ak_29, ak_30, ak_31, ak_32, ak_33, ak_34, ak_35, ak_36, ak_37, ak_38, ak_39, ak_40, ak_41, ak_42, ak_43, ak_44, ak_45, ak_46, ak_47, -List.getD_eq_getElem?_getD, q, h0, mo, h27, h28, h29, h30, h31, h41, ht, gs h0, gs h27, gs h28, gs h29, gs h30, gs h41, tf, tfg, tfs, tfc, tft, ss (i := 26) (j := 27) (by decide), ss (i := 26) (j := 28) (by decide), ss (i := 26) (j := 29) (by decide), ss (i := 26) (j := 30) (by decide), ss (i := 26) (j := 41) (by decide), ss (i := 27) (j := 28) (by decide), ss (i := 27) (j := 29) (by decide), ss (i := 27) (j := 30) (by decide), ss (i := 27) (j := 41) (by decide), ss (i := 28) (j := 29) (by decide), ss (i := 28) (j := 30) (by decide), ss (i := 28) (j := 41) (by decide), ss (i := 29) (j := 30) (by decide), ss (i := 29) (j := 41) (by decide), ss (i := 30) (j := 41) (by decide)]
    · (refine am_fnI (tb := tb_X6_bed) (n := 400) (Nat.le_of_ble_eq_true rfl) (Nat.le_of_ble_eq_true rfl) ?_; show rx_X6_bed 400 0 _ _ _ = _)
      simp [↓ri_X6_bed, rs_X6_bed_0, rs_X6_bed_1, rs_X6_bed_4, rs_X6_bed_6, rs_X6_bed_9, rs_X6_bed_12, rs_X6_bed_13, rs_X6_bed_14, rs_X6_bed_17, rs_X6_bed_18, rs_X6_bed_19, rs_X6_bed_21, rs_X6_bed_22, rs_X6_bed_25, rs_X6_bed_26, rs_X6_bed_27, rs_X6_bed_28, rs_X6_bed_29, rs_X6_bed_32, rs_X6_bed_33, rs_X6_bed_36, rs_X6_bed_37, rs_X6_bed_38, rs_X6_bed_41, rs_X6_bed_42, rs_X6_bed_43, rs_X6_bed_44, rs_X6_bed_45, rs_X6_bed_47, rs_X6_bed_48, rs_X6_bed_49, rs_X6_bed_50, rs_X6_bed_53, rs_X6_bed_54, rs_X6_bed_55, rs_X6_bed_56, rs_X6_bed_57, rs_X6_bed_60, rs_X6_bed_61, rs_X6_bed_62, rs_X6_bed_63, rs_X6_bed_64, rs_X6_bed_65, rs_X6_bed_66, rs_X6_bed_69, rs_X6_bed_71, rs_X6_bed_72, rs_X6_bed_73, rs_X6_bed_74, rs_X6_bed_77, rs_X6_bed_79, rs_X6_bed_80, rs_X6_bed_81, rs_X6_bed_82, rs_X6_bed_84, rs_X6_bed_85, rs_X6_bed_86, rs_X6_bed_89, rs_X6_bed_92, rs_X6_bed_93, rs_X6_bed_94, rs_X6_bed_97, rs_X6_bed_99, rs_X6_bed_100, rs_X6_bed_101, rs_X6_bed_102, rs_X6_bed_105, rs_X6_bed_106, rs_X6_bed_107, rs_X6_bed_108, rs_X6_bed_109, rs_X6_bed_112, rs_X6_bed_115, rs_X6_bed_116, rs_X6_bed_119, rs_X6_bed_120, rs_X6_bed_121, rs_X6_bed_124, rs_X6_bed_126, rs_X6_bed_127, rs_X6_bed_128, rs_X6_bed_129, rs_X6_bed_130, rs_X6_bed_131, rs_X6_bed_133, rs_X6_bed_134, rs_X6_bed_135, rs_X6_bed_136, rs_X6_bed_139, rs_X6_bed_140, rs_X6_bed_141, rs_X6_bed_144, rs_X6_bed_146, rs_X6_bed_147, rs_X6_bed_148, rs_X6_bed_149, rs_X6_bed_150, rs_X6_bed_151, rs_X6_bed_153, rs_X6_bed_154, rs_X6_bed_155, rs_X6_bed_158, rs_X6_bed_161, rs_X6_bed_162, rs_X6_bed_163, rs_X6_bed_166, rs_X6_bed_167, rs_X6_bed_170, rs_X6_bed_171, rs_X6_bed_172, rs_X6_bed_173, rs_X6_bed_174, rs_X6_bed_177, rs_X6_bed_178, rs_X6_bed_179, rs_X6_bed_180, rs_X6_bed_181, rs_X6_bed_11, rs_X6_bed_184, -List.getElem?_eq_getElem, am_js, am_e, am_in, am_sl, rI, rZ, rV, rJ, rA, rC, kI, kJ, kR, am_one, am_nl, am_w8, tIc, tLc, tNul, tIld, tLld, tAld, tIst, tLst, tAst, tIinc, tI2, tDv, tL2, tLrem, tLs, tLcmp, tI2l, tL2i, tI2c, tDup, tDup2, tPop, tGo, tIfeq, tIfne, tIflt, tIfge, tIfgt, tIfle, tCmeq, tCmne, tCmlt, tCmge, tCmgt, tCmle, tNu, tTs, tGf, tPf, tGs, tIal, tIas, tBal, tBas, tAln, tSv, tSc, tSb, tSl, tSk, tCv, tCs, tCt, tMx, tMn, wr_10000, wr_100000, wr_1000000, wr_10000000, wr_100000000, wr_2400, wr_9999, wr_0, wr_1, wr_2, wr_3, wr_4, wr_5, wr_6, wr_7, wr_8, wr_9, wr_10, wr_11, wr_12, wr_13, wr_14, wr_15, wr_16, wr_17, wr_18, wr_19, wr_20, wr_21, wr_22, wr_23, wr_24, wr_25, wr_26, wr_27, wr_28, wr_29, wr_30, wr_31, wr_32, wr_33, wr_34, wr_35, wr_36, wr_37, wr_38, wr_39, wr_40, wr_41, wr_42, wr_43, wr_44, wr_45, wr_46, wr_47, wr_48, wr_49, wr_50, wr_51, wr_52, wr_53, wr_54, wr_55, wr_56, wr_57, wr_58, wr_59, wr_60, wr_61, wr_62, wr_63, wr_99, wr_100, wr_192, wr_255, wr_256, wr_343, wr_999, wr_1000, wr_2401, wr_2147483647, wr_65535, wr_m1, wr_m2, wr_m3, wr_m4, wr_m9, ak_1000, ak_1001, ak_1002, ak_0, ak_1, ak_2, ak_3, ak_4, ak_5, ak_6, ak_7, ak_8, ak_9, ak_10, ak_11, ak_12, ak_13, ak_14, ak_15, ak_16, ak_17, ak_18, ak_19, ak_20, ak_21, ak_22, ak_23, ak_24, ak_25, ak_26, ak_27, ak_28, ak_29, ak_30, ak_31, ak_32, ak_33, ak_34, ak_35, ak_36, ak_37, ak_38, ak_39, ak_40, ak_41, ak_42, ak_43, ak_44, ak_45, ak_46, ak_47, -List.getD_eq_getElem?_getD, q, h0, mo, h27, h28, h29, h30, h31, h41, ht, gs h0, gs h27, gs h28, gs h29, gs h30, gs h41, tf, tfg, tfs, tfc, tft, ss (i := 26) (j := 27) (by decide), ss (i := 26) (j := 28) (by decide), ss (i := 26) (j := 29) (by decide), ss (i := 26) (j := 30) (by decide), ss (i := 26) (j := 41) (by decide), ss (i := 27) (j := 28) (by decide), ss (i := 27) (j := 29) (by decide), ss (i := 27) (j := 30) (by decide), ss (i := 27) (j := 41) (by decide), ss (i := 28) (j := 29) (by decide), ss (i := 28) (j := 30) (by decide), ss (i := 28) (j := 41) (by decide), ss (i := 29) (j := 30) (by decide), ss (i := 29) (j := 41) (by decide), ss (i := 30) (j := 41) (by decide)]
  · rw [if_neg h]
    have hw : ∃ f : Int, fau txt len len.toNat 0 = f ∧ wr f ≠ -9 := by
      refine ⟨_, rfl, ?_⟩
      have : ∀ (n : Nat) (p : Int), 0 ≤ p → p + n = len → (fau txt len n p = -9 ∨ (0 ≤ fau txt len n p ∧ fau txt len n p ≤ 24)) := by
        intro n
        induction n with
        | zero =>
          intro p hp hpn
          rw [fau]
          split
          · exact Or.inl rfl
          · exact Or.inr hl
        | succ n ih =>
          intro p hp hpn
          rw [fau]
          split
          · exact Or.inr ⟨hp, by omega⟩
          · exact ih (p + 1) (by omega) (by omega)
      have h9 := this len.toNat 0 (by omega) (by omega)
      generalize fau txt len len.toNat 0 = f at h h9
      rcases h9 with h9 | h9
      · exact absurd h9 h
      · rw [wr_id (by omega) (by omega)]
        omega
    obtain ⟨f, ef, hf⟩ := hw
    rw [ef] at q
    (refine am_fnI (tb := tb_X6_bed) (n := 60) (Nat.le_of_ble_eq_true rfl) (Nat.le_of_ble_eq_true rfl) ?_; show rx_X6_bed 60 0 _ _ _ = _)
    simp [↓ri_X6_bed, rs_X6_bed_0, rs_X6_bed_1, rs_X6_bed_4, rs_X6_bed_6, rs_X6_bed_9, rs_X6_bed_12, rs_X6_bed_13, rs_X6_bed_14, rs_X6_bed_17, rs_X6_bed_18, rs_X6_bed_19, rs_X6_bed_21, rs_X6_bed_22, rs_X6_bed_25, rs_X6_bed_26, rs_X6_bed_27, rs_X6_bed_28, rs_X6_bed_29, rs_X6_bed_32, rs_X6_bed_33, rs_X6_bed_36, rs_X6_bed_37, rs_X6_bed_38, rs_X6_bed_41, rs_X6_bed_42, rs_X6_bed_43, rs_X6_bed_44, rs_X6_bed_45, rs_X6_bed_47, rs_X6_bed_48, rs_X6_bed_49, rs_X6_bed_50, rs_X6_bed_53, rs_X6_bed_54, rs_X6_bed_55, rs_X6_bed_56, rs_X6_bed_57, rs_X6_bed_60, rs_X6_bed_61, rs_X6_bed_62, rs_X6_bed_63, rs_X6_bed_64, rs_X6_bed_65, rs_X6_bed_66, rs_X6_bed_69, rs_X6_bed_71, rs_X6_bed_72, rs_X6_bed_73, rs_X6_bed_74, rs_X6_bed_77, rs_X6_bed_79, rs_X6_bed_80, rs_X6_bed_81, rs_X6_bed_82, rs_X6_bed_84, rs_X6_bed_85, rs_X6_bed_86, rs_X6_bed_89, rs_X6_bed_92, rs_X6_bed_93, rs_X6_bed_94, rs_X6_bed_97, rs_X6_bed_99, rs_X6_bed_100, rs_X6_bed_101, rs_X6_bed_102, rs_X6_bed_105, rs_X6_bed_106, rs_X6_bed_107, rs_X6_bed_108, rs_X6_bed_109, rs_X6_bed_112, rs_X6_bed_115, rs_X6_bed_116, rs_X6_bed_119, rs_X6_bed_120, rs_X6_bed_121, rs_X6_bed_124, rs_X6_bed_126, rs_X6_bed_127, rs_X6_bed_128, rs_X6_bed_129, rs_X6_bed_130, rs_X6_bed_131, rs_X6_bed_133, rs_X6_bed_134, rs_X6_bed_135, rs_X6_bed_136, rs_X6_bed_139, rs_X6_bed_140, rs_X6_bed_141, rs_X6_bed_144, rs_X6_bed_146, rs_X6_bed_147, rs_X6_bed_148, rs_X6_bed_149, rs_X6_bed_150, rs_X6_bed_151, rs_X6_bed_153, rs_X6_bed_154, rs_X6_bed_155, rs_X6_bed_158, rs_X6_bed_161, rs_X6_bed_162, rs_X6_bed_163, rs_X6_bed_166, rs_X6_bed_167, rs_X6_bed_170, rs_X6_bed_171, rs_X6_bed_172, rs_X6_bed_173, rs_X6_bed_174, rs_X6_bed_177, rs_X6_bed_178, rs_X6_bed_179, rs_X6_bed_180, rs_X6_bed_181, rs_X6_bed_11, rs_X6_bed_184, -List.getElem?_eq_getElem, am_js, am_e, am_in, am_sl, rI, rZ, rV, rJ, rA, rC, kI, kJ, kR, am_one, am_nl, am_w8, tIc, tLc, tNul, tIld, tLld, tAld, tIst, tLst, tAst, tIinc, tI2, tDv, tL2, tLrem, tLs, tLcmp, tI2l, tL2i, tI2c, tDup, tDup2, tPop, tGo, tIfeq, tIfne, tIflt, tIfge, tIfgt, tIfle, tCmeq, tCmne, tCmlt, tCmge, tCmgt, tCmle, tNu, tTs, tGf, tPf, tGs, tIal, tIas, tBal, tBas, tAln, tSv, tSc, tSb, tSl, tSk, tCv, tCs, tCt, tMx, tMn, wr_10000, wr_100000, wr_1000000, wr_10000000, wr_100000000, wr_2400, wr_9999, wr_0, wr_1, wr_2, wr_3, wr_4, wr_5, wr_6, wr_7, wr_8, wr_9, wr_10, wr_11, wr_12, wr_13, wr_14, wr_15, wr_16, wr_17, wr_18, wr_19, wr_20, wr_21, wr_22, wr_23, wr_24, wr_25, wr_26, wr_27, wr_28, wr_29, wr_30, wr_31, wr_32, wr_33, wr_34, wr_35, wr_36, wr_37, wr_38, wr_39, wr_40, wr_41, wr_42, wr_43, wr_44, wr_45, wr_46, wr_47, wr_48, wr_49, wr_50, wr_51, wr_52, wr_53, wr_54, wr_55, wr_56, wr_57, wr_58, wr_59, wr_60, wr_61, wr_62, wr_63, wr_99, wr_100, wr_192, wr_255, wr_256, wr_343, wr_999, wr_1000, wr_2401, wr_2147483647, wr_65535, wr_m1, wr_m2, wr_m3, wr_m4, wr_m9, ak_1000, ak_1001, ak_1002, ak_0, ak_1, ak_2, ak_3, ak_4, ak_5, ak_6, ak_7, ak_8, ak_9, ak_10, ak_11, ak_12, ak_13, ak_14, ak_15, ak_16, ak_17, ak_18, ak_19, ak_20, ak_21, ak_22, ak_23, ak_24, ak_25, ak_26, ak_27, ak_28, ak_29, ak_30, ak_31, ak_32, ak_33, ak_34, ak_35, ak_36, ak_37, ak_38, ak_39, ak_40, ak_41, ak_42, ak_43, ak_44, ak_45, ak_46, ak_47, q, h0, mo, hf]
end
