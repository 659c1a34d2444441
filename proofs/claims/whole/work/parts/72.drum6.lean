noncomputable section
/-- n figures of x from the k-th on: all are screws (1) or not (0) -/
def dkn (x : Int) : Nat → Int → Int
  | 0, _ => 1
  | n + 1, k => if x / pw k % 10 < 4 then dkn x n (k + 1) else 0
theorem dkn_01 (x : Int) : ∀ (n : Nat) (k : Int), dkn x n k = 0 ∨ dkn x n k = 1
  | 0, _ => Or.inr rfl
  | n + 1, k => by
    rw [dkn]
    split
    · exact dkn_01 x n (k + 1)
    · exact Or.inl rfl
theorem dkn_all (x : Int) : ∀ (n : Nat) (k : Int), dkn x n k = 1 → ∀ j : Int, k ≤ j → j < k + n → x / pw j % 10 < 4
  | 0, k, _, j, h1, h2 => by omega
  | n + 1, k, h, j, h1, h2 => by
    rw [dkn] at h
    split at h
    · next hd =>
      by_cases e : j = k
      · rw [e]; exact hd
      · exact dkn_all x n (k + 1) h j (by omega) (by omega)
    · cases h
/-- the last n figures of x tightened, the foremost first -/
def drm (x : Int) : Nat → F4 → F4
  | 0, v => v
  | k + 1, v => drm x k (tg v (x / pw k % 10).toNat)
theorem dig {x : Int} (hx : 0 ≤ x ∧ x < 2147483648) (k : Int) : ∃ a y : Int, pw k = a ∧ x / a = y ∧ (1 ≤ a ∧ a ≤ 100000000) ∧ (0 ≤ y ∧ y < 2147483648) ∧ x.tdiv a = y ∧ y.tmod 10 = y % 10 := by
  have p := pw_rng k
  have h1 : 0 ≤ x / pw k := Int.ediv_nonneg hx.1 (by omega)
  have h2 : x / pw k ≤ x := Int.ediv_le_self _ hx.1
  exact ⟨pw k, x / pw k, rfl, rfl, p, ⟨h1, by omega⟩, Int.tdiv_eq_ediv_of_nonneg hx.1, Int.tmod_eq_emod_of_nonneg h1⟩
abbrev mi_X6_drum : Mi := (yX6_drum, cX6_drum, 6, some .int, 3)
theorem mf_X6_drum : am_mf mi_X6_drum 3 := ⟨w_co_X6_drum, w_in_X6, ⟨by decide +kernel, by decide +kernel⟩, by decide +kernel, by decide⟩
def tb_X6_drum : List (Nat × Tr) := [(0, tIld 1 1), (1, tCs 1 fn_X6_isCorner), (4, tIfne 9), (7, tIc (-1) 1), (9, tIld 2 1), (10, tI2l), (11, tLc 0 1), (12, tLc 8 3), (15, tCs 3 fn_X6_in), (18, tIfeq 57), (21, tIld 3 1), (22, tI2l), (23, tLc 0 1), (24, tIld 2 1), (25, tI2l), (26, tLc 0 1), (27, tLc 8 3), (30, tCs 3 fn_X6_in), (33, tIfeq 40), (36, tIld 2 1), (37, tGo 41), (40, tIc 0 1), (41, tCs 1 fn_X6_tenTo), (44, tIc 1 1), (45, tI2 (fun a b => a - b)), (46, tI2l), (47, tCs 3 fn_X6_in), (50, tIfeq 57), (53, tIc 1 1), (54, tGo 58), (57, tIc 0 1), (58, tIst 4 2), (60, tIc 0 1), (61, tIst 5 2), (63, tIld 5 2), (65, tIc 8 2), (67, tCmge 102), (70, tIld 4 2), (72, tIfeq 102), (75, tIld 3 1), (76, tIld 5 2), (78, tCs 1 fn_X6_tenTo), (81, tDv Int.tdiv), (82, tIc 10 2), (84, tDv Int.tmod), (85, tIc 4 1), (86, tCmge 93), (89, tIc 1 1), (90, tGo 94), (93, tIc 0 1), (94, tIst 4 2), (96, tIinc 5 1), (99, tGo 63), (102, tIld 4 2), (104, tIfne 110), (107, tIc (-2) 2), (110, tAld 0 1), (111, tCv 6 0 fn_X6_loosen), (114, tIld 2 1), (115, tIc 1 1), (116, tI2 (fun a b => a - b)), (117, tIst 5 2), (119, tIld 5 2), (121, tIflt 144), (124, tAld 0 1), (125, tIld 3 1), (126, tIld 5 2), (128, tCs 1 fn_X6_tenTo), (131, tDv Int.tdiv), (132, tIc 10 2), (134, tDv Int.tmod), (135, tCv 6 1 fn_X6_tighten), (138, tIinc 5 (-1)), (141, tGo 119), (144, tAld 0 1), (145, tGf 6 22), (148, tIld 1 1), (149, tIal)]
theorem ok_X6_drum : Tok mi_X6_drum tb_X6_drum :=
  Tc (sd_iload_n dX6_drum_0) <|
  Tc (sd_cs fok_X6_isCorner mf_X6_isCorner w_ml_X6_112 w_st_X6_isCorner (by decide) dX6_drum_1) <|
  Tc (sd_if_ne (by decide) dX6_drum_4) <|
  Tc (sd_iconst rfl dX6_drum_7) <|
  Tc (sd_iload_n dX6_drum_9) <|
  Tc (sd_i2l dX6_drum_10) <|
  Tc (sd_lconst rfl dX6_drum_11) <|
  Tc (sd_ldc2 w_cl_X6_223 dX6_drum_12) <|
  Tc (sd_cs fok_X6_in mf_X6_in w_ml_X6_65 w_st_X6_in (by decide) dX6_drum_15) <|
  Tc (sd_if_eq (by decide) dX6_drum_18) <|
  Tc (sd_iload_n dX6_drum_21) <|
  Tc (sd_i2l dX6_drum_22) <|
  Tc (sd_lconst rfl dX6_drum_23) <|
  Tc (sd_iload_n dX6_drum_24) <|
  Tc (sd_i2l dX6_drum_25) <|
  Tc (sd_lconst rfl dX6_drum_26) <|
  Tc (sd_ldc2 w_cl_X6_223 dX6_drum_27) <|
  Tc (sd_cs fok_X6_in mf_X6_in w_ml_X6_65 w_st_X6_in (by decide) dX6_drum_30) <|
  Tc (sd_if_eq (by decide) dX6_drum_33) <|
  Tc (sd_iload_n dX6_drum_36) <|
  Tc (sd_goto (by decide) dX6_drum_37) <|
  Tc (sd_iconst rfl dX6_drum_40) <|
  Tc (sd_cs fok_X6_tenTo mf_X6_tenTo w_ml_X6_120 w_st_X6_tenTo (by decide) dX6_drum_41) <|
  Tc (sd_iconst rfl dX6_drum_44) <|
  Tc (sd_isub dX6_drum_45) <|
  Tc (sd_i2l dX6_drum_46) <|
  Tc (sd_cs fok_X6_in mf_X6_in w_ml_X6_65 w_st_X6_in (by decide) dX6_drum_47) <|
  Tc (sd_if_eq (by decide) dX6_drum_50) <|
  Tc (sd_iconst rfl dX6_drum_53) <|
  Tc (sd_goto (by decide) dX6_drum_54) <|
  Tc (sd_iconst rfl dX6_drum_57) <|
  Tc (sd_istore dX6_drum_58) <|
  Tc (sd_iconst rfl dX6_drum_60) <|
  Tc (sd_istore dX6_drum_61) <|
  Tc (sd_iload dX6_drum_63) <|
  Tc (sd_bipush (by decide +kernel) dX6_drum_65) <|
  Tc (sd_cm_ge (by decide) dX6_drum_67) <|
  Tc (sd_iload dX6_drum_70) <|
  Tc (sd_if_eq (by decide) dX6_drum_72) <|
  Tc (sd_iload_n dX6_drum_75) <|
  Tc (sd_iload dX6_drum_76) <|
  Tc (sd_cs fok_X6_tenTo mf_X6_tenTo w_ml_X6_120 w_st_X6_tenTo (by decide) dX6_drum_78) <|
  Tc (sd_idiv dX6_drum_81) <|
  Tc (sd_bipush (by decide +kernel) dX6_drum_82) <|
  Tc (sd_irem dX6_drum_84) <|
  Tc (sd_iconst rfl dX6_drum_85) <|
  Tc (sd_cm_ge (by decide) dX6_drum_86) <|
  Tc (sd_iconst rfl dX6_drum_89) <|
  Tc (sd_goto (by decide) dX6_drum_90) <|
  Tc (sd_iconst rfl dX6_drum_93) <|
  Tc (sd_istore dX6_drum_94) <|
  Tc (sd_iinc dX6_drum_96) <|
  Tc (sd_goto (by decide) dX6_drum_99) <|
  Tc (sd_iload dX6_drum_102) <|
  Tc (sd_if_ne (by decide) dX6_drum_104) <|
  Tc (sd_bipush (by decide +kernel) dX6_drum_107) <|
  Tc (sd_aload_n dX6_drum_110) <|
  Tc (sd_cv (T := TX6) fok_X6_loosen mf_X6_loosen rfl w_ml_X6_225 w_im_X6_loosen w_se_X6_loosen (by decide) dX6_drum_111) <|
  Tc (sd_iload_n dX6_drum_114) <|
  Tc (sd_iconst rfl dX6_drum_115) <|
  Tc (sd_isub dX6_drum_116) <|
  Tc (sd_istore dX6_drum_117) <|
  Tc (sd_iload dX6_drum_119) <|
  Tc (sd_if_lt (by decide) dX6_drum_121) <|
  Tc (sd_aload_n dX6_drum_124) <|
  Tc (sd_iload_n dX6_drum_125) <|
  Tc (sd_iload dX6_drum_126) <|
  Tc (sd_cs fok_X6_tenTo mf_X6_tenTo w_ml_X6_120 w_st_X6_tenTo (by decide) dX6_drum_128) <|
  Tc (sd_idiv dX6_drum_131) <|
  Tc (sd_bipush (by decide +kernel) dX6_drum_132) <|
  Tc (sd_irem dX6_drum_134) <|
  Tc (sd_cv (T := TX6) fok_X6_tighten mf_X6_tighten rfl w_ml_X6_228 w_im_X6_tighten w_se_X6_tighten (by decide) dX6_drum_135) <|
  Tc (sd_iinc dX6_drum_138) <|
  Tc (sd_goto (by decide) dX6_drum_141) <|
  Tc (sd_aload_n dX6_drum_144) <|
  Tc (sd_getf (T := TX6) rfl giX6 (by decide) w_fl_X6_49 dX6_drum_145) <|
  Tc (sd_iload_n dX6_drum_148) <|
  Tc (sd_ial dX6_drum_149) <|
  Tn
theorem rk_X6_drum : Rok mi_X6_drum rI [8, 109, 150] := rk_i dX6_drum_8 <| rk_i dX6_drum_109 <| rk_i dX6_drum_150 <| rk_n
def rx_X6_drum : Nat → Nat → AL → List AV → List AC → Option (Option AV × List AC) := am_r tb_X6_drum rI [8, 109, 150]
theorem rs_X6_drum_0 (n : Nat) (L : AL) (st : List AV) (M : List AC) : rx_X6_drum (n + 1) 0 L st M = am_j (rx_X6_drum n) ((tIld 1 1) 0 L st M) := rfl
theorem rs_X6_drum_1 (n : Nat) (L : AL) (st : List AV) (M : List AC) : rx_X6_drum (n + 1) 1 L st M = am_j (rx_X6_drum n) ((tCs 1 fn_X6_isCorner) 1 L st M) := rfl
theorem rs_X6_drum_4 (n : Nat) (L : AL) (st : List AV) (M : List AC) : rx_X6_drum (n + 1) 4 L st M = am_j (rx_X6_drum n) ((tIfne 9) 4 L st M) := rfl
theorem rs_X6_drum_7 (n : Nat) (L : AL) (st : List AV) (M : List AC) : rx_X6_drum (n + 1) 7 L st M = am_j (rx_X6_drum n) ((tIc (-1) 1) 7 L st M) := rfl
theorem rs_X6_drum_9 (n : Nat) (L : AL) (st : List AV) (M : List AC) : rx_X6_drum (n + 1) 9 L st M = am_j (rx_X6_drum n) ((tIld 2 1) 9 L st M) := rfl
theorem rs_X6_drum_10 (n : Nat) (L : AL) (st : List AV) (M : List AC) : rx_X6_drum (n + 1) 10 L st M = am_j (rx_X6_drum n) (tI2l 10 L st M) := rfl
theorem rs_X6_drum_11 (n : Nat) (L : AL) (st : List AV) (M : List AC) : rx_X6_drum (n + 1) 11 L st M = am_j (rx_X6_drum n) ((tLc 0 1) 11 L st M) := rfl
theorem rs_X6_drum_12 (n : Nat) (L : AL) (st : List AV) (M : List AC) : rx_X6_drum (n + 1) 12 L st M = am_j (rx_X6_drum n) ((tLc 8 3) 12 L st M) := rfl
theorem rs_X6_drum_15 (n : Nat) (L : AL) (st : List AV) (M : List AC) : rx_X6_drum (n + 1) 15 L st M = am_j (rx_X6_drum n) ((tCs 3 fn_X6_in) 15 L st M) := rfl
theorem rs_X6_drum_18 (n : Nat) (L : AL) (st : List AV) (M : List AC) : rx_X6_drum (n + 1) 18 L st M = am_j (rx_X6_drum n) ((tIfeq 57) 18 L st M) := rfl
theorem rs_X6_drum_21 (n : Nat) (L : AL) (st : List AV) (M : List AC) : rx_X6_drum (n + 1) 21 L st M = am_j (rx_X6_drum n) ((tIld 3 1) 21 L st M) := rfl
theorem rs_X6_drum_22 (n : Nat) (L : AL) (st : List AV) (M : List AC) : rx_X6_drum (n + 1) 22 L st M = am_j (rx_X6_drum n) (tI2l 22 L st M) := rfl
theorem rs_X6_drum_23 (n : Nat) (L : AL) (st : List AV) (M : List AC) : rx_X6_drum (n + 1) 23 L st M = am_j (rx_X6_drum n) ((tLc 0 1) 23 L st M) := rfl
theorem rs_X6_drum_24 (n : Nat) (L : AL) (st : List AV) (M : List AC) : rx_X6_drum (n + 1) 24 L st M = am_j (rx_X6_drum n) ((tIld 2 1) 24 L st M) := rfl
theorem rs_X6_drum_25 (n : Nat) (L : AL) (st : List AV) (M : List AC) : rx_X6_drum (n + 1) 25 L st M = am_j (rx_X6_drum n) (tI2l 25 L st M) := rfl
theorem rs_X6_drum_26 (n : Nat) (L : AL) (st : List AV) (M : List AC) : rx_X6_drum (n + 1) 26 L st M = am_j (rx_X6_drum n) ((tLc 0 1) 26 L st M) := rfl
theorem rs_X6_drum_27 (n : Nat) (L : AL) (st : List AV) (M : List AC) : rx_X6_drum (n + 1) 27 L st M = am_j (rx_X6_drum n) ((tLc 8 3) 27 L st M) := rfl
theorem rs_X6_drum_30 (n : Nat) (L : AL) (st : List AV) (M : List AC) : rx_X6_drum (n + 1) 30 L st M = am_j (rx_X6_drum n) ((tCs 3 fn_X6_in) 30 L st M) := rfl
theorem rs_X6_drum_33 (n : Nat) (L : AL) (st : List AV) (M : List AC) : rx_X6_drum (n + 1) 33 L st M = am_j (rx_X6_drum n) ((tIfeq 40) 33 L st M) := rfl
theorem rs_X6_drum_36 (n : Nat) (L : AL) (st : List AV) (M : List AC) : rx_X6_drum (n + 1) 36 L st M = am_j (rx_X6_drum n) ((tIld 2 1) 36 L st M) := rfl
theorem rs_X6_drum_37 (n : Nat) (L : AL) (st : List AV) (M : List AC) : rx_X6_drum (n + 1) 37 L st M = am_j (rx_X6_drum n) ((tGo 41) 37 L st M) := rfl
theorem rs_X6_drum_40 (n : Nat) (L : AL) (st : List AV) (M : List AC) : rx_X6_drum (n + 1) 40 L st M = am_j (rx_X6_drum n) ((tIc 0 1) 40 L st M) := rfl
theorem rs_X6_drum_41 (n : Nat) (L : AL) (st : List AV) (M : List AC) : rx_X6_drum (n + 1) 41 L st M = am_j (rx_X6_drum n) ((tCs 1 fn_X6_tenTo) 41 L st M) := rfl
theorem rs_X6_drum_44 (n : Nat) (L : AL) (st : List AV) (M : List AC) : rx_X6_drum (n + 1) 44 L st M = am_j (rx_X6_drum n) ((tIc 1 1) 44 L st M) := rfl
theorem rs_X6_drum_45 (n : Nat) (L : AL) (st : List AV) (M : List AC) : rx_X6_drum (n + 1) 45 L st M = am_j (rx_X6_drum n) ((tI2 (fun a b => a - b)) 45 L st M) := rfl
theorem rs_X6_drum_46 (n : Nat) (L : AL) (st : List AV) (M : List AC) : rx_X6_drum (n + 1) 46 L st M = am_j (rx_X6_drum n) (tI2l 46 L st M) := rfl
theorem rs_X6_drum_47 (n : Nat) (L : AL) (st : List AV) (M : List AC) : rx_X6_drum (n + 1) 47 L st M = am_j (rx_X6_drum n) ((tCs 3 fn_X6_in) 47 L st M) := rfl
theorem rs_X6_drum_50 (n : Nat) (L : AL) (st : List AV) (M : List AC) : rx_X6_drum (n + 1) 50 L st M = am_j (rx_X6_drum n) ((tIfeq 57) 50 L st M) := rfl
theorem rs_X6_drum_53 (n : Nat) (L : AL) (st : List AV) (M : List AC) : rx_X6_drum (n + 1) 53 L st M = am_j (rx_X6_drum n) ((tIc 1 1) 53 L st M) := rfl
theorem rs_X6_drum_54 (n : Nat) (L : AL) (st : List AV) (M : List AC) : rx_X6_drum (n + 1) 54 L st M = am_j (rx_X6_drum n) ((tGo 58) 54 L st M) := rfl
theorem rs_X6_drum_57 (n : Nat) (L : AL) (st : List AV) (M : List AC) : rx_X6_drum (n + 1) 57 L st M = am_j (rx_X6_drum n) ((tIc 0 1) 57 L st M) := rfl
theorem rs_X6_drum_58 (n : Nat) (L : AL) (st : List AV) (M : List AC) : rx_X6_drum (n + 1) 58 L st M = am_j (rx_X6_drum n) ((tIst 4 2) 58 L st M) := rfl
theorem rs_X6_drum_60 (n : Nat) (L : AL) (st : List AV) (M : List AC) : rx_X6_drum (n + 1) 60 L st M = am_j (rx_X6_drum n) ((tIc 0 1) 60 L st M) := rfl
theorem rs_X6_drum_61 (n : Nat) (L : AL) (st : List AV) (M : List AC) : rx_X6_drum (n + 1) 61 L st M = am_j (rx_X6_drum n) ((tIst 5 2) 61 L st M) := rfl
theorem rs_X6_drum_63 (n : Nat) (L : AL) (st : List AV) (M : List AC) : rx_X6_drum (n + 1) 63 L st M = am_j (rx_X6_drum n) ((tIld 5 2) 63 L st M) := rfl
theorem rs_X6_drum_65 (n : Nat) (L : AL) (st : List AV) (M : List AC) : rx_X6_drum (n + 1) 65 L st M = am_j (rx_X6_drum n) ((tIc 8 2) 65 L st M) := rfl
theorem rs_X6_drum_67 (n : Nat) (L : AL) (st : List AV) (M : List AC) : rx_X6_drum (n + 1) 67 L st M = am_j (rx_X6_drum n) ((tCmge 102) 67 L st M) := rfl
theorem rs_X6_drum_70 (n : Nat) (L : AL) (st : List AV) (M : List AC) : rx_X6_drum (n + 1) 70 L st M = am_j (rx_X6_drum n) ((tIld 4 2) 70 L st M) := rfl
theorem rs_X6_drum_72 (n : Nat) (L : AL) (st : List AV) (M : List AC) : rx_X6_drum (n + 1) 72 L st M = am_j (rx_X6_drum n) ((tIfeq 102) 72 L st M) := rfl
theorem rs_X6_drum_75 (n : Nat) (L : AL) (st : List AV) (M : List AC) : rx_X6_drum (n + 1) 75 L st M = am_j (rx_X6_drum n) ((tIld 3 1) 75 L st M) := rfl
theorem rs_X6_drum_76 (n : Nat) (L : AL) (st : List AV) (M : List AC) : rx_X6_drum (n + 1) 76 L st M = am_j (rx_X6_drum n) ((tIld 5 2) 76 L st M) := rfl
theorem rs_X6_drum_78 (n : Nat) (L : AL) (st : List AV) (M : List AC) : rx_X6_drum (n + 1) 78 L st M = am_j (rx_X6_drum n) ((tCs 1 fn_X6_tenTo) 78 L st M) := rfl
theorem rs_X6_drum_81 (n : Nat) (L : AL) (st : List AV) (M : List AC) : rx_X6_drum (n + 1) 81 L st M = am_j (rx_X6_drum n) ((tDv Int.tdiv) 81 L st M) := rfl
theorem rs_X6_drum_82 (n : Nat) (L : AL) (st : List AV) (M : List AC) : rx_X6_drum (n + 1) 82 L st M = am_j (rx_X6_drum n) ((tIc 10 2) 82 L st M) := rfl
theorem rs_X6_drum_84 (n : Nat) (L : AL) (st : List AV) (M : List AC) : rx_X6_drum (n + 1) 84 L st M = am_j (rx_X6_drum n) ((tDv Int.tmod) 84 L st M) := rfl
theorem rs_X6_drum_85 (n : Nat) (L : AL) (st : List AV) (M : List AC) : rx_X6_drum (n + 1) 85 L st M = am_j (rx_X6_drum n) ((tIc 4 1) 85 L st M) := rfl
theorem rs_X6_drum_86 (n : Nat) (L : AL) (st : List AV) (M : List AC) : rx_X6_drum (n + 1) 86 L st M = am_j (rx_X6_drum n) ((tCmge 93) 86 L st M) := rfl
theorem rs_X6_drum_89 (n : Nat) (L : AL) (st : List AV) (M : List AC) : rx_X6_drum (n + 1) 89 L st M = am_j (rx_X6_drum n) ((tIc 1 1) 89 L st M) := rfl
theorem rs_X6_drum_90 (n : Nat) (L : AL) (st : List AV) (M : List AC) : rx_X6_drum (n + 1) 90 L st M = am_j (rx_X6_drum n) ((tGo 94) 90 L st M) := rfl
theorem rs_X6_drum_93 (n : Nat) (L : AL) (st : List AV) (M : List AC) : rx_X6_drum (n + 1) 93 L st M = am_j (rx_X6_drum n) ((tIc 0 1) 93 L st M) := rfl
theorem rs_X6_drum_94 (n : Nat) (L : AL) (st : List AV) (M : List AC) : rx_X6_drum (n + 1) 94 L st M = am_j (rx_X6_drum n) ((tIst 4 2) 94 L st M) := rfl
theorem rs_X6_drum_96 (n : Nat) (L : AL) (st : List AV) (M : List AC) : rx_X6_drum (n + 1) 96 L st M = am_j (rx_X6_drum n) ((tIinc 5 1) 96 L st M) := rfl
theorem rs_X6_drum_99 (n : Nat) (L : AL) (st : List AV) (M : List AC) : rx_X6_drum (n + 1) 99 L st M = am_j (rx_X6_drum n) ((tGo 63) 99 L st M) := rfl
theorem rs_X6_drum_102 (n : Nat) (L : AL) (st : List AV) (M : List AC) : rx_X6_drum (n + 1) 102 L st M = am_j (rx_X6_drum n) ((tIld 4 2) 102 L st M) := rfl
theorem rs_X6_drum_104 (n : Nat) (L : AL) (st : List AV) (M : List AC) : rx_X6_drum (n + 1) 104 L st M = am_j (rx_X6_drum n) ((tIfne 110) 104 L st M) := rfl
theorem rs_X6_drum_107 (n : Nat) (L : AL) (st : List AV) (M : List AC) : rx_X6_drum (n + 1) 107 L st M = am_j (rx_X6_drum n) ((tIc (-2) 2) 107 L st M) := rfl
theorem rs_X6_drum_110 (n : Nat) (L : AL) (st : List AV) (M : List AC) : rx_X6_drum (n + 1) 110 L st M = am_j (rx_X6_drum n) ((tAld 0 1) 110 L st M) := rfl
theorem rs_X6_drum_111 (n : Nat) (L : AL) (st : List AV) (M : List AC) : rx_X6_drum (n + 1) 111 L st M = am_j (rx_X6_drum n) ((tCv 6 0 fn_X6_loosen) 111 L st M) := rfl
theorem rs_X6_drum_114 (n : Nat) (L : AL) (st : List AV) (M : List AC) : rx_X6_drum (n + 1) 114 L st M = am_j (rx_X6_drum n) ((tIld 2 1) 114 L st M) := rfl
theorem rs_X6_drum_115 (n : Nat) (L : AL) (st : List AV) (M : List AC) : rx_X6_drum (n + 1) 115 L st M = am_j (rx_X6_drum n) ((tIc 1 1) 115 L st M) := rfl
theorem rs_X6_drum_116 (n : Nat) (L : AL) (st : List AV) (M : List AC) : rx_X6_drum (n + 1) 116 L st M = am_j (rx_X6_drum n) ((tI2 (fun a b => a - b)) 116 L st M) := rfl
theorem rs_X6_drum_117 (n : Nat) (L : AL) (st : List AV) (M : List AC) : rx_X6_drum (n + 1) 117 L st M = am_j (rx_X6_drum n) ((tIst 5 2) 117 L st M) := rfl
theorem rs_X6_drum_119 (n : Nat) (L : AL) (st : List AV) (M : List AC) : rx_X6_drum (n + 1) 119 L st M = am_j (rx_X6_drum n) ((tIld 5 2) 119 L st M) := rfl
theorem rs_X6_drum_121 (n : Nat) (L : AL) (st : List AV) (M : List AC) : rx_X6_drum (n + 1) 121 L st M = am_j (rx_X6_drum n) ((tIflt 144) 121 L st M) := rfl
theorem rs_X6_drum_124 (n : Nat) (L : AL) (st : List AV) (M : List AC) : rx_X6_drum (n + 1) 124 L st M = am_j (rx_X6_drum n) ((tAld 0 1) 124 L st M) := rfl
theorem rs_X6_drum_125 (n : Nat) (L : AL) (st : List AV) (M : List AC) : rx_X6_drum (n + 1) 125 L st M = am_j (rx_X6_drum n) ((tIld 3 1) 125 L st M) := rfl
theorem rs_X6_drum_126 (n : Nat) (L : AL) (st : List AV) (M : List AC) : rx_X6_drum (n + 1) 126 L st M = am_j (rx_X6_drum n) ((tIld 5 2) 126 L st M) := rfl
theorem rs_X6_drum_128 (n : Nat) (L : AL) (st : List AV) (M : List AC) : rx_X6_drum (n + 1) 128 L st M = am_j (rx_X6_drum n) ((tCs 1 fn_X6_tenTo) 128 L st M) := rfl
theorem rs_X6_drum_131 (n : Nat) (L : AL) (st : List AV) (M : List AC) : rx_X6_drum (n + 1) 131 L st M = am_j (rx_X6_drum n) ((tDv Int.tdiv) 131 L st M) := rfl
theorem rs_X6_drum_132 (n : Nat) (L : AL) (st : List AV) (M : List AC) : rx_X6_drum (n + 1) 132 L st M = am_j (rx_X6_drum n) ((tIc 10 2) 132 L st M) := rfl
theorem rs_X6_drum_134 (n : Nat) (L : AL) (st : List AV) (M : List AC) : rx_X6_drum (n + 1) 134 L st M = am_j (rx_X6_drum n) ((tDv Int.tmod) 134 L st M) := rfl
theorem rs_X6_drum_135 (n : Nat) (L : AL) (st : List AV) (M : List AC) : rx_X6_drum (n + 1) 135 L st M = am_j (rx_X6_drum n) ((tCv 6 1 fn_X6_tighten) 135 L st M) := rfl
theorem rs_X6_drum_138 (n : Nat) (L : AL) (st : List AV) (M : List AC) : rx_X6_drum (n + 1) 138 L st M = am_j (rx_X6_drum n) ((tIinc 5 (-1)) 138 L st M) := rfl
theorem rs_X6_drum_141 (n : Nat) (L : AL) (st : List AV) (M : List AC) : rx_X6_drum (n + 1) 141 L st M = am_j (rx_X6_drum n) ((tGo 119) 141 L st M) := rfl
theorem rs_X6_drum_144 (n : Nat) (L : AL) (st : List AV) (M : List AC) : rx_X6_drum (n + 1) 144 L st M = am_j (rx_X6_drum n) ((tAld 0 1) 144 L st M) := rfl
theorem rs_X6_drum_145 (n : Nat) (L : AL) (st : List AV) (M : List AC) : rx_X6_drum (n + 1) 145 L st M = am_j (rx_X6_drum n) ((tGf 6 22) 145 L st M) := rfl
theorem rs_X6_drum_148 (n : Nat) (L : AL) (st : List AV) (M : List AC) : rx_X6_drum (n + 1) 148 L st M = am_j (rx_X6_drum n) ((tIld 1 1) 148 L st M) := rfl
theorem rs_X6_drum_149 (n : Nat) (L : AL) (st : List AV) (M : List AC) : rx_X6_drum (n + 1) 149 L st M = am_j (rx_X6_drum n) (tIal 149 L st M) := rfl
theorem rs_X6_drum_8 (n : Nat) (L : AL) (st : List AV) (M : List AC) : rx_X6_drum (n + 1) 8 L st M = am_e rI st M := rfl
theorem rs_X6_drum_109 (n : Nat) (L : AL) (st : List AV) (M : List AC) : rx_X6_drum (n + 1) 109 L st M = am_e rI st M := rfl
theorem rs_X6_drum_150 (n : Nat) (L : AL) (st : List AV) (M : List AC) : rx_X6_drum (n + 1) 150 L st M = am_e rI st M := rfl
theorem ri_X6_drum (c : Prop) [Decidable c] (p q n : Nat) (L : AL) (st : List AV) (M : List AC) : rx_X6_drum n (if c then p else q) L st M = if c then rx_X6_drum n p L st M else rx_X6_drum n q L st M := by split <;> rfl
theorem rm_X6_drum {n k pc : Nat} {L : AL} {st : List AV} {M : List AC} {x : Option AV × List AC} (h : rx_X6_drum n pc L st M = some x) (hk : n ≤ k) : rx_X6_drum k pc L st M = some x := am_r_mono n k h hk
def fn_X6_drum : Fn := am_fn rx_X6_drum 6
theorem fok_X6_drum : Fok mi_X6_drum fn_X6_drum := fun _ _ _ _ h => am_fok ok_X6_drum rk_X6_drum rfl h
theorem lpA_X6_drum {M : List AC} {q nn x : Int} (hx : 0 ≤ x ∧ x < 2147483648) (y : Option AV × List AC) (N : Nat) : ∀ (n : Nat) (k : Int), k + n = 8 → 0 ≤ k → (∀ k', Ru rx_X6_drum N 102 [some (vR 26), some (vI q), some (vI nn), some (vI x), some (vI (dkn x n k)), some (vI k')] [] M y) → Ru rx_X6_drum (N + 40 * n + 20) 63 [some (vR 26), some (vI q), some (vI nn), some (vI x), some (vI 1), some (vI k)] [] M y
  | 0, k, hk, hk0, kk => by
    have e : k = 8 := by omega
    subst e
    obtain ⟨m, hm, h⟩ := kk 8
    refine ⟨m + 9 + 1, by omega, ?_⟩
    rw [rs_X6_drum_63]
    simp only [dkn] at h
    simp [↓ri_X6_drum, rs_X6_drum_0, rs_X6_drum_1, rs_X6_drum_4, rs_X6_drum_7, rs_X6_drum_9, rs_X6_drum_10, rs_X6_drum_11, rs_X6_drum_12, rs_X6_drum_15, rs_X6_drum_18, rs_X6_drum_21, rs_X6_drum_22, rs_X6_drum_23, rs_X6_drum_24, rs_X6_drum_25, rs_X6_drum_26, rs_X6_drum_27, rs_X6_drum_30, rs_X6_drum_33, rs_X6_drum_36, rs_X6_drum_37, rs_X6_drum_40, rs_X6_drum_41, rs_X6_drum_44, rs_X6_drum_45, rs_X6_drum_46, rs_X6_drum_47, rs_X6_drum_50, rs_X6_drum_53, rs_X6_drum_54, rs_X6_drum_57, rs_X6_drum_58, rs_X6_drum_60, rs_X6_drum_61, rs_X6_drum_65, rs_X6_drum_67, rs_X6_drum_70, rs_X6_drum_72, rs_X6_drum_75, rs_X6_drum_76, rs_X6_drum_78, rs_X6_drum_81, rs_X6_drum_82, rs_X6_drum_84, rs_X6_drum_85, rs_X6_drum_86, rs_X6_drum_89, rs_X6_drum_90, rs_X6_drum_93, rs_X6_drum_94, rs_X6_drum_96, rs_X6_drum_99, rs_X6_drum_104, rs_X6_drum_107, rs_X6_drum_110, rs_X6_drum_111, rs_X6_drum_114, rs_X6_drum_115, rs_X6_drum_116, rs_X6_drum_117, rs_X6_drum_119, rs_X6_drum_121, rs_X6_drum_124, rs_X6_drum_125, rs_X6_drum_126, rs_X6_drum_128, rs_X6_drum_131, rs_X6_drum_132, rs_X6_drum_134, rs_X6_drum_135, rs_X6_drum_138, rs_X6_drum_141, rs_X6_drum_144, rs_X6_drum_145, rs_X6_drum_148, rs_X6_drum_149, rs_X6_drum_8, rs_X6_drum_109, rs_X6_drum_150, -List.getElem?_eq_getElem, am_js, am_e, am_in, am_sl, rI, rZ, rV, rJ, rA, rC, kI, kJ, kR, am_one, am_nl, am_w8, tIc, tLc, tNul, tIld, tLld, tAld, tIst, tLst, tAst, tIinc, tI2, tDv, tL2, tLrem, tLs, tLcmp, tI2l, tL2i, tI2c, tDup, tDup2, tPop, tGo, tIfeq, tIfne, tIflt, tIfge, tIfgt, tIfle, tCmeq, tCmne, tCmlt, tCmge, tCmgt, tCmle, tNu, tTs, tGf, tPf, tGs, tIal, tIas, tBal, tBas, tAln, tSv, tSc, tSb, tSl, tSk, tCv, tCs, tCt, tMx, tMn, wr_10000, wr_100000, wr_1000000, wr_10000000, wr_100000000, wr_2400, wr_9999, wr_0, wr_1, wr_2, wr_3, wr_4, wr_5, wr_6, wr_7, wr_8, wr_9, wr_10, wr_11, wr_12, wr_13, wr_14, wr_15, wr_16, wr_17, wr_18, wr_19, wr_20, wr_21, wr_22, wr_23, wr_24, wr_25, wr_26, wr_27, wr_28, wr_29, wr_30, wr_31, wr_32, wr_33, wr_34, wr_35, wr_36, wr_37, wr_38, wr_39, wr_40, wr_41, wr_42, wr_43, wr_44, wr_45, wr_46, wr_47, wr_48, wr_49, wr_50, wr_51, wr_52, wr_53, wr_54, wr_55, wr_56, wr_57, wr_58, wr_59, wr_60, wr_61, wr_62, wr_63, wr_99, wr_100, wr_192, wr_255, wr_256, wr_343, wr_999, wr_1000, wr_2401, wr_2147483647, wr_65535, wr_m1, wr_m2, wr_m3, wr_m4, wr_m9, ak_1000, ak_1001, ak_1002, ak_0, ak_1, ak_2, ak_3, ak_4, ak_5, ak_6, ak_7, ak_8, ak_9, ak_10, ak_11, ak_12, ak_13, ak_14, ak_15, ak_16, ak_17, ak_18, ak_19, ak_20, ak_21, ak_22, ak_23, ak_24, ak_25, ak_26, ak_27, ak_28, ak_29, ak_30, ak_31, ak_32, ak_33, ak_34, ak_35, ak_36, ak_37, ak_38, ak_39, ak_40, ak_41, ak_42, ak_43, ak_44, ak_45, ak_46, ak_47]
    exact rm_X6_drum h (by omega)
  | n + 1, k, hk, hk0, kk => by
    have wk : wr k = k := wr_id (by omega) (by omega)
    have wk1 : wr (k + 1) = k + 1 := wr_id (by omega) (by omega)
    have nk : ¬ 8 ≤ k := by omega
    have q1 := tenTo_pw k (by omega) M
    have ih := lpA_X6_drum (M := M) (q := q) (nn := nn) hx y N n (k + 1) (by omega) (by omega)
    rw [dkn] at kk
    obtain ⟨a, z, ea, ez, ra, rz, td, tm⟩ := dig hx k
    rw [ea, ez] at kk
    rw [ea] at q1
    have wx : wr x = x := wr_id (by clear ez; omega) (by clear ez; omega)
    clear ea ez
    have wa' : wr a = a := wr_id (by clear td; omega) (by clear td; omega)
    have na : ¬ a = 0 := by clear td; omega
    have wz' : wr z = z := wr_id (by clear td tm; omega) (by clear td tm; omega)
    have rm : 0 ≤ z % 10 ∧ z % 10 < 10 := by clear td tm; omega
    generalize z % 10 = f at tm rm kk
    have wf : wr f = f := wr_id (by clear td tm; omega) (by clear td tm; omega)
    by_cases hf : f < 4
    · rw [if_pos hf] at kk
      obtain ⟨m, hm, h⟩ := ih kk
      have nf : ¬ 4 ≤ f := by clear td tm; omega
      refine ⟨m + 39 + 1, by clear td tm; omega, ?_⟩
      rw [rs_X6_drum_63]
      simp [↓ri_X6_drum, rs_X6_drum_0, rs_X6_drum_1, rs_X6_drum_4, rs_X6_drum_7, rs_X6_drum_9, rs_X6_drum_10, rs_X6_drum_11, rs_X6_drum_12, rs_X6_drum_15, rs_X6_drum_18, rs_X6_drum_21, rs_X6_drum_22, rs_X6_drum_23, rs_X6_drum_24, rs_X6_drum_25, rs_X6_drum_26, rs_X6_drum_27, rs_X6_drum_30, rs_X6_drum_33, rs_X6_drum_36, rs_X6_drum_37, rs_X6_drum_40, rs_X6_drum_41, rs_X6_drum_44, rs_X6_drum_45, rs_X6_drum_46, rs_X6_drum_47, rs_X6_drum_50, rs_X6_drum_53, rs_X6_drum_54, rs_X6_drum_57, rs_X6_drum_58, rs_X6_drum_60, rs_X6_drum_61, rs_X6_drum_65, rs_X6_drum_67, rs_X6_drum_70, rs_X6_drum_72, rs_X6_drum_75, rs_X6_drum_76, rs_X6_drum_78, rs_X6_drum_81, rs_X6_drum_82, rs_X6_drum_84, rs_X6_drum_85, rs_X6_drum_86, rs_X6_drum_89, rs_X6_drum_90, rs_X6_drum_93, rs_X6_drum_94, rs_X6_drum_96, rs_X6_drum_99, rs_X6_drum_104, rs_X6_drum_107, rs_X6_drum_110, rs_X6_drum_111, rs_X6_drum_114, rs_X6_drum_115, rs_X6_drum_116, rs_X6_drum_117, rs_X6_drum_119, rs_X6_drum_121, rs_X6_drum_124, rs_X6_drum_125, rs_X6_drum_126, rs_X6_drum_128, rs_X6_drum_131, rs_X6_drum_132, rs_X6_drum_134, rs_X6_drum_135, rs_X6_drum_138, rs_X6_drum_141, rs_X6_drum_144, rs_X6_drum_145, rs_X6_drum_148, rs_X6_drum_149, rs_X6_drum_8, rs_X6_drum_109, rs_X6_drum_150, -List.getElem?_eq_getElem, am_js, am_e, am_in, am_sl, rI, rZ, rV, rJ, rA, rC, kI, kJ, kR, am_one, am_nl, am_w8, tIc, tLc, tNul, tIld, tLld, tAld, tIst, tLst, tAst, tIinc, tI2, tDv, tL2, tLrem, tLs, tLcmp, tI2l, tL2i, tI2c, tDup, tDup2, tPop, tGo, tIfeq, tIfne, tIflt, tIfge, tIfgt, tIfle, tCmeq, tCmne, tCmlt, tCmge, tCmgt, tCmle, tNu, tTs, tGf, tPf, tGs, tIal, tIas, tBal, tBas, tAln, tSv, tSc, tSb, tSl, tSk, tCv, tCs, tCt, tMx, tMn, wr_10000, wr_100000, wr_1000000, wr_10000000, wr_100000000, wr_2400, wr_9999, wr_0, wr_1, wr_2, wr_3, wr_4, wr_5, wr_6, wr_7, wr_8, wr_9, wr_10, wr_11, wr_12, wr_13, wr_14, wr_15, wr_16, wr_17, wr_18, wr_19, wr_20, wr_21, wr_22, wr_23, wr_24, wr_25, wr_26, wr_27, wr_28, wr_29, wr_30, wr_31, wr_32, wr_33, wr_34, wr_35, wr_36, wr_37, wr_38, wr_39, wr_40, wr_41, wr_42, wr_43, wr_44, wr_45, wr_46, wr_47, wr_48, wr_49, wr_50, wr_51, wr_52, wr_53, wr_54, wr_55, wr_56, wr_57, wr_58, wr_59, wr_60, wr_61, wr_62, wr_63, wr_99, wr_100, wr_192, wr_255, wr_256, wr_343, wr_999, wr_1000, wr_2401, wr_2147483647, wr_65535, wr_m1, wr_m2, wr_m3, wr_m4, wr_m9, ak_1000, ak_1001, ak_1002, ak_0, ak_1, ak_2, ak_3, ak_4, ak_5, ak_6, ak_7, ak_8, ak_9, ak_10, ak_11, ak_12, ak_13, ak_14, ak_15, ak_16, ak_17, ak_18, ak_19, ak_20, ak_21, ak_22, ak_23, ak_24, ak_25, ak_26, ak_27, ak_28, ak_29, ak_30, ak_31, ak_32, ak_33, ak_34, ak_35, ak_36, ak_37, ak_38, ak_39, ak_40, ak_41, ak_42, ak_43, ak_44, ak_45, ak_46, ak_47, wk, nk, q1, wx, wa', na, td, wz', tm, wf, nf]
      exact rm_X6_drum h (by omega)
    · rw [if_neg hf] at kk
      obtain ⟨m, hm, h⟩ := kk (k + 1)
      have nf : 4 ≤ f := by clear td tm; omega
      have h63 : rx_X6_drum (m + 10) 63 [some (vR 26), some (vI q), some (vI nn), some (vI x), some (vI 0), some (vI (k + 1))] [] M = some y := by
        rw [show m + 10 = (m + 9) + 1 by omega, rs_X6_drum_63]
        by_cases h8 : 8 ≤ k + 1 <;>
        simp [↓ri_X6_drum, rs_X6_drum_0, rs_X6_drum_1, rs_X6_drum_4, rs_X6_drum_7, rs_X6_drum_9, rs_X6_drum_10, rs_X6_drum_11, rs_X6_drum_12, rs_X6_drum_15, rs_X6_drum_18, rs_X6_drum_21, rs_X6_drum_22, rs_X6_drum_23, rs_X6_drum_24, rs_X6_drum_25, rs_X6_drum_26, rs_X6_drum_27, rs_X6_drum_30, rs_X6_drum_33, rs_X6_drum_36, rs_X6_drum_37, rs_X6_drum_40, rs_X6_drum_41, rs_X6_drum_44, rs_X6_drum_45, rs_X6_drum_46, rs_X6_drum_47, rs_X6_drum_50, rs_X6_drum_53, rs_X6_drum_54, rs_X6_drum_57, rs_X6_drum_58, rs_X6_drum_60, rs_X6_drum_61, rs_X6_drum_65, rs_X6_drum_67, rs_X6_drum_70, rs_X6_drum_72, rs_X6_drum_75, rs_X6_drum_76, rs_X6_drum_78, rs_X6_drum_81, rs_X6_drum_82, rs_X6_drum_84, rs_X6_drum_85, rs_X6_drum_86, rs_X6_drum_89, rs_X6_drum_90, rs_X6_drum_93, rs_X6_drum_94, rs_X6_drum_96, rs_X6_drum_99, rs_X6_drum_104, rs_X6_drum_107, rs_X6_drum_110, rs_X6_drum_111, rs_X6_drum_114, rs_X6_drum_115, rs_X6_drum_116, rs_X6_drum_117, rs_X6_drum_119, rs_X6_drum_121, rs_X6_drum_124, rs_X6_drum_125, rs_X6_drum_126, rs_X6_drum_128, rs_X6_drum_131, rs_X6_drum_132, rs_X6_drum_134, rs_X6_drum_135, rs_X6_drum_138, rs_X6_drum_141, rs_X6_drum_144, rs_X6_drum_145, rs_X6_drum_148, rs_X6_drum_149, rs_X6_drum_8, rs_X6_drum_109, rs_X6_drum_150, -List.getElem?_eq_getElem, am_js, am_e, am_in, am_sl, rI, rZ, rV, rJ, rA, rC, kI, kJ, kR, am_one, am_nl, am_w8, tIc, tLc, tNul, tIld, tLld, tAld, tIst, tLst, tAst, tIinc, tI2, tDv, tL2, tLrem, tLs, tLcmp, tI2l, tL2i, tI2c, tDup, tDup2, tPop, tGo, tIfeq, tIfne, tIflt, tIfge, tIfgt, tIfle, tCmeq, tCmne, tCmlt, tCmge, tCmgt, tCmle, tNu, tTs, tGf, tPf, tGs, tIal, tIas, tBal, tBas, tAln, tSv, tSc, tSb, tSl, tSk, tCv, tCs, tCt, tMx, tMn, wr_10000, wr_100000, wr_1000000, wr_10000000, wr_100000000, wr_2400, wr_9999, wr_0, wr_1, wr_2, wr_3, wr_4, wr_5, wr_6, wr_7, wr_8, wr_9, wr_10, wr_11, wr_12, wr_13, wr_14, wr_15, wr_16, wr_17, wr_18, wr_19, wr_20, wr_21, wr_22, wr_23, wr_24, wr_25, wr_26, wr_27, wr_28, wr_29, wr_30, wr_31, wr_32, wr_33, wr_34, wr_35, wr_36, wr_37, wr_38, wr_39, wr_40, wr_41, wr_42, wr_43, wr_44, wr_45, wr_46, wr_47, wr_48, wr_49, wr_50, wr_51, wr_52, wr_53, wr_54, wr_55, wr_56, wr_57, wr_58, wr_59, wr_60, wr_61, wr_62, wr_63, wr_99, wr_100, wr_192, wr_255, wr_256, wr_343, wr_999, wr_1000, wr_2401, wr_2147483647, wr_65535, wr_m1, wr_m2, wr_m3, wr_m4, wr_m9, ak_1000, ak_1001, ak_1002, ak_0, ak_1, ak_2, ak_3, ak_4, ak_5, ak_6, ak_7, ak_8, ak_9, ak_10, ak_11, ak_12, ak_13, ak_14, ak_15, ak_16, ak_17, ak_18, ak_19, ak_20, ak_21, ak_22, ak_23, ak_24, ak_25, ak_26, ak_27, ak_28, ak_29, ak_30, ak_31, ak_32, ak_33, ak_34, ak_35, ak_36, ak_37, ak_38, ak_39, ak_40, ak_41, ak_42, ak_43, ak_44, ak_45, ak_46, ak_47, wk1, h8] <;>
        exact rm_X6_drum h (by omega)
      refine ⟨m + 39 + 1, by clear td tm; omega, ?_⟩
      rw [rs_X6_drum_63]
      simp [↓ri_X6_drum, rs_X6_drum_0, rs_X6_drum_1, rs_X6_drum_4, rs_X6_drum_7, rs_X6_drum_9, rs_X6_drum_10, rs_X6_drum_11, rs_X6_drum_12, rs_X6_drum_15, rs_X6_drum_18, rs_X6_drum_21, rs_X6_drum_22, rs_X6_drum_23, rs_X6_drum_24, rs_X6_drum_25, rs_X6_drum_26, rs_X6_drum_27, rs_X6_drum_30, rs_X6_drum_33, rs_X6_drum_36, rs_X6_drum_37, rs_X6_drum_40, rs_X6_drum_41, rs_X6_drum_44, rs_X6_drum_45, rs_X6_drum_46, rs_X6_drum_47, rs_X6_drum_50, rs_X6_drum_53, rs_X6_drum_54, rs_X6_drum_57, rs_X6_drum_58, rs_X6_drum_60, rs_X6_drum_61, rs_X6_drum_65, rs_X6_drum_67, rs_X6_drum_70, rs_X6_drum_72, rs_X6_drum_75, rs_X6_drum_76, rs_X6_drum_78, rs_X6_drum_81, rs_X6_drum_82, rs_X6_drum_84, rs_X6_drum_85, rs_X6_drum_86, rs_X6_drum_89, rs_X6_drum_90, rs_X6_drum_93, rs_X6_drum_94, rs_X6_drum_96, rs_X6_drum_99, rs_X6_drum_104, rs_X6_drum_107, rs_X6_drum_110, rs_X6_drum_111, rs_X6_drum_114, rs_X6_drum_115, rs_X6_drum_116, rs_X6_drum_117, rs_X6_drum_119, rs_X6_drum_121, rs_X6_drum_124, rs_X6_drum_125, rs_X6_drum_126, rs_X6_drum_128, rs_X6_drum_131, rs_X6_drum_132, rs_X6_drum_134, rs_X6_drum_135, rs_X6_drum_138, rs_X6_drum_141, rs_X6_drum_144, rs_X6_drum_145, rs_X6_drum_148, rs_X6_drum_149, rs_X6_drum_8, rs_X6_drum_109, rs_X6_drum_150, -List.getElem?_eq_getElem, am_js, am_e, am_in, am_sl, rI, rZ, rV, rJ, rA, rC, kI, kJ, kR, am_one, am_nl, am_w8, tIc, tLc, tNul, tIld, tLld, tAld, tIst, tLst, tAst, tIinc, tI2, tDv, tL2, tLrem, tLs, tLcmp, tI2l, tL2i, tI2c, tDup, tDup2, tPop, tGo, tIfeq, tIfne, tIflt, tIfge, tIfgt, tIfle, tCmeq, tCmne, tCmlt, tCmge, tCmgt, tCmle, tNu, tTs, tGf, tPf, tGs, tIal, tIas, tBal, tBas, tAln, tSv, tSc, tSb, tSl, tSk, tCv, tCs, tCt, tMx, tMn, wr_10000, wr_100000, wr_1000000, wr_10000000, wr_100000000, wr_2400, wr_9999, wr_0, wr_1, wr_2, wr_3, wr_4, wr_5, wr_6, wr_7, wr_8, wr_9, wr_10, wr_11, wr_12, wr_13, wr_14, wr_15, wr_16, wr_17, wr_18, wr_19, wr_20, wr_21, wr_22, wr_23, wr_24, wr_25, wr_26, wr_27, wr_28, wr_29, wr_30, wr_31, wr_32, wr_33, wr_34, wr_35, wr_36, wr_37, wr_38, wr_39, wr_40, wr_41, wr_42, wr_43, wr_44, wr_45, wr_46, wr_47, wr_48, wr_49, wr_50, wr_51, wr_52, wr_53, wr_54, wr_55, wr_56, wr_57, wr_58, wr_59, wr_60, wr_61, wr_62, wr_63, wr_99, wr_100, wr_192, wr_255, wr_256, wr_343, wr_999, wr_1000, wr_2401, wr_2147483647, wr_65535, wr_m1, wr_m2, wr_m3, wr_m4, wr_m9, ak_1000, ak_1001, ak_1002, ak_0, ak_1, ak_2, ak_3, ak_4, ak_5, ak_6, ak_7, ak_8, ak_9, ak_10, ak_11, ak_12, ak_13, ak_14, ak_15, ak_16, ak_17, ak_18, ak_19, ak_20, ak_21, ak_22, ak_23, ak_24, ak_25, ak_26, ak_27, ak_28, ak_29, ak_30, ak_31, ak_32, ak_33, ak_34, ak_35, ak_36, ak_37, ak_38, ak_39, ak_40, ak_41, ak_42, ak_43, ak_44, ak_45, ak_46, ak_47, wk, nk, q1, wx, wa', na, td, wz', tm, wf, nf]
      exact rm_X6_drum h63 (by omega)
theorem lpB_X6_drum {st lk len ac nx rf lr en lm q nn x : Int} {sd : Int64} (hq : 0 ≤ q ∧ q < 4) (hx : 0 ≤ x ∧ x < 2147483648) (hd : ∀ j : Int, 0 ≤ j → j < 8 → x / pw j % 10 < 4) : ∀ (n : Nat) (v : F4) (M : List AC), n ≤ 8 → M[26]? = some (mo st lk len ac nx rf lr en lm sd) → M[40]? = some (aI (l4 v)) → i4 0 (40 - 4 * n) v →
    Ru rx_X6_drum (40 * n + 20) 119 [some (vR 26), some (vI q), some (vI nn), some (vI x), some (vI 1), some (vI ((n : Int) - 1))] [] M (some (vI (g4 (drm x n v) q.toNat)), M.set 40 (aI (l4 (drm x n v))))
  | 0, v, M, hn, h0, h40, hv => by
    refine ⟨19 + 1, by omega, ?_⟩
    rw [rs_X6_drum_119]
    simp only [drm]
    rw [set_same h40]
    rcases c4 hq with rfl | rfl | rfl | rfl <;>
    simp [↓ri_X6_drum, rs_X6_drum_0, rs_X6_drum_1, rs_X6_drum_4, rs_X6_drum_7, rs_X6_drum_9, rs_X6_drum_10, rs_X6_drum_11, rs_X6_drum_12, rs_X6_drum_15, rs_X6_drum_18, rs_X6_drum_21, rs_X6_drum_22, rs_X6_drum_23, rs_X6_drum_24, rs_X6_drum_25, rs_X6_drum_26, rs_X6_drum_27, rs_X6_drum_30, rs_X6_drum_33, rs_X6_drum_36, rs_X6_drum_37, rs_X6_drum_40, rs_X6_drum_41, rs_X6_drum_44, rs_X6_drum_45, rs_X6_drum_46, rs_X6_drum_47, rs_X6_drum_50, rs_X6_drum_53, rs_X6_drum_54, rs_X6_drum_57, rs_X6_drum_58, rs_X6_drum_60, rs_X6_drum_61, rs_X6_drum_63, rs_X6_drum_65, rs_X6_drum_67, rs_X6_drum_70, rs_X6_drum_72, rs_X6_drum_75, rs_X6_drum_76, rs_X6_drum_78, rs_X6_drum_81, rs_X6_drum_82, rs_X6_drum_84, rs_X6_drum_85, rs_X6_drum_86, rs_X6_drum_89, rs_X6_drum_90, rs_X6_drum_93, rs_X6_drum_94, rs_X6_drum_96, rs_X6_drum_99, rs_X6_drum_102, rs_X6_drum_104, rs_X6_drum_107, rs_X6_drum_110, rs_X6_drum_111, rs_X6_drum_114, rs_X6_drum_115, rs_X6_drum_116, rs_X6_drum_117, rs_X6_drum_121, rs_X6_drum_124, rs_X6_drum_125, rs_X6_drum_126, rs_X6_drum_128, rs_X6_drum_131, rs_X6_drum_132, rs_X6_drum_134, rs_X6_drum_135, rs_X6_drum_138, rs_X6_drum_141, rs_X6_drum_144, rs_X6_drum_145, rs_X6_drum_148, rs_X6_drum_149, rs_X6_drum_8, rs_X6_drum_109, rs_X6_drum_150, -List.getElem?_eq_getElem, am_js, am_e, am_in, am_sl, rI, rZ, rV, rJ, rA, rC, kI, kJ, kR, am_one, am_nl, am_w8, tIc, tLc, tNul, tIld, tLld, tAld, tIst, tLst, tAst, tIinc, tI2, tDv, tL2, tLrem, tLs, tLcmp, tI2l, tL2i, tI2c, tDup, tDup2, tPop, tGo, tIfeq, tIfne, tIflt, tIfge, tIfgt, tIfle, tCmeq, tCmne, tCmlt, tCmge, tCmgt, tCmle, tNu, tTs, tGf, tPf, tGs, tIal, tIas, tBal, tBas, tAln, tSv, tSc, tSb, tSl, tSk, tCv, tCs, tCt, tMx, tMn, wr_10000, wr_100000, wr_1000000, wr_10000000, wr_100000000, wr_2400, wr_9999, wr_0, wr_1, wr_2, wr_3, wr_4, wr_5, wr_6, wr_7, wr_8, wr_9, wr_10, wr_11, wr_12, wr_13, wr_14, wr_15, wr_16, wr_17, wr_18, wr_19, wr_20, wr_21, wr_22, wr_23, wr_24, wr_25, wr_26, wr_27, wr_28, wr_29, wr_30, wr_31, wr_32, wr_33, wr_34, wr_35, wr_36, wr_37, wr_38, wr_39, wr_40, wr_41, wr_42, wr_43, wr_44, wr_45, wr_46, wr_47, wr_48, wr_49, wr_50, wr_51, wr_52, wr_53, wr_54, wr_55, wr_56, wr_57, wr_58, wr_59, wr_60, wr_61, wr_62, wr_63, wr_99, wr_100, wr_192, wr_255, wr_256, wr_343, wr_999, wr_1000, wr_2401, wr_2147483647, wr_65535, wr_m1, wr_m2, wr_m3, wr_m4, wr_m9, ak_1000, ak_1001, ak_1002, ak_0, ak_1, ak_2, ak_3, ak_4, ak_5, ak_6, ak_7, ak_8, ak_9, ak_10, ak_11, ak_12, ak_13, ak_14, ak_15, ak_16, ak_17, ak_18, ak_19, ak_20, ak_21, ak_22, ak_23, ak_24, ak_25, ak_26, ak_27, ak_28, ak_29, ak_30, ak_31, ak_32, ak_33, ak_34, ak_35, ak_36, ak_37, ak_38, ak_39, ak_40, ak_41, ak_42, ak_43, ak_44, ak_45, ak_46, ak_47, h0, mo, h40, g4]
  | n + 1, v, M, hn, h0, h40, hv => by
    have en1 : ((n + 1 : Nat) : Int) - 1 = (n : Int) := by omega
    rw [en1]
    have wk : wr (n : Int) = n := wr_id (by omega) (by omega)
    have nk : ¬ (n : Int) < 0 := by omega
    have q1 := tenTo_pw n (by omega) M
    rw [drm]
    have hdn := hd n (by omega) (by omega)
    obtain ⟨a, z, ea, ez, ra, rz, td, tm⟩ := dig hx (n : Int)
    rw [ea, ez] at hdn
    rw [ea, ez]
    rw [ea] at q1
    have wx : wr x = x := wr_id (by clear ez; omega) (by clear ez; omega)
    clear ea ez
    have wa' : wr a = a := wr_id (by clear td; omega) (by clear td; omega)
    have na : ¬ a = 0 := by clear td; omega
    have wz' : wr z = z := wr_id (by clear td tm; omega) (by clear td tm; omega)
    have rm : 0 ≤ z % 10 ∧ z % 10 < 10 := by clear td tm; omega
    generalize z % 10 = f at tm rm hdn ⊢
    have hv9 : i4 0 900 v := ⟨⟨hv.1.1, by have := hv.1.2; omega⟩, ⟨hv.2.1.1, by have := hv.2.1.2; omega⟩, ⟨hv.2.2.1.1, by have := hv.2.2.1.2; omega⟩, ⟨hv.2.2.2.1, by have := hv.2.2.2.2; omega⟩⟩
    have q2 := sp_X6_tighten h0 h40 hv9 f ⟨rm.1, hdn⟩
    have hv2 : i4 0 (40 - 4 * n) (tg v f.toNat) := by
      have := tg_rng hv f.toNat
      have e : (40 - 4 * ((n + 1 : Nat) : Int) + 4) = 40 - 4 * n := by omega
      rw [e] at this
      exact this
    obtain ⟨m, hm, h⟩ := lpB_X6_drum (st := st) (nn := nn) (lk := lk) (len := len) (ac := ac) (nx := nx) (rf := rf) (lr := lr) (en := en) (lm := lm) (sd := sd) hq hx hd n (tg v f.toNat) (M.set 40 (aI (l4 (tg v f.toNat)))) (by omega) (by simp [-List.getElem?_eq_getElem, h0, gs h0]) (by simp [-List.getElem?_eq_getElem, h40, gs h40]) hv2
    rw [List.set_set] at h
    generalize drm x n (tg v f.toNat) = R at h ⊢
    refine ⟨m + 39 + 1, by clear td tm; omega, ?_⟩
    rw [rs_X6_drum_119]
    have em : (n : Int) + -1 = (n : Int) - 1 := by clear td tm; omega
    simp [↓ri_X6_drum, rs_X6_drum_0, rs_X6_drum_1, rs_X6_drum_4, rs_X6_drum_7, rs_X6_drum_9, rs_X6_drum_10, rs_X6_drum_11, rs_X6_drum_12, rs_X6_drum_15, rs_X6_drum_18, rs_X6_drum_21, rs_X6_drum_22, rs_X6_drum_23, rs_X6_drum_24, rs_X6_drum_25, rs_X6_drum_26, rs_X6_drum_27, rs_X6_drum_30, rs_X6_drum_33, rs_X6_drum_36, rs_X6_drum_37, rs_X6_drum_40, rs_X6_drum_41, rs_X6_drum_44, rs_X6_drum_45, rs_X6_drum_46, rs_X6_drum_47, rs_X6_drum_50, rs_X6_drum_53, rs_X6_drum_54, rs_X6_drum_57, rs_X6_drum_58, rs_X6_drum_60, rs_X6_drum_61, rs_X6_drum_63, rs_X6_drum_65, rs_X6_drum_67, rs_X6_drum_70, rs_X6_drum_72, rs_X6_drum_75, rs_X6_drum_76, rs_X6_drum_78, rs_X6_drum_81, rs_X6_drum_82, rs_X6_drum_84, rs_X6_drum_85, rs_X6_drum_86, rs_X6_drum_89, rs_X6_drum_90, rs_X6_drum_93, rs_X6_drum_94, rs_X6_drum_96, rs_X6_drum_99, rs_X6_drum_102, rs_X6_drum_104, rs_X6_drum_107, rs_X6_drum_110, rs_X6_drum_111, rs_X6_drum_114, rs_X6_drum_115, rs_X6_drum_116, rs_X6_drum_117, rs_X6_drum_121, rs_X6_drum_124, rs_X6_drum_125, rs_X6_drum_126, rs_X6_drum_128, rs_X6_drum_131, rs_X6_drum_132, rs_X6_drum_134, rs_X6_drum_135, rs_X6_drum_138, rs_X6_drum_141, rs_X6_drum_144, rs_X6_drum_145, rs_X6_drum_148, rs_X6_drum_149, rs_X6_drum_8, rs_X6_drum_109, rs_X6_drum_150, -List.getElem?_eq_getElem, am_js, am_e, am_in, am_sl, rI, rZ, rV, rJ, rA, rC, kI, kJ, kR, am_one, am_nl, am_w8, tIc, tLc, tNul, tIld, tLld, tAld, tIst, tLst, tAst, tIinc, tI2, tDv, tL2, tLrem, tLs, tLcmp, tI2l, tL2i, tI2c, tDup, tDup2, tPop, tGo, tIfeq, tIfne, tIflt, tIfge, tIfgt, tIfle, tCmeq, tCmne, tCmlt, tCmge, tCmgt, tCmle, tNu, tTs, tGf, tPf, tGs, tIal, tIas, tBal, tBas, tAln, tSv, tSc, tSb, tSl, tSk, tCv, tCs, tCt, tMx, tMn, wr_10000, wr_100000, wr_1000000, wr_10000000, wr_100000000, wr_2400, wr_9999, wr_0, wr_1, wr_2, wr_3, wr_4, wr_5, wr_6, wr_7, wr_8, wr_9, wr_10, wr_11, wr_12, wr_13, wr_14, wr_15, wr_16, wr_17, wr_18, wr_19, wr_20, wr_21, wr_22, wr_23, wr_24, wr_25, wr_26, wr_27, wr_28, wr_29, wr_30, wr_31, wr_32, wr_33, wr_34, wr_35, wr_36, wr_37, wr_38, wr_39, wr_40, wr_41, wr_42, wr_43, wr_44, wr_45, wr_46, wr_47, wr_48, wr_49, wr_50, wr_51, wr_52, wr_53, wr_54, wr_55, wr_56, wr_57, wr_58, wr_59, wr_60, wr_61, wr_62, wr_63, wr_99, wr_100, wr_192, wr_255, wr_256, wr_343, wr_999, wr_1000, wr_2401, wr_2147483647, wr_65535, wr_m1, wr_m2, wr_m3, wr_m4, wr_m9, ak_1000, ak_1001, ak_1002, ak_0, ak_1, ak_2, ak_3, ak_4, ak_5, ak_6, ak_7, ak_8, ak_9, ak_10, ak_11, ak_12, ak_13, ak_14, ak_15, ak_16, ak_17, ak_18, ak_19, ak_20, ak_21, ak_22, ak_23, ak_24, ak_25, ak_26, ak_27, ak_28, ak_29, ak_30, ak_31, ak_32, ak_33, ak_34, ak_35, ak_36, ak_37, ak_38, ak_39, ak_40, ak_41, ak_42, ak_43, ak_44, ak_45, ak_46, ak_47, h0, mo, wk, nk, q1, wx, wa', na, td, wz', tm, q2, em]
    exact rm_X6_drum h (by omega)
theorem sp_X6_drum {M : List AC} {st lk len ac nx rf lr en lm : Int} {sd : Int64} (h0 : M[26]? = some (mo st lk len ac nx rf lr en lm sd)) {v : F4} (h40 : M[40]? = some (aI (l4 v))) (q n x : Int) (hq : -2147483648 ≤ q ∧ q < 2147483648) (hn : -2147483648 ≤ n ∧ n < 2147483648) (hx : -2147483648 ≤ x ∧ x < 2147483648) : ∃ v1 : F4, fn_X6_drum [vR 26, vI q, vI n, vI x] M = some (some (vI (if 0 ≤ q ∧ q < 4 then (if ((0 ≤ n ∧ n ≤ 8) ∧ (0 ≤ x ∧ x ≤ pw n - 1)) ∧ dkn x 8 0 = 1 then g4 (drm x n.toNat (0, 0, 0, 0)) q.toNat else -2) else -1)), M.set 40 (aI (l4 v1))) := by
  have wq : wr q = q := wr_id (by omega) (by omega)
  have wn : wr n = n := wr_id (by omega) (by omega)
  have wx : wr x = x := wr_id (by omega) (by omega)
  by_cases h : 0 ≤ q ∧ q < 4
  · rw [if_pos h]
    have h3 : q ≤ 3 := by omega
    by_cases h1 : 0 ≤ n ∧ n ≤ 8
    · have q1 := tenTo_pw n h1 M
      have p1 := pw_rng n
      by_cases h2 : 0 ≤ x ∧ x ≤ pw n - 1
      · have hx2 : 0 ≤ x ∧ x < 2147483648 := by omega
        generalize pw n = a at q1 p1 h2 ⊢
        have wa' : wr a = a := wr_id (by omega) (by omega)
        have wb : (a - 1).bmod 4294967296 = a - 1 := Int.bmod_eq_of_le (by omega) (by omega)
        have wb1 : wr (a - 1) = a - 1 := wr_id (by omega) (by omega)
        have q3 := sp_X6_loosen h0 h40
        rcases dkn_01 x 8 0 with hz | hz
        · rw [if_neg (by rw [hz]; intro z; exact absurd z.2 (by decide))]
          refine ⟨v, ?_⟩
          rw [set_same h40]
          obtain ⟨m, hm, h'⟩ := lpA_X6_drum (M := M) (q := q) (nn := n) hx2 (some (vI (-2)), M) 20 8 0 (by omega) (by omega) (by
            intro k'
            rw [hz]
            refine ⟨19 + 1, by omega, ?_⟩
            rw [rs_X6_drum_102]
            simp [↓ri_X6_drum, rs_X6_drum_0, rs_X6_drum_1, rs_X6_drum_4, rs_X6_drum_7, rs_X6_drum_9, rs_X6_drum_10, rs_X6_drum_11, rs_X6_drum_12, rs_X6_drum_15, rs_X6_drum_18, rs_X6_drum_21, rs_X6_drum_22, rs_X6_drum_23, rs_X6_drum_24, rs_X6_drum_25, rs_X6_drum_26, rs_X6_drum_27, rs_X6_drum_30, rs_X6_drum_33, rs_X6_drum_36, rs_X6_drum_37, rs_X6_drum_40, rs_X6_drum_41, rs_X6_drum_44, rs_X6_drum_45, rs_X6_drum_46, rs_X6_drum_47, rs_X6_drum_50, rs_X6_drum_53, rs_X6_drum_54, rs_X6_drum_57, rs_X6_drum_58, rs_X6_drum_60, rs_X6_drum_61, rs_X6_drum_63, rs_X6_drum_65, rs_X6_drum_67, rs_X6_drum_70, rs_X6_drum_72, rs_X6_drum_75, rs_X6_drum_76, rs_X6_drum_78, rs_X6_drum_81, rs_X6_drum_82, rs_X6_drum_84, rs_X6_drum_85, rs_X6_drum_86, rs_X6_drum_89, rs_X6_drum_90, rs_X6_drum_93, rs_X6_drum_94, rs_X6_drum_96, rs_X6_drum_99, rs_X6_drum_104, rs_X6_drum_107, rs_X6_drum_110, rs_X6_drum_111, rs_X6_drum_114, rs_X6_drum_115, rs_X6_drum_116, rs_X6_drum_117, rs_X6_drum_119, rs_X6_drum_121, rs_X6_drum_124, rs_X6_drum_125, rs_X6_drum_126, rs_X6_drum_128, rs_X6_drum_131, rs_X6_drum_132, rs_X6_drum_134, rs_X6_drum_135, rs_X6_drum_138, rs_X6_drum_141, rs_X6_drum_144, rs_X6_drum_145, rs_X6_drum_148, rs_X6_drum_149, rs_X6_drum_8, rs_X6_drum_109, rs_X6_drum_150, -List.getElem?_eq_getElem, am_js, am_e, am_in, am_sl, rI, rZ, rV, rJ, rA, rC, kI, kJ, kR, am_one, am_nl, am_w8, tIc, tLc, tNul, tIld, tLld, tAld, tIst, tLst, tAst, tIinc, tI2, tDv, tL2, tLrem, tLs, tLcmp, tI2l, tL2i, tI2c, tDup, tDup2, tPop, tGo, tIfeq, tIfne, tIflt, tIfge, tIfgt, tIfle, tCmeq, tCmne, tCmlt, tCmge, tCmgt, tCmle, tNu, tTs, tGf, tPf, tGs, tIal, tIas, tBal, tBas, tAln, tSv, tSc, tSb, tSl, tSk, tCv, tCs, tCt, tMx, tMn, wr_10000, wr_100000, wr_1000000, wr_10000000, wr_100000000, wr_2400, wr_9999, wr_0, wr_1, wr_2, wr_3, wr_4, wr_5, wr_6, wr_7, wr_8, wr_9, wr_10, wr_11, wr_12, wr_13, wr_14, wr_15, wr_16, wr_17, wr_18, wr_19, wr_20, wr_21, wr_22, wr_23, wr_24, wr_25, wr_26, wr_27, wr_28, wr_29, wr_30, wr_31, wr_32, wr_33, wr_34, wr_35, wr_36, wr_37, wr_38, wr_39, wr_40, wr_41, wr_42, wr_43, wr_44, wr_45, wr_46, wr_47, wr_48, wr_49, wr_50, wr_51, wr_52, wr_53, wr_54, wr_55, wr_56, wr_57, wr_58, wr_59, wr_60, wr_61, wr_62, wr_63, wr_99, wr_100, wr_192, wr_255, wr_256, wr_343, wr_999, wr_1000, wr_2401, wr_2147483647, wr_65535, wr_m1, wr_m2, wr_m3, wr_m4, wr_m9, ak_1000, ak_1001, ak_1002, ak_0, ak_1, ak_2, ak_3, ak_4, ak_5, ak_6, ak_7, ak_8, ak_9, ak_10, ak_11, ak_12, ak_13, ak_14, ak_15, ak_16, ak_17, ak_18, ak_19, ak_20, ak_21, ak_22, ak_23, ak_24, ak_25, ak_26, ak_27, ak_28, ak_29, ak_30, ak_31, ak_32, ak_33, ak_34, ak_35, ak_36, ak_37, ak_38, ak_39, ak_40, ak_41, ak_42, ak_43, ak_44, ak_45, ak_46, ak_47])
          (refine am_fnR (tb := tb_X6_drum) (N := 2000) (Nat.le_of_ble_eq_true rfl) (Nat.le_of_ble_eq_true rfl) ?_; show Ru rx_X6_drum 2000 0 _ _ _ _)
          refine ⟨m + 60, by omega, ?_⟩
          simp [↓ri_X6_drum, rs_X6_drum_0, rs_X6_drum_1, rs_X6_drum_4, rs_X6_drum_7, rs_X6_drum_9, rs_X6_drum_10, rs_X6_drum_11, rs_X6_drum_12, rs_X6_drum_15, rs_X6_drum_18, rs_X6_drum_21, rs_X6_drum_22, rs_X6_drum_23, rs_X6_drum_24, rs_X6_drum_25, rs_X6_drum_26, rs_X6_drum_27, rs_X6_drum_30, rs_X6_drum_33, rs_X6_drum_36, rs_X6_drum_37, rs_X6_drum_40, rs_X6_drum_41, rs_X6_drum_44, rs_X6_drum_45, rs_X6_drum_46, rs_X6_drum_47, rs_X6_drum_50, rs_X6_drum_53, rs_X6_drum_54, rs_X6_drum_57, rs_X6_drum_58, rs_X6_drum_60, rs_X6_drum_61, rs_X6_drum_65, rs_X6_drum_67, rs_X6_drum_70, rs_X6_drum_72, rs_X6_drum_75, rs_X6_drum_76, rs_X6_drum_78, rs_X6_drum_81, rs_X6_drum_82, rs_X6_drum_84, rs_X6_drum_85, rs_X6_drum_86, rs_X6_drum_89, rs_X6_drum_90, rs_X6_drum_93, rs_X6_drum_94, rs_X6_drum_96, rs_X6_drum_99, rs_X6_drum_102, rs_X6_drum_104, rs_X6_drum_107, rs_X6_drum_110, rs_X6_drum_111, rs_X6_drum_114, rs_X6_drum_115, rs_X6_drum_116, rs_X6_drum_117, rs_X6_drum_119, rs_X6_drum_121, rs_X6_drum_124, rs_X6_drum_125, rs_X6_drum_126, rs_X6_drum_128, rs_X6_drum_131, rs_X6_drum_132, rs_X6_drum_134, rs_X6_drum_135, rs_X6_drum_138, rs_X6_drum_141, rs_X6_drum_144, rs_X6_drum_145, rs_X6_drum_148, rs_X6_drum_149, rs_X6_drum_8, rs_X6_drum_109, rs_X6_drum_150, -List.getElem?_eq_getElem, am_js, am_e, am_in, am_sl, rI, rZ, rV, rJ, rA, rC, kI, kJ, kR, am_one, am_nl, am_w8, tIc, tLc, tNul, tIld, tLld, tAld, tIst, tLst, tAst, tIinc, tI2, tDv, tL2, tLrem, tLs, tLcmp, tI2l, tL2i, tI2c, tDup, tDup2, tPop, tGo, tIfeq, tIfne, tIflt, tIfge, tIfgt, tIfle, tCmeq, tCmne, tCmlt, tCmge, tCmgt, tCmle, tNu, tTs, tGf, tPf, tGs, tIal, tIas, tBal, tBas, tAln, tSv, tSc, tSb, tSl, tSk, tCv, tCs, tCt, tMx, tMn, wr_10000, wr_100000, wr_1000000, wr_10000000, wr_100000000, wr_2400, wr_9999, wr_0, wr_1, wr_2, wr_3, wr_4, wr_5, wr_6, wr_7, wr_8, wr_9, wr_10, wr_11, wr_12, wr_13, wr_14, wr_15, wr_16, wr_17, wr_18, wr_19, wr_20, wr_21, wr_22, wr_23, wr_24, wr_25, wr_26, wr_27, wr_28, wr_29, wr_30, wr_31, wr_32, wr_33, wr_34, wr_35, wr_36, wr_37, wr_38, wr_39, wr_40, wr_41, wr_42, wr_43, wr_44, wr_45, wr_46, wr_47, wr_48, wr_49, wr_50, wr_51, wr_52, wr_53, wr_54, wr_55, wr_56, wr_57, wr_58, wr_59, wr_60, wr_61, wr_62, wr_63, wr_99, wr_100, wr_192, wr_255, wr_256, wr_343, wr_999, wr_1000, wr_2401, wr_2147483647, wr_65535, wr_m1, wr_m2, wr_m3, wr_m4, wr_m9, ak_1000, ak_1001, ak_1002, ak_0, ak_1, ak_2, ak_3, ak_4, ak_5, ak_6, ak_7, ak_8, ak_9, ak_10, ak_11, ak_12, ak_13, ak_14, ak_15, ak_16, ak_17, ak_18, ak_19, ak_20, ak_21, ak_22, ak_23, ak_24, ak_25, ak_26, ak_27, ak_28, ak_29, ak_30, ak_31, ak_32, ak_33, ak_34, ak_35, ak_36, ak_37, ak_38, ak_39, ak_40, ak_41, ak_42, ak_43, ak_44, ak_45, ak_46, ak_47, sp_X6_in, -Int32.toInt_ofInt, -not_and, wr_eq, jt_0, jt_1, jt_2, jt_3, jt_4, jt_5, jt_6, jt_8, jt_12, jt_30, jt_48, jt_49, jt_51, jt_57, jt_255, jt_9999, sp_X6_isCorner, wq, h, h3, wn, h1, q1, wx, wa', wb, wb1, h2]
          exact rm_X6_drum h' (by omega)
        · rw [if_pos ⟨⟨h1, h2⟩, hz⟩]
          refine ⟨drm x n.toNat (0, 0, 0, 0), ?_⟩
          obtain ⟨m, hm, h'⟩ := lpB_X6_drum (st := st) (nn := n) (lk := lk) (len := len) (ac := ac) (nx := nx) (rf := rf) (lr := lr) (en := en) (lm := lm) (sd := sd) h hx2 (dkn_all x 8 0 hz) n.toNat (0, 0, 0, 0) (M.set 40 (aI (l4 (0, 0, 0, 0)))) (by omega) (by simp [-List.getElem?_eq_getElem, h0, gs h0]) (by simp [-List.getElem?_eq_getElem, h40, gs h40]) ⟨⟨by decide, by dsimp only; omega⟩, ⟨by decide, by dsimp only; omega⟩, ⟨by decide, by dsimp only; omega⟩, by decide, by dsimp only; omega⟩
          rw [List.set_set] at h'
          generalize drm x n.toNat (0, 0, 0, 0) = R at h' ⊢
          have en1 : ((n.toNat : Nat) : Int) - 1 = n - 1 := by omega
          rw [en1] at h'
          obtain ⟨m2, hm2, h2'⟩ := lpA_X6_drum (M := M) (q := q) (nn := n) hx2 (some (vI (g4 R q.toNat)), M.set 40 (aI (l4 R))) (m + 30) 8 0 (by omega) (by omega) (by
            intro k'
            rw [hz]
            refine ⟨m + 29 + 1, by omega, ?_⟩
            rw [rs_X6_drum_102]
            simp [↓ri_X6_drum, rs_X6_drum_0, rs_X6_drum_1, rs_X6_drum_4, rs_X6_drum_7, rs_X6_drum_9, rs_X6_drum_10, rs_X6_drum_11, rs_X6_drum_12, rs_X6_drum_15, rs_X6_drum_18, rs_X6_drum_21, rs_X6_drum_22, rs_X6_drum_23, rs_X6_drum_24, rs_X6_drum_25, rs_X6_drum_26, rs_X6_drum_27, rs_X6_drum_30, rs_X6_drum_33, rs_X6_drum_36, rs_X6_drum_37, rs_X6_drum_40, rs_X6_drum_41, rs_X6_drum_44, rs_X6_drum_45, rs_X6_drum_46, rs_X6_drum_47, rs_X6_drum_50, rs_X6_drum_53, rs_X6_drum_54, rs_X6_drum_57, rs_X6_drum_58, rs_X6_drum_60, rs_X6_drum_61, rs_X6_drum_63, rs_X6_drum_65, rs_X6_drum_67, rs_X6_drum_70, rs_X6_drum_72, rs_X6_drum_75, rs_X6_drum_76, rs_X6_drum_78, rs_X6_drum_81, rs_X6_drum_82, rs_X6_drum_84, rs_X6_drum_85, rs_X6_drum_86, rs_X6_drum_89, rs_X6_drum_90, rs_X6_drum_93, rs_X6_drum_94, rs_X6_drum_96, rs_X6_drum_99, rs_X6_drum_104, rs_X6_drum_107, rs_X6_drum_110, rs_X6_drum_111, rs_X6_drum_114, rs_X6_drum_115, rs_X6_drum_116, rs_X6_drum_117, rs_X6_drum_121, rs_X6_drum_124, rs_X6_drum_125, rs_X6_drum_126, rs_X6_drum_128, rs_X6_drum_131, rs_X6_drum_132, rs_X6_drum_134, rs_X6_drum_135, rs_X6_drum_138, rs_X6_drum_141, rs_X6_drum_144, rs_X6_drum_145, rs_X6_drum_148, rs_X6_drum_149, rs_X6_drum_8, rs_X6_drum_109, rs_X6_drum_150, -List.getElem?_eq_getElem, am_js, am_e, am_in, am_sl, rI, rZ, rV, rJ, rA, rC, kI, kJ, kR, am_one, am_nl, am_w8, tIc, tLc, tNul, tIld, tLld, tAld, tIst, tLst, tAst, tIinc, tI2, tDv, tL2, tLrem, tLs, tLcmp, tI2l, tL2i, tI2c, tDup, tDup2, tPop, tGo, tIfeq, tIfne, tIflt, tIfge, tIfgt, tIfle, tCmeq, tCmne, tCmlt, tCmge, tCmgt, tCmle, tNu, tTs, tGf, tPf, tGs, tIal, tIas, tBal, tBas, tAln, tSv, tSc, tSb, tSl, tSk, tCv, tCs, tCt, tMx, tMn, wr_10000, wr_100000, wr_1000000, wr_10000000, wr_100000000, wr_2400, wr_9999, wr_0, wr_1, wr_2, wr_3, wr_4, wr_5, wr_6, wr_7, wr_8, wr_9, wr_10, wr_11, wr_12, wr_13, wr_14, wr_15, wr_16, wr_17, wr_18, wr_19, wr_20, wr_21, wr_22, wr_23, wr_24, wr_25, wr_26, wr_27, wr_28, wr_29, wr_30, wr_31, wr_32, wr_33, wr_34, wr_35, wr_36, wr_37, wr_38, wr_39, wr_40, wr_41, wr_42, wr_43, wr_44, wr_45, wr_46, wr_47, wr_48, wr_49, wr_50, wr_51, wr_52, wr_53, wr_54, wr_55, wr_56, wr_57, wr_58, wr_59, wr_60, wr_61, wr_62, wr_63, wr_99, wr_100, wr_192, wr_255, wr_256, wr_343, wr_999, wr_1000, wr_2401, wr_2147483647, wr_65535, wr_m1, wr_m2, wr_m3, wr_m4, wr_m9, ak_1000, ak_1001, ak_1002, ak_0, ak_1, ak_2, ak_3, ak_4, ak_5, ak_6, ak_7, ak_8, ak_9, ak_10, ak_11, ak_12, ak_13, ak_14, ak_15, ak_16, ak_17, ak_18, ak_19, ak_20, ak_21, ak_22, ak_23, ak_24, ak_25, ak_26, ak_27, ak_28, ak_29, ak_30, ak_31, ak_32, ak_33, ak_34, ak_35, ak_36, ak_37, ak_38, ak_39, ak_40, ak_41, ak_42, ak_43, ak_44, ak_45, ak_46, ak_47, h0, mo, q3]
            exact rm_X6_drum h' (by omega))
          (refine am_fnR (tb := tb_X6_drum) (N := 2000) (Nat.le_of_ble_eq_true rfl) (Nat.le_of_ble_eq_true rfl) ?_; show Ru rx_X6_drum 2000 0 _ _ _ _)
          refine ⟨m2 + 60, by omega, ?_⟩
          simp [↓ri_X6_drum, rs_X6_drum_0, rs_X6_drum_1, rs_X6_drum_4, rs_X6_drum_7, rs_X6_drum_9, rs_X6_drum_10, rs_X6_drum_11, rs_X6_drum_12, rs_X6_drum_15, rs_X6_drum_18, rs_X6_drum_21, rs_X6_drum_22, rs_X6_drum_23, rs_X6_drum_24, rs_X6_drum_25, rs_X6_drum_26, rs_X6_drum_27, rs_X6_drum_30, rs_X6_drum_33, rs_X6_drum_36, rs_X6_drum_37, rs_X6_drum_40, rs_X6_drum_41, rs_X6_drum_44, rs_X6_drum_45, rs_X6_drum_46, rs_X6_drum_47, rs_X6_drum_50, rs_X6_drum_53, rs_X6_drum_54, rs_X6_drum_57, rs_X6_drum_58, rs_X6_drum_60, rs_X6_drum_61, rs_X6_drum_65, rs_X6_drum_67, rs_X6_drum_70, rs_X6_drum_72, rs_X6_drum_75, rs_X6_drum_76, rs_X6_drum_78, rs_X6_drum_81, rs_X6_drum_82, rs_X6_drum_84, rs_X6_drum_85, rs_X6_drum_86, rs_X6_drum_89, rs_X6_drum_90, rs_X6_drum_93, rs_X6_drum_94, rs_X6_drum_96, rs_X6_drum_99, rs_X6_drum_102, rs_X6_drum_104, rs_X6_drum_107, rs_X6_drum_110, rs_X6_drum_111, rs_X6_drum_114, rs_X6_drum_115, rs_X6_drum_116, rs_X6_drum_117, rs_X6_drum_119, rs_X6_drum_121, rs_X6_drum_124, rs_X6_drum_125, rs_X6_drum_126, rs_X6_drum_128, rs_X6_drum_131, rs_X6_drum_132, rs_X6_drum_134, rs_X6_drum_135, rs_X6_drum_138, rs_X6_drum_141, rs_X6_drum_144, rs_X6_drum_145, rs_X6_drum_148, rs_X6_drum_149, rs_X6_drum_8, rs_X6_drum_109, rs_X6_drum_150, -List.getElem?_eq_getElem, am_js, am_e, am_in, am_sl, rI, rZ, rV, rJ, rA, rC, kI, kJ, kR, am_one, am_nl, am_w8, tIc, tLc, tNul, tIld, tLld, tAld, tIst, tLst, tAst, tIinc, tI2, tDv, tL2, tLrem, tLs, tLcmp, tI2l, tL2i, tI2c, tDup, tDup2, tPop, tGo, tIfeq, tIfne, tIflt, tIfge, tIfgt, tIfle, tCmeq, tCmne, tCmlt, tCmge, tCmgt, tCmle, tNu, tTs, tGf, tPf, tGs, tIal, tIas, tBal, tBas, tAln, tSv, tSc, tSb, tSl, tSk, tCv, tCs, tCt, tMx, tMn, wr_10000, wr_100000, wr_1000000, wr_10000000, wr_100000000, wr_2400, wr_9999, wr_0, wr_1, wr_2, wr_3, wr_4, wr_5, wr_6, wr_7, wr_8, wr_9, wr_10, wr_11, wr_12, wr_13, wr_14, wr_15, wr_16, wr_17, wr_18, wr_19, wr_20, wr_21, wr_22, wr_23, wr_24, wr_25, wr_26, wr_27, wr_28, wr_29, wr_30, wr_31, wr_32, wr_33, wr_34, wr_35, wr_36, wr_37, wr_38, wr_39, wr_40, wr_41, wr_42, wr_43, wr_44, wr_45, wr_46, wr_47, wr_48, wr_49, wr_50, wr_51, wr_52, wr_53, wr_54, wr_55, wr_56, wr_57, wr_58, wr_59, wr_60, wr_61, wr_62, wr_63, wr_99, wr_100, wr_192, wr_255, wr_256, wr_343, wr_999, wr_1000, wr_2401, wr_2147483647, wr_65535, wr_m1, wr_m2, wr_m3, wr_m4, wr_m9, ak_1000, ak_1001, ak_1002, ak_0, ak_1, ak_2, ak_3, ak_4, ak_5, ak_6, ak_7, ak_8, ak_9, ak_10, ak_11, ak_12, ak_13, ak_14, ak_15, ak_16, ak_17, ak_18, ak_19, ak_20, ak_21, ak_22, ak_23, ak_24, ak_25, ak_26, ak_27, ak_28, ak_29, ak_30, ak_31, ak_32, ak_33, ak_34, ak_35, ak_36, ak_37, ak_38, ak_39, ak_40, ak_41, ak_42, ak_43, ak_44, ak_45, ak_46, ak_47, sp_X6_in, -Int32.toInt_ofInt, -not_and, wr_eq, jt_0, jt_1, jt_2, jt_3, jt_4, jt_5, jt_6, jt_8, jt_12, jt_30, jt_48, jt_49, jt_51, jt_57, jt_255, jt_9999, sp_X6_isCorner, wq, h, h3, wn, h1, q1, wx, wa', wb, wb1, h2]
          exact rm_X6_drum h2' (by omega)
      · rw [if_neg (fun z => h2 z.1.2)]
        refine ⟨v, ?_⟩
        rw [set_same h40]
        generalize pw n = a at q1 p1 h2 ⊢
        have wa' : wr a = a := wr_id (by omega) (by omega)
        have wb : (a - 1).bmod 4294967296 = a - 1 := Int.bmod_eq_of_le (by omega) (by omega)
        have wb1 : wr (a - 1) = a - 1 := wr_id (by omega) (by omega)
        (refine am_fnI (tb := tb_X6_drum) (n := 90) (Nat.le_of_ble_eq_true rfl) (Nat.le_of_ble_eq_true rfl) ?_; show rx_X6_drum 90 0 _ _ _ = _)
        simp [↓ri_X6_drum, rs_X6_drum_0, rs_X6_drum_1, rs_X6_drum_4, rs_X6_drum_7, rs_X6_drum_9, rs_X6_drum_10, rs_X6_drum_11, rs_X6_drum_12, rs_X6_drum_15, rs_X6_drum_18, rs_X6_drum_21, rs_X6_drum_22, rs_X6_drum_23, rs_X6_drum_24, rs_X6_drum_25, rs_X6_drum_26, rs_X6_drum_27, rs_X6_drum_30, rs_X6_drum_33, rs_X6_drum_36, rs_X6_drum_37, rs_X6_drum_40, rs_X6_drum_41, rs_X6_drum_44, rs_X6_drum_45, rs_X6_drum_46, rs_X6_drum_47, rs_X6_drum_50, rs_X6_drum_53, rs_X6_drum_54, rs_X6_drum_57, rs_X6_drum_58, rs_X6_drum_60, rs_X6_drum_61, rs_X6_drum_63, rs_X6_drum_65, rs_X6_drum_67, rs_X6_drum_70, rs_X6_drum_72, rs_X6_drum_75, rs_X6_drum_76, rs_X6_drum_78, rs_X6_drum_81, rs_X6_drum_82, rs_X6_drum_84, rs_X6_drum_85, rs_X6_drum_86, rs_X6_drum_89, rs_X6_drum_90, rs_X6_drum_93, rs_X6_drum_94, rs_X6_drum_96, rs_X6_drum_99, rs_X6_drum_102, rs_X6_drum_104, rs_X6_drum_107, rs_X6_drum_110, rs_X6_drum_111, rs_X6_drum_114, rs_X6_drum_115, rs_X6_drum_116, rs_X6_drum_117, rs_X6_drum_119, rs_X6_drum_121, rs_X6_drum_124, rs_X6_drum_125, rs_X6_drum_126, rs_X6_drum_128, rs_X6_drum_131, rs_X6_drum_132, rs_X6_drum_134, rs_X6_drum_135, rs_X6_drum_138, rs_X6_drum_141, rs_X6_drum_144, rs_X6_drum_145, rs_X6_drum_148, rs_X6_drum_149, rs_X6_drum_8, rs_X6_drum_109, rs_X6_drum_150, -List.getElem?_eq_getElem, am_js, am_e, am_in, am_sl, rI, rZ, rV, rJ, rA, rC, kI, kJ, kR, am_one, am_nl, am_w8, tIc, tLc, tNul, tIld, tLld, tAld, tIst, tLst, tAst, tIinc, tI2, tDv, tL2, tLrem, tLs, tLcmp, tI2l, tL2i, tI2c, tDup, tDup2, tPop, tGo, tIfeq, tIfne, tIflt, tIfge, tIfgt, tIfle, tCmeq, tCmne, tCmlt, tCmge, tCmgt, tCmle, tNu, tTs, tGf, tPf, tGs, tIal, tIas, tBal, tBas, tAln, tSv, tSc, tSb, tSl, tSk, tCv, tCs, tCt, tMx, tMn, wr_10000, wr_100000, wr_1000000, wr_10000000, wr_100000000, wr_2400, wr_9999, wr_0, wr_1, wr_2, wr_3, wr_4, wr_5, wr_6, wr_7, wr_8, wr_9, wr_10, wr_11, wr_12, wr_13, wr_14, wr_15, wr_16, wr_17, wr_18, wr_19, wr_20, wr_21, wr_22, wr_23, wr_24, wr_25, wr_26, wr_27, wr_28, wr_29, wr_30, wr_31, wr_32, wr_33, wr_34, wr_35, wr_36, wr_37, wr_38, wr_39, wr_40, wr_41, wr_42, wr_43, wr_44, wr_45, wr_46, wr_47, wr_48, wr_49, wr_50, wr_51, wr_52, wr_53, wr_54, wr_55, wr_56, wr_57, wr_58, wr_59, wr_60, wr_61, wr_62, wr_63, wr_99, wr_100, wr_192, wr_255, wr_256, wr_343, wr_999, wr_1000, wr_2401, wr_2147483647, wr_65535, wr_m1, wr_m2, wr_m3, wr_m4, wr_m9, ak_1000, ak_1001, ak_1002, ak_0, ak_1, ak_2, ak_3, ak_4, ak_5, ak_6, ak_7, ak_8, ak_9, ak_10, ak_11, ak_12, ak_13, ak_14, ak_15, ak_16, ak_17, ak_18, ak_19, ak_20, ak_21, ak_22, ak_23, ak_24, ak_25, ak_26, ak_27, ak_28, ak_29, ak_30, ak_31, ak_32, ak_33, ak_34, ak_35, ak_36, ak_37, ak_38, ak_39, ak_40, ak_41, ak_42, ak_43, ak_44, ak_45, ak_46, ak_47, sp_X6_in, -Int32.toInt_ofInt, -not_and, wr_eq, jt_0, jt_1, jt_2, jt_3, jt_4, jt_5, jt_6, jt_8, jt_12, jt_30, jt_48, jt_49, jt_51, jt_57, jt_255, jt_9999, sp_X6_isCorner, wq, h, h3, wn, h1, q1, wx, wa', wb, wb1, h2]
    · rw [if_neg (fun z => h1 z.1.1)]
      refine ⟨v, ?_⟩
      rw [set_same h40]
      (refine am_fnI (tb := tb_X6_drum) (n := 90) (Nat.le_of_ble_eq_true rfl) (Nat.le_of_ble_eq_true rfl) ?_; show rx_X6_drum 90 0 _ _ _ = _)
      simp [↓ri_X6_drum, rs_X6_drum_0, rs_X6_drum_1, rs_X6_drum_4, rs_X6_drum_7, rs_X6_drum_9, rs_X6_drum_10, rs_X6_drum_11, rs_X6_drum_12, rs_X6_drum_15, rs_X6_drum_18, rs_X6_drum_21, rs_X6_drum_22, rs_X6_drum_23, rs_X6_drum_24, rs_X6_drum_25, rs_X6_drum_26, rs_X6_drum_27, rs_X6_drum_30, rs_X6_drum_33, rs_X6_drum_36, rs_X6_drum_37, rs_X6_drum_40, rs_X6_drum_41, rs_X6_drum_44, rs_X6_drum_45, rs_X6_drum_46, rs_X6_drum_47, rs_X6_drum_50, rs_X6_drum_53, rs_X6_drum_54, rs_X6_drum_57, rs_X6_drum_58, rs_X6_drum_60, rs_X6_drum_61, rs_X6_drum_63, rs_X6_drum_65, rs_X6_drum_67, rs_X6_drum_70, rs_X6_drum_72, rs_X6_drum_75, rs_X6_drum_76, rs_X6_drum_78, rs_X6_drum_81, rs_X6_drum_82, rs_X6_drum_84, rs_X6_drum_85, rs_X6_drum_86, rs_X6_drum_89, rs_X6_drum_90, rs_X6_drum_93, rs_X6_drum_94, rs_X6_drum_96, rs_X6_drum_99, rs_X6_drum_102, rs_X6_drum_104, rs_X6_drum_107, rs_X6_drum_110, rs_X6_drum_111, rs_X6_drum_114, rs_X6_drum_115, rs_X6_drum_116, rs_X6_drum_117, rs_X6_drum_119, rs_X6_drum_121, rs_X6_drum_124, rs_X6_drum_125, rs_X6_drum_126, rs_X6_drum_128, rs_X6_drum_131, rs_X6_drum_132, rs_X6_drum_134, rs_X6_drum_135, rs_X6_drum_138, rs_X6_drum_141, rs_X6_drum_144, rs_X6_drum_145, rs_X6_drum_148, rs_X6_drum_149, rs_X6_drum_8, rs_X6_drum_109, rs_X6_drum_150, -List.getElem?_eq_getElem, am_js, am_e, am_in, am_sl, rI, rZ, rV, rJ, rA, rC, kI, kJ, kR, am_one, am_nl, am_w8, tIc, tLc, tNul, tIld, tLld, tAld, tIst, tLst, tAst, tIinc, tI2, tDv, tL2, tLrem, tLs, tLcmp, tI2l, tL2i, tI2c, tDup, tDup2, tPop, tGo, tIfeq, tIfne, tIflt, tIfge, tIfgt, tIfle, tCmeq, tCmne, tCmlt, tCmge, tCmgt, tCmle, tNu, tTs, tGf, tPf, tGs, tIal, tIas, tBal, tBas, tAln, tSv, tSc, tSb, tSl, tSk, tCv, tCs, tCt, tMx, tMn, wr_10000, wr_100000, wr_1000000, wr_10000000, wr_100000000, wr_2400, wr_9999, wr_0, wr_1, wr_2, wr_3, wr_4, wr_5, wr_6, wr_7, wr_8, wr_9, wr_10, wr_11, wr_12, wr_13, wr_14, wr_15, wr_16, wr_17, wr_18, wr_19, wr_20, wr_21, wr_22, wr_23, wr_24, wr_25, wr_26, wr_27, wr_28, wr_29, wr_30, wr_31, wr_32, wr_33, wr_34, wr_35, wr_36, wr_37, wr_38, wr_39, wr_40, wr_41, wr_42, wr_43, wr_44, wr_45, wr_46, wr_47, wr_48, wr_49, wr_50, wr_51, wr_52, wr_53, wr_54, wr_55, wr_56, wr_57, wr_58, wr_59, wr_60, wr_61, wr_62, wr_63, wr_99, wr_100, wr_192, wr_255, wr_256, wr_343, wr_999, wr_1000, wr_2401, wr_2147483647, wr_65535, wr_m1, wr_m2, wr_m3, wr_m4, wr_m9, ak_1000, ak_1001, ak_1002, ak_0, ak_1, ak_2, ak_3, ak_4, ak_5, ak_6, ak_7, ak_8, ak_9, ak_10, ak_11, ak_12, ak_13, ak_14, ak_15, ak_16, ak_17, ak_18, ak_19, ak_20, ak_21, ak_22, ak_23, ak_24, ak_25, ak_26, ak_27, ak_28, ak_29, ak_30, ak_31, ak_32, ak_33, ak_34, ak_35, ak_36, ak_37, ak_38, ak_39, ak_40, ak_41, ak_42, ak_43, ak_44, ak_45, ak_46, ak_47, sp_X6_in, -Int32.toInt_ofInt, -not_and, wr_eq, jt_0, jt_1, jt_2, jt_3, jt_4, jt_5, jt_6, jt_8, jt_12, jt_30, jt_48, jt_49, jt_51, jt_57, jt_255, jt_9999, sp_X6_isCorner, wq, h, h3, wn, h1]
  · rw [if_neg h]
    refine ⟨v, ?_⟩
    rw [set_same h40]
    have h' : ¬ (0 ≤ q ∧ q ≤ 3) := by omega
    (refine am_fnI (tb := tb_X6_drum) (n := 90) (Nat.le_of_ble_eq_true rfl) (Nat.le_of_ble_eq_true rfl) ?_; show rx_X6_drum 90 0 _ _ _ = _)
    simp [↓ri_X6_drum, rs_X6_drum_0, rs_X6_drum_1, rs_X6_drum_4, rs_X6_drum_7, rs_X6_drum_9, rs_X6_drum_10, rs_X6_drum_11, rs_X6_drum_12, rs_X6_drum_15, rs_X6_drum_18, rs_X6_drum_21, rs_X6_drum_22, rs_X6_drum_23, rs_X6_drum_24, rs_X6_drum_25, rs_X6_drum_26, rs_X6_drum_27, rs_X6_drum_30, rs_X6_drum_33, rs_X6_drum_36, rs_X6_drum_37, rs_X6_drum_40, rs_X6_drum_41, rs_X6_drum_44, rs_X6_drum_45, rs_X6_drum_46, rs_X6_drum_47, rs_X6_drum_50, rs_X6_drum_53, rs_X6_drum_54, rs_X6_drum_57, rs_X6_drum_58, rs_X6_drum_60, rs_X6_drum_61, rs_X6_drum_63, rs_X6_drum_65, rs_X6_drum_67, rs_X6_drum_70, rs_X6_drum_72, rs_X6_drum_75, rs_X6_drum_76, rs_X6_drum_78, rs_X6_drum_81, rs_X6_drum_82, rs_X6_drum_84, rs_X6_drum_85, rs_X6_drum_86, rs_X6_drum_89, rs_X6_drum_90, rs_X6_drum_93, rs_X6_drum_94, rs_X6_drum_96, rs_X6_drum_99, rs_X6_drum_102, rs_X6_drum_104, rs_X6_drum_107, rs_X6_drum_110, rs_X6_drum_111, rs_X6_drum_114, rs_X6_drum_115, rs_X6_drum_116, rs_X6_drum_117, rs_X6_drum_119, rs_X6_drum_121, rs_X6_drum_124, rs_X6_drum_125, rs_X6_drum_126, rs_X6_drum_128, rs_X6_drum_131, rs_X6_drum_132, rs_X6_drum_134, rs_X6_drum_135, rs_X6_drum_138, rs_X6_drum_141, rs_X6_drum_144, rs_X6_drum_145, rs_X6_drum_148, rs_X6_drum_149, rs_X6_drum_8, rs_X6_drum_109, rs_X6_drum_150, -List.getElem?_eq_getElem, am_js, am_e, am_in, am_sl, rI, rZ, rV, rJ, rA, rC, kI, kJ, kR, am_one, am_nl, am_w8, tIc, tLc, tNul, tIld, tLld, tAld, tIst, tLst, tAst, tIinc, tI2, tDv, tL2, tLrem, tLs, tLcmp, tI2l, tL2i, tI2c, tDup, tDup2, tPop, tGo, tIfeq, tIfne, tIflt, tIfge, tIfgt, tIfle, tCmeq, tCmne, tCmlt, tCmge, tCmgt, tCmle, tNu, tTs, tGf, tPf, tGs, tIal, tIas, tBal, tBas, tAln, tSv, tSc, tSb, tSl, tSk, tCv, tCs, tCt, tMx, tMn, wr_10000, wr_100000, wr_1000000, wr_10000000, wr_100000000, wr_2400, wr_9999, wr_0, wr_1, wr_2, wr_3, wr_4, wr_5, wr_6, wr_7, wr_8, wr_9, wr_10, wr_11, wr_12, wr_13, wr_14, wr_15, wr_16, wr_17, wr_18, wr_19, wr_20, wr_21, wr_22, wr_23, wr_24, wr_25, wr_26, wr_27, wr_28, wr_29, wr_30, wr_31, wr_32, wr_33, wr_34, wr_35, wr_36, wr_37, wr_38, wr_39, wr_40, wr_41, wr_42, wr_43, wr_44, wr_45, wr_46, wr_47, wr_48, wr_49, wr_50, wr_51, wr_52, wr_53, wr_54, wr_55, wr_56, wr_57, wr_58, wr_59, wr_60, wr_61, wr_62, wr_63, wr_99, wr_100, wr_192, wr_255, wr_256, wr_343, wr_999, wr_1000, wr_2401, wr_2147483647, wr_65535, wr_m1, wr_m2, wr_m3, wr_m4, wr_m9, ak_1000, ak_1001, ak_1002, ak_0, ak_1, ak_2, ak_3, ak_4, ak_5, ak_6, ak_7, ak_8, ak_9, ak_10, ak_11, ak_12, ak_13, ak_14, ak_15, ak_16, ak_17, ak_18, ak_19, ak_20, ak_21, ak_22, ak_23, ak_24, ak_25, ak_26, ak_27, ak_28, ak_29, ak_30, ak_31, ak_32, ak_33, ak_34, ak_35, ak_36, ak_37, ak_38, ak_39, ak_40, ak_41, ak_42, ak_43, ak_44, ak_45, ak_46, ak_47, -not_and, sp_X6_isCorner, wq, h']
end
