noncomputable section
def bo (o : Int) : F4 := (o / 64 % 4, o / 16 % 4, o / 4 % 4, o % 4)
def bsm (v : F4) : Int := v.1 + v.2.1 + v.2.2.1 + v.2.2.2
theorem bo_F : ∀ o : Fin 256, oAnd (oShr (o.val : Int) 6) 3 = (bo o.val).1 ∧ oAnd (oShr (o.val : Int) 4) 3 = (bo o.val).2.1 ∧ oAnd (oShr (o.val : Int) 2) 3 = (bo o.val).2.2.1 ∧ oAnd (oShr (o.val : Int) 0) 3 = (bo o.val).2.2.2 ∧ to4 o.val = fg (bo o.val) := by decide +kernel
theorem bo_e {o : Int} (h : 0 ≤ o ∧ o < 256) : oAnd (oShr o 6) 3 = (bo o).1 ∧ oAnd (oShr o 4) 3 = (bo o).2.1 ∧ oAnd (oShr o 2) 3 = (bo o).2.2.1 ∧ oAnd (oShr o 0) 3 = (bo o).2.2.2 ∧ to4 o = fg (bo o) := by
  have := bo_F ⟨o.toNat, by omega⟩
  have e : ((o.toNat : Nat) : Int) = o := by omega
  dsimp only at this
  rw [e] at this
  exact this
theorem bo_rng (o : Int) : i4 0 3 (bo o) := by
  unfold bo i4
  dsimp only
  omega
/-- the least bending -/
def bdg (st : Int) (g s : F4) (m : Int) : Nat → Int → Int → Int → Int
  | 0, _, best, _ => best
  | n + 1, o, best, least => if bsm (bo o) < least ∧ 0 < (fr0 st g s (bo o) m).1 then bdg st g s m n (o + 1) (fg (bo o)) (bsm (bo o)) else bdg st g s m n (o + 1) best least
abbrev mi_X6_bending : Mi := (yX6_bending, cX6_bending, 7, some .int, 8)
theorem mf_X6_bending : am_mf mi_X6_bending 1 := ⟨w_co_X6_bending, w_in_X6, ⟨by decide +kernel, by decide +kernel⟩, by decide +kernel, by decide⟩
def tb_X6_bending : List (Nat × Tr) := [(0, tIld 1 1), (1, tI2l), (2, tLc 1 1), (3, tLc 6 3), (6, tCs 3 fn_X6_in), (9, tIfne 15), (12, tIc (-2) 2), (15, tAld 0 1), (16, tCv 6 0 fn_X6_layNow), (19, tIc (-9) 2), (21, tIst 2 1), (22, tIc 99 2), (24, tIst 3 1), (25, tIc 0 1), (26, tIst 4 2), (28, tIld 4 2), (30, tIc 256 3), (33, tCmge 133), (36, tIc 0 1), (37, tIst 5 2), (39, tIc 0 1), (40, tIst 6 2), (42, tIld 6 2), (44, tIc 4 1), (45, tCmge 85), (48, tAld 0 1), (49, tGf 6 9), (52, tIld 6 2), (54, tIld 4 2), (56, tIc 6 2), (58, tIc 2 1), (59, tIld 6 2), (61, tI2 (fun a b => a * b)), (62, tI2 (fun a b => a - b)), (63, tI2 oShr), (64, tIc 3 1), (65, tI2 oAnd), (66, tIas), (67, tIld 5 2), (69, tAld 0 1), (70, tGf 6 9), (73, tIld 6 2), (75, tIal), (76, tI2 (fun a b => a + b)), (77, tIst 5 2), (79, tIinc 6 1), (82, tGo 42), (85, tIld 5 2), (87, tIld 3 1), (88, tCmge 127), (91, tAld 0 1), (92, tIld 1 1), (93, tCv 6 1 fn_X6_findRows), (96, tAld 0 1), (97, tGf 6 14), (100, tIfle 111), (103, tIld 4 2), (105, tCs 1 fn_X6_toldOrder), (108, tGo 112), (111, tIld 2 1), (112, tIst 2 1), (113, tAld 0 1), (114, tGf 6 14), (117, tIfle 125), (120, tIld 5 2), (122, tGo 126), (125, tIld 3 1), (126, tIst 3 1), (127, tIinc 4 1), (130, tGo 28), (133, tIld 2 1)]
theorem ok_X6_bending : Tok mi_X6_bending tb_X6_bending :=
  Tc (sd_iload_n dX6_bending_0) <|
  Tc (sd_i2l dX6_bending_1) <|
  Tc (sd_lconst rfl dX6_bending_2) <|
  Tc (sd_ldc2 w_cl_X6_123 dX6_bending_3) <|
  Tc (sd_cs fok_X6_in mf_X6_in w_ml_X6_65 w_st_X6_in (by decide) dX6_bending_6) <|
  Tc (sd_if_ne (by decide) dX6_bending_9) <|
  Tc (sd_bipush (by decide +kernel) dX6_bending_12) <|
  Tc (sd_aload_n dX6_bending_15) <|
  Tc (sd_cv (T := TX6) fok_X6_layNow mf_X6_layNow rfl w_ml_X6_115 w_im_X6_layNow w_se_X6_layNow (by decide) dX6_bending_16) <|
  Tc (sd_bipush (by decide +kernel) dX6_bending_19) <|
  Tc (sd_istore_n dX6_bending_21) <|
  Tc (sd_bipush (by decide +kernel) dX6_bending_22) <|
  Tc (sd_istore_n dX6_bending_24) <|
  Tc (sd_iconst rfl dX6_bending_25) <|
  Tc (sd_istore dX6_bending_26) <|
  Tc (sd_iload dX6_bending_28) <|
  Tc (sd_sipush (by decide +kernel) dX6_bending_30) <|
  Tc (sd_cm_ge (by decide) dX6_bending_33) <|
  Tc (sd_iconst rfl dX6_bending_36) <|
  Tc (sd_istore dX6_bending_37) <|
  Tc (sd_iconst rfl dX6_bending_39) <|
  Tc (sd_istore dX6_bending_40) <|
  Tc (sd_iload dX6_bending_42) <|
  Tc (sd_iconst rfl dX6_bending_44) <|
  Tc (sd_cm_ge (by decide) dX6_bending_45) <|
  Tc (sd_aload_n dX6_bending_48) <|
  Tc (sd_getf (T := TX6) rfl giX6 (by decide) w_fl_X6_28 dX6_bending_49) <|
  Tc (sd_iload dX6_bending_52) <|
  Tc (sd_iload dX6_bending_54) <|
  Tc (sd_bipush (by decide +kernel) dX6_bending_56) <|
  Tc (sd_iconst rfl dX6_bending_58) <|
  Tc (sd_iload dX6_bending_59) <|
  Tc (sd_imul dX6_bending_61) <|
  Tc (sd_isub dX6_bending_62) <|
  Tc (sd_ishr dX6_bending_63) <|
  Tc (sd_iconst rfl dX6_bending_64) <|
  Tc (sd_iand dX6_bending_65) <|
  Tc (sd_ias dX6_bending_66) <|
  Tc (sd_iload dX6_bending_67) <|
  Tc (sd_aload_n dX6_bending_69) <|
  Tc (sd_getf (T := TX6) rfl giX6 (by decide) w_fl_X6_28 dX6_bending_70) <|
  Tc (sd_iload dX6_bending_73) <|
  Tc (sd_ial dX6_bending_75) <|
  Tc (sd_iadd dX6_bending_76) <|
  Tc (sd_istore dX6_bending_77) <|
  Tc (sd_iinc dX6_bending_79) <|
  Tc (sd_goto (by decide) dX6_bending_82) <|
  Tc (sd_iload dX6_bending_85) <|
  Tc (sd_iload_n dX6_bending_87) <|
  Tc (sd_cm_ge (by decide) dX6_bending_88) <|
  Tc (sd_aload_n dX6_bending_91) <|
  Tc (sd_iload_n dX6_bending_92) <|
  Tc (sd_cv (T := TX6) fok_X6_findRows mf_X6_findRows rfl w_ml_X6_171 w_im_X6_findRows w_se_X6_findRows (by decide) dX6_bending_93) <|
  Tc (sd_aload_n dX6_bending_96) <|
  Tc (sd_getf (T := TX6) rfl giX6 (by decide) w_fl_X6_155 dX6_bending_97) <|
  Tc (sd_if_le (by decide) dX6_bending_100) <|
  Tc (sd_iload dX6_bending_103) <|
  Tc (sd_cs fok_X6_toldOrder mf_X6_toldOrder w_ml_X6_204 w_st_X6_toldOrder (by decide) dX6_bending_105) <|
  Tc (sd_goto (by decide) dX6_bending_108) <|
  Tc (sd_iload_n dX6_bending_111) <|
  Tc (sd_istore_n dX6_bending_112) <|
  Tc (sd_aload_n dX6_bending_113) <|
  Tc (sd_getf (T := TX6) rfl giX6 (by decide) w_fl_X6_155 dX6_bending_114) <|
  Tc (sd_if_le (by decide) dX6_bending_117) <|
  Tc (sd_iload dX6_bending_120) <|
  Tc (sd_goto (by decide) dX6_bending_122) <|
  Tc (sd_iload_n dX6_bending_125) <|
  Tc (sd_istore_n dX6_bending_126) <|
  Tc (sd_iinc dX6_bending_127) <|
  Tc (sd_goto (by decide) dX6_bending_130) <|
  Tc (sd_iload_n dX6_bending_133) <|
  Tn
theorem rk_X6_bending : Rok mi_X6_bending rI [14, 134] := rk_i dX6_bending_14 <| rk_i dX6_bending_134 <| rk_n
def rx_X6_bending : Nat → Nat → AL → List AV → List AC → Option (Option AV × List AC) := am_r tb_X6_bending rI [14, 134]
theorem rs_X6_bending_0 (n : Nat) (L : AL) (st : List AV) (M : List AC) : rx_X6_bending (n + 1) 0 L st M = am_j (rx_X6_bending n) ((tIld 1 1) 0 L st M) := rfl
theorem rs_X6_bending_1 (n : Nat) (L : AL) (st : List AV) (M : List AC) : rx_X6_bending (n + 1) 1 L st M = am_j (rx_X6_bending n) (tI2l 1 L st M) := rfl
theorem rs_X6_bending_2 (n : Nat) (L : AL) (st : List AV) (M : List AC) : rx_X6_bending (n + 1) 2 L st M = am_j (rx_X6_bending n) ((tLc 1 1) 2 L st M) := rfl
theorem rs_X6_bending_3 (n : Nat) (L : AL) (st : List AV) (M : List AC) : rx_X6_bending (n + 1) 3 L st M = am_j (rx_X6_bending n) ((tLc 6 3) 3 L st M) := rfl
theorem rs_X6_bending_6 (n : Nat) (L : AL) (st : List AV) (M : List AC) : rx_X6_bending (n + 1) 6 L st M = am_j (rx_X6_bending n) ((tCs 3 fn_X6_in) 6 L st M) := rfl
theorem rs_X6_bending_9 (n : Nat) (L : AL) (st : List AV) (M : List AC) : rx_X6_bending (n + 1) 9 L st M = am_j (rx_X6_bending n) ((tIfne 15) 9 L st M) := rfl
theorem rs_X6_bending_12 (n : Nat) (L : AL) (st : List AV) (M : List AC) : rx_X6_bending (n + 1) 12 L st M = am_j (rx_X6_bending n) ((tIc (-2) 2) 12 L st M) := rfl
theorem rs_X6_bending_15 (n : Nat) (L : AL) (st : List AV) (M : List AC) : rx_X6_bending (n + 1) 15 L st M = am_j (rx_X6_bending n) ((tAld 0 1) 15 L st M) := rfl
theorem rs_X6_bending_16 (n : Nat) (L : AL) (st : List AV) (M : List AC) : rx_X6_bending (n + 1) 16 L st M = am_j (rx_X6_bending n) ((tCv 6 0 fn_X6_layNow) 16 L st M) := rfl
theorem rs_X6_bending_19 (n : Nat) (L : AL) (st : List AV) (M : List AC) : rx_X6_bending (n + 1) 19 L st M = am_j (rx_X6_bending n) ((tIc (-9) 2) 19 L st M) := rfl
theorem rs_X6_bending_21 (n : Nat) (L : AL) (st : List AV) (M : List AC) : rx_X6_bending (n + 1) 21 L st M = am_j (rx_X6_bending n) ((tIst 2 1) 21 L st M) := rfl
theorem rs_X6_bending_22 (n : Nat) (L : AL) (st : List AV) (M : List AC) : rx_X6_bending (n + 1) 22 L st M = am_j (rx_X6_bending n) ((tIc 99 2) 22 L st M) := rfl
theorem rs_X6_bending_24 (n : Nat) (L : AL) (st : List AV) (M : List AC) : rx_X6_bending (n + 1) 24 L st M = am_j (rx_X6_bending n) ((tIst 3 1) 24 L st M) := rfl
theorem rs_X6_bending_25 (n : Nat) (L : AL) (st : List AV) (M : List AC) : rx_X6_bending (n + 1) 25 L st M = am_j (rx_X6_bending n) ((tIc 0 1) 25 L st M) := rfl
theorem rs_X6_bending_26 (n : Nat) (L : AL) (st : List AV) (M : List AC) : rx_X6_bending (n + 1) 26 L st M = am_j (rx_X6_bending n) ((tIst 4 2) 26 L st M) := rfl
theorem rs_X6_bending_28 (n : Nat) (L : AL) (st : List AV) (M : List AC) : rx_X6_bending (n + 1) 28 L st M = am_j (rx_X6_bending n) ((tIld 4 2) 28 L st M) := rfl
theorem rs_X6_bending_30 (n : Nat) (L : AL) (st : List AV) (M : List AC) : rx_X6_bending (n + 1) 30 L st M = am_j (rx_X6_bending n) ((tIc 256 3) 30 L st M) := rfl
theorem rs_X6_bending_33 (n : Nat) (L : AL) (st : List AV) (M : List AC) : rx_X6_bending (n + 1) 33 L st M = am_j (rx_X6_bending n) ((tCmge 133) 33 L st M) := rfl
theorem rs_X6_bending_36 (n : Nat) (L : AL) (st : List AV) (M : List AC) : rx_X6_bending (n + 1) 36 L st M = am_j (rx_X6_bending n) ((tIc 0 1) 36 L st M) := rfl
theorem rs_X6_bending_37 (n : Nat) (L : AL) (st : List AV) (M : List AC) : rx_X6_bending (n + 1) 37 L st M = am_j (rx_X6_bending n) ((tIst 5 2) 37 L st M) := rfl
theorem rs_X6_bending_39 (n : Nat) (L : AL) (st : List AV) (M : List AC) : rx_X6_bending (n + 1) 39 L st M = am_j (rx_X6_bending n) ((tIc 0 1) 39 L st M) := rfl
theorem rs_X6_bending_40 (n : Nat) (L : AL) (st : List AV) (M : List AC) : rx_X6_bending (n + 1) 40 L st M = am_j (rx_X6_bending n) ((tIst 6 2) 40 L st M) := rfl
theorem rs_X6_bending_42 (n : Nat) (L : AL) (st : List AV) (M : List AC) : rx_X6_bending (n + 1) 42 L st M = am_j (rx_X6_bending n) ((tIld 6 2) 42 L st M) := rfl
theorem rs_X6_bending_44 (n : Nat) (L : AL) (st : List AV) (M : List AC) : rx_X6_bending (n + 1) 44 L st M = am_j (rx_X6_bending n) ((tIc 4 1) 44 L st M) := rfl
theorem rs_X6_bending_45 (n : Nat) (L : AL) (st : List AV) (M : List AC) : rx_X6_bending (n + 1) 45 L st M = am_j (rx_X6_bending n) ((tCmge 85) 45 L st M) := rfl
theorem rs_X6_bending_48 (n : Nat) (L : AL) (st : List AV) (M : List AC) : rx_X6_bending (n + 1) 48 L st M = am_j (rx_X6_bending n) ((tAld 0 1) 48 L st M) := rfl
theorem rs_X6_bending_49 (n : Nat) (L : AL) (st : List AV) (M : List AC) : rx_X6_bending (n + 1) 49 L st M = am_j (rx_X6_bending n) ((tGf 6 9) 49 L st M) := rfl
theorem rs_X6_bending_52 (n : Nat) (L : AL) (st : List AV) (M : List AC) : rx_X6_bending (n + 1) 52 L st M = am_j (rx_X6_bending n) ((tIld 6 2) 52 L st M) := rfl
theorem rs_X6_bending_54 (n : Nat) (L : AL) (st : List AV) (M : List AC) : rx_X6_bending (n + 1) 54 L st M = am_j (rx_X6_bending n) ((tIld 4 2) 54 L st M) := rfl
theorem rs_X6_bending_56 (n : Nat) (L : AL) (st : List AV) (M : List AC) : rx_X6_bending (n + 1) 56 L st M = am_j (rx_X6_bending n) ((tIc 6 2) 56 L st M) := rfl
theorem rs_X6_bending_58 (n : Nat) (L : AL) (st : List AV) (M : List AC) : rx_X6_bending (n + 1) 58 L st M = am_j (rx_X6_bending n) ((tIc 2 1) 58 L st M) := rfl
theorem rs_X6_bending_59 (n : Nat) (L : AL) (st : List AV) (M : List AC) : rx_X6_bending (n + 1) 59 L st M = am_j (rx_X6_bending n) ((tIld 6 2) 59 L st M) := rfl
theorem rs_X6_bending_61 (n : Nat) (L : AL) (st : List AV) (M : List AC) : rx_X6_bending (n + 1) 61 L st M = am_j (rx_X6_bending n) ((tI2 (fun a b => a * b)) 61 L st M) := rfl
theorem rs_X6_bending_62 (n : Nat) (L : AL) (st : List AV) (M : List AC) : rx_X6_bending (n + 1) 62 L st M = am_j (rx_X6_bending n) ((tI2 (fun a b => a - b)) 62 L st M) := rfl
theorem rs_X6_bending_63 (n : Nat) (L : AL) (st : List AV) (M : List AC) : rx_X6_bending (n + 1) 63 L st M = am_j (rx_X6_bending n) ((tI2 oShr) 63 L st M) := rfl
theorem rs_X6_bending_64 (n : Nat) (L : AL) (st : List AV) (M : List AC) : rx_X6_bending (n + 1) 64 L st M = am_j (rx_X6_bending n) ((tIc 3 1) 64 L st M) := rfl
theorem rs_X6_bending_65 (n : Nat) (L : AL) (st : List AV) (M : List AC) : rx_X6_bending (n + 1) 65 L st M = am_j (rx_X6_bending n) ((tI2 oAnd) 65 L st M) := rfl
theorem rs_X6_bending_66 (n : Nat) (L : AL) (st : List AV) (M : List AC) : rx_X6_bending (n + 1) 66 L st M = am_j (rx_X6_bending n) (tIas 66 L st M) := rfl
theorem rs_X6_bending_67 (n : Nat) (L : AL) (st : List AV) (M : List AC) : rx_X6_bending (n + 1) 67 L st M = am_j (rx_X6_bending n) ((tIld 5 2) 67 L st M) := rfl
theorem rs_X6_bending_69 (n : Nat) (L : AL) (st : List AV) (M : List AC) : rx_X6_bending (n + 1) 69 L st M = am_j (rx_X6_bending n) ((tAld 0 1) 69 L st M) := rfl
theorem rs_X6_bending_70 (n : Nat) (L : AL) (st : List AV) (M : List AC) : rx_X6_bending (n + 1) 70 L st M = am_j (rx_X6_bending n) ((tGf 6 9) 70 L st M) := rfl
theorem rs_X6_bending_73 (n : Nat) (L : AL) (st : List AV) (M : List AC) : rx_X6_bending (n + 1) 73 L st M = am_j (rx_X6_bending n) ((tIld 6 2) 73 L st M) := rfl
theorem rs_X6_bending_75 (n : Nat) (L : AL) (st : List AV) (M : List AC) : rx_X6_bending (n + 1) 75 L st M = am_j (rx_X6_bending n) (tIal 75 L st M) := rfl
theorem rs_X6_bending_76 (n : Nat) (L : AL) (st : List AV) (M : List AC) : rx_X6_bending (n + 1) 76 L st M = am_j (rx_X6_bending n) ((tI2 (fun a b => a + b)) 76 L st M) := rfl
theorem rs_X6_bending_77 (n : Nat) (L : AL) (st : List AV) (M : List AC) : rx_X6_bending (n + 1) 77 L st M = am_j (rx_X6_bending n) ((tIst 5 2) 77 L st M) := rfl
theorem rs_X6_bending_79 (n : Nat) (L : AL) (st : List AV) (M : List AC) : rx_X6_bending (n + 1) 79 L st M = am_j (rx_X6_bending n) ((tIinc 6 1) 79 L st M) := rfl
theorem rs_X6_bending_82 (n : Nat) (L : AL) (st : List AV) (M : List AC) : rx_X6_bending (n + 1) 82 L st M = am_j (rx_X6_bending n) ((tGo 42) 82 L st M) := rfl
theorem rs_X6_bending_85 (n : Nat) (L : AL) (st : List AV) (M : List AC) : rx_X6_bending (n + 1) 85 L st M = am_j (rx_X6_bending n) ((tIld 5 2) 85 L st M) := rfl
theorem rs_X6_bending_87 (n : Nat) (L : AL) (st : List AV) (M : List AC) : rx_X6_bending (n + 1) 87 L st M = am_j (rx_X6_bending n) ((tIld 3 1) 87 L st M) := rfl
theorem rs_X6_bending_88 (n : Nat) (L : AL) (st : List AV) (M : List AC) : rx_X6_bending (n + 1) 88 L st M = am_j (rx_X6_bending n) ((tCmge 127) 88 L st M) := rfl
theorem rs_X6_bending_91 (n : Nat) (L : AL) (st : List AV) (M : List AC) : rx_X6_bending (n + 1) 91 L st M = am_j (rx_X6_bending n) ((tAld 0 1) 91 L st M) := rfl
theorem rs_X6_bending_92 (n : Nat) (L : AL) (st : List AV) (M : List AC) : rx_X6_bending (n + 1) 92 L st M = am_j (rx_X6_bending n) ((tIld 1 1) 92 L st M) := rfl
theorem rs_X6_bending_93 (n : Nat) (L : AL) (st : List AV) (M : List AC) : rx_X6_bending (n + 1) 93 L st M = am_j (rx_X6_bending n) ((tCv 6 1 fn_X6_findRows) 93 L st M) := rfl
theorem rs_X6_bending_96 (n : Nat) (L : AL) (st : List AV) (M : List AC) : rx_X6_bending (n + 1) 96 L st M = am_j (rx_X6_bending n) ((tAld 0 1) 96 L st M) := rfl
theorem rs_X6_bending_97 (n : Nat) (L : AL) (st : List AV) (M : List AC) : rx_X6_bending (n + 1) 97 L st M = am_j (rx_X6_bending n) ((tGf 6 14) 97 L st M) := rfl
theorem rs_X6_bending_100 (n : Nat) (L : AL) (st : List AV) (M : List AC) : rx_X6_bending (n + 1) 100 L st M = am_j (rx_X6_bending n) ((tIfle 111) 100 L st M) := rfl
theorem rs_X6_bending_103 (n : Nat) (L : AL) (st : List AV) (M : List AC) : rx_X6_bending (n + 1) 103 L st M = am_j (rx_X6_bending n) ((tIld 4 2) 103 L st M) := rfl
theorem rs_X6_bending_105 (n : Nat) (L : AL) (st : List AV) (M : List AC) : rx_X6_bending (n + 1) 105 L st M = am_j (rx_X6_bending n) ((tCs 1 fn_X6_toldOrder) 105 L st M) := rfl
theorem rs_X6_bending_108 (n : Nat) (L : AL) (st : List AV) (M : List AC) : rx_X6_bending (n + 1) 108 L st M = am_j (rx_X6_bending n) ((tGo 112) 108 L st M) := rfl
theorem rs_X6_bending_111 (n : Nat) (L : AL) (st : List AV) (M : List AC) : rx_X6_bending (n + 1) 111 L st M = am_j (rx_X6_bending n) ((tIld 2 1) 111 L st M) := rfl
theorem rs_X6_bending_112 (n : Nat) (L : AL) (st : List AV) (M : List AC) : rx_X6_bending (n + 1) 112 L st M = am_j (rx_X6_bending n) ((tIst 2 1) 112 L st M) := rfl
theorem rs_X6_bending_113 (n : Nat) (L : AL) (st : List AV) (M : List AC) : rx_X6_bending (n + 1) 113 L st M = am_j (rx_X6_bending n) ((tAld 0 1) 113 L st M) := rfl
theorem rs_X6_bending_114 (n : Nat) (L : AL) (st : List AV) (M : List AC) : rx_X6_bending (n + 1) 114 L st M = am_j (rx_X6_bending n) ((tGf 6 14) 114 L st M) := rfl
theorem rs_X6_bending_117 (n : Nat) (L : AL) (st : List AV) (M : List AC) : rx_X6_bending (n + 1) 117 L st M = am_j (rx_X6_bending n) ((tIfle 125) 117 L st M) := rfl
theorem rs_X6_bending_120 (n : Nat) (L : AL) (st : List AV) (M : List AC) : rx_X6_bending (n + 1) 120 L st M = am_j (rx_X6_bending n) ((tIld 5 2) 120 L st M) := rfl
theorem rs_X6_bending_122 (n : Nat) (L : AL) (st : List AV) (M : List AC) : rx_X6_bending (n + 1) 122 L st M = am_j (rx_X6_bending n) ((tGo 126) 122 L st M) := rfl
theorem rs_X6_bending_125 (n : Nat) (L : AL) (st : List AV) (M : List AC) : rx_X6_bending (n + 1) 125 L st M = am_j (rx_X6_bending n) ((tIld 3 1) 125 L st M) := rfl
theorem rs_X6_bending_126 (n : Nat) (L : AL) (st : List AV) (M : List AC) : rx_X6_bending (n + 1) 126 L st M = am_j (rx_X6_bending n) ((tIst 3 1) 126 L st M) := rfl
theorem rs_X6_bending_127 (n : Nat) (L : AL) (st : List AV) (M : List AC) : rx_X6_bending (n + 1) 127 L st M = am_j (rx_X6_bending n) ((tIinc 4 1) 127 L st M) := rfl
theorem rs_X6_bending_130 (n : Nat) (L : AL) (st : List AV) (M : List AC) : rx_X6_bending (n + 1) 130 L st M = am_j (rx_X6_bending n) ((tGo 28) 130 L st M) := rfl
theorem rs_X6_bending_133 (n : Nat) (L : AL) (st : List AV) (M : List AC) : rx_X6_bending (n + 1) 133 L st M = am_j (rx_X6_bending n) ((tIld 2 1) 133 L st M) := rfl
theorem rs_X6_bending_14 (n : Nat) (L : AL) (st : List AV) (M : List AC) : rx_X6_bending (n + 1) 14 L st M = am_e rI st M := rfl
theorem rs_X6_bending_134 (n : Nat) (L : AL) (st : List AV) (M : List AC) : rx_X6_bending (n + 1) 134 L st M = am_e rI st M := rfl
theorem ri_X6_bending (c : Prop) [Decidable c] (p q n : Nat) (L : AL) (st : List AV) (M : List AC) : rx_X6_bending n (if c then p else q) L st M = if c then rx_X6_bending n p L st M else rx_X6_bending n q L st M := by split <;> rfl
theorem rm_X6_bending {n k pc : Nat} {L : AL} {st : List AV} {M : List AC} {x : Option AV × List AC} (h : rx_X6_bending n pc L st M = some x) (hk : n ≤ k) : rx_X6_bending k pc L st M = some x := am_r_mono n k h hk
def fn_X6_bending : Fn := am_fn rx_X6_bending 7
theorem fok_X6_bending : Fok mi_X6_bending fn_X6_bending := fun _ _ _ _ h => am_fok ok_X6_bending rk_X6_bending rfl h
theorem lp_X6_bending {st lk len ac nx en lm m : Int} {sd : Int64} {g s : F4} (hst : 1 ≤ st ∧ st ≤ 3) (hg : i4 1 9 g) (hs9 : i4 0 9 s) (hm : 1 ≤ m ∧ m ≤ 6) : ∀ (n : Nat) (o best least : Int) (b : F4) (rf lr : Int) (d : F4) (M : List AC) (x5 x6 : Option AV), M[26]? = some (mo st lk len ac nx rf lr en lm sd) → M[27]? = some (aI (l4 g)) → M[32]? = some (aI (l4 d)) → M[33]? = some (aI (l4 b)) → M[34]? = some (aI (l4 s)) → o + n = 256 → 0 ≤ o → 0 ≤ least ∧ least ≤ 99 →
    ∃ (rf' lr' : Int) (d' b' : F4), Ru rx_X6_bending (150 * n + 10) 28 [some (vR 26), some (vI m), some (vI best), some (vI least), some (vI o), x5, x6] [] M (some (vI (bdg st g s m n o best least)), ((M.set 26 (mo st lk len ac nx rf' lr' en lm sd)).set 32 (aI (l4 d'))).set 33 (aI (l4 b')))
  | 0, o, best, least, b, rf, lr, d, M, x5, x6, h0, h27, h32, h33, h34, ho, ho0, hl => by
    have e : o = 256 := by omega
    subst e
    refine ⟨rf, lr, d, b, 9 + 1, by omega, ?_⟩
    rw [rs_X6_bending_28, set_same h0, set_same h32, set_same h33]
    simp only [bdg]
    simp [↓ri_X6_bending, rs_X6_bending_0, rs_X6_bending_1, rs_X6_bending_2, rs_X6_bending_3, rs_X6_bending_6, rs_X6_bending_9, rs_X6_bending_12, rs_X6_bending_15, rs_X6_bending_16, rs_X6_bending_19, rs_X6_bending_21, rs_X6_bending_22, rs_X6_bending_24, rs_X6_bending_25, rs_X6_bending_26, rs_X6_bending_30, rs_X6_bending_33, rs_X6_bending_36, rs_X6_bending_37, rs_X6_bending_39, rs_X6_bending_40, rs_X6_bending_42, rs_X6_bending_44, rs_X6_bending_45, rs_X6_bending_48, rs_X6_bending_49, rs_X6_bending_52, rs_X6_bending_54, rs_X6_bending_56, rs_X6_bending_58, rs_X6_bending_59, rs_X6_bending_61, rs_X6_bending_62, rs_X6_bending_63, rs_X6_bending_64, rs_X6_bending_65, rs_X6_bending_66, rs_X6_bending_67, rs_X6_bending_69, rs_X6_bending_70, rs_X6_bending_73, rs_X6_bending_75, rs_X6_bending_76, rs_X6_bending_77, rs_X6_bending_79, rs_X6_bending_82, rs_X6_bending_85, rs_X6_bending_87, rs_X6_bending_88, rs_X6_bending_91, rs_X6_bending_92, rs_X6_bending_93, rs_X6_bending_96, rs_X6_bending_97, rs_X6_bending_100, rs_X6_bending_103, rs_X6_bending_105, rs_X6_bending_108, rs_X6_bending_111, rs_X6_bending_112, rs_X6_bending_113, rs_X6_bending_114, rs_X6_bending_117, rs_X6_bending_120, rs_X6_bending_122, rs_X6_bending_125, rs_X6_bending_126, rs_X6_bending_127, rs_X6_bending_130, rs_X6_bending_133, rs_X6_bending_14, rs_X6_bending_134, -List.getElem?_eq_getElem, am_js, am_e, am_in, am_sl, rI, rZ, rV, rJ, rA, rC, kI, kJ, kR, am_one, am_nl, am_w8, tIc, tLc, tNul, tIld, tLld, tAld, tIst, tLst, tAst, tIinc, tI2, tDv, tL2, tLrem, tLs, tLcmp, tI2l, tL2i, tI2c, tDup, tDup2, tPop, tGo, tIfeq, tIfne, tIflt, tIfge, tIfgt, tIfle, tCmeq, tCmne, tCmlt, tCmge, tCmgt, tCmle, tNu, tTs, tGf, tPf, tGs, tIal, tIas, tBal, tBas, tAln, tSv, tSc, tSb, tSl, tSk, tCv, tCs, tCt, tMx, tMn, wr_10000, wr_100000, wr_1000000, wr_10000000, wr_100000000, wr_2400, wr_9999, wr_0, wr_1, wr_2, wr_3, wr_4, wr_5, wr_6, wr_7, wr_8, wr_9, wr_10, wr_11, wr_12, wr_13, wr_14, wr_15, wr_16, wr_17, wr_18, wr_19, wr_20, wr_21, wr_22, wr_23, wr_24, wr_25, wr_26, wr_27, wr_28, wr_29, wr_30, wr_31, wr_32, wr_33, wr_34, wr_35, wr_36, wr_37, wr_38, wr_39, wr_40, wr_41, wr_42, wr_43, wr_44, wr_45, wr_46, wr_47, wr_48, wr_49, wr_50, wr_51, wr_52, wr_53, wr_54, wr_55, wr_56, wr_57, wr_58, wr_59, wr_60, wr_61, wr_62, wr_63, wr_99, wr_100, wr_192, wr_255, wr_256, wr_343, wr_999, wr_1000, wr_2401, wr_2147483647, wr_65535, wr_m1, wr_m2, wr_m3, wr_m4, wr_m9, ak_1000, ak_1001, ak_1002, ak_0, ak_1, ak_2, ak_3, ak_4, ak_5, ak_6, ak_7, ak_8, ak_9, ak_10, ak_11, ak_12, ak_13, ak_14, ak_15, ak_16, ak_17, ak_18, ak_19, ak_20, ak_21, ak_22, ak_23, ak_24, ak_25, ak_26, ak_27, ak_28, ak_29, ak_30, ak_31, ak_32, ak_33, ak_34, ak_35, ak_36, ak_37, ak_38, ak_39, ak_40, ak_41, ak_42, ak_43, ak_44, ak_45, ak_46, ak_47]
  | n + 1, o, best, least, b, rf, lr, d, M, x5, x6, h0, h27, h32, h33, h34, ho, ho0, hl => by
    have wo : wr o = o := wr_id (by omega) (by omega)
    have wl : wr least = least := wr_id (by omega) (by omega)
    have no : ¬ 256 ≤ o := by omega
    obtain ⟨e6, e4, e2, e0, et⟩ := bo_e (o := o) ⟨ho0, by omega⟩
    have hb3 := bo_rng o
    have qt := sp_X6_toldOrder o
    rw [et] at qt
    rw [bdg]
    generalize bo o = v at e6 e4 e2 e0 hb3 qt ⊢
    clear et
    have hsm : 0 ≤ bsm v ∧ bsm v ≤ 12 := by
      obtain ⟨a, b, c, d⟩ := hb3
      unfold bsm
      omega
    have es : v.1 + v.2.1 + v.2.2.1 + v.2.2.2 = bsm v := rfl
    have wsm : wr (bsm v) = bsm v := wr_id (by omega) (by omega)
    by_cases h1 : bsm v < least
    · have n1 : ¬ least ≤ bsm v := by omega
      have q2 := sp_X6_findRows (M := M.set 33 (aI (l4 v))) (st := st) (lk := lk) (len := len) (ac := ac) (nx := nx) (rf := rf) (lr := lr) (en := en) (lm := lm) (sd := sd) (g := g) (s := s) (d := d) (b := v) (by simp [-List.getElem?_eq_getElem, h0, gs h0]) (by simp [-List.getElem?_eq_getElem, h27, gs h27]) (by simp [-List.getElem?_eq_getElem, h32, gs h32]) (by simp [-List.getElem?_eq_getElem, h33, gs h33]) (by simp [-List.getElem?_eq_getElem, h34, gs h34]) hst hg hs9 hb3 m (by omega)
      have r2 := fr0_rng st g s v m
      generalize fr0 st g s v m = q at q2 r2 ⊢
      have wq : wr q.1 = q.1 := wr_id (by omega) (by omega)
      by_cases h2 : 0 < q.1
      · rw [if_pos ⟨h1, h2⟩]
        have n2 : ¬ q.1 ≤ 0 := by omega
        obtain ⟨rf', lr', d', b', k, hk, h⟩ := lp_X6_bending (lk := lk) (len := len) (ac := ac) (nx := nx) (en := en) (lm := lm) (sd := sd) hst hg hs9 hm n (o + 1) (fg v) (bsm v) v q.1 q.2 (6, 6, 6, 6) (((M.set 26 (mo st lk len ac nx q.1 q.2 en lm sd)).set 32 (aI (l4 (6, 6, 6, 6)))).set 33 (aI (l4 v))) (some (vI (bsm v))) (some (vI 4)) (by simp [-List.getElem?_eq_getElem, h0, gs h0]) (by simp [-List.getElem?_eq_getElem, h27, gs h27]) (by simp [-List.getElem?_eq_getElem, h32, gs h32]) (by simp [-List.getElem?_eq_getElem, h33, gs h33]) (by simp [-List.getElem?_eq_getElem, h34, gs h34]) (by omega) (by omega) (by omega)
        refine ⟨rf', lr', d', b', k + 149 + 1, by omega, ?_⟩
        rw [rs_X6_bending_28]
        simp [mo, ss (i := 26) (j := 32) (by decide), ss (i := 26) (j := 33) (by decide), ss (i := 32) (j := 33) (by decide)] at h q2 ⊢
        simp [↓ri_X6_bending, rs_X6_bending_0, rs_X6_bending_1, rs_X6_bending_2, rs_X6_bending_3, rs_X6_bending_6, rs_X6_bending_9, rs_X6_bending_12, rs_X6_bending_15, rs_X6_bending_16, rs_X6_bending_19, rs_X6_bending_21, rs_X6_bending_22, rs_X6_bending_24, rs_X6_bending_25, rs_X6_bending_26, rs_X6_bending_30, rs_X6_bending_33, rs_X6_bending_36, rs_X6_bending_37, rs_X6_bending_39, rs_X6_bending_40, rs_X6_bending_42, rs_X6_bending_44, rs_X6_bending_45, rs_X6_bending_48, rs_X6_bending_49, rs_X6_bending_52, rs_X6_bending_54, rs_X6_bending_56, rs_X6_bending_58, rs_X6_bending_59, rs_X6_bending_61, rs_X6_bending_62, rs_X6_bending_63, rs_X6_bending_64, rs_X6_bending_65, rs_X6_bending_66, rs_X6_bending_67, rs_X6_bending_69, rs_X6_bending_70, rs_X6_bending_73, rs_X6_bending_75, rs_X6_bending_76, rs_X6_bending_77, rs_X6_bending_79, rs_X6_bending_82, rs_X6_bending_85, rs_X6_bending_87, rs_X6_bending_88, rs_X6_bending_91, rs_X6_bending_92, rs_X6_bending_93, rs_X6_bending_96, rs_X6_bending_97, rs_X6_bending_100, rs_X6_bending_103, rs_X6_bending_105, rs_X6_bending_108, rs_X6_bending_111, rs_X6_bending_112, rs_X6_bending_113, rs_X6_bending_114, rs_X6_bending_117, rs_X6_bending_120, rs_X6_bending_122, rs_X6_bending_125, rs_X6_bending_126, rs_X6_bending_127, rs_X6_bending_130, rs_X6_bending_133, rs_X6_bending_14, rs_X6_bending_134, -List.getElem?_eq_getElem, am_js, am_e, am_in, am_sl, rI, rZ, rV, rJ, rA, rC, kI, kJ, kR, am_one, am_nl, am_w8, tIc, tLc, tNul, tIld, tLld, tAld, tIst, tLst, tAst, tIinc, tI2, tDv, tL2, tLrem, tLs, tLcmp, tI2l, tL2i, tI2c, tDup, tDup2, tPop, tGo, tIfeq, tIfne, tIflt, tIfge, tIfgt, tIfle, tCmeq, tCmne, tCmlt, tCmge, tCmgt, tCmle, tNu, tTs, tGf, tPf, tGs, tIal, tIas, tBal, tBas, tAln, tSv, tSc, tSb, tSl, tSk, tCv, tCs, tCt, tMx, tMn, wr_10000, wr_100000, wr_1000000, wr_10000000, wr_100000000, wr_2400, wr_9999, wr_0, wr_1, wr_2, wr_3, wr_4, wr_5, wr_6, wr_7, wr_8, wr_9, wr_10, wr_11, wr_12, wr_13, wr_14, wr_15, wr_16, wr_17, wr_18, wr_19, wr_20, wr_21, wr_22, wr_23, wr_24, wr_25, wr_26, wr_27, wr_28, wr_29, wr_30, wr_31, wr_32, wr_33, wr_34, wr_35, wr_36, wr_37, wr_38, wr_39, wr_40, wr_41, wr_42, wr_43, wr_44, wr_45, wr_46, wr_47, wr_48, wr_49, wr_50, wr_51, wr_52, wr_53, wr_54, wr_55, wr_56, wr_57, wr_58, wr_59, wr_60, wr_61, wr_62, wr_63, wr_99, wr_100, wr_192, wr_255, wr_256, wr_343, wr_999, wr_1000, wr_2401, wr_2147483647, wr_65535, wr_m1, wr_m2, wr_m3, wr_m4, wr_m9, ak_1000, ak_1001, ak_1002, ak_0, ak_1, ak_2, ak_3, ak_4, ak_5, ak_6, ak_7, ak_8, ak_9, ak_10, ak_11, ak_12, ak_13, ak_14, ak_15, ak_16, ak_17, ak_18, ak_19, ak_20, ak_21, ak_22, ak_23, ak_24, ak_25, ak_26, ak_27, ak_28, ak_29, ak_30, ak_31, ak_32, ak_33, ak_34, ak_35, ak_36, ak_37, ak_38, ak_39, ak_40, ak_41, ak_42, ak_43, ak_44, ak_45, ak_46, ak_47, h0, h33, mo, wo, wl, no, e6, e4, e2, e0, es, wsm, n1, q2, gs h0, gs h33, wq, n2, qt, ss (i := 26) (j := 32) (by decide), ss (i := 26) (j := 33) (by decide), ss (i := 32) (j := 33) (by decide)]
        exact rm_X6_bending h (by omega)
      · rw [if_neg (fun z => h2 z.2)]
        have n2 : q.1 ≤ 0 := by omega
        obtain ⟨rf', lr', d', b', k, hk, h⟩ := lp_X6_bending (lk := lk) (len := len) (ac := ac) (nx := nx) (en := en) (lm := lm) (sd := sd) hst hg hs9 hm n (o + 1) best least v q.1 q.2 (6, 6, 6, 6) (((M.set 26 (mo st lk len ac nx q.1 q.2 en lm sd)).set 32 (aI (l4 (6, 6, 6, 6)))).set 33 (aI (l4 v))) (some (vI (bsm v))) (some (vI 4)) (by simp [-List.getElem?_eq_getElem, h0, gs h0]) (by simp [-List.getElem?_eq_getElem, h27, gs h27]) (by simp [-List.getElem?_eq_getElem, h32, gs h32]) (by simp [-List.getElem?_eq_getElem, h33, gs h33]) (by simp [-List.getElem?_eq_getElem, h34, gs h34]) (by omega) (by omega) hl
        refine ⟨rf', lr', d', b', k + 149 + 1, by omega, ?_⟩
        rw [rs_X6_bending_28]
        simp [mo, ss (i := 26) (j := 32) (by decide), ss (i := 26) (j := 33) (by decide), ss (i := 32) (j := 33) (by decide)] at h q2 ⊢
        simp [↓ri_X6_bending, rs_X6_bending_0, rs_X6_bending_1, rs_X6_bending_2, rs_X6_bending_3, rs_X6_bending_6, rs_X6_bending_9, rs_X6_bending_12, rs_X6_bending_15, rs_X6_bending_16, rs_X6_bending_19, rs_X6_bending_21, rs_X6_bending_22, rs_X6_bending_24, rs_X6_bending_25, rs_X6_bending_26, rs_X6_bending_30, rs_X6_bending_33, rs_X6_bending_36, rs_X6_bending_37, rs_X6_bending_39, rs_X6_bending_40, rs_X6_bending_42, rs_X6_bending_44, rs_X6_bending_45, rs_X6_bending_48, rs_X6_bending_49, rs_X6_bending_52, rs_X6_bending_54, rs_X6_bending_56, rs_X6_bending_58, rs_X6_bending_59, rs_X6_bending_61, rs_X6_bending_62, rs_X6_bending_63, rs_X6_bending_64, rs_X6_bending_65, rs_X6_bending_66, rs_X6_bending_67, rs_X6_bending_69, rs_X6_bending_70, rs_X6_bending_73, rs_X6_bending_75, rs_X6_bending_76, rs_X6_bending_77, rs_X6_bending_79, rs_X6_bending_82, rs_X6_bending_85, rs_X6_bending_87, rs_X6_bending_88, rs_X6_bending_91, rs_X6_bending_92, rs_X6_bending_93, rs_X6_bending_96, rs_X6_bending_97, rs_X6_bending_100, rs_X6_bending_103, rs_X6_bending_105, rs_X6_bending_108, rs_X6_bending_111, rs_X6_bending_112, rs_X6_bending_113, rs_X6_bending_114, rs_X6_bending_117, rs_X6_bending_120, rs_X6_bending_122, rs_X6_bending_125, rs_X6_bending_126, rs_X6_bending_127, rs_X6_bending_130, rs_X6_bending_133, rs_X6_bending_14, rs_X6_bending_134, -List.getElem?_eq_getElem, am_js, am_e, am_in, am_sl, rI, rZ, rV, rJ, rA, rC, kI, kJ, kR, am_one, am_nl, am_w8, tIc, tLc, tNul, tIld, tLld, tAld, tIst, tLst, tAst, tIinc, tI2, tDv, tL2, tLrem, tLs, tLcmp, tI2l, tL2i, tI2c, tDup, tDup2, tPop, tGo, tIfeq, tIfne, tIflt, tIfge, tIfgt, tIfle, tCmeq, tCmne, tCmlt, tCmge, tCmgt, tCmle, tNu, tTs, tGf, tPf, tGs, tIal, tIas, tBal, tBas, tAln, tSv, tSc, tSb, tSl, tSk, tCv, tCs, tCt, tMx, tMn, wr_10000, wr_100000, wr_1000000, wr_10000000, wr_100000000, wr_2400, wr_9999, wr_0, wr_1, wr_2, wr_3, wr_4, wr_5, wr_6, wr_7, wr_8, wr_9, wr_10, wr_11, wr_12, wr_13, wr_14, wr_15, wr_16, wr_17, wr_18, wr_19, wr_20, wr_21, wr_22, wr_23, wr_24, wr_25, wr_26, wr_27, wr_28, wr_29, wr_30, wr_31, wr_32, wr_33, wr_34, wr_35, wr_36, wr_37, wr_38, wr_39, wr_40, wr_41, wr_42, wr_43, wr_44, wr_45, wr_46, wr_47, wr_48, wr_49, wr_50, wr_51, wr_52, wr_53, wr_54, wr_55, wr_56, wr_57, wr_58, wr_59, wr_60, wr_61, wr_62, wr_63, wr_99, wr_100, wr_192, wr_255, wr_256, wr_343, wr_999, wr_1000, wr_2401, wr_2147483647, wr_65535, wr_m1, wr_m2, wr_m3, wr_m4, wr_m9, ak_1000, ak_1001, ak_1002, ak_0, ak_1, ak_2, ak_3, ak_4, ak_5, ak_6, ak_7, ak_8, ak_9, ak_10, ak_11, ak_12, ak_13, ak_14, ak_15, ak_16, ak_17, ak_18, ak_19, ak_20, ak_21, ak_22, ak_23, ak_24, ak_25, ak_26, ak_27, ak_28, ak_29, ak_30, ak_31, ak_32, ak_33, ak_34, ak_35, ak_36, ak_37, ak_38, ak_39, ak_40, ak_41, ak_42, ak_43, ak_44, ak_45, ak_46, ak_47, h0, h33, mo, wo, wl, no, e6, e4, e2, e0, es, wsm, n1, q2, gs h0, gs h33, wq, n2, ss (i := 26) (j := 32) (by decide), ss (i := 26) (j := 33) (by decide), ss (i := 32) (j := 33) (by decide)]
        exact rm_X6_bending h (by omega)
    · rw [if_neg (fun z => h1 z.1)]
      have n1 : least ≤ bsm v := by omega
      obtain ⟨rf', lr', d', b', k, hk, h⟩ := lp_X6_bending (lk := lk) (len := len) (ac := ac) (nx := nx) (en := en) (lm := lm) (sd := sd) hst hg hs9 hm n (o + 1) best least v rf lr d (M.set 33 (aI (l4 v))) (some (vI (bsm v))) (some (vI 4)) (by simp [-List.getElem?_eq_getElem, h0, gs h0]) (by simp [-List.getElem?_eq_getElem, h27, gs h27]) (by simp [-List.getElem?_eq_getElem, h32, gs h32]) (by simp [-List.getElem?_eq_getElem, h33, gs h33]) (by simp [-List.getElem?_eq_getElem, h34, gs h34]) (by omega) (by omega) hl
      refine ⟨rf', lr', d', b', k + 149 + 1, by omega, ?_⟩
      rw [rs_X6_bending_28]
      simp [mo, ss (i := 26) (j := 32) (by decide), ss (i := 26) (j := 33) (by decide), ss (i := 32) (j := 33) (by decide)] at h ⊢
      simp [↓ri_X6_bending, rs_X6_bending_0, rs_X6_bending_1, rs_X6_bending_2, rs_X6_bending_3, rs_X6_bending_6, rs_X6_bending_9, rs_X6_bending_12, rs_X6_bending_15, rs_X6_bending_16, rs_X6_bending_19, rs_X6_bending_21, rs_X6_bending_22, rs_X6_bending_24, rs_X6_bending_25, rs_X6_bending_26, rs_X6_bending_30, rs_X6_bending_33, rs_X6_bending_36, rs_X6_bending_37, rs_X6_bending_39, rs_X6_bending_40, rs_X6_bending_42, rs_X6_bending_44, rs_X6_bending_45, rs_X6_bending_48, rs_X6_bending_49, rs_X6_bending_52, rs_X6_bending_54, rs_X6_bending_56, rs_X6_bending_58, rs_X6_bending_59, rs_X6_bending_61, rs_X6_bending_62, rs_X6_bending_63, rs_X6_bending_64, rs_X6_bending_65, rs_X6_bending_66, rs_X6_bending_67, rs_X6_bending_69, rs_X6_bending_70, rs_X6_bending_73, rs_X6_bending_75, rs_X6_bending_76, rs_X6_bending_77, rs_X6_bending_79, rs_X6_bending_82, rs_X6_bending_85, rs_X6_bending_87, rs_X6_bending_88, rs_X6_bending_91, rs_X6_bending_92, rs_X6_bending_93, rs_X6_bending_96, rs_X6_bending_97, rs_X6_bending_100, rs_X6_bending_103, rs_X6_bending_105, rs_X6_bending_108, rs_X6_bending_111, rs_X6_bending_112, rs_X6_bending_113, rs_X6_bending_114, rs_X6_bending_117, rs_X6_bending_120, rs_X6_bending_122, rs_X6_bending_125, rs_X6_bending_126, rs_X6_bending_127, rs_X6_bending_130, rs_X6_bending_133, rs_X6_bending_14, rs_X6_bending_134, -List.getElem?_eq_getElem, am_js, am_e, am_in, am_sl, rI, rZ, rV, rJ, rA, rC, kI, kJ, kR, am_one, am_nl, am_w8, tIc, tLc, tNul, tIld, tLld, tAld, tIst, tLst, tAst, tIinc, tI2, tDv, tL2, tLrem, tLs, tLcmp, tI2l, tL2i, tI2c, tDup, tDup2, tPop, tGo, tIfeq, tIfne, tIflt, tIfge, tIfgt, tIfle, tCmeq, tCmne, tCmlt, tCmge, tCmgt, tCmle, tNu, tTs, tGf, tPf, tGs, tIal, tIas, tBal, tBas, tAln, tSv, tSc, tSb, tSl, tSk, tCv, tCs, tCt, tMx, tMn, wr_10000, wr_100000, wr_1000000, wr_10000000, wr_100000000, wr_2400, wr_9999, wr_0, wr_1, wr_2, wr_3, wr_4, wr_5, wr_6, wr_7, wr_8, wr_9, wr_10, wr_11, wr_12, wr_13, wr_14, wr_15, wr_16, wr_17, wr_18, wr_19, wr_20, wr_21, wr_22, wr_23, wr_24, wr_25, wr_26, wr_27, wr_28, wr_29, wr_30, wr_31, wr_32, wr_33, wr_34, wr_35, wr_36, wr_37, wr_38, wr_39, wr_40, wr_41, wr_42, wr_43, wr_44, wr_45, wr_46, wr_47, wr_48, wr_49, wr_50, wr_51, wr_52, wr_53, wr_54, wr_55, wr_56, wr_57, wr_58, wr_59, wr_60, wr_61, wr_62, wr_63, wr_99, wr_100, wr_192, wr_255, wr_256, wr_343, wr_999, wr_1000, wr_2401, wr_2147483647, wr_65535, wr_m1, wr_m2, wr_m3, wr_m4, wr_m9, ak_1000, ak_1001, ak_1002, ak_0, ak_1, ak_2, ak_3, ak_4, ak_5, ak_6, ak_7, ak_8, ak_9, ak_10, ak_11, ak_12, ak_13, ak_14, ak_15, ak_16, ak_17, ak_18, ak_19, ak_20, ak_21, ak_22, ak_23, ak_24, ak_25, ak_26, ak_27, ak_28, ak_29, ak_30, ak_31, ak_32, ak_33, ak_34, ak_35, ak_36, ak_37, ak_38, ak_39, ak_40, ak_41, ak_42, ak_43, ak_44, ak_45, ak_46, ak_47, h0, h33, mo, wo, wl, no, e6, e4, e2, e0, es, wsm, n1, gs h33]
      exact rm_X6_bending h (by omega)
theorem sp_X6_bending {M : List AC} {st lk len ac nx rf lr en lm : Int} {sd : Int64} (h0 : M[26]? = some (mo st lk len ac nx rf lr en lm sd)) {g d b s d' b' s' : F4} (h27 : M[27]? = some (aI (l4 g))) (h28 : M[28]? = some (aI (nw d b s))) (h32 : M[32]? = some (aI (l4 d'))) (h33 : M[33]? = some (aI (l4 b'))) (h34 : M[34]? = some (aI (l4 s'))) (hr : SR st g s d b) (m : Int) (hm : -2147483648 ≤ m ∧ m < 2147483648) : ∃ (rf' lr' : Int) (d1 b1 s1 : F4), fn_X6_bending [vR 26, vI m] M = some (some (vI (if 1 ≤ m ∧ m ≤ 6 then bdg st g s m 256 0 (-9) 99 else -2)), (((M.set 26 (mo st lk len ac nx rf' lr' en lm sd)).set 32 (aI (l4 d1))).set 33 (aI (l4 b1))).set 34 (aI (l4 s1))) := by
  have wm : wr m = m := wr_id (by omega) (by omega)
  by_cases hM : 1 ≤ m ∧ m ≤ 6
  · rw [if_pos hM]
    have q1 := sp_X6_layNow h0 h28 h32 h33 h34
    obtain ⟨rf', lr', d1, b1, k, hk, h⟩ := lp_X6_bending (lk := lk) (len := len) (ac := ac) (nx := nx) (en := en) (lm := lm) (sd := sd) hr.1 hr.2.1 hr.2.2.1 hM 256 0 (-9) 99 b rf lr d (((M.set 32 (aI (l4 d))).set 33 (aI (l4 b))).set 34 (aI (l4 s))) none none (by simp [-List.getElem?_eq_getElem, h0, gs h0]) (by simp [-List.getElem?_eq_getElem, h27, gs h27]) (by simp [-List.getElem?_eq_getElem, h32, gs h32]) (by simp [-List.getElem?_eq_getElem, h33, gs h33]) (by simp [-List.getElem?_eq_getElem, h34, gs h34]) (by omega) (by omega) (by omega)
    generalize bdg st g s m 256 0 (-9) 99 = W at h ⊢
    refine ⟨rf', lr', d1, b1, s, ?_⟩
    simp [mo, ss (i := 26) (j := 32) (by decide), ss (i := 26) (j := 33) (by decide), ss (i := 26) (j := 34) (by decide), ss (i := 32) (j := 33) (by decide), ss (i := 32) (j := 34) (by decide), ss (i := 33) (j := 34) (by decide)] at h q1 ⊢
    (refine am_fnR (tb := tb_X6_bending) (N := 50000) (Nat.le_of_ble_eq_true rfl) (Nat.le_of_ble_eq_true rfl) ?_; show Ru rx_X6_bending 50000 0 _ _ _ _)
    refine ⟨k + 30, by omega, ?_⟩
    simp [↓ri_X6_bending, rs_X6_bending_0, rs_X6_bending_1, rs_X6_bending_2, rs_X6_bending_3, rs_X6_bending_6, rs_X6_bending_9, rs_X6_bending_12, rs_X6_bending_15, rs_X6_bending_16, rs_X6_bending_19, rs_X6_bending_21, rs_X6_bending_22, rs_X6_bending_24, rs_X6_bending_25, rs_X6_bending_26, rs_X6_bending_30, rs_X6_bending_33, rs_X6_bending_36, rs_X6_bending_37, rs_X6_bending_39, rs_X6_bending_40, rs_X6_bending_42, rs_X6_bending_44, rs_X6_bending_45, rs_X6_bending_48, rs_X6_bending_49, rs_X6_bending_52, rs_X6_bending_54, rs_X6_bending_56, rs_X6_bending_58, rs_X6_bending_59, rs_X6_bending_61, rs_X6_bending_62, rs_X6_bending_63, rs_X6_bending_64, rs_X6_bending_65, rs_X6_bending_66, rs_X6_bending_67, rs_X6_bending_69, rs_X6_bending_70, rs_X6_bending_73, rs_X6_bending_75, rs_X6_bending_76, rs_X6_bending_77, rs_X6_bending_79, rs_X6_bending_82, rs_X6_bending_85, rs_X6_bending_87, rs_X6_bending_88, rs_X6_bending_91, rs_X6_bending_92, rs_X6_bending_93, rs_X6_bending_96, rs_X6_bending_97, rs_X6_bending_100, rs_X6_bending_103, rs_X6_bending_105, rs_X6_bending_108, rs_X6_bending_111, rs_X6_bending_112, rs_X6_bending_113, rs_X6_bending_114, rs_X6_bending_117, rs_X6_bending_120, rs_X6_bending_122, rs_X6_bending_125, rs_X6_bending_126, rs_X6_bending_127, rs_X6_bending_130, rs_X6_bending_133, rs_X6_bending_14, rs_X6_bending_134, -List.getElem?_eq_getElem, am_js, am_e, am_in, am_sl, rI, rZ, rV, rJ, rA, rC, kI, kJ, kR, am_one, am_nl, am_w8, tIc, tLc, tNul, tIld, tLld, tAld, tIst, tLst, tAst, tIinc, tI2, tDv, tL2, tLrem, tLs, tLcmp, tI2l, tL2i, tI2c, tDup, tDup2, tPop, tGo, tIfeq, tIfne, tIflt, tIfge, tIfgt, tIfle, tCmeq, tCmne, tCmlt, tCmge, tCmgt, tCmle, tNu, tTs, tGf, tPf, tGs, tIal, tIas, tBal, tBas, tAln, tSv, tSc, tSb, tSl, tSk, tCv, tCs, tCt, tMx, tMn, wr_10000, wr_100000, wr_1000000, wr_10000000, wr_100000000, wr_2400, wr_9999, wr_0, wr_1, wr_2, wr_3, wr_4, wr_5, wr_6, wr_7, wr_8, wr_9, wr_10, wr_11, wr_12, wr_13, wr_14, wr_15, wr_16, wr_17, wr_18, wr_19, wr_20, wr_21, wr_22, wr_23, wr_24, wr_25, wr_26, wr_27, wr_28, wr_29, wr_30, wr_31, wr_32, wr_33, wr_34, wr_35, wr_36, wr_37, wr_38, wr_39, wr_40, wr_41, wr_42, wr_43, wr_44, wr_45, wr_46, wr_47, wr_48, wr_49, wr_50, wr_51, wr_52, wr_53, wr_54, wr_55, wr_56, wr_57, wr_58, wr_59, wr_60, wr_61, wr_62, wr_63, wr_99, wr_100, wr_192, wr_255, wr_256, wr_343, wr_999, wr_1000, wr_2401, wr_2147483647, wr_65535, wr_m1, wr_m2, wr_m3, wr_m4, wr_m9, ak_1000, ak_1001, ak_1002, ak_0, ak_1, ak_2, ak_3, ak_4, ak_5, ak_6, ak_7, ak_8, ak_9, ak_10, ak_11, ak_12, ak_13, ak_14, ak_15, ak_16, ak_17, ak_18, ak_19, ak_20, ak_21, ak_22, ak_23, ak_24, ak_25, ak_26, ak_27, ak_28, ak_29, ak_30, ak_31, ak_32, ak_33, ak_34, ak_35, ak_36, ak_37, ak_38, ak_39, ak_40, ak_41, ak_42, ak_43, ak_44, ak_45, ak_46, ak_47, sp_X6_in, -Int32.toInt_ofInt, -not_and, wr_eq, jt_0, jt_1, jt_2, jt_3, jt_4, jt_5, jt_6, jt_8, jt_12, jt_30, jt_48, jt_49, jt_51, jt_57, jt_255, jt_9999, h0, mo, wm, hM, q1]
    exact rm_X6_bending h (by omega)
  · rw [if_neg hM]
    refine ⟨rf, lr, d', b', s', ?_⟩
    rw [set_same h0, set_same h32, set_same h33, set_same h34]
    (refine am_fnI (tb := tb_X6_bending) (n := 60) (Nat.le_of_ble_eq_true rfl) (Nat.le_of_ble_eq_true rfl) ?_; show rx_X6_bending 60 0 _ _ _ = _)
    simp [↓ri_X6_bending, rs_X6_bending_0, rs_X6_bending_1, rs_X6_bending_2, rs_X6_bending_3, rs_X6_bending_6, rs_X6_bending_9, rs_X6_bending_12, rs_X6_bending_15, rs_X6_bending_16, rs_X6_bending_19, rs_X6_bending_21, rs_X6_bending_22, rs_X6_bending_24, rs_X6_bending_25, rs_X6_bending_26, rs_X6_bending_28, rs_X6_bending_30, rs_X6_bending_33, rs_X6_bending_36, rs_X6_bending_37, rs_X6_bending_39, rs_X6_bending_40, rs_X6_bending_42, rs_X6_bending_44, rs_X6_bending_45, rs_X6_bending_48, rs_X6_bending_49, rs_X6_bending_52, rs_X6_bending_54, rs_X6_bending_56, rs_X6_bending_58, rs_X6_bending_59, rs_X6_bending_61, rs_X6_bending_62, rs_X6_bending_63, rs_X6_bending_64, rs_X6_bending_65, rs_X6_bending_66, rs_X6_bending_67, rs_X6_bending_69, rs_X6_bending_70, rs_X6_bending_73, rs_X6_bending_75, rs_X6_bending_76, rs_X6_bending_77, rs_X6_bending_79, rs_X6_bending_82, rs_X6_bending_85, rs_X6_bending_87, rs_X6_bending_88, rs_X6_bending_91, rs_X6_bending_92, rs_X6_bending_93, rs_X6_bending_96, rs_X6_bending_97, rs_X6_bending_100, rs_X6_bending_103, rs_X6_bending_105, rs_X6_bending_108, rs_X6_bending_111, rs_X6_bending_112, rs_X6_bending_113, rs_X6_bending_114, rs_X6_bending_117, rs_X6_bending_120, rs_X6_bending_122, rs_X6_bending_125, rs_X6_bending_126, rs_X6_bending_127, rs_X6_bending_130, rs_X6_bending_133, rs_X6_bending_14, rs_X6_bending_134, -List.getElem?_eq_getElem, am_js, am_e, am_in, am_sl, rI, rZ, rV, rJ, rA, rC, kI, kJ, kR, am_one, am_nl, am_w8, tIc, tLc, tNul, tIld, tLld, tAld, tIst, tLst, tAst, tIinc, tI2, tDv, tL2, tLrem, tLs, tLcmp, tI2l, tL2i, tI2c, tDup, tDup2, tPop, tGo, tIfeq, tIfne, tIflt, tIfge, tIfgt, tIfle, tCmeq, tCmne, tCmlt, tCmge, tCmgt, tCmle, tNu, tTs, tGf, tPf, tGs, tIal, tIas, tBal, tBas, tAln, tSv, tSc, tSb, tSl, tSk, tCv, tCs, tCt, tMx, tMn, wr_10000, wr_100000, wr_1000000, wr_10000000, wr_100000000, wr_2400, wr_9999, wr_0, wr_1, wr_2, wr_3, wr_4, wr_5, wr_6, wr_7, wr_8, wr_9, wr_10, wr_11, wr_12, wr_13, wr_14, wr_15, wr_16, wr_17, wr_18, wr_19, wr_20, wr_21, wr_22, wr_23, wr_24, wr_25, wr_26, wr_27, wr_28, wr_29, wr_30, wr_31, wr_32, wr_33, wr_34, wr_35, wr_36, wr_37, wr_38, wr_39, wr_40, wr_41, wr_42, wr_43, wr_44, wr_45, wr_46, wr_47, wr_48, wr_49, wr_50, wr_51, wr_52, wr_53, wr_54, wr_55, wr_56, wr_57, wr_58, wr_59, wr_60, wr_61, wr_62, wr_63, wr_99, wr_100, wr_192, wr_255, wr_256, wr_343, wr_999, wr_1000, wr_2401, wr_2147483647, wr_65535, wr_m1, wr_m2, wr_m3, wr_m4, wr_m9, ak_1000, ak_1001, ak_1002, ak_0, ak_1, ak_2, ak_3, ak_4, ak_5, ak_6, ak_7, ak_8, ak_9, ak_10, ak_11, ak_12, ak_13, ak_14, ak_15, ak_16, ak_17, ak_18, ak_19, ak_20, ak_21, ak_22, ak_23, ak_24, ak_25, ak_26, ak_27, ak_28, ak_29, ak_30, ak_31, ak_32, ak_33, ak_34, ak_35, ak_36, ak_37, ak_38, ak_39, ak_40, ak_41, ak_42, ak_43, ak_44, ak_45, ak_46, ak_47, sp_X6_in, -Int32.toInt_ofInt, -not_and, wr_eq, jt_0, jt_1, jt_2, jt_3, jt_4, jt_5, jt_6, jt_8, jt_12, jt_30, jt_48, jt_49, jt_51, jt_57, jt_255, jt_9999, wm, hM]
end
