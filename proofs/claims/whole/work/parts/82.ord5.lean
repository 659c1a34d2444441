noncomputable section
def c5 (a i : Int) : Int := a / pw (3 - i) % 10
/-- an order of four, told as figures -/
def O5 (a : Int) : Prop := (0 ≤ a ∧ a < 10000) ∧ ∀ i : Int, 0 ≤ i → i < 4 → c5 a i < 4
theorem c5_nn (a i : Int) : 0 ≤ c5 a i := Int.emod_nonneg _ (by decide)
abbrev mi_X5_endOf : Mi := (yX5_endOf, cX5_endOf, 5, some .int, 5)
theorem mf_X5_endOf : am_mf mi_X5_endOf 2 := ⟨w_co_X5_endOf, w_in_X5, ⟨by decide +kernel, by decide +kernel⟩, by decide +kernel, by decide⟩
def tb_X5_endOf : List (Nat × Tr) := [(0, tAld 0 1), (1, tGf 5 3), (4, tAld 0 1), (5, tGf 5 2), (8, tCv 4 1 fn_X4_become), (11, tAld 0 1), (12, tGf 5 3), (15, tCv 4 0 fn_X4_takeOff), (18, tIc 0 1), (19, tIst 3 1), (20, tIld 3 1), (21, tIc 4 1), (22, tCmge 72), (25, tIld 1 1), (26, tIc 4 1), (27, tIld 3 1), (28, tCs 3 fn_X5_figureOf), (31, tIst 4 2), (33, tIld 4 2), (35, tCs 1 fn_X5_isCorner), (38, tIfeq 66), (41, tAld 0 1), (42, tGf 5 3), (45, tGf 4 3), (48, tIld 4 2), (50, tIld 2 1), (51, tIc 4 1), (52, tIld 4 2), (54, tCs 3 fn_X5_figureOf), (57, tIas), (58, tAld 0 1), (59, tGf 5 3), (62, tCv 4 0 fn_X4_settle), (65, tPop), (66, tIinc 3 1), (69, tGo 20), (72, tAld 0 1), (73, tGf 5 3), (76, tGf 4 3), (79, tCs 1 fn_X5_asFigures)]
theorem ok_X5_endOf : Tok mi_X5_endOf tb_X5_endOf :=
  Tc (sd_aload_n dX5_endOf_0) <|
  Tc (sd_getf (T := TX5) rfl giX5 (by decide) w_fl_X5_24 dX5_endOf_1) <|
  Tc (sd_aload_n dX5_endOf_4) <|
  Tc (sd_getf (T := TX5) rfl giX5 (by decide) w_fl_X5_20 dX5_endOf_5) <|
  Tc (sd_cv (T := TX4) fok_X4_become mf_X4_become rfl w_ml_X5_124 w_im_X4_become w_se_X4_become (by decide) dX5_endOf_8) <|
  Tc (sd_aload_n dX5_endOf_11) <|
  Tc (sd_getf (T := TX5) rfl giX5 (by decide) w_fl_X5_24 dX5_endOf_12) <|
  Tc (sd_cv (T := TX4) fok_X4_takeOff mf_X4_takeOff rfl w_ml_X5_228 w_im_X4_takeOff w_se_X4_takeOff (by decide) dX5_endOf_15) <|
  Tc (sd_iconst rfl dX5_endOf_18) <|
  Tc (sd_istore_n dX5_endOf_19) <|
  Tc (sd_iload_n dX5_endOf_20) <|
  Tc (sd_iconst rfl dX5_endOf_21) <|
  Tc (sd_cm_ge (by decide) dX5_endOf_22) <|
  Tc (sd_iload_n dX5_endOf_25) <|
  Tc (sd_iconst rfl dX5_endOf_26) <|
  Tc (sd_iload_n dX5_endOf_27) <|
  Tc (sd_cs fok_X5_figureOf mf_X5_figureOf w_ml_X5_161 w_st_X5_figureOf (by decide) dX5_endOf_28) <|
  Tc (sd_istore dX5_endOf_31) <|
  Tc (sd_iload dX5_endOf_33) <|
  Tc (sd_cs fok_X5_isCorner mf_X5_isCorner w_ml_X5_105 w_st_X5_isCorner (by decide) dX5_endOf_35) <|
  Tc (sd_if_eq (by decide) dX5_endOf_38) <|
  Tc (sd_aload_n dX5_endOf_41) <|
  Tc (sd_getf (T := TX5) rfl giX5 (by decide) w_fl_X5_24 dX5_endOf_42) <|
  Tc (sd_getf (T := TX4) rfl giX4 (by decide) w_fl_X5_92 dX5_endOf_45) <|
  Tc (sd_iload dX5_endOf_48) <|
  Tc (sd_iload_n dX5_endOf_50) <|
  Tc (sd_iconst rfl dX5_endOf_51) <|
  Tc (sd_iload dX5_endOf_52) <|
  Tc (sd_cs fok_X5_figureOf mf_X5_figureOf w_ml_X5_161 w_st_X5_figureOf (by decide) dX5_endOf_54) <|
  Tc (sd_ias dX5_endOf_57) <|
  Tc (sd_aload_n dX5_endOf_58) <|
  Tc (sd_getf (T := TX5) rfl giX5 (by decide) w_fl_X5_24 dX5_endOf_59) <|
  Tc (sd_cv (T := TX4) fok_X4_settle mf_X4_settle rfl w_ml_X5_138 w_im_X4_settle w_se_X4_settle (by decide) dX5_endOf_62) <|
  Tc (sd_pop dX5_endOf_65) <|
  Tc (sd_iinc dX5_endOf_66) <|
  Tc (sd_goto (by decide) dX5_endOf_69) <|
  Tc (sd_aload_n dX5_endOf_72) <|
  Tc (sd_getf (T := TX5) rfl giX5 (by decide) w_fl_X5_24 dX5_endOf_73) <|
  Tc (sd_getf (T := TX4) rfl giX4 (by decide) w_fl_X5_92 dX5_endOf_76) <|
  Tc (sd_cs fok_X5_asFigures mf_X5_asFigures w_ml_X5_141 w_st_X5_asFigures (by decide) dX5_endOf_79) <|
  Tn
theorem rk_X5_endOf : Rok mi_X5_endOf rI [82] := rk_i dX5_endOf_82 <| rk_n
def rx_X5_endOf : Nat → Nat → AL → List AV → List AC → Option (Option AV × List AC) := am_r tb_X5_endOf rI [82]
theorem rs_X5_endOf_0 (n : Nat) (L : AL) (st : List AV) (M : List AC) : rx_X5_endOf (n + 1) 0 L st M = am_j (rx_X5_endOf n) ((tAld 0 1) 0 L st M) := rfl
theorem rs_X5_endOf_1 (n : Nat) (L : AL) (st : List AV) (M : List AC) : rx_X5_endOf (n + 1) 1 L st M = am_j (rx_X5_endOf n) ((tGf 5 3) 1 L st M) := rfl
theorem rs_X5_endOf_4 (n : Nat) (L : AL) (st : List AV) (M : List AC) : rx_X5_endOf (n + 1) 4 L st M = am_j (rx_X5_endOf n) ((tAld 0 1) 4 L st M) := rfl
theorem rs_X5_endOf_5 (n : Nat) (L : AL) (st : List AV) (M : List AC) : rx_X5_endOf (n + 1) 5 L st M = am_j (rx_X5_endOf n) ((tGf 5 2) 5 L st M) := rfl
theorem rs_X5_endOf_8 (n : Nat) (L : AL) (st : List AV) (M : List AC) : rx_X5_endOf (n + 1) 8 L st M = am_j (rx_X5_endOf n) ((tCv 4 1 fn_X4_become) 8 L st M) := rfl
theorem rs_X5_endOf_11 (n : Nat) (L : AL) (st : List AV) (M : List AC) : rx_X5_endOf (n + 1) 11 L st M = am_j (rx_X5_endOf n) ((tAld 0 1) 11 L st M) := rfl
theorem rs_X5_endOf_12 (n : Nat) (L : AL) (st : List AV) (M : List AC) : rx_X5_endOf (n + 1) 12 L st M = am_j (rx_X5_endOf n) ((tGf 5 3) 12 L st M) := rfl
theorem rs_X5_endOf_15 (n : Nat) (L : AL) (st : List AV) (M : List AC) : rx_X5_endOf (n + 1) 15 L st M = am_j (rx_X5_endOf n) ((tCv 4 0 fn_X4_takeOff) 15 L st M) := rfl
theorem rs_X5_endOf_18 (n : Nat) (L : AL) (st : List AV) (M : List AC) : rx_X5_endOf (n + 1) 18 L st M = am_j (rx_X5_endOf n) ((tIc 0 1) 18 L st M) := rfl
theorem rs_X5_endOf_19 (n : Nat) (L : AL) (st : List AV) (M : List AC) : rx_X5_endOf (n + 1) 19 L st M = am_j (rx_X5_endOf n) ((tIst 3 1) 19 L st M) := rfl
theorem rs_X5_endOf_20 (n : Nat) (L : AL) (st : List AV) (M : List AC) : rx_X5_endOf (n + 1) 20 L st M = am_j (rx_X5_endOf n) ((tIld 3 1) 20 L st M) := rfl
theorem rs_X5_endOf_21 (n : Nat) (L : AL) (st : List AV) (M : List AC) : rx_X5_endOf (n + 1) 21 L st M = am_j (rx_X5_endOf n) ((tIc 4 1) 21 L st M) := rfl
theorem rs_X5_endOf_22 (n : Nat) (L : AL) (st : List AV) (M : List AC) : rx_X5_endOf (n + 1) 22 L st M = am_j (rx_X5_endOf n) ((tCmge 72) 22 L st M) := rfl
theorem rs_X5_endOf_25 (n : Nat) (L : AL) (st : List AV) (M : List AC) : rx_X5_endOf (n + 1) 25 L st M = am_j (rx_X5_endOf n) ((tIld 1 1) 25 L st M) := rfl
theorem rs_X5_endOf_26 (n : Nat) (L : AL) (st : List AV) (M : List AC) : rx_X5_endOf (n + 1) 26 L st M = am_j (rx_X5_endOf n) ((tIc 4 1) 26 L st M) := rfl
theorem rs_X5_endOf_27 (n : Nat) (L : AL) (st : List AV) (M : List AC) : rx_X5_endOf (n + 1) 27 L st M = am_j (rx_X5_endOf n) ((tIld 3 1) 27 L st M) := rfl
theorem rs_X5_endOf_28 (n : Nat) (L : AL) (st : List AV) (M : List AC) : rx_X5_endOf (n + 1) 28 L st M = am_j (rx_X5_endOf n) ((tCs 3 fn_X5_figureOf) 28 L st M) := rfl
theorem rs_X5_endOf_31 (n : Nat) (L : AL) (st : List AV) (M : List AC) : rx_X5_endOf (n + 1) 31 L st M = am_j (rx_X5_endOf n) ((tIst 4 2) 31 L st M) := rfl
theorem rs_X5_endOf_33 (n : Nat) (L : AL) (st : List AV) (M : List AC) : rx_X5_endOf (n + 1) 33 L st M = am_j (rx_X5_endOf n) ((tIld 4 2) 33 L st M) := rfl
theorem rs_X5_endOf_35 (n : Nat) (L : AL) (st : List AV) (M : List AC) : rx_X5_endOf (n + 1) 35 L st M = am_j (rx_X5_endOf n) ((tCs 1 fn_X5_isCorner) 35 L st M) := rfl
theorem rs_X5_endOf_38 (n : Nat) (L : AL) (st : List AV) (M : List AC) : rx_X5_endOf (n + 1) 38 L st M = am_j (rx_X5_endOf n) ((tIfeq 66) 38 L st M) := rfl
theorem rs_X5_endOf_41 (n : Nat) (L : AL) (st : List AV) (M : List AC) : rx_X5_endOf (n + 1) 41 L st M = am_j (rx_X5_endOf n) ((tAld 0 1) 41 L st M) := rfl
theorem rs_X5_endOf_42 (n : Nat) (L : AL) (st : List AV) (M : List AC) : rx_X5_endOf (n + 1) 42 L st M = am_j (rx_X5_endOf n) ((tGf 5 3) 42 L st M) := rfl
theorem rs_X5_endOf_45 (n : Nat) (L : AL) (st : List AV) (M : List AC) : rx_X5_endOf (n + 1) 45 L st M = am_j (rx_X5_endOf n) ((tGf 4 3) 45 L st M) := rfl
theorem rs_X5_endOf_48 (n : Nat) (L : AL) (st : List AV) (M : List AC) : rx_X5_endOf (n + 1) 48 L st M = am_j (rx_X5_endOf n) ((tIld 4 2) 48 L st M) := rfl
theorem rs_X5_endOf_50 (n : Nat) (L : AL) (st : List AV) (M : List AC) : rx_X5_endOf (n + 1) 50 L st M = am_j (rx_X5_endOf n) ((tIld 2 1) 50 L st M) := rfl
theorem rs_X5_endOf_51 (n : Nat) (L : AL) (st : List AV) (M : List AC) : rx_X5_endOf (n + 1) 51 L st M = am_j (rx_X5_endOf n) ((tIc 4 1) 51 L st M) := rfl
theorem rs_X5_endOf_52 (n : Nat) (L : AL) (st : List AV) (M : List AC) : rx_X5_endOf (n + 1) 52 L st M = am_j (rx_X5_endOf n) ((tIld 4 2) 52 L st M) := rfl
theorem rs_X5_endOf_54 (n : Nat) (L : AL) (st : List AV) (M : List AC) : rx_X5_endOf (n + 1) 54 L st M = am_j (rx_X5_endOf n) ((tCs 3 fn_X5_figureOf) 54 L st M) := rfl
theorem rs_X5_endOf_57 (n : Nat) (L : AL) (st : List AV) (M : List AC) : rx_X5_endOf (n + 1) 57 L st M = am_j (rx_X5_endOf n) (tIas 57 L st M) := rfl
theorem rs_X5_endOf_58 (n : Nat) (L : AL) (st : List AV) (M : List AC) : rx_X5_endOf (n + 1) 58 L st M = am_j (rx_X5_endOf n) ((tAld 0 1) 58 L st M) := rfl
theorem rs_X5_endOf_59 (n : Nat) (L : AL) (st : List AV) (M : List AC) : rx_X5_endOf (n + 1) 59 L st M = am_j (rx_X5_endOf n) ((tGf 5 3) 59 L st M) := rfl
theorem rs_X5_endOf_62 (n : Nat) (L : AL) (st : List AV) (M : List AC) : rx_X5_endOf (n + 1) 62 L st M = am_j (rx_X5_endOf n) ((tCv 4 0 fn_X4_settle) 62 L st M) := rfl
theorem rs_X5_endOf_65 (n : Nat) (L : AL) (st : List AV) (M : List AC) : rx_X5_endOf (n + 1) 65 L st M = am_j (rx_X5_endOf n) (tPop 65 L st M) := rfl
theorem rs_X5_endOf_66 (n : Nat) (L : AL) (st : List AV) (M : List AC) : rx_X5_endOf (n + 1) 66 L st M = am_j (rx_X5_endOf n) ((tIinc 3 1) 66 L st M) := rfl
theorem rs_X5_endOf_69 (n : Nat) (L : AL) (st : List AV) (M : List AC) : rx_X5_endOf (n + 1) 69 L st M = am_j (rx_X5_endOf n) ((tGo 20) 69 L st M) := rfl
theorem rs_X5_endOf_72 (n : Nat) (L : AL) (st : List AV) (M : List AC) : rx_X5_endOf (n + 1) 72 L st M = am_j (rx_X5_endOf n) ((tAld 0 1) 72 L st M) := rfl
theorem rs_X5_endOf_73 (n : Nat) (L : AL) (st : List AV) (M : List AC) : rx_X5_endOf (n + 1) 73 L st M = am_j (rx_X5_endOf n) ((tGf 5 3) 73 L st M) := rfl
theorem rs_X5_endOf_76 (n : Nat) (L : AL) (st : List AV) (M : List AC) : rx_X5_endOf (n + 1) 76 L st M = am_j (rx_X5_endOf n) ((tGf 4 3) 76 L st M) := rfl
theorem rs_X5_endOf_79 (n : Nat) (L : AL) (st : List AV) (M : List AC) : rx_X5_endOf (n + 1) 79 L st M = am_j (rx_X5_endOf n) ((tCs 1 fn_X5_asFigures) 79 L st M) := rfl
theorem rs_X5_endOf_82 (n : Nat) (L : AL) (st : List AV) (M : List AC) : rx_X5_endOf (n + 1) 82 L st M = am_e rI st M := rfl
theorem ri_X5_endOf (c : Prop) [Decidable c] (p q n : Nat) (L : AL) (st : List AV) (M : List AC) : rx_X5_endOf n (if c then p else q) L st M = if c then rx_X5_endOf n p L st M else rx_X5_endOf n q L st M := by split <;> rfl
theorem rm_X5_endOf {n k pc : Nat} {L : AL} {st : List AV} {M : List AC} {x : Option AV × List AC} (h : rx_X5_endOf n pc L st M = some x) (hk : n ≤ k) : rx_X5_endOf k pc L st M = some x := am_r_mono n k h hk
def fn_X5_endOf : Fn := am_fn rx_X5_endOf 5
theorem fok_X5_endOf : Fok mi_X5_endOf fn_X5_endOf := fun _ _ _ _ h => am_fok ok_X5_endOf rk_X5_endOf rfl h
theorem lp_X5_endOf {M : List AC} {len fa ac : Int} {sr : AV} {sd : Int64} (h0 : M[0]? = some (co len fa ac sr sd)) {st' : Int} {g' s' d' b' : F4} (hs' : HS M 7 st' g' s' d' b') {st : Int} {g s b : F4} (hst : 1 ≤ st ∧ st ≤ 3) (hg : i4 1 9 g) (hs9 : i4 0 9 s) (hb : i4 0 3 b) {a x : Int} (ha : O5 a) (hx : 0 ≤ x ∧ x < 10000) (hx6 : i4 0 6 (uf x)) : ∀ (n : Nat) (k : Int) (d : F4) (x4 : Option AV), k + n = 4 → 0 ≤ k → i4 0 6 d →
    Ru rx_X5_endOf (60 * n + 20) 20 [some (vR 0), some (vI a), some (vI x), some (vI k), x4] [] (T5 M st g s d b) (some (vI (fg (pon st g s b x (c5 a) n k d))), T5 M st g s (pon st g s b x (c5 a) n k d) b)
  | 0, k, d, x4, hk, hk0, hd => by
    have e : k = 4 := by omega
    subst e
    have v0 := (T5_ne M st g s d b 0 (by omega)).trans h0
    obtain ⟨v7, -, -, v10, -⟩ := (T5_HS hs' st g s d b).seven
    have q := sp_X5_asFigures (M := T5 M st g s d b) (q := 10) v10 rfl
    refine ⟨19 + 1, by omega, ?_⟩
    rw [rs_X5_endOf_20]
    simp only [pon]
    generalize T5 M st g s d b = V at v0 v7 q ⊢
    simp only [co] at v0
    simp [↓ri_X5_endOf, rs_X5_endOf_0, rs_X5_endOf_1, rs_X5_endOf_4, rs_X5_endOf_5, rs_X5_endOf_8, rs_X5_endOf_11, rs_X5_endOf_12, rs_X5_endOf_15, rs_X5_endOf_18, rs_X5_endOf_19, rs_X5_endOf_21, rs_X5_endOf_22, rs_X5_endOf_25, rs_X5_endOf_26, rs_X5_endOf_27, rs_X5_endOf_28, rs_X5_endOf_31, rs_X5_endOf_33, rs_X5_endOf_35, rs_X5_endOf_38, rs_X5_endOf_41, rs_X5_endOf_42, rs_X5_endOf_45, rs_X5_endOf_48, rs_X5_endOf_50, rs_X5_endOf_51, rs_X5_endOf_52, rs_X5_endOf_54, rs_X5_endOf_57, rs_X5_endOf_58, rs_X5_endOf_59, rs_X5_endOf_62, rs_X5_endOf_65, rs_X5_endOf_66, rs_X5_endOf_69, rs_X5_endOf_72, rs_X5_endOf_73, rs_X5_endOf_76, rs_X5_endOf_79, rs_X5_endOf_82, -List.getElem?_eq_getElem, am_js, am_e, am_in, am_sl, rI, rZ, rV, rJ, rA, rC, kI, kJ, kR, am_one, am_nl, am_w8, tIc, tLc, tNul, tIld, tLld, tAld, tIst, tLst, tAst, tIinc, tI2, tDv, tL2, tLrem, tLs, tLcmp, tI2l, tL2i, tI2c, tDup, tDup2, tPop, tGo, tIfeq, tIfne, tIflt, tIfge, tIfgt, tIfle, tCmeq, tCmne, tCmlt, tCmge, tCmgt, tCmle, tNu, tTs, tGf, tPf, tGs, tIal, tIas, tBal, tBas, tAln, tSv, tSc, tSb, tSl, tSk, tCv, tCs, tCt, tMx, tMn, wr_10000, wr_100000, wr_1000000, wr_10000000, wr_100000000, wr_2400, wr_9999, wr_0, wr_1, wr_2, wr_3, wr_4, wr_5, wr_6, wr_7, wr_8, wr_9, wr_10, wr_11, wr_12, wr_13, wr_14, wr_15, wr_16, wr_17, wr_18, wr_19, wr_20, wr_21, wr_22, wr_23, wr_24, wr_25, wr_26, wr_27, wr_28, wr_29, wr_30, wr_31, wr_32, wr_33, wr_34, wr_35, wr_36, wr_37, wr_38, wr_39, wr_40, wr_41, wr_42, wr_43, wr_44, wr_45, wr_46, wr_47, wr_48, wr_49, wr_50, wr_51, wr_52, wr_53, wr_54, wr_55, wr_56, wr_57, wr_58, wr_59, wr_60, wr_61, wr_62, wr_63, wr_99, wr_100, wr_192, wr_255, wr_256, wr_343, wr_999, wr_1000, wr_2401, wr_2147483647, wr_65535, wr_m1, wr_m2, wr_m3, wr_m4, wr_m9, ak_1000, ak_1001, ak_1002, ak_0, ak_1, ak_2, ak_3, ak_4, ak_5, ak_6, ak_7, ak_8, ak_9, ak_10, ak_11, ak_12, ak_13, ak_14, ak_15, ak_16, ak_17, ak_18, ak_19, ak_20, ak_21, ak_22, ak_23, ak_24, ak_25, ak_26, ak_27, ak_28, ak_29, ak_30, ak_31, ak_32, ak_33, ak_34, ak_35, ak_36, ak_37, ak_38, ak_39, ak_40, ak_41, ak_42, ak_43, ak_44, ak_45, ak_46, ak_47, v0, v7, q]
  | n + 1, k, d, x4, hk, hk0, hd => by
    have wk : wr k = k := wr_id (by omega) (by omega)
    have nk : ¬ 4 ≤ k := by omega
    have q1 := figOf_pw a 4 k (3 - k) (T5 M st g s d b) (by have := ha.1; omega) (by omega) (by omega)
    change fn_X5_figureOf [vI a, vI 4, vI k] (T5 M st g s d b) = some (some (vI (c5 a k)), T5 M st g s d b) at q1
    have hc : 0 ≤ c5 a k ∧ c5 a k < 4 := ⟨c5_nn a k, ha.2 k hk0 (by omega)⟩
    rw [pon]
    generalize c5 a k = c at q1 hc ⊢
    have q2 := figOf_pw x 4 c (3 - c) (T5 M st g s d b) (by omega) (by omega) (by omega)
    have ec : x / pw (3 - c) % 10 = g4 (uf x) c.toNat := by
      rw [uf_g x c.toNat (by omega)]
      have : ((c.toNat : Nat) : Int) = c := by omega
      rw [this]
    rw [ec] at q2
    have hf := i4_g hx6 c.toNat
    have hd' : i4 0 6 (s4 d c.toNat (g4 (uf x) c.toNat)) := i4_s hd _ hf.1 hf.2
    have q3 := sp_X4_settle (T5_HS hs' st g s (s4 d c.toNat (g4 (uf x) c.toNat)) b) ⟨hst, hg, hs9, hd', hb⟩
    simp only [Nat.reduceAdd] at q3
    rw [T5_10, ← T5_10 (d := d) (d' := s4 d c.toNat (g4 (uf x) c.toNat))] at q3
    have hd2 := sl_i4 st g s b 4 _ 0 hd'
    have ih := lp_X5_endOf h0 hs' hst hg hs9 hb ha hx hx6 n (k + 1) (po1 st g s b x d c.toNat) (some (vI c)) (by omega) (by omega) hd2
    clear hd2 hd'
    have v0 := (T5_ne M st g s d b 0 (by omega)).trans h0
    obtain ⟨v7, -, -, v10, -⟩ := (T5_HS hs' st g s d b).seven
    unfold po1 at ih ⊢
    generalize sl st g s b 4 (s4 d c.toNat (g4 (uf x) c.toNat)) 0 = q at q3 ih ⊢
    generalize pon st g s b x (c5 a) n (k + 1) q.1 = R at ih ⊢
    obtain ⟨m, hm, h⟩ := ih
    refine ⟨m + 59 + 1, by omega, ?_⟩
    rw [rs_X5_endOf_20]
    generalize T5 M st g s q.1 b = V2 at q3 h
    generalize T5 M st g s d b = V at q1 q2 q3 v0 v7 v10 ⊢
    simp only [co] at v0
    generalize g4 (uf x) c.toNat = f at q2 q3
    clear ec hf
    rcases c4 hc with rfl | rfl | rfl | rfl <;> simp [s4] at q3 <;>
    simp [↓ri_X5_endOf, rs_X5_endOf_0, rs_X5_endOf_1, rs_X5_endOf_4, rs_X5_endOf_5, rs_X5_endOf_8, rs_X5_endOf_11, rs_X5_endOf_12, rs_X5_endOf_15, rs_X5_endOf_18, rs_X5_endOf_19, rs_X5_endOf_21, rs_X5_endOf_22, rs_X5_endOf_25, rs_X5_endOf_26, rs_X5_endOf_27, rs_X5_endOf_28, rs_X5_endOf_31, rs_X5_endOf_33, rs_X5_endOf_35, rs_X5_endOf_38, rs_X5_endOf_41, rs_X5_endOf_42, rs_X5_endOf_45, rs_X5_endOf_48, rs_X5_endOf_50, rs_X5_endOf_51, rs_X5_endOf_52, rs_X5_endOf_54, rs_X5_endOf_57, rs_X5_endOf_58, rs_X5_endOf_59, rs_X5_endOf_62, rs_X5_endOf_65, rs_X5_endOf_66, rs_X5_endOf_69, rs_X5_endOf_72, rs_X5_endOf_73, rs_X5_endOf_76, rs_X5_endOf_79, rs_X5_endOf_82, -List.getElem?_eq_getElem, am_js, am_e, am_in, am_sl, rI, rZ, rV, rJ, rA, rC, kI, kJ, kR, am_one, am_nl, am_w8, tIc, tLc, tNul, tIld, tLld, tAld, tIst, tLst, tAst, tIinc, tI2, tDv, tL2, tLrem, tLs, tLcmp, tI2l, tL2i, tI2c, tDup, tDup2, tPop, tGo, tIfeq, tIfne, tIflt, tIfge, tIfgt, tIfle, tCmeq, tCmne, tCmlt, tCmge, tCmgt, tCmle, tNu, tTs, tGf, tPf, tGs, tIal, tIas, tBal, tBas, tAln, tSv, tSc, tSb, tSl, tSk, tCv, tCs, tCt, tMx, tMn, wr_10000, wr_100000, wr_1000000, wr_10000000, wr_100000000, wr_2400, wr_9999, wr_0, wr_1, wr_2, wr_3, wr_4, wr_5, wr_6, wr_7, wr_8, wr_9, wr_10, wr_11, wr_12, wr_13, wr_14, wr_15, wr_16, wr_17, wr_18, wr_19, wr_20, wr_21, wr_22, wr_23, wr_24, wr_25, wr_26, wr_27, wr_28, wr_29, wr_30, wr_31, wr_32, wr_33, wr_34, wr_35, wr_36, wr_37, wr_38, wr_39, wr_40, wr_41, wr_42, wr_43, wr_44, wr_45, wr_46, wr_47, wr_48, wr_49, wr_50, wr_51, wr_52, wr_53, wr_54, wr_55, wr_56, wr_57, wr_58, wr_59, wr_60, wr_61, wr_62, wr_63, wr_99, wr_100, wr_192, wr_255, wr_256, wr_343, wr_999, wr_1000, wr_2401, wr_2147483647, wr_65535, wr_m1, wr_m2, wr_m3, wr_m4, wr_m9, ak_1000, ak_1001, ak_1002, ak_0, ak_1, ak_2, ak_3, ak_4, ak_5, ak_6, ak_7, ak_8, ak_9, ak_10, ak_11, ak_12, ak_13, ak_14, ak_15, ak_16, ak_17, ak_18, ak_19, ak_20, ak_21, ak_22, ak_23, ak_24, ak_25, ak_26, ak_27, ak_28, ak_29, ak_30, ak_31, ak_32, ak_33, ak_34, ak_35, ak_36, ak_37, ak_38, ak_39, ak_40, ak_41, ak_42, ak_43, ak_44, ak_45, ak_46, ak_47, v0, v7, v10, gs v7, gs v10, wk, nk, sp_X5_isCorner, q1, q2, q3] <;>
    exact rm_X5_endOf h (by omega)
theorem sp_X5_endOf {M : List AC} {len fa ac : Int} {sr : AV} {sd : Int64} (h0 : M[0]? = some (co len fa ac sr sd)) {st : Int} {g s d b : F4} (hs : HS M 2 st g s d b) {st' : Int} {g' s' d' b' : F4} (hs' : HS M 7 st' g' s' d' b') (hr : SR st g s d b) (a x : Int) (ha : O5 a) (hx : 0 ≤ x ∧ x < 10000) (hx6 : i4 0 6 (uf x)) : fn_X5_endOf [vR 0, vI a, vI x] M = some (some (vI (fg (pon st g s b x (c5 a) 4 0 (0, 0, 0, 0)))), T5 M st g s (pon st g s b x (c5 a) 4 0 (0, 0, 0, 0)) b) := by
  obtain ⟨j0, -⟩ := hs'.seven
  obtain ⟨k, hk, h⟩ := lp_X5_endOf h0 hs' hr.1 hr.2.1 hr.2.2.1 hr.2.2.2.2 ha hx hx6 4 0 (0, 0, 0, 0) none (by omega) (by omega) (i4_z (by decide))
  have q1 := T5_bec hs hs'
  have q2 := sp_X4_takeOff (T5_HS hs' st g s d b)
  simp only [Nat.reduceAdd] at q2
  rw [T5_10] at q2
  have v0 := (T5_ne M st g s d b 0 (by omega)).trans h0
  have v7 := (T5_HS hs' st g s d b).seven.1
  generalize pon st g s b x (c5 a) 4 0 (0, 0, 0, 0) = R at h ⊢
  generalize T5 M st g s (0, 0, 0, 0) b = V2 at q2 h
  generalize T5 M st g s d b = V at q1 q2 v0 v7
  simp only [co] at h0 v0
  (refine am_fnR (tb := tb_X5_endOf) (N := 2000) (Nat.le_of_ble_eq_true rfl) (Nat.le_of_ble_eq_true rfl) ?_; show Ru rx_X5_endOf 2000 0 _ _ _ _)
  refine ⟨k + 30, by omega, ?_⟩
  simp [↓ri_X5_endOf, rs_X5_endOf_0, rs_X5_endOf_1, rs_X5_endOf_4, rs_X5_endOf_5, rs_X5_endOf_8, rs_X5_endOf_11, rs_X5_endOf_12, rs_X5_endOf_15, rs_X5_endOf_18, rs_X5_endOf_19, rs_X5_endOf_21, rs_X5_endOf_22, rs_X5_endOf_25, rs_X5_endOf_26, rs_X5_endOf_27, rs_X5_endOf_28, rs_X5_endOf_31, rs_X5_endOf_33, rs_X5_endOf_35, rs_X5_endOf_38, rs_X5_endOf_41, rs_X5_endOf_42, rs_X5_endOf_45, rs_X5_endOf_48, rs_X5_endOf_50, rs_X5_endOf_51, rs_X5_endOf_52, rs_X5_endOf_54, rs_X5_endOf_57, rs_X5_endOf_58, rs_X5_endOf_59, rs_X5_endOf_62, rs_X5_endOf_65, rs_X5_endOf_66, rs_X5_endOf_69, rs_X5_endOf_72, rs_X5_endOf_73, rs_X5_endOf_76, rs_X5_endOf_79, rs_X5_endOf_82, -List.getElem?_eq_getElem, am_js, am_e, am_in, am_sl, rI, rZ, rV, rJ, rA, rC, kI, kJ, kR, am_one, am_nl, am_w8, tIc, tLc, tNul, tIld, tLld, tAld, tIst, tLst, tAst, tIinc, tI2, tDv, tL2, tLrem, tLs, tLcmp, tI2l, tL2i, tI2c, tDup, tDup2, tPop, tGo, tIfeq, tIfne, tIflt, tIfge, tIfgt, tIfle, tCmeq, tCmne, tCmlt, tCmge, tCmgt, tCmle, tNu, tTs, tGf, tPf, tGs, tIal, tIas, tBal, tBas, tAln, tSv, tSc, tSb, tSl, tSk, tCv, tCs, tCt, tMx, tMn, wr_10000, wr_100000, wr_1000000, wr_10000000, wr_100000000, wr_2400, wr_9999, wr_0, wr_1, wr_2, wr_3, wr_4, wr_5, wr_6, wr_7, wr_8, wr_9, wr_10, wr_11, wr_12, wr_13, wr_14, wr_15, wr_16, wr_17, wr_18, wr_19, wr_20, wr_21, wr_22, wr_23, wr_24, wr_25, wr_26, wr_27, wr_28, wr_29, wr_30, wr_31, wr_32, wr_33, wr_34, wr_35, wr_36, wr_37, wr_38, wr_39, wr_40, wr_41, wr_42, wr_43, wr_44, wr_45, wr_46, wr_47, wr_48, wr_49, wr_50, wr_51, wr_52, wr_53, wr_54, wr_55, wr_56, wr_57, wr_58, wr_59, wr_60, wr_61, wr_62, wr_63, wr_99, wr_100, wr_192, wr_255, wr_256, wr_343, wr_999, wr_1000, wr_2401, wr_2147483647, wr_65535, wr_m1, wr_m2, wr_m3, wr_m4, wr_m9, ak_1000, ak_1001, ak_1002, ak_0, ak_1, ak_2, ak_3, ak_4, ak_5, ak_6, ak_7, ak_8, ak_9, ak_10, ak_11, ak_12, ak_13, ak_14, ak_15, ak_16, ak_17, ak_18, ak_19, ak_20, ak_21, ak_22, ak_23, ak_24, ak_25, ak_26, ak_27, ak_28, ak_29, ak_30, ak_31, ak_32, ak_33, ak_34, ak_35, ak_36, ak_37, ak_38, ak_39, ak_40, ak_41, ak_42, ak_43, ak_44, ak_45, ak_46, ak_47, h0, j0, q1, v0, v7, q2]
  exact rm_X5_endOf h (by omega)
/-- how many of the orders end at e -/
def oc5 (E : Int → Int) (e : Int) : List Int → Int → Int
  | [], z => z
  | a :: l, z => oc5 E e l (z + if E a = e then 1 else 0)
/-- the first of the orders that ends at e -/
def of5 (E : Int → Int) (e : Int) : List Int → Int
  | [] => -9
  | a :: l => if E a = e then a else of5 E e l
def E5 (st : Int) (g s b : F4) (x a : Int) : Int := fg (pon st g s b x (c5 a) 4 0 (0, 0, 0, 0))
theorem ords_len : am_orders.length = 24 := rfl
theorem ords_F : ∀ i : Fin 24, (0 ≤ am_orders.getD i.val 0 ∧ am_orders.getD i.val 0 < 10000) ∧ ∀ k : Fin 4, c5 (am_orders.getD i.val 0) (k.val : Int) < 4 := by decide +kernel
theorem ords_O5 (i : Nat) (hi : i < 24) : O5 (am_orders.getD i 0) := by
  obtain ⟨h1, h2⟩ := ords_F ⟨i, hi⟩
  refine ⟨h1, fun k k0 k4 => ?_⟩
  have := h2 ⟨k.toNat, by omega⟩
  have e : ((k.toNat : Nat) : Int) = k := by omega
  dsimp only at this
  rw [e] at this
  exact this
theorem ords_drop (i : Nat) (hi : i < 24) : am_orders.drop i = am_orders.getD i 0 :: am_orders.drop (i + 1) := by
  have h : i < am_orders.length := hi
  rw [List.drop_eq_getElem_cons h]
  simp [List.getD, h]
theorem E5_rng (st : Int) (g s b : F4) {x : Int} (hx6 : i4 0 6 (uf x)) (a : Int) : 0 ≤ E5 st g s b x a ∧ E5 st g s b x a < 10000 := fg_rng (pon_i4 st g s b x hx6 (c5 a) 4 0 (0, 0, 0, 0) (i4_z (by decide))) (by decide)
abbrev mi_X5_ordersTo : Mi := (yX5_ordersTo, cX5_ordersTo, 5, some .int, 6)
theorem mf_X5_ordersTo : am_mf mi_X5_ordersTo 2 := ⟨w_co_X5_ordersTo, w_in_X5, ⟨by decide +kernel, by decide +kernel⟩, by decide +kernel, by decide⟩
def tb_X5_ordersTo : List (Nat × Tr) := [(0, tIc 0 1), (1, tIst 3 1), (2, tIc 0 1), (3, tIst 4 2), (5, tIld 4 2), (7, tGs (vR 1002)), (10, tAln), (11, tCmge 43), (14, tIld 3 1), (15, tAld 0 1), (16, tGs (vR 1002)), (19, tIld 4 2), (21, tIal), (22, tIld 1 1), (23, tCv 5 2 fn_X5_endOf), (26, tIld 2 1), (27, tCmne 34), (30, tIc 1 1), (31, tGo 35), (34, tIc 0 1), (35, tI2 (fun a b => a + b)), (36, tIst 3 1), (37, tIinc 4 1), (40, tGo 5), (43, tIld 3 1)]
theorem ok_X5_ordersTo : Tok mi_X5_ordersTo tb_X5_ordersTo :=
  Tc (sd_iconst rfl dX5_ordersTo_0) <|
  Tc (sd_istore_n dX5_ordersTo_1) <|
  Tc (sd_iconst rfl dX5_ordersTo_2) <|
  Tc (sd_istore dX5_ordersTo_3) <|
  Tc (sd_iload dX5_ordersTo_5) <|
  Tc (sd_gsOrders w_fl_X5_222 dX5_ordersTo_7) <|
  Tc (sd_aln dX5_ordersTo_10) <|
  Tc (sd_cm_ge (by decide) dX5_ordersTo_11) <|
  Tc (sd_iload_n dX5_ordersTo_14) <|
  Tc (sd_aload_n dX5_ordersTo_15) <|
  Tc (sd_gsOrders w_fl_X5_222 dX5_ordersTo_16) <|
  Tc (sd_iload dX5_ordersTo_19) <|
  Tc (sd_ial dX5_ordersTo_21) <|
  Tc (sd_iload_n dX5_ordersTo_22) <|
  Tc (sd_cv (T := TX5) fok_X5_endOf mf_X5_endOf rfl w_ml_X5_257 w_im_X5_endOf w_se_X5_endOf (by decide) dX5_ordersTo_23) <|
  Tc (sd_iload_n dX5_ordersTo_26) <|
  Tc (sd_cm_ne (by decide) dX5_ordersTo_27) <|
  Tc (sd_iconst rfl dX5_ordersTo_30) <|
  Tc (sd_goto (by decide) dX5_ordersTo_31) <|
  Tc (sd_iconst rfl dX5_ordersTo_34) <|
  Tc (sd_iadd dX5_ordersTo_35) <|
  Tc (sd_istore_n dX5_ordersTo_36) <|
  Tc (sd_iinc dX5_ordersTo_37) <|
  Tc (sd_goto (by decide) dX5_ordersTo_40) <|
  Tc (sd_iload_n dX5_ordersTo_43) <|
  Tn
theorem rk_X5_ordersTo : Rok mi_X5_ordersTo rI [44] := rk_i dX5_ordersTo_44 <| rk_n
def rx_X5_ordersTo : Nat → Nat → AL → List AV → List AC → Option (Option AV × List AC) := am_r tb_X5_ordersTo rI [44]
theorem rs_X5_ordersTo_0 (n : Nat) (L : AL) (st : List AV) (M : List AC) : rx_X5_ordersTo (n + 1) 0 L st M = am_j (rx_X5_ordersTo n) ((tIc 0 1) 0 L st M) := rfl
theorem rs_X5_ordersTo_1 (n : Nat) (L : AL) (st : List AV) (M : List AC) : rx_X5_ordersTo (n + 1) 1 L st M = am_j (rx_X5_ordersTo n) ((tIst 3 1) 1 L st M) := rfl
theorem rs_X5_ordersTo_2 (n : Nat) (L : AL) (st : List AV) (M : List AC) : rx_X5_ordersTo (n + 1) 2 L st M = am_j (rx_X5_ordersTo n) ((tIc 0 1) 2 L st M) := rfl
theorem rs_X5_ordersTo_3 (n : Nat) (L : AL) (st : List AV) (M : List AC) : rx_X5_ordersTo (n + 1) 3 L st M = am_j (rx_X5_ordersTo n) ((tIst 4 2) 3 L st M) := rfl
theorem rs_X5_ordersTo_5 (n : Nat) (L : AL) (st : List AV) (M : List AC) : rx_X5_ordersTo (n + 1) 5 L st M = am_j (rx_X5_ordersTo n) ((tIld 4 2) 5 L st M) := rfl
theorem rs_X5_ordersTo_7 (n : Nat) (L : AL) (st : List AV) (M : List AC) : rx_X5_ordersTo (n + 1) 7 L st M = am_j (rx_X5_ordersTo n) ((tGs (vR 1002)) 7 L st M) := rfl
theorem rs_X5_ordersTo_10 (n : Nat) (L : AL) (st : List AV) (M : List AC) : rx_X5_ordersTo (n + 1) 10 L st M = am_j (rx_X5_ordersTo n) (tAln 10 L st M) := rfl
theorem rs_X5_ordersTo_11 (n : Nat) (L : AL) (st : List AV) (M : List AC) : rx_X5_ordersTo (n + 1) 11 L st M = am_j (rx_X5_ordersTo n) ((tCmge 43) 11 L st M) := rfl
theorem rs_X5_ordersTo_14 (n : Nat) (L : AL) (st : List AV) (M : List AC) : rx_X5_ordersTo (n + 1) 14 L st M = am_j (rx_X5_ordersTo n) ((tIld 3 1) 14 L st M) := rfl
theorem rs_X5_ordersTo_15 (n : Nat) (L : AL) (st : List AV) (M : List AC) : rx_X5_ordersTo (n + 1) 15 L st M = am_j (rx_X5_ordersTo n) ((tAld 0 1) 15 L st M) := rfl
theorem rs_X5_ordersTo_16 (n : Nat) (L : AL) (st : List AV) (M : List AC) : rx_X5_ordersTo (n + 1) 16 L st M = am_j (rx_X5_ordersTo n) ((tGs (vR 1002)) 16 L st M) := rfl
theorem rs_X5_ordersTo_19 (n : Nat) (L : AL) (st : List AV) (M : List AC) : rx_X5_ordersTo (n + 1) 19 L st M = am_j (rx_X5_ordersTo n) ((tIld 4 2) 19 L st M) := rfl
theorem rs_X5_ordersTo_21 (n : Nat) (L : AL) (st : List AV) (M : List AC) : rx_X5_ordersTo (n + 1) 21 L st M = am_j (rx_X5_ordersTo n) (tIal 21 L st M) := rfl
theorem rs_X5_ordersTo_22 (n : Nat) (L : AL) (st : List AV) (M : List AC) : rx_X5_ordersTo (n + 1) 22 L st M = am_j (rx_X5_ordersTo n) ((tIld 1 1) 22 L st M) := rfl
theorem rs_X5_ordersTo_23 (n : Nat) (L : AL) (st : List AV) (M : List AC) : rx_X5_ordersTo (n + 1) 23 L st M = am_j (rx_X5_ordersTo n) ((tCv 5 2 fn_X5_endOf) 23 L st M) := rfl
theorem rs_X5_ordersTo_26 (n : Nat) (L : AL) (st : List AV) (M : List AC) : rx_X5_ordersTo (n + 1) 26 L st M = am_j (rx_X5_ordersTo n) ((tIld 2 1) 26 L st M) := rfl
theorem rs_X5_ordersTo_27 (n : Nat) (L : AL) (st : List AV) (M : List AC) : rx_X5_ordersTo (n + 1) 27 L st M = am_j (rx_X5_ordersTo n) ((tCmne 34) 27 L st M) := rfl
theorem rs_X5_ordersTo_30 (n : Nat) (L : AL) (st : List AV) (M : List AC) : rx_X5_ordersTo (n + 1) 30 L st M = am_j (rx_X5_ordersTo n) ((tIc 1 1) 30 L st M) := rfl
theorem rs_X5_ordersTo_31 (n : Nat) (L : AL) (st : List AV) (M : List AC) : rx_X5_ordersTo (n + 1) 31 L st M = am_j (rx_X5_ordersTo n) ((tGo 35) 31 L st M) := rfl
theorem rs_X5_ordersTo_34 (n : Nat) (L : AL) (st : List AV) (M : List AC) : rx_X5_ordersTo (n + 1) 34 L st M = am_j (rx_X5_ordersTo n) ((tIc 0 1) 34 L st M) := rfl
theorem rs_X5_ordersTo_35 (n : Nat) (L : AL) (st : List AV) (M : List AC) : rx_X5_ordersTo (n + 1) 35 L st M = am_j (rx_X5_ordersTo n) ((tI2 (fun a b => a + b)) 35 L st M) := rfl
theorem rs_X5_ordersTo_36 (n : Nat) (L : AL) (st : List AV) (M : List AC) : rx_X5_ordersTo (n + 1) 36 L st M = am_j (rx_X5_ordersTo n) ((tIst 3 1) 36 L st M) := rfl
theorem rs_X5_ordersTo_37 (n : Nat) (L : AL) (st : List AV) (M : List AC) : rx_X5_ordersTo (n + 1) 37 L st M = am_j (rx_X5_ordersTo n) ((tIinc 4 1) 37 L st M) := rfl
theorem rs_X5_ordersTo_40 (n : Nat) (L : AL) (st : List AV) (M : List AC) : rx_X5_ordersTo (n + 1) 40 L st M = am_j (rx_X5_ordersTo n) ((tGo 5) 40 L st M) := rfl
theorem rs_X5_ordersTo_43 (n : Nat) (L : AL) (st : List AV) (M : List AC) : rx_X5_ordersTo (n + 1) 43 L st M = am_j (rx_X5_ordersTo n) ((tIld 3 1) 43 L st M) := rfl
theorem rs_X5_ordersTo_44 (n : Nat) (L : AL) (st : List AV) (M : List AC) : rx_X5_ordersTo (n + 1) 44 L st M = am_e rI st M := rfl
theorem ri_X5_ordersTo (c : Prop) [Decidable c] (p q n : Nat) (L : AL) (st : List AV) (M : List AC) : rx_X5_ordersTo n (if c then p else q) L st M = if c then rx_X5_ordersTo n p L st M else rx_X5_ordersTo n q L st M := by split <;> rfl
theorem rm_X5_ordersTo {n k pc : Nat} {L : AL} {st : List AV} {M : List AC} {x : Option AV × List AC} (h : rx_X5_ordersTo n pc L st M = some x) (hk : n ≤ k) : rx_X5_ordersTo k pc L st M = some x := am_r_mono n k h hk
def fn_X5_ordersTo : Fn := am_fn rx_X5_ordersTo 5
theorem fok_X5_ordersTo : Fok mi_X5_ordersTo fn_X5_ordersTo := fun _ _ _ _ h => am_fok ok_X5_ordersTo rk_X5_ordersTo rfl h
theorem lp_X5_ordersTo {M : List AC} {len fa ac : Int} {sr : AV} {sd : Int64} (h0 : M[0]? = some (co len fa ac sr sd)) {st : Int} {g s d b : F4} (hs : HS M 2 st g s d b) {st' : Int} {g' s' d' b' : F4} (hs' : HS M 7 st' g' s' d' b') (hr : SR st g s d b) {x e : Int} (hx : 0 ≤ x ∧ x < 10000) (hx6 : i4 0 6 (uf x)) (he : -10000 ≤ e ∧ e ≤ 10000) : ∀ (n i : Nat) (z st2 : Int) (g2 s2 d2 b2 : F4), i + n = 24 →
    ∃ (st1 : Int) (g1 s1 d1 b1 : F4), Ru rx_X5_ordersTo (40 * n + 10) 5 [some (vR 0), some (vI x), some (vI e), some (vI z), some (vI (i : Int))] [] (T5 M st2 g2 s2 d2 b2) (some (vI (oc5 (E5 st g s b x) e (am_orders.drop i) z)), T5 M st1 g1 s1 d1 b1)
  | 0, i, z, st2, g2, s2, d2, b2, hi => by
    have e1 : i = 24 := by omega
    subst e1
    refine ⟨st2, g2, s2, d2, b2, 9 + 1, by omega, ?_⟩
    rw [rs_X5_ordersTo_5]
    have ed : am_orders.drop 24 = [] := rfl
    rw [ed, oc5]
    simp [↓ri_X5_ordersTo, rs_X5_ordersTo_0, rs_X5_ordersTo_1, rs_X5_ordersTo_2, rs_X5_ordersTo_3, rs_X5_ordersTo_7, rs_X5_ordersTo_10, rs_X5_ordersTo_11, rs_X5_ordersTo_14, rs_X5_ordersTo_15, rs_X5_ordersTo_16, rs_X5_ordersTo_19, rs_X5_ordersTo_21, rs_X5_ordersTo_22, rs_X5_ordersTo_23, rs_X5_ordersTo_26, rs_X5_ordersTo_27, rs_X5_ordersTo_30, rs_X5_ordersTo_31, rs_X5_ordersTo_34, rs_X5_ordersTo_35, rs_X5_ordersTo_36, rs_X5_ordersTo_37, rs_X5_ordersTo_40, rs_X5_ordersTo_43, rs_X5_ordersTo_44, -List.getElem?_eq_getElem, am_js, am_e, am_in, am_sl, rI, rZ, rV, rJ, rA, rC, kI, kJ, kR, am_one, am_nl, am_w8, tIc, tLc, tNul, tIld, tLld, tAld, tIst, tLst, tAst, tIinc, tI2, tDv, tL2, tLrem, tLs, tLcmp, tI2l, tL2i, tI2c, tDup, tDup2, tPop, tGo, tIfeq, tIfne, tIflt, tIfge, tIfgt, tIfle, tCmeq, tCmne, tCmlt, tCmge, tCmgt, tCmle, tNu, tTs, tGf, tPf, tGs, tIal, tIas, tBal, tBas, tAln, tSv, tSc, tSb, tSl, tSk, tCv, tCs, tCt, tMx, tMn, wr_10000, wr_100000, wr_1000000, wr_10000000, wr_100000000, wr_2400, wr_9999, wr_0, wr_1, wr_2, wr_3, wr_4, wr_5, wr_6, wr_7, wr_8, wr_9, wr_10, wr_11, wr_12, wr_13, wr_14, wr_15, wr_16, wr_17, wr_18, wr_19, wr_20, wr_21, wr_22, wr_23, wr_24, wr_25, wr_26, wr_27, wr_28, wr_29, wr_30, wr_31, wr_32, wr_33, wr_34, wr_35, wr_36, wr_37, wr_38, wr_39, wr_40, wr_41, wr_42, wr_43, wr_44, wr_45, wr_46, wr_47, wr_48, wr_49, wr_50, wr_51, wr_52, wr_53, wr_54, wr_55, wr_56, wr_57, wr_58, wr_59, wr_60, wr_61, wr_62, wr_63, wr_99, wr_100, wr_192, wr_255, wr_256, wr_343, wr_999, wr_1000, wr_2401, wr_2147483647, wr_65535, wr_m1, wr_m2, wr_m3, wr_m4, wr_m9, ak_1000, ak_1001, ak_1002, ak_0, ak_1, ak_2, ak_3, ak_4, ak_5, ak_6, ak_7, ak_8, ak_9, ak_10, ak_11, ak_12, ak_13, ak_14, ak_15, ak_16, ak_17, ak_18, ak_19, ak_20, ak_21, ak_22, ak_23, ak_24, ak_25, ak_26, ak_27, ak_28, ak_29, ak_30, ak_31, ak_32, ak_33, ak_34, ak_35, ak_36, ak_37, ak_38, ak_39, ak_40, ak_41, ak_42, ak_43, ak_44, ak_45, ak_46, ak_47, ords_len]
  | n + 1, i, z, st2, g2, s2, d2, b2, hi => by
    have wi : wr (i : Int) = i := wr_id (by omega) (by omega)
    have we : wr e = e := wr_id (by omega) (by omega)
    have ni : ¬ (24 : Int) ≤ i := by omega
    have i24 : i < 24 := by omega
    have ii24 : (i : Int) < 24 := by omega
    rw [ords_drop i i24, oc5]
    have hO := ords_O5 i i24
    have hsT : HS (T5 M st2 g2 s2 d2 b2) 2 st g s d b := ⟨hs.1, (T5_ne M st2 g2 s2 d2 b2 2 (by omega)).trans hs.two.1, (T5_ne M st2 g2 s2 d2 b2 3 (by omega)).trans hs.two.2.1, (T5_ne M st2 g2 s2 d2 b2 4 (by omega)).trans hs.two.2.2.1, (T5_ne M st2 g2 s2 d2 b2 5 (by omega)).trans hs.two.2.2.2.1, (T5_ne M st2 g2 s2 d2 b2 6 (by omega)).trans hs.two.2.2.2.2⟩
    have v0 := (T5_ne M st2 g2 s2 d2 b2 0 (by omega)).trans h0
    have q1 := sp_X5_endOf v0 hsT (T5_HS hs' st2 g2 s2 d2 b2) hr (am_orders.getD i 0) x hO hx hx6
    have hE := E5_rng st g s b hx6 (am_orders.getD i 0)
    change fn_X5_endOf [vR 0, vI (am_orders.getD i 0), vI x] _ = some (some (vI (E5 st g s b x (am_orders.getD i 0))), _) at q1
    generalize pon st g s b x (c5 (am_orders.getD i 0)) 4 0 (0, 0, 0, 0) = R at q1
    have eT : T5 (T5 M st2 g2 s2 d2 b2) st g s R b = T5 M st g s R b := by simp [T5, ss (i := 7) (j := 8) (by decide), ss (i := 7) (j := 9) (by decide), ss (i := 7) (j := 10) (by decide), ss (i := 7) (j := 11) (by decide), ss (i := 8) (j := 9) (by decide), ss (i := 8) (j := 10) (by decide), ss (i := 8) (j := 11) (by decide), ss (i := 9) (j := 10) (by decide), ss (i := 9) (j := 11) (by decide), ss (i := 10) (j := 11) (by decide)]
    rw [eT] at q1
    generalize E5 st g s b x (am_orders.getD i 0) = f at q1 hE ⊢
    have wf : wr f = f := wr_id (by omega) (by omega)
    obtain ⟨st1, g1, s1, d1, b1, k, hk, h⟩ := lp_X5_ordersTo h0 hs hs' hr hx hx6 he n (i + 1) (z + if f = e then 1 else 0) st g s R b (by omega)
    refine ⟨st1, g1, s1, d1, b1, k + 39 + 1, by omega, ?_⟩
    rw [rs_X5_ordersTo_5]
    have e1 : ((i + 1 : Nat) : Int) = (i : Int) + 1 := by omega
    rw [e1] at h
    generalize oc5 (E5 st g s b x) e (am_orders.drop (i + 1)) (z + if f = e then 1 else 0) = W at h ⊢
    generalize T5 M st g s R b = V2 at q1 h
    generalize T5 M st2 g2 s2 d2 b2 = V at q1 v0 ⊢
    simp only [co] at v0
    generalize hoi : am_orders.getD i 0 = oi at q1
    clear hO
    by_cases hfe : f = e
    · rw [if_pos hfe] at h
      simp [↓ri_X5_ordersTo, rs_X5_ordersTo_0, rs_X5_ordersTo_1, rs_X5_ordersTo_2, rs_X5_ordersTo_3, rs_X5_ordersTo_7, rs_X5_ordersTo_10, rs_X5_ordersTo_11, rs_X5_ordersTo_14, rs_X5_ordersTo_15, rs_X5_ordersTo_16, rs_X5_ordersTo_19, rs_X5_ordersTo_21, rs_X5_ordersTo_22, rs_X5_ordersTo_23, rs_X5_ordersTo_26, rs_X5_ordersTo_27, rs_X5_ordersTo_30, rs_X5_ordersTo_31, rs_X5_ordersTo_34, rs_X5_ordersTo_35, rs_X5_ordersTo_36, rs_X5_ordersTo_37, rs_X5_ordersTo_40, rs_X5_ordersTo_43, rs_X5_ordersTo_44, -List.getElem?_eq_getElem, am_js, am_e, am_in, am_sl, rI, rZ, rV, rJ, rA, rC, kI, kJ, kR, am_one, am_nl, am_w8, tIc, tLc, tNul, tIld, tLld, tAld, tIst, tLst, tAst, tIinc, tI2, tDv, tL2, tLrem, tLs, tLcmp, tI2l, tL2i, tI2c, tDup, tDup2, tPop, tGo, tIfeq, tIfne, tIflt, tIfge, tIfgt, tIfle, tCmeq, tCmne, tCmlt, tCmge, tCmgt, tCmle, tNu, tTs, tGf, tPf, tGs, tIal, tIas, tBal, tBas, tAln, tSv, tSc, tSb, tSl, tSk, tCv, tCs, tCt, tMx, tMn, wr_10000, wr_100000, wr_1000000, wr_10000000, wr_100000000, wr_2400, wr_9999, wr_0, wr_1, wr_2, wr_3, wr_4, wr_5, wr_6, wr_7, wr_8, wr_9, wr_10, wr_11, wr_12, wr_13, wr_14, wr_15, wr_16, wr_17, wr_18, wr_19, wr_20, wr_21, wr_22, wr_23, wr_24, wr_25, wr_26, wr_27, wr_28, wr_29, wr_30, wr_31, wr_32, wr_33, wr_34, wr_35, wr_36, wr_37, wr_38, wr_39, wr_40, wr_41, wr_42, wr_43, wr_44, wr_45, wr_46, wr_47, wr_48, wr_49, wr_50, wr_51, wr_52, wr_53, wr_54, wr_55, wr_56, wr_57, wr_58, wr_59, wr_60, wr_61, wr_62, wr_63, wr_99, wr_100, wr_192, wr_255, wr_256, wr_343, wr_999, wr_1000, wr_2401, wr_2147483647, wr_65535, wr_m1, wr_m2, wr_m3, wr_m4, wr_m9, ak_1000, ak_1001, ak_1002, ak_0, ak_1, ak_2, ak_3, ak_4, ak_5, ak_6, ak_7, ak_8, ak_9, ak_10, ak_11, ak_12, ak_13, ak_14, ak_15, ak_16, ak_17, ak_18, ak_19, ak_20, ak_21, ak_22, ak_23, ak_24, ak_25, ak_26, ak_27, ak_28, ak_29, ak_30, ak_31, ak_32, ak_33, ak_34, ak_35, ak_36, ak_37, ak_38, ak_39, ak_40, ak_41, ak_42, ak_43, ak_44, ak_45, ak_46, ak_47, -List.getD_eq_getElem?_getD, ords_len, wi, we, ni, ii24, hoi, v0, q1, wf, hfe]
      exact rm_X5_ordersTo h (Nat.le_add_right _ _)
    · rw [if_neg hfe, Int.add_zero] at h
      simp [↓ri_X5_ordersTo, rs_X5_ordersTo_0, rs_X5_ordersTo_1, rs_X5_ordersTo_2, rs_X5_ordersTo_3, rs_X5_ordersTo_7, rs_X5_ordersTo_10, rs_X5_ordersTo_11, rs_X5_ordersTo_14, rs_X5_ordersTo_15, rs_X5_ordersTo_16, rs_X5_ordersTo_19, rs_X5_ordersTo_21, rs_X5_ordersTo_22, rs_X5_ordersTo_23, rs_X5_ordersTo_26, rs_X5_ordersTo_27, rs_X5_ordersTo_30, rs_X5_ordersTo_31, rs_X5_ordersTo_34, rs_X5_ordersTo_35, rs_X5_ordersTo_36, rs_X5_ordersTo_37, rs_X5_ordersTo_40, rs_X5_ordersTo_43, rs_X5_ordersTo_44, -List.getElem?_eq_getElem, am_js, am_e, am_in, am_sl, rI, rZ, rV, rJ, rA, rC, kI, kJ, kR, am_one, am_nl, am_w8, tIc, tLc, tNul, tIld, tLld, tAld, tIst, tLst, tAst, tIinc, tI2, tDv, tL2, tLrem, tLs, tLcmp, tI2l, tL2i, tI2c, tDup, tDup2, tPop, tGo, tIfeq, tIfne, tIflt, tIfge, tIfgt, tIfle, tCmeq, tCmne, tCmlt, tCmge, tCmgt, tCmle, tNu, tTs, tGf, tPf, tGs, tIal, tIas, tBal, tBas, tAln, tSv, tSc, tSb, tSl, tSk, tCv, tCs, tCt, tMx, tMn, wr_10000, wr_100000, wr_1000000, wr_10000000, wr_100000000, wr_2400, wr_9999, wr_0, wr_1, wr_2, wr_3, wr_4, wr_5, wr_6, wr_7, wr_8, wr_9, wr_10, wr_11, wr_12, wr_13, wr_14, wr_15, wr_16, wr_17, wr_18, wr_19, wr_20, wr_21, wr_22, wr_23, wr_24, wr_25, wr_26, wr_27, wr_28, wr_29, wr_30, wr_31, wr_32, wr_33, wr_34, wr_35, wr_36, wr_37, wr_38, wr_39, wr_40, wr_41, wr_42, wr_43, wr_44, wr_45, wr_46, wr_47, wr_48, wr_49, wr_50, wr_51, wr_52, wr_53, wr_54, wr_55, wr_56, wr_57, wr_58, wr_59, wr_60, wr_61, wr_62, wr_63, wr_99, wr_100, wr_192, wr_255, wr_256, wr_343, wr_999, wr_1000, wr_2401, wr_2147483647, wr_65535, wr_m1, wr_m2, wr_m3, wr_m4, wr_m9, ak_1000, ak_1001, ak_1002, ak_0, ak_1, ak_2, ak_3, ak_4, ak_5, ak_6, ak_7, ak_8, ak_9, ak_10, ak_11, ak_12, ak_13, ak_14, ak_15, ak_16, ak_17, ak_18, ak_19, ak_20, ak_21, ak_22, ak_23, ak_24, ak_25, ak_26, ak_27, ak_28, ak_29, ak_30, ak_31, ak_32, ak_33, ak_34, ak_35, ak_36, ak_37, ak_38, ak_39, ak_40, ak_41, ak_42, ak_43, ak_44, ak_45, ak_46, ak_47, -List.getD_eq_getElem?_getD, ords_len, wi, we, ni, ii24, hoi, v0, q1, wf, hfe]
      exact rm_X5_ordersTo h (Nat.le_add_right _ _)
theorem sp_X5_ordersTo {M : List AC} {len fa ac : Int} {sr : AV} {sd : Int64} (h0 : M[0]? = some (co len fa ac sr sd)) {st : Int} {g s d b : F4} (hs : HS M 2 st g s d b) {st' : Int} {g' s' d' b' : F4} (hs' : HS M 7 st' g' s' d' b') (hr : SR st g s d b) (x e : Int) (hx : 0 ≤ x ∧ x < 10000) (hx6 : i4 0 6 (uf x)) (he : -10000 ≤ e ∧ e ≤ 10000) : ∃ (st1 : Int) (g1 s1 d1 b1 : F4), fn_X5_ordersTo [vR 0, vI x, vI e] M = some (some (vI (oc5 (E5 st g s b x) e am_orders 0)), T5 M st1 g1 s1 d1 b1) := by
  obtain ⟨st1, g1, s1, d1, b1, k, hk, h⟩ := lp_X5_ordersTo h0 hs hs' hr hx hx6 he 24 0 0 st' g' s' d' b' (by omega)
  rw [T5_same hs', List.drop_zero] at h
  refine ⟨st1, g1, s1, d1, b1, ?_⟩
  generalize oc5 (E5 st g s b x) e am_orders 0 = W at h ⊢
  (refine am_fnR (tb := tb_X5_ordersTo) (N := 2000) (Nat.le_of_ble_eq_true rfl) (Nat.le_of_ble_eq_true rfl) ?_; show Ru rx_X5_ordersTo 2000 0 _ _ _ _)
  refine ⟨k + 5, by omega, ?_⟩
  simp [↓ri_X5_ordersTo, rs_X5_ordersTo_0, rs_X5_ordersTo_1, rs_X5_ordersTo_2, rs_X5_ordersTo_3, rs_X5_ordersTo_7, rs_X5_ordersTo_10, rs_X5_ordersTo_11, rs_X5_ordersTo_14, rs_X5_ordersTo_15, rs_X5_ordersTo_16, rs_X5_ordersTo_19, rs_X5_ordersTo_21, rs_X5_ordersTo_22, rs_X5_ordersTo_23, rs_X5_ordersTo_26, rs_X5_ordersTo_27, rs_X5_ordersTo_30, rs_X5_ordersTo_31, rs_X5_ordersTo_34, rs_X5_ordersTo_35, rs_X5_ordersTo_36, rs_X5_ordersTo_37, rs_X5_ordersTo_40, rs_X5_ordersTo_43, rs_X5_ordersTo_44, -List.getElem?_eq_getElem, am_js, am_e, am_in, am_sl, rI, rZ, rV, rJ, rA, rC, kI, kJ, kR, am_one, am_nl, am_w8, tIc, tLc, tNul, tIld, tLld, tAld, tIst, tLst, tAst, tIinc, tI2, tDv, tL2, tLrem, tLs, tLcmp, tI2l, tL2i, tI2c, tDup, tDup2, tPop, tGo, tIfeq, tIfne, tIflt, tIfge, tIfgt, tIfle, tCmeq, tCmne, tCmlt, tCmge, tCmgt, tCmle, tNu, tTs, tGf, tPf, tGs, tIal, tIas, tBal, tBas, tAln, tSv, tSc, tSb, tSl, tSk, tCv, tCs, tCt, tMx, tMn, wr_10000, wr_100000, wr_1000000, wr_10000000, wr_100000000, wr_2400, wr_9999, wr_0, wr_1, wr_2, wr_3, wr_4, wr_5, wr_6, wr_7, wr_8, wr_9, wr_10, wr_11, wr_12, wr_13, wr_14, wr_15, wr_16, wr_17, wr_18, wr_19, wr_20, wr_21, wr_22, wr_23, wr_24, wr_25, wr_26, wr_27, wr_28, wr_29, wr_30, wr_31, wr_32, wr_33, wr_34, wr_35, wr_36, wr_37, wr_38, wr_39, wr_40, wr_41, wr_42, wr_43, wr_44, wr_45, wr_46, wr_47, wr_48, wr_49, wr_50, wr_51, wr_52, wr_53, wr_54, wr_55, wr_56, wr_57, wr_58, wr_59, wr_60, wr_61, wr_62, wr_63, wr_99, wr_100, wr_192, wr_255, wr_256, wr_343, wr_999, wr_1000, wr_2401, wr_2147483647, wr_65535, wr_m1, wr_m2, wr_m3, wr_m4, wr_m9, ak_1000, ak_1001, ak_1002, ak_0, ak_1, ak_2, ak_3, ak_4, ak_5, ak_6, ak_7, ak_8, ak_9, ak_10, ak_11, ak_12, ak_13, ak_14, ak_15, ak_16, ak_17, ak_18, ak_19, ak_20, ak_21, ak_22, ak_23, ak_24, ak_25, ak_26, ak_27, ak_28, ak_29, ak_30, ak_31, ak_32, ak_33, ak_34, ak_35, ak_36, ak_37, ak_38, ak_39, ak_40, ak_41, ak_42, ak_43, ak_44, ak_45, ak_46, ak_47]
  exact rm_X5_ordersTo h (by omega)
abbrev mi_X5_firstOrder : Mi := (yX5_firstOrder, cX5_firstOrder, 3, some .int, 6)
theorem mf_X5_firstOrder : am_mf mi_X5_firstOrder 1 := ⟨w_co_X5_firstOrder, w_in_X5, ⟨by decide +kernel, by decide +kernel⟩, by decide +kernel, by decide⟩
def tb_X5_firstOrder : List (Nat × Tr) := [(0, tIc 0 1), (1, tIst 2 1), (2, tIld 2 1), (3, tGs (vR 1002)), (6, tAln), (7, tCmge 36), (10, tAld 0 1), (11, tGs (vR 1002)), (14, tIld 2 1), (15, tIal), (16, tIld 1 1), (17, tCv 5 2 fn_X5_endOf), (20, tIld 1 1), (21, tCmne 30), (24, tGs (vR 1002)), (27, tIld 2 1), (28, tIal), (30, tIinc 2 1), (33, tGo 2), (36, tIc (-9) 2)]
theorem ok_X5_firstOrder : Tok mi_X5_firstOrder tb_X5_firstOrder :=
  Tc (sd_iconst rfl dX5_firstOrder_0) <|
  Tc (sd_istore_n dX5_firstOrder_1) <|
  Tc (sd_iload_n dX5_firstOrder_2) <|
  Tc (sd_gsOrders w_fl_X5_222 dX5_firstOrder_3) <|
  Tc (sd_aln dX5_firstOrder_6) <|
  Tc (sd_cm_ge (by decide) dX5_firstOrder_7) <|
  Tc (sd_aload_n dX5_firstOrder_10) <|
  Tc (sd_gsOrders w_fl_X5_222 dX5_firstOrder_11) <|
  Tc (sd_iload_n dX5_firstOrder_14) <|
  Tc (sd_ial dX5_firstOrder_15) <|
  Tc (sd_iload_n dX5_firstOrder_16) <|
  Tc (sd_cv (T := TX5) fok_X5_endOf mf_X5_endOf rfl w_ml_X5_257 w_im_X5_endOf w_se_X5_endOf (by decide) dX5_firstOrder_17) <|
  Tc (sd_iload_n dX5_firstOrder_20) <|
  Tc (sd_cm_ne (by decide) dX5_firstOrder_21) <|
  Tc (sd_gsOrders w_fl_X5_222 dX5_firstOrder_24) <|
  Tc (sd_iload_n dX5_firstOrder_27) <|
  Tc (sd_ial dX5_firstOrder_28) <|
  Tc (sd_iinc dX5_firstOrder_30) <|
  Tc (sd_goto (by decide) dX5_firstOrder_33) <|
  Tc (sd_bipush (by decide +kernel) dX5_firstOrder_36) <|
  Tn
theorem rk_X5_firstOrder : Rok mi_X5_firstOrder rI [29, 38] := rk_i dX5_firstOrder_29 <| rk_i dX5_firstOrder_38 <| rk_n
def rx_X5_firstOrder : Nat → Nat → AL → List AV → List AC → Option (Option AV × List AC) := am_r tb_X5_firstOrder rI [29, 38]
theorem rs_X5_firstOrder_0 (n : Nat) (L : AL) (st : List AV) (M : List AC) : rx_X5_firstOrder (n + 1) 0 L st M = am_j (rx_X5_firstOrder n) ((tIc 0 1) 0 L st M) := rfl
theorem rs_X5_firstOrder_1 (n : Nat) (L : AL) (st : List AV) (M : List AC) : rx_X5_firstOrder (n + 1) 1 L st M = am_j (rx_X5_firstOrder n) ((tIst 2 1) 1 L st M) := rfl
theorem rs_X5_firstOrder_2 (n : Nat) (L : AL) (st : List AV) (M : List AC) : rx_X5_firstOrder (n + 1) 2 L st M = am_j (rx_X5_firstOrder n) ((tIld 2 1) 2 L st M) := rfl
theorem rs_X5_firstOrder_3 (n : Nat) (L : AL) (st : List AV) (M : List AC) : rx_X5_firstOrder (n + 1) 3 L st M = am_j (rx_X5_firstOrder n) ((tGs (vR 1002)) 3 L st M) := rfl
theorem rs_X5_firstOrder_6 (n : Nat) (L : AL) (st : List AV) (M : List AC) : rx_X5_firstOrder (n + 1) 6 L st M = am_j (rx_X5_firstOrder n) (tAln 6 L st M) := rfl
theorem rs_X5_firstOrder_7 (n : Nat) (L : AL) (st : List AV) (M : List AC) : rx_X5_firstOrder (n + 1) 7 L st M = am_j (rx_X5_firstOrder n) ((tCmge 36) 7 L st M) := rfl
theorem rs_X5_firstOrder_10 (n : Nat) (L : AL) (st : List AV) (M : List AC) : rx_X5_firstOrder (n + 1) 10 L st M = am_j (rx_X5_firstOrder n) ((tAld 0 1) 10 L st M) := rfl
theorem rs_X5_firstOrder_11 (n : Nat) (L : AL) (st : List AV) (M : List AC) : rx_X5_firstOrder (n + 1) 11 L st M = am_j (rx_X5_firstOrder n) ((tGs (vR 1002)) 11 L st M) := rfl
theorem rs_X5_firstOrder_14 (n : Nat) (L : AL) (st : List AV) (M : List AC) : rx_X5_firstOrder (n + 1) 14 L st M = am_j (rx_X5_firstOrder n) ((tIld 2 1) 14 L st M) := rfl
theorem rs_X5_firstOrder_15 (n : Nat) (L : AL) (st : List AV) (M : List AC) : rx_X5_firstOrder (n + 1) 15 L st M = am_j (rx_X5_firstOrder n) (tIal 15 L st M) := rfl
theorem rs_X5_firstOrder_16 (n : Nat) (L : AL) (st : List AV) (M : List AC) : rx_X5_firstOrder (n + 1) 16 L st M = am_j (rx_X5_firstOrder n) ((tIld 1 1) 16 L st M) := rfl
theorem rs_X5_firstOrder_17 (n : Nat) (L : AL) (st : List AV) (M : List AC) : rx_X5_firstOrder (n + 1) 17 L st M = am_j (rx_X5_firstOrder n) ((tCv 5 2 fn_X5_endOf) 17 L st M) := rfl
theorem rs_X5_firstOrder_20 (n : Nat) (L : AL) (st : List AV) (M : List AC) : rx_X5_firstOrder (n + 1) 20 L st M = am_j (rx_X5_firstOrder n) ((tIld 1 1) 20 L st M) := rfl
theorem rs_X5_firstOrder_21 (n : Nat) (L : AL) (st : List AV) (M : List AC) : rx_X5_firstOrder (n + 1) 21 L st M = am_j (rx_X5_firstOrder n) ((tCmne 30) 21 L st M) := rfl
theorem rs_X5_firstOrder_24 (n : Nat) (L : AL) (st : List AV) (M : List AC) : rx_X5_firstOrder (n + 1) 24 L st M = am_j (rx_X5_firstOrder n) ((tGs (vR 1002)) 24 L st M) := rfl
theorem rs_X5_firstOrder_27 (n : Nat) (L : AL) (st : List AV) (M : List AC) : rx_X5_firstOrder (n + 1) 27 L st M = am_j (rx_X5_firstOrder n) ((tIld 2 1) 27 L st M) := rfl
theorem rs_X5_firstOrder_28 (n : Nat) (L : AL) (st : List AV) (M : List AC) : rx_X5_firstOrder (n + 1) 28 L st M = am_j (rx_X5_firstOrder n) (tIal 28 L st M) := rfl
theorem rs_X5_firstOrder_30 (n : Nat) (L : AL) (st : List AV) (M : List AC) : rx_X5_firstOrder (n + 1) 30 L st M = am_j (rx_X5_firstOrder n) ((tIinc 2 1) 30 L st M) := rfl
theorem rs_X5_firstOrder_33 (n : Nat) (L : AL) (st : List AV) (M : List AC) : rx_X5_firstOrder (n + 1) 33 L st M = am_j (rx_X5_firstOrder n) ((tGo 2) 33 L st M) := rfl
theorem rs_X5_firstOrder_36 (n : Nat) (L : AL) (st : List AV) (M : List AC) : rx_X5_firstOrder (n + 1) 36 L st M = am_j (rx_X5_firstOrder n) ((tIc (-9) 2) 36 L st M) := rfl
theorem rs_X5_firstOrder_29 (n : Nat) (L : AL) (st : List AV) (M : List AC) : rx_X5_firstOrder (n + 1) 29 L st M = am_e rI st M := rfl
theorem rs_X5_firstOrder_38 (n : Nat) (L : AL) (st : List AV) (M : List AC) : rx_X5_firstOrder (n + 1) 38 L st M = am_e rI st M := rfl
theorem ri_X5_firstOrder (c : Prop) [Decidable c] (p q n : Nat) (L : AL) (st : List AV) (M : List AC) : rx_X5_firstOrder n (if c then p else q) L st M = if c then rx_X5_firstOrder n p L st M else rx_X5_firstOrder n q L st M := by split <;> rfl
theorem rm_X5_firstOrder {n k pc : Nat} {L : AL} {st : List AV} {M : List AC} {x : Option AV × List AC} (h : rx_X5_firstOrder n pc L st M = some x) (hk : n ≤ k) : rx_X5_firstOrder k pc L st M = some x := am_r_mono n k h hk
def fn_X5_firstOrder : Fn := am_fn rx_X5_firstOrder 3
theorem fok_X5_firstOrder : Fok mi_X5_firstOrder fn_X5_firstOrder := fun _ _ _ _ h => am_fok ok_X5_firstOrder rk_X5_firstOrder rfl h
theorem lp_X5_firstOrder {M : List AC} {len fa ac : Int} {sr : AV} {sd : Int64} (h0 : M[0]? = some (co len fa ac sr sd)) {st : Int} {g s d b : F4} (hs : HS M 2 st g s d b) {st' : Int} {g' s' d' b' : F4} (hs' : HS M 7 st' g' s' d' b') (hr : SR st g s d b) {x : Int} (hx : 0 ≤ x ∧ x < 10000) (hx6 : i4 0 6 (uf x)) : ∀ (n i : Nat) (st2 : Int) (g2 s2 d2 b2 : F4), i + n = 24 →
    ∃ (st1 : Int) (g1 s1 d1 b1 : F4), Ru rx_X5_firstOrder (40 * n + 10) 2 [some (vR 0), some (vI x), some (vI (i : Int))] [] (T5 M st2 g2 s2 d2 b2) (some (vI (of5 (E5 st g s b x) x (am_orders.drop i))), T5 M st1 g1 s1 d1 b1)
  | 0, i, st2, g2, s2, d2, b2, hi => by
    have e1 : i = 24 := by omega
    subst e1
    refine ⟨st2, g2, s2, d2, b2, 9 + 1, by omega, ?_⟩
    rw [rs_X5_firstOrder_2]
    have ed : am_orders.drop 24 = [] := rfl
    rw [ed, of5]
    simp [↓ri_X5_firstOrder, rs_X5_firstOrder_0, rs_X5_firstOrder_1, rs_X5_firstOrder_3, rs_X5_firstOrder_6, rs_X5_firstOrder_7, rs_X5_firstOrder_10, rs_X5_firstOrder_11, rs_X5_firstOrder_14, rs_X5_firstOrder_15, rs_X5_firstOrder_16, rs_X5_firstOrder_17, rs_X5_firstOrder_20, rs_X5_firstOrder_21, rs_X5_firstOrder_24, rs_X5_firstOrder_27, rs_X5_firstOrder_28, rs_X5_firstOrder_30, rs_X5_firstOrder_33, rs_X5_firstOrder_36, rs_X5_firstOrder_29, rs_X5_firstOrder_38, -List.getElem?_eq_getElem, am_js, am_e, am_in, am_sl, rI, rZ, rV, rJ, rA, rC, kI, kJ, kR, am_one, am_nl, am_w8, tIc, tLc, tNul, tIld, tLld, tAld, tIst, tLst, tAst, tIinc, tI2, tDv, tL2, tLrem, tLs, tLcmp, tI2l, tL2i, tI2c, tDup, tDup2, tPop, tGo, tIfeq, tIfne, tIflt, tIfge, tIfgt, tIfle, tCmeq, tCmne, tCmlt, tCmge, tCmgt, tCmle, tNu, tTs, tGf, tPf, tGs, tIal, tIas, tBal, tBas, tAln, tSv, tSc, tSb, tSl, tSk, tCv, tCs, tCt, tMx, tMn, wr_10000, wr_100000, wr_1000000, wr_10000000, wr_100000000, wr_2400, wr_9999, wr_0, wr_1, wr_2, wr_3, wr_4, wr_5, wr_6, wr_7, wr_8, wr_9, wr_10, wr_11, wr_12, wr_13, wr_14, wr_15, wr_16, wr_17, wr_18, wr_19, wr_20, wr_21, wr_22, wr_23, wr_24, wr_25, wr_26, wr_27, wr_28, wr_29, wr_30, wr_31, wr_32, wr_33, wr_34, wr_35, wr_36, wr_37, wr_38, wr_39, wr_40, wr_41, wr_42, wr_43, wr_44, wr_45, wr_46, wr_47, wr_48, wr_49, wr_50, wr_51, wr_52, wr_53, wr_54, wr_55, wr_56, wr_57, wr_58, wr_59, wr_60, wr_61, wr_62, wr_63, wr_99, wr_100, wr_192, wr_255, wr_256, wr_343, wr_999, wr_1000, wr_2401, wr_2147483647, wr_65535, wr_m1, wr_m2, wr_m3, wr_m4, wr_m9, ak_1000, ak_1001, ak_1002, ak_0, ak_1, ak_2, ak_3, ak_4, ak_5, ak_6, ak_7, ak_8, ak_9, ak_10, ak_11, ak_12, ak_13, ak_14, ak_15, ak_16, ak_17, ak_18, ak_19, ak_20, ak_21, ak_22, ak_23, ak_24, ak_25, ak_26, ak_27, ak_28, ak_29, ak_30, ak_31, ak_32, ak_33, ak_34, ak_35, ak_36, ak_37, ak_38, ak_39, ak_40, ak_41, ak_42, ak_43, ak_44, ak_45, ak_46, ak_47, ords_len]
  | n + 1, i, st2, g2, s2, d2, b2, hi => by
    have wi : wr (i : Int) = i := wr_id (by omega) (by omega)
    have we : wr x = x := wr_id (by omega) (by omega)
    have ni : ¬ (24 : Int) ≤ i := by omega
    have i24 : i < 24 := by omega
    have ii24 : (i : Int) < 24 := by omega
    rw [ords_drop i i24, of5]
    have hO := ords_O5 i i24
    have hsT : HS (T5 M st2 g2 s2 d2 b2) 2 st g s d b := ⟨hs.1, (T5_ne M st2 g2 s2 d2 b2 2 (by omega)).trans hs.two.1, (T5_ne M st2 g2 s2 d2 b2 3 (by omega)).trans hs.two.2.1, (T5_ne M st2 g2 s2 d2 b2 4 (by omega)).trans hs.two.2.2.1, (T5_ne M st2 g2 s2 d2 b2 5 (by omega)).trans hs.two.2.2.2.1, (T5_ne M st2 g2 s2 d2 b2 6 (by omega)).trans hs.two.2.2.2.2⟩
    have v0 := (T5_ne M st2 g2 s2 d2 b2 0 (by omega)).trans h0
    have q1 := sp_X5_endOf v0 hsT (T5_HS hs' st2 g2 s2 d2 b2) hr (am_orders.getD i 0) x hO hx hx6
    have hE := E5_rng st g s b hx6 (am_orders.getD i 0)
    change fn_X5_endOf [vR 0, vI (am_orders.getD i 0), vI x] _ = some (some (vI (E5 st g s b x (am_orders.getD i 0))), _) at q1
    generalize pon st g s b x (c5 (am_orders.getD i 0)) 4 0 (0, 0, 0, 0) = R at q1
    have eT : T5 (T5 M st2 g2 s2 d2 b2) st g s R b = T5 M st g s R b := by simp [T5, ss (i := 7) (j := 8) (by decide), ss (i := 7) (j := 9) (by decide), ss (i := 7) (j := 10) (by decide), ss (i := 7) (j := 11) (by decide), ss (i := 8) (j := 9) (by decide), ss (i := 8) (j := 10) (by decide), ss (i := 8) (j := 11) (by decide), ss (i := 9) (j := 10) (by decide), ss (i := 9) (j := 11) (by decide), ss (i := 10) (j := 11) (by decide)]
    rw [eT] at q1
    generalize E5 st g s b x (am_orders.getD i 0) = f at q1 hE ⊢
    have wf : wr f = f := wr_id (by omega) (by omega)
    by_cases hfe : f = x
    · rw [if_pos hfe]
      refine ⟨st, g, s, R, b, 39 + 1, by omega, ?_⟩
      rw [rs_X5_firstOrder_2]
      generalize T5 M st g s R b = V2 at q1 ⊢
      generalize T5 M st2 g2 s2 d2 b2 = V at q1 v0 ⊢
      simp only [co] at v0
      generalize hoi : am_orders.getD i 0 = oi at q1
      clear hO
      simp [↓ri_X5_firstOrder, rs_X5_firstOrder_0, rs_X5_firstOrder_1, rs_X5_firstOrder_3, rs_X5_firstOrder_6, rs_X5_firstOrder_7, rs_X5_firstOrder_10, rs_X5_firstOrder_11, rs_X5_firstOrder_14, rs_X5_firstOrder_15, rs_X5_firstOrder_16, rs_X5_firstOrder_17, rs_X5_firstOrder_20, rs_X5_firstOrder_21, rs_X5_firstOrder_24, rs_X5_firstOrder_27, rs_X5_firstOrder_28, rs_X5_firstOrder_30, rs_X5_firstOrder_33, rs_X5_firstOrder_36, rs_X5_firstOrder_29, rs_X5_firstOrder_38, -List.getElem?_eq_getElem, am_js, am_e, am_in, am_sl, rI, rZ, rV, rJ, rA, rC, kI, kJ, kR, am_one, am_nl, am_w8, tIc, tLc, tNul, tIld, tLld, tAld, tIst, tLst, tAst, tIinc, tI2, tDv, tL2, tLrem, tLs, tLcmp, tI2l, tL2i, tI2c, tDup, tDup2, tPop, tGo, tIfeq, tIfne, tIflt, tIfge, tIfgt, tIfle, tCmeq, tCmne, tCmlt, tCmge, tCmgt, tCmle, tNu, tTs, tGf, tPf, tGs, tIal, tIas, tBal, tBas, tAln, tSv, tSc, tSb, tSl, tSk, tCv, tCs, tCt, tMx, tMn, wr_10000, wr_100000, wr_1000000, wr_10000000, wr_100000000, wr_2400, wr_9999, wr_0, wr_1, wr_2, wr_3, wr_4, wr_5, wr_6, wr_7, wr_8, wr_9, wr_10, wr_11, wr_12, wr_13, wr_14, wr_15, wr_16, wr_17, wr_18, wr_19, wr_20, wr_21, wr_22, wr_23, wr_24, wr_25, wr_26, wr_27, wr_28, wr_29, wr_30, wr_31, wr_32, wr_33, wr_34, wr_35, wr_36, wr_37, wr_38, wr_39, wr_40, wr_41, wr_42, wr_43, wr_44, wr_45, wr_46, wr_47, wr_48, wr_49, wr_50, wr_51, wr_52, wr_53, wr_54, wr_55, wr_56, wr_57, wr_58, wr_59, wr_60, wr_61, wr_62, wr_63, wr_99, wr_100, wr_192, wr_255, wr_256, wr_343, wr_999, wr_1000, wr_2401, wr_2147483647, wr_65535, wr_m1, wr_m2, wr_m3, wr_m4, wr_m9, ak_1000, ak_1001, ak_1002, ak_0, ak_1, ak_2, ak_3, ak_4, ak_5, ak_6, ak_7, ak_8, ak_9, ak_10, ak_11, ak_12, ak_13, ak_14, ak_15, ak_16, ak_17, ak_18, ak_19, ak_20, ak_21, ak_22, ak_23, ak_24, ak_25, ak_26, ak_27, ak_28, ak_29, ak_30, ak_31, ak_32, ak_33, ak_34, ak_35, ak_36, ak_37, ak_38, ak_39, ak_40, ak_41, ak_42, ak_43, ak_44, ak_45, ak_46, ak_47, -List.getD_eq_getElem?_getD, ords_len, wi, we, ni, ii24, hoi, v0, q1, wf, hfe]
    · rw [if_neg hfe]
      obtain ⟨st1, g1, s1, d1, b1, k, hk, h⟩ := lp_X5_firstOrder h0 hs hs' hr hx hx6 n (i + 1) st g s R b (by omega)
      refine ⟨st1, g1, s1, d1, b1, k + 39 + 1, by omega, ?_⟩
      rw [rs_X5_firstOrder_2]
      have e1 : ((i + 1 : Nat) : Int) = (i : Int) + 1 := by omega
      rw [e1] at h
      generalize of5 (E5 st g s b x) x (am_orders.drop (i + 1)) = W at h ⊢
      generalize T5 M st g s R b = V2 at q1 h
      generalize T5 M st2 g2 s2 d2 b2 = V at q1 v0 ⊢
      simp only [co] at v0
      generalize hoi : am_orders.getD i 0 = oi at q1
      clear hO
      simp [↓ri_X5_firstOrder, rs_X5_firstOrder_0, rs_X5_firstOrder_1, rs_X5_firstOrder_3, rs_X5_firstOrder_6, rs_X5_firstOrder_7, rs_X5_firstOrder_10, rs_X5_firstOrder_11, rs_X5_firstOrder_14, rs_X5_firstOrder_15, rs_X5_firstOrder_16, rs_X5_firstOrder_17, rs_X5_firstOrder_20, rs_X5_firstOrder_21, rs_X5_firstOrder_24, rs_X5_firstOrder_27, rs_X5_firstOrder_28, rs_X5_firstOrder_30, rs_X5_firstOrder_33, rs_X5_firstOrder_36, rs_X5_firstOrder_29, rs_X5_firstOrder_38, -List.getElem?_eq_getElem, am_js, am_e, am_in, am_sl, rI, rZ, rV, rJ, rA, rC, kI, kJ, kR, am_one, am_nl, am_w8, tIc, tLc, tNul, tIld, tLld, tAld, tIst, tLst, tAst, tIinc, tI2, tDv, tL2, tLrem, tLs, tLcmp, tI2l, tL2i, tI2c, tDup, tDup2, tPop, tGo, tIfeq, tIfne, tIflt, tIfge, tIfgt, tIfle, tCmeq, tCmne, tCmlt, tCmge, tCmgt, tCmle, tNu, tTs, tGf, tPf, tGs, tIal, tIas, tBal, tBas, tAln, tSv, tSc, tSb, tSl, tSk, tCv, tCs, tCt, tMx, tMn, wr_10000, wr_100000, wr_1000000, wr_10000000, wr_100000000, wr_2400, wr_9999, wr_0, wr_1, wr_2, wr_3, wr_4, wr_5, wr_6, wr_7, wr_8, wr_9, wr_10, wr_11, wr_12, wr_13, wr_14, wr_15, wr_16, wr_17, wr_18, wr_19, wr_20, wr_21, wr_22, wr_23, wr_24, wr_25, wr_26, wr_27, wr_28, wr_29, wr_30, wr_31, wr_32, wr_33, wr_34, wr_35, wr_36, wr_37, wr_38, wr_39, wr_40, wr_41, wr_42, wr_43, wr_44, wr_45, wr_46, wr_47, wr_48, wr_49, wr_50, wr_51, wr_52, wr_53, wr_54, wr_55, wr_56, wr_57, wr_58, wr_59, wr_60, wr_61, wr_62, wr_63, wr_99, wr_100, wr_192, wr_255, wr_256, wr_343, wr_999, wr_1000, wr_2401, wr_2147483647, wr_65535, wr_m1, wr_m2, wr_m3, wr_m4, wr_m9, ak_1000, ak_1001, ak_1002, ak_0, ak_1, ak_2, ak_3, ak_4, ak_5, ak_6, ak_7, ak_8, ak_9, ak_10, ak_11, ak_12, ak_13, ak_14, ak_15, ak_16, ak_17, ak_18, ak_19, ak_20, ak_21, ak_22, ak_23, ak_24, ak_25, ak_26, ak_27, ak_28, ak_29, ak_30, ak_31, ak_32, ak_33, ak_34, ak_35, ak_36, ak_37, ak_38, ak_39, ak_40, ak_41, ak_42, ak_43, ak_44, ak_45, ak_46, ak_47, -List.getD_eq_getElem?_getD, ords_len, wi, we, ni, ii24, hoi, v0, q1, wf, hfe]
      exact rm_X5_firstOrder h (Nat.le_add_right _ _)
theorem sp_X5_firstOrder {M : List AC} {len fa ac : Int} {sr : AV} {sd : Int64} (h0 : M[0]? = some (co len fa ac sr sd)) {st : Int} {g s d b : F4} (hs : HS M 2 st g s d b) {st' : Int} {g' s' d' b' : F4} (hs' : HS M 7 st' g' s' d' b') (hr : SR st g s d b) (x : Int) (hx : 0 ≤ x ∧ x < 10000) (hx6 : i4 0 6 (uf x)) : ∃ (st1 : Int) (g1 s1 d1 b1 : F4), fn_X5_firstOrder [vR 0, vI x] M = some (some (vI (of5 (E5 st g s b x) x am_orders)), T5 M st1 g1 s1 d1 b1) := by
  obtain ⟨st1, g1, s1, d1, b1, k, hk, h⟩ := lp_X5_firstOrder h0 hs hs' hr hx hx6 24 0 st' g' s' d' b' (by omega)
  rw [T5_same hs', List.drop_zero] at h
  refine ⟨st1, g1, s1, d1, b1, ?_⟩
  generalize of5 (E5 st g s b x) x am_orders = W at h ⊢
  (refine am_fnR (tb := tb_X5_firstOrder) (N := 2000) (Nat.le_of_ble_eq_true rfl) (Nat.le_of_ble_eq_true rfl) ?_; show Ru rx_X5_firstOrder 2000 0 _ _ _ _)
  refine ⟨k + 5, by omega, ?_⟩
  simp [↓ri_X5_firstOrder, rs_X5_firstOrder_0, rs_X5_firstOrder_1, rs_X5_firstOrder_3, rs_X5_firstOrder_6, rs_X5_firstOrder_7, rs_X5_firstOrder_10, rs_X5_firstOrder_11, rs_X5_firstOrder_14, rs_X5_firstOrder_15, rs_X5_firstOrder_16, rs_X5_firstOrder_17, rs_X5_firstOrder_20, rs_X5_firstOrder_21, rs_X5_firstOrder_24, rs_X5_firstOrder_27, rs_X5_firstOrder_28, rs_X5_firstOrder_30, rs_X5_firstOrder_33, rs_X5_firstOrder_36, rs_X5_firstOrder_29, rs_X5_firstOrder_38, -List.getElem?_eq_getElem, am_js, am_e, am_in, am_sl, rI, rZ, rV, rJ, rA, rC, kI, kJ, kR, am_one, am_nl, am_w8, tIc, tLc, tNul, tIld, tLld, tAld, tIst, tLst, tAst, tIinc, tI2, tDv, tL2, tLrem, tLs, tLcmp, tI2l, tL2i, tI2c, tDup, tDup2, tPop, tGo, tIfeq, tIfne, tIflt, tIfge, tIfgt, tIfle, tCmeq, tCmne, tCmlt, tCmge, tCmgt, tCmle, tNu, tTs, tGf, tPf, tGs, tIal, tIas, tBal, tBas, tAln, tSv, tSc, tSb, tSl, tSk, tCv, tCs, tCt, tMx, tMn, wr_10000, wr_100000, wr_1000000, wr_10000000, wr_100000000, wr_2400, wr_9999, wr_0, wr_1, wr_2, wr_3, wr_4, wr_5, wr_6, wr_7, wr_8, wr_9, wr_10, wr_11, wr_12, wr_13, wr_14, wr_15, wr_16, wr_17, wr_18, wr_19, wr_20, wr_21, wr_22, wr_23, wr_24, wr_25, wr_26, wr_27, wr_28, wr_29, wr_30, wr_31, wr_32, wr_33, wr_34, wr_35, wr_36, wr_37, wr_38, wr_39, wr_40, wr_41, wr_42, wr_43, wr_44, wr_45, wr_46, wr_47, wr_48, wr_49, wr_50, wr_51, wr_52, wr_53, wr_54, wr_55, wr_56, wr_57, wr_58, wr_59, wr_60, wr_61, wr_62, wr_63, wr_99, wr_100, wr_192, wr_255, wr_256, wr_343, wr_999, wr_1000, wr_2401, wr_2147483647, wr_65535, wr_m1, wr_m2, wr_m3, wr_m4, wr_m9, ak_1000, ak_1001, ak_1002, ak_0, ak_1, ak_2, ak_3, ak_4, ak_5, ak_6, ak_7, ak_8, ak_9, ak_10, ak_11, ak_12, ak_13, ak_14, ak_15, ak_16, ak_17, ak_18, ak_19, ak_20, ak_21, ak_22, ak_23, ak_24, ak_25, ak_26, ak_27, ak_28, ak_29, ak_30, ak_31, ak_32, ak_33, ak_34, ak_35, ak_36, ak_37, ak_38, ak_39, ak_40, ak_41, ak_42, ak_43, ak_44, ak_45, ak_46, ak_47]
  exact rm_X5_firstOrder h (by omega)
abbrev mi_X5_orders : Mi := (yX5_orders, cX5_orders, 3, some .int, 7)
theorem mf_X5_orders : am_mf mi_X5_orders 2 := ⟨w_co_X5_orders, w_in_X5, ⟨by decide +kernel, by decide +kernel⟩, by decide +kernel, by decide⟩
def tb_X5_orders : List (Nat × Tr) := [(0, tIld 1 1), (1, tIc 1 1), (2, tCs 2 fn_X5_isRow), (5, tIfeq 17), (8, tIld 2 1), (9, tIflt 17), (12, tIld 2 1), (13, tIc 1 1), (14, tCmle 20), (17, tIc (-2) 2), (20, tIld 2 1), (21, tIfne 33), (24, tAld 0 1), (25, tIld 1 1), (26, tIld 1 1), (27, tCv 5 2 fn_X5_ordersTo), (30, tGo 38), (33, tAld 0 1), (34, tIld 1 1), (35, tCv 5 1 fn_X5_firstOrder)]
theorem ok_X5_orders : Tok mi_X5_orders tb_X5_orders :=
  Tc (sd_iload_n dX5_orders_0) <|
  Tc (sd_iconst rfl dX5_orders_1) <|
  Tc (sd_cs fok_X5_isRow mf_X5_isRow w_ml_X5_121 w_st_X5_isRow (by decide) dX5_orders_2) <|
  Tc (sd_if_eq (by decide) dX5_orders_5) <|
  Tc (sd_iload_n dX5_orders_8) <|
  Tc (sd_if_lt (by decide) dX5_orders_9) <|
  Tc (sd_iload_n dX5_orders_12) <|
  Tc (sd_iconst rfl dX5_orders_13) <|
  Tc (sd_cm_le (by decide) dX5_orders_14) <|
  Tc (sd_bipush (by decide +kernel) dX5_orders_17) <|
  Tc (sd_iload_n dX5_orders_20) <|
  Tc (sd_if_ne (by decide) dX5_orders_21) <|
  Tc (sd_aload_n dX5_orders_24) <|
  Tc (sd_iload_n dX5_orders_25) <|
  Tc (sd_iload_n dX5_orders_26) <|
  Tc (sd_cv (T := TX5) fok_X5_ordersTo mf_X5_ordersTo rfl w_ml_X5_190 w_im_X5_ordersTo w_se_X5_ordersTo (by decide) dX5_orders_27) <|
  Tc (sd_goto (by decide) dX5_orders_30) <|
  Tc (sd_aload_n dX5_orders_33) <|
  Tc (sd_iload_n dX5_orders_34) <|
  Tc (sd_cv (T := TX5) fok_X5_firstOrder mf_X5_firstOrder rfl w_ml_X5_194 w_im_X5_firstOrder w_se_X5_firstOrder (by decide) dX5_orders_35) <|
  Tn
theorem rk_X5_orders : Rok mi_X5_orders rI [19, 38] := rk_i dX5_orders_19 <| rk_i dX5_orders_38 <| rk_n
def rx_X5_orders : Nat → Nat → AL → List AV → List AC → Option (Option AV × List AC) := am_r tb_X5_orders rI [19, 38]
theorem rs_X5_orders_0 (n : Nat) (L : AL) (st : List AV) (M : List AC) : rx_X5_orders (n + 1) 0 L st M = am_j (rx_X5_orders n) ((tIld 1 1) 0 L st M) := rfl
theorem rs_X5_orders_1 (n : Nat) (L : AL) (st : List AV) (M : List AC) : rx_X5_orders (n + 1) 1 L st M = am_j (rx_X5_orders n) ((tIc 1 1) 1 L st M) := rfl
theorem rs_X5_orders_2 (n : Nat) (L : AL) (st : List AV) (M : List AC) : rx_X5_orders (n + 1) 2 L st M = am_j (rx_X5_orders n) ((tCs 2 fn_X5_isRow) 2 L st M) := rfl
theorem rs_X5_orders_5 (n : Nat) (L : AL) (st : List AV) (M : List AC) : rx_X5_orders (n + 1) 5 L st M = am_j (rx_X5_orders n) ((tIfeq 17) 5 L st M) := rfl
theorem rs_X5_orders_8 (n : Nat) (L : AL) (st : List AV) (M : List AC) : rx_X5_orders (n + 1) 8 L st M = am_j (rx_X5_orders n) ((tIld 2 1) 8 L st M) := rfl
theorem rs_X5_orders_9 (n : Nat) (L : AL) (st : List AV) (M : List AC) : rx_X5_orders (n + 1) 9 L st M = am_j (rx_X5_orders n) ((tIflt 17) 9 L st M) := rfl
theorem rs_X5_orders_12 (n : Nat) (L : AL) (st : List AV) (M : List AC) : rx_X5_orders (n + 1) 12 L st M = am_j (rx_X5_orders n) ((tIld 2 1) 12 L st M) := rfl
theorem rs_X5_orders_13 (n : Nat) (L : AL) (st : List AV) (M : List AC) : rx_X5_orders (n + 1) 13 L st M = am_j (rx_X5_orders n) ((tIc 1 1) 13 L st M) := rfl
theorem rs_X5_orders_14 (n : Nat) (L : AL) (st : List AV) (M : List AC) : rx_X5_orders (n + 1) 14 L st M = am_j (rx_X5_orders n) ((tCmle 20) 14 L st M) := rfl
theorem rs_X5_orders_17 (n : Nat) (L : AL) (st : List AV) (M : List AC) : rx_X5_orders (n + 1) 17 L st M = am_j (rx_X5_orders n) ((tIc (-2) 2) 17 L st M) := rfl
theorem rs_X5_orders_20 (n : Nat) (L : AL) (st : List AV) (M : List AC) : rx_X5_orders (n + 1) 20 L st M = am_j (rx_X5_orders n) ((tIld 2 1) 20 L st M) := rfl
theorem rs_X5_orders_21 (n : Nat) (L : AL) (st : List AV) (M : List AC) : rx_X5_orders (n + 1) 21 L st M = am_j (rx_X5_orders n) ((tIfne 33) 21 L st M) := rfl
theorem rs_X5_orders_24 (n : Nat) (L : AL) (st : List AV) (M : List AC) : rx_X5_orders (n + 1) 24 L st M = am_j (rx_X5_orders n) ((tAld 0 1) 24 L st M) := rfl
theorem rs_X5_orders_25 (n : Nat) (L : AL) (st : List AV) (M : List AC) : rx_X5_orders (n + 1) 25 L st M = am_j (rx_X5_orders n) ((tIld 1 1) 25 L st M) := rfl
theorem rs_X5_orders_26 (n : Nat) (L : AL) (st : List AV) (M : List AC) : rx_X5_orders (n + 1) 26 L st M = am_j (rx_X5_orders n) ((tIld 1 1) 26 L st M) := rfl
theorem rs_X5_orders_27 (n : Nat) (L : AL) (st : List AV) (M : List AC) : rx_X5_orders (n + 1) 27 L st M = am_j (rx_X5_orders n) ((tCv 5 2 fn_X5_ordersTo) 27 L st M) := rfl
theorem rs_X5_orders_30 (n : Nat) (L : AL) (st : List AV) (M : List AC) : rx_X5_orders (n + 1) 30 L st M = am_j (rx_X5_orders n) ((tGo 38) 30 L st M) := rfl
theorem rs_X5_orders_33 (n : Nat) (L : AL) (st : List AV) (M : List AC) : rx_X5_orders (n + 1) 33 L st M = am_j (rx_X5_orders n) ((tAld 0 1) 33 L st M) := rfl
theorem rs_X5_orders_34 (n : Nat) (L : AL) (st : List AV) (M : List AC) : rx_X5_orders (n + 1) 34 L st M = am_j (rx_X5_orders n) ((tIld 1 1) 34 L st M) := rfl
theorem rs_X5_orders_35 (n : Nat) (L : AL) (st : List AV) (M : List AC) : rx_X5_orders (n + 1) 35 L st M = am_j (rx_X5_orders n) ((tCv 5 1 fn_X5_firstOrder) 35 L st M) := rfl
theorem rs_X5_orders_19 (n : Nat) (L : AL) (st : List AV) (M : List AC) : rx_X5_orders (n + 1) 19 L st M = am_e rI st M := rfl
theorem rs_X5_orders_38 (n : Nat) (L : AL) (st : List AV) (M : List AC) : rx_X5_orders (n + 1) 38 L st M = am_e rI st M := rfl
theorem ri_X5_orders (c : Prop) [Decidable c] (p q n : Nat) (L : AL) (st : List AV) (M : List AC) : rx_X5_orders n (if c then p else q) L st M = if c then rx_X5_orders n p L st M else rx_X5_orders n q L st M := by split <;> rfl
theorem rm_X5_orders {n k pc : Nat} {L : AL} {st : List AV} {M : List AC} {x : Option AV × List AC} (h : rx_X5_orders n pc L st M = some x) (hk : n ≤ k) : rx_X5_orders k pc L st M = some x := am_r_mono n k h hk
def fn_X5_orders : Fn := am_fn rx_X5_orders 3
theorem fok_X5_orders : Fok mi_X5_orders fn_X5_orders := fun _ _ _ _ h => am_fok ok_X5_orders rk_X5_orders rfl h
theorem sp_X5_orders {M : List AC} {len fa ac : Int} {sr : AV} {sd : Int64} (h0 : M[0]? = some (co len fa ac sr sd)) {st : Int} {g s d b : F4} (hs : HS M 2 st g s d b) {st' : Int} {g' s' d' b' : F4} (hs' : HS M 7 st' g' s' d' b') (hr : SR st g s d b) (x w : Int) (hx : -2147483648 ≤ x ∧ x < 2147483648) (hw : -2147483648 ≤ w ∧ w < 2147483648) : ∃ (st1 : Int) (g1 s1 d1 b1 : F4), fn_X5_orders [vR 0, vI x, vI w] M = some (some (vI (if (0 ≤ x ∧ x < 10000 ∧ i4 1 6 (uf x)) ∧ (0 ≤ w ∧ w ≤ 1) then (if w = 1 then of5 (E5 st g s b x) x am_orders else oc5 (E5 st g s b x) x am_orders 0) else -2)), T5 M st1 g1 s1 d1 b1) := by
  have ww : wr w = w := wr_id (by omega) (by omega)
  have q1 := sp_X5_isRow x 1 M hx (Or.inr rfl)
  by_cases h1 : 0 ≤ x ∧ x < 10000 ∧ i4 1 6 (uf x)
  · rw [if_pos h1] at q1
    by_cases h2 : 0 ≤ w ∧ w ≤ 1
    · rw [if_pos ⟨h1, h2⟩]
      have hx6 : i4 0 6 (uf x) := by
        obtain ⟨-, -, a, b, c, d⟩ := h1
        exact ⟨⟨by omega, a.2⟩, ⟨by omega, b.2⟩, ⟨by omega, c.2⟩, by omega, d.2⟩
      by_cases hw1 : w = 1
      · obtain ⟨st1, g1, s1, d1, b1, q2⟩ := sp_X5_firstOrder h0 hs hs' hr x ⟨h1.1, h1.2.1⟩ hx6
        refine ⟨st1, g1, s1, d1, b1, ?_⟩
        rw [if_pos hw1]
        generalize of5 (E5 st g s b x) x am_orders = T at q2 ⊢
        clear h1 hx6
        simp only [co] at h0
        subst hw1
        (refine am_fnI (tb := tb_X5_orders) (n := 60) (Nat.le_of_ble_eq_true rfl) (Nat.le_of_ble_eq_true rfl) ?_; show rx_X5_orders 60 0 _ _ _ = _)
        simp [↓ri_X5_orders, rs_X5_orders_0, rs_X5_orders_1, rs_X5_orders_2, rs_X5_orders_5, rs_X5_orders_8, rs_X5_orders_9, rs_X5_orders_12, rs_X5_orders_13, rs_X5_orders_14, rs_X5_orders_17, rs_X5_orders_20, rs_X5_orders_21, rs_X5_orders_24, rs_X5_orders_25, rs_X5_orders_26, rs_X5_orders_27, rs_X5_orders_30, rs_X5_orders_33, rs_X5_orders_34, rs_X5_orders_35, rs_X5_orders_19, rs_X5_orders_38, -List.getElem?_eq_getElem, am_js, am_e, am_in, am_sl, rI, rZ, rV, rJ, rA, rC, kI, kJ, kR, am_one, am_nl, am_w8, tIc, tLc, tNul, tIld, tLld, tAld, tIst, tLst, tAst, tIinc, tI2, tDv, tL2, tLrem, tLs, tLcmp, tI2l, tL2i, tI2c, tDup, tDup2, tPop, tGo, tIfeq, tIfne, tIflt, tIfge, tIfgt, tIfle, tCmeq, tCmne, tCmlt, tCmge, tCmgt, tCmle, tNu, tTs, tGf, tPf, tGs, tIal, tIas, tBal, tBas, tAln, tSv, tSc, tSb, tSl, tSk, tCv, tCs, tCt, tMx, tMn, wr_10000, wr_100000, wr_1000000, wr_10000000, wr_100000000, wr_2400, wr_9999, wr_0, wr_1, wr_2, wr_3, wr_4, wr_5, wr_6, wr_7, wr_8, wr_9, wr_10, wr_11, wr_12, wr_13, wr_14, wr_15, wr_16, wr_17, wr_18, wr_19, wr_20, wr_21, wr_22, wr_23, wr_24, wr_25, wr_26, wr_27, wr_28, wr_29, wr_30, wr_31, wr_32, wr_33, wr_34, wr_35, wr_36, wr_37, wr_38, wr_39, wr_40, wr_41, wr_42, wr_43, wr_44, wr_45, wr_46, wr_47, wr_48, wr_49, wr_50, wr_51, wr_52, wr_53, wr_54, wr_55, wr_56, wr_57, wr_58, wr_59, wr_60, wr_61, wr_62, wr_63, wr_99, wr_100, wr_192, wr_255, wr_256, wr_343, wr_999, wr_1000, wr_2401, wr_2147483647, wr_65535, wr_m1, wr_m2, wr_m3, wr_m4, wr_m9, ak_1000, ak_1001, ak_1002, ak_0, ak_1, ak_2, ak_3, ak_4, ak_5, ak_6, ak_7, ak_8, ak_9, ak_10, ak_11, ak_12, ak_13, ak_14, ak_15, ak_16, ak_17, ak_18, ak_19, ak_20, ak_21, ak_22, ak_23, ak_24, ak_25, ak_26, ak_27, ak_28, ak_29, ak_30, ak_31, ak_32, ak_33, ak_34, ak_35, ak_36, ak_37, ak_38, ak_39, ak_40, ak_41, ak_42, ak_43, ak_44, ak_45, ak_46, ak_47, q1, h0, q2]
      · obtain ⟨st1, g1, s1, d1, b1, q2⟩ := sp_X5_ordersTo h0 hs hs' hr x x ⟨h1.1, h1.2.1⟩ hx6 (by omega)
        refine ⟨st1, g1, s1, d1, b1, ?_⟩
        rw [if_neg hw1]
        generalize oc5 (E5 st g s b x) x am_orders 0 = T at q2 ⊢
        clear h1 hx6
        simp only [co] at h0
        have hw0 : w = 0 := by omega
        subst hw0
        (refine am_fnI (tb := tb_X5_orders) (n := 60) (Nat.le_of_ble_eq_true rfl) (Nat.le_of_ble_eq_true rfl) ?_; show rx_X5_orders 60 0 _ _ _ = _)
        simp [↓ri_X5_orders, rs_X5_orders_0, rs_X5_orders_1, rs_X5_orders_2, rs_X5_orders_5, rs_X5_orders_8, rs_X5_orders_9, rs_X5_orders_12, rs_X5_orders_13, rs_X5_orders_14, rs_X5_orders_17, rs_X5_orders_20, rs_X5_orders_21, rs_X5_orders_24, rs_X5_orders_25, rs_X5_orders_26, rs_X5_orders_27, rs_X5_orders_30, rs_X5_orders_33, rs_X5_orders_34, rs_X5_orders_35, rs_X5_orders_19, rs_X5_orders_38, -List.getElem?_eq_getElem, am_js, am_e, am_in, am_sl, rI, rZ, rV, rJ, rA, rC, kI, kJ, kR, am_one, am_nl, am_w8, tIc, tLc, tNul, tIld, tLld, tAld, tIst, tLst, tAst, tIinc, tI2, tDv, tL2, tLrem, tLs, tLcmp, tI2l, tL2i, tI2c, tDup, tDup2, tPop, tGo, tIfeq, tIfne, tIflt, tIfge, tIfgt, tIfle, tCmeq, tCmne, tCmlt, tCmge, tCmgt, tCmle, tNu, tTs, tGf, tPf, tGs, tIal, tIas, tBal, tBas, tAln, tSv, tSc, tSb, tSl, tSk, tCv, tCs, tCt, tMx, tMn, wr_10000, wr_100000, wr_1000000, wr_10000000, wr_100000000, wr_2400, wr_9999, wr_0, wr_1, wr_2, wr_3, wr_4, wr_5, wr_6, wr_7, wr_8, wr_9, wr_10, wr_11, wr_12, wr_13, wr_14, wr_15, wr_16, wr_17, wr_18, wr_19, wr_20, wr_21, wr_22, wr_23, wr_24, wr_25, wr_26, wr_27, wr_28, wr_29, wr_30, wr_31, wr_32, wr_33, wr_34, wr_35, wr_36, wr_37, wr_38, wr_39, wr_40, wr_41, wr_42, wr_43, wr_44, wr_45, wr_46, wr_47, wr_48, wr_49, wr_50, wr_51, wr_52, wr_53, wr_54, wr_55, wr_56, wr_57, wr_58, wr_59, wr_60, wr_61, wr_62, wr_63, wr_99, wr_100, wr_192, wr_255, wr_256, wr_343, wr_999, wr_1000, wr_2401, wr_2147483647, wr_65535, wr_m1, wr_m2, wr_m3, wr_m4, wr_m9, ak_1000, ak_1001, ak_1002, ak_0, ak_1, ak_2, ak_3, ak_4, ak_5, ak_6, ak_7, ak_8, ak_9, ak_10, ak_11, ak_12, ak_13, ak_14, ak_15, ak_16, ak_17, ak_18, ak_19, ak_20, ak_21, ak_22, ak_23, ak_24, ak_25, ak_26, ak_27, ak_28, ak_29, ak_30, ak_31, ak_32, ak_33, ak_34, ak_35, ak_36, ak_37, ak_38, ak_39, ak_40, ak_41, ak_42, ak_43, ak_44, ak_45, ak_46, ak_47, q1, h0, q2]
    · rw [if_neg (fun z => h2 z.2)]
      refine ⟨st', g', s', d', b', ?_⟩
      rw [T5_same hs']
      clear h1
      by_cases a1 : w < 0
      · (refine am_fnI (tb := tb_X5_orders) (n := 60) (Nat.le_of_ble_eq_true rfl) (Nat.le_of_ble_eq_true rfl) ?_; show rx_X5_orders 60 0 _ _ _ = _)
        simp [↓ri_X5_orders, rs_X5_orders_0, rs_X5_orders_1, rs_X5_orders_2, rs_X5_orders_5, rs_X5_orders_8, rs_X5_orders_9, rs_X5_orders_12, rs_X5_orders_13, rs_X5_orders_14, rs_X5_orders_17, rs_X5_orders_20, rs_X5_orders_21, rs_X5_orders_24, rs_X5_orders_25, rs_X5_orders_26, rs_X5_orders_27, rs_X5_orders_30, rs_X5_orders_33, rs_X5_orders_34, rs_X5_orders_35, rs_X5_orders_19, rs_X5_orders_38, -List.getElem?_eq_getElem, am_js, am_e, am_in, am_sl, rI, rZ, rV, rJ, rA, rC, kI, kJ, kR, am_one, am_nl, am_w8, tIc, tLc, tNul, tIld, tLld, tAld, tIst, tLst, tAst, tIinc, tI2, tDv, tL2, tLrem, tLs, tLcmp, tI2l, tL2i, tI2c, tDup, tDup2, tPop, tGo, tIfeq, tIfne, tIflt, tIfge, tIfgt, tIfle, tCmeq, tCmne, tCmlt, tCmge, tCmgt, tCmle, tNu, tTs, tGf, tPf, tGs, tIal, tIas, tBal, tBas, tAln, tSv, tSc, tSb, tSl, tSk, tCv, tCs, tCt, tMx, tMn, wr_10000, wr_100000, wr_1000000, wr_10000000, wr_100000000, wr_2400, wr_9999, wr_0, wr_1, wr_2, wr_3, wr_4, wr_5, wr_6, wr_7, wr_8, wr_9, wr_10, wr_11, wr_12, wr_13, wr_14, wr_15, wr_16, wr_17, wr_18, wr_19, wr_20, wr_21, wr_22, wr_23, wr_24, wr_25, wr_26, wr_27, wr_28, wr_29, wr_30, wr_31, wr_32, wr_33, wr_34, wr_35, wr_36, wr_37, wr_38, wr_39, wr_40, wr_41, wr_42, wr_43, wr_44, wr_45, wr_46, wr_47, wr_48, wr_49, wr_50, wr_51, wr_52, wr_53, wr_54, wr_55, wr_56, wr_57, wr_58, wr_59, wr_60, wr_61, wr_62, wr_63, wr_99, wr_100, wr_192, wr_255, wr_256, wr_343, wr_999, wr_1000, wr_2401, wr_2147483647, wr_65535, wr_m1, wr_m2, wr_m3, wr_m4, wr_m9, ak_1000, ak_1001, ak_1002, ak_0, ak_1, ak_2, ak_3, ak_4, ak_5, ak_6, ak_7, ak_8, ak_9, ak_10, ak_11, ak_12, ak_13, ak_14, ak_15, ak_16, ak_17, ak_18, ak_19, ak_20, ak_21, ak_22, ak_23, ak_24, ak_25, ak_26, ak_27, ak_28, ak_29, ak_30, ak_31, ak_32, ak_33, ak_34, ak_35, ak_36, ak_37, ak_38, ak_39, ak_40, ak_41, ak_42, ak_43, ak_44, ak_45, ak_46, ak_47, q1, ww, a1]
      · have a2 : ¬ w ≤ 1 := by omega
        (refine am_fnI (tb := tb_X5_orders) (n := 60) (Nat.le_of_ble_eq_true rfl) (Nat.le_of_ble_eq_true rfl) ?_; show rx_X5_orders 60 0 _ _ _ = _)
        simp [↓ri_X5_orders, rs_X5_orders_0, rs_X5_orders_1, rs_X5_orders_2, rs_X5_orders_5, rs_X5_orders_8, rs_X5_orders_9, rs_X5_orders_12, rs_X5_orders_13, rs_X5_orders_14, rs_X5_orders_17, rs_X5_orders_20, rs_X5_orders_21, rs_X5_orders_24, rs_X5_orders_25, rs_X5_orders_26, rs_X5_orders_27, rs_X5_orders_30, rs_X5_orders_33, rs_X5_orders_34, rs_X5_orders_35, rs_X5_orders_19, rs_X5_orders_38, -List.getElem?_eq_getElem, am_js, am_e, am_in, am_sl, rI, rZ, rV, rJ, rA, rC, kI, kJ, kR, am_one, am_nl, am_w8, tIc, tLc, tNul, tIld, tLld, tAld, tIst, tLst, tAst, tIinc, tI2, tDv, tL2, tLrem, tLs, tLcmp, tI2l, tL2i, tI2c, tDup, tDup2, tPop, tGo, tIfeq, tIfne, tIflt, tIfge, tIfgt, tIfle, tCmeq, tCmne, tCmlt, tCmge, tCmgt, tCmle, tNu, tTs, tGf, tPf, tGs, tIal, tIas, tBal, tBas, tAln, tSv, tSc, tSb, tSl, tSk, tCv, tCs, tCt, tMx, tMn, wr_10000, wr_100000, wr_1000000, wr_10000000, wr_100000000, wr_2400, wr_9999, wr_0, wr_1, wr_2, wr_3, wr_4, wr_5, wr_6, wr_7, wr_8, wr_9, wr_10, wr_11, wr_12, wr_13, wr_14, wr_15, wr_16, wr_17, wr_18, wr_19, wr_20, wr_21, wr_22, wr_23, wr_24, wr_25, wr_26, wr_27, wr_28, wr_29, wr_30, wr_31, wr_32, wr_33, wr_34, wr_35, wr_36, wr_37, wr_38, wr_39, wr_40, wr_41, wr_42, wr_43, wr_44, wr_45, wr_46, wr_47, wr_48, wr_49, wr_50, wr_51, wr_52, wr_53, wr_54, wr_55, wr_56, wr_57, wr_58, wr_59, wr_60, wr_61, wr_62, wr_63, wr_99, wr_100, wr_192, wr_255, wr_256, wr_343, wr_999, wr_1000, wr_2401, wr_2147483647, wr_65535, wr_m1, wr_m2, wr_m3, wr_m4, wr_m9, ak_1000, ak_1001, ak_1002, ak_0, ak_1, ak_2, ak_3, ak_4, ak_5, ak_6, ak_7, ak_8, ak_9, ak_10, ak_11, ak_12, ak_13, ak_14, ak_15, ak_16, ak_17, ak_18, ak_19, ak_20, ak_21, ak_22, ak_23, ak_24, ak_25, ak_26, ak_27, ak_28, ak_29, ak_30, ak_31, ak_32, ak_33, ak_34, ak_35, ak_36, ak_37, ak_38, ak_39, ak_40, ak_41, ak_42, ak_43, ak_44, ak_45, ak_46, ak_47, q1, ww, a1, a2]
  · rw [if_neg h1] at q1
    rw [if_neg (fun z => h1 z.1)]
    refine ⟨st', g', s', d', b', ?_⟩
    rw [T5_same hs']
    clear h1
    (refine am_fnI (tb := tb_X5_orders) (n := 60) (Nat.le_of_ble_eq_true rfl) (Nat.le_of_ble_eq_true rfl) ?_; show rx_X5_orders 60 0 _ _ _ = _)
    simp [↓ri_X5_orders, rs_X5_orders_0, rs_X5_orders_1, rs_X5_orders_2, rs_X5_orders_5, rs_X5_orders_8, rs_X5_orders_9, rs_X5_orders_12, rs_X5_orders_13, rs_X5_orders_14, rs_X5_orders_17, rs_X5_orders_20, rs_X5_orders_21, rs_X5_orders_24, rs_X5_orders_25, rs_X5_orders_26, rs_X5_orders_27, rs_X5_orders_30, rs_X5_orders_33, rs_X5_orders_34, rs_X5_orders_35, rs_X5_orders_19, rs_X5_orders_38, -List.getElem?_eq_getElem, am_js, am_e, am_in, am_sl, rI, rZ, rV, rJ, rA, rC, kI, kJ, kR, am_one, am_nl, am_w8, tIc, tLc, tNul, tIld, tLld, tAld, tIst, tLst, tAst, tIinc, tI2, tDv, tL2, tLrem, tLs, tLcmp, tI2l, tL2i, tI2c, tDup, tDup2, tPop, tGo, tIfeq, tIfne, tIflt, tIfge, tIfgt, tIfle, tCmeq, tCmne, tCmlt, tCmge, tCmgt, tCmle, tNu, tTs, tGf, tPf, tGs, tIal, tIas, tBal, tBas, tAln, tSv, tSc, tSb, tSl, tSk, tCv, tCs, tCt, tMx, tMn, wr_10000, wr_100000, wr_1000000, wr_10000000, wr_100000000, wr_2400, wr_9999, wr_0, wr_1, wr_2, wr_3, wr_4, wr_5, wr_6, wr_7, wr_8, wr_9, wr_10, wr_11, wr_12, wr_13, wr_14, wr_15, wr_16, wr_17, wr_18, wr_19, wr_20, wr_21, wr_22, wr_23, wr_24, wr_25, wr_26, wr_27, wr_28, wr_29, wr_30, wr_31, wr_32, wr_33, wr_34, wr_35, wr_36, wr_37, wr_38, wr_39, wr_40, wr_41, wr_42, wr_43, wr_44, wr_45, wr_46, wr_47, wr_48, wr_49, wr_50, wr_51, wr_52, wr_53, wr_54, wr_55, wr_56, wr_57, wr_58, wr_59, wr_60, wr_61, wr_62, wr_63, wr_99, wr_100, wr_192, wr_255, wr_256, wr_343, wr_999, wr_1000, wr_2401, wr_2147483647, wr_65535, wr_m1, wr_m2, wr_m3, wr_m4, wr_m9, ak_1000, ak_1001, ak_1002, ak_0, ak_1, ak_2, ak_3, ak_4, ak_5, ak_6, ak_7, ak_8, ak_9, ak_10, ak_11, ak_12, ak_13, ak_14, ak_15, ak_16, ak_17, ak_18, ak_19, ak_20, ak_21, ak_22, ak_23, ak_24, ak_25, ak_26, ak_27, ak_28, ak_29, ak_30, ak_31, ak_32, ak_33, ak_34, ak_35, ak_36, ak_37, ak_38, ak_39, ak_40, ak_41, ak_42, ak_43, ak_44, ak_45, ak_46, ak_47, q1]
abbrev mi_X5_creases : Mi := (yX5_creases, cX5_creases, 2, some .int, 7)
theorem mf_X5_creases : am_mf mi_X5_creases 1 := ⟨w_co_X5_creases, w_in_X5, ⟨by decide +kernel, by decide +kernel⟩, by decide +kernel, by decide⟩
def tb_X5_creases : List (Nat × Tr) := [(0, tIld 1 1), (1, tIc 1 1), (2, tCs 2 fn_X5_isRow), (5, tIfne 11), (8, tIc (-2) 2), (11, tAld 0 1), (12, tIld 1 1), (13, tAld 0 1), (14, tGf 5 2), (17, tGf 4 3), (20, tCs 1 fn_X5_asFigures), (23, tCv 5 2 fn_X5_ordersTo)]
theorem ok_X5_creases : Tok mi_X5_creases tb_X5_creases :=
  Tc (sd_iload_n dX5_creases_0) <|
  Tc (sd_iconst rfl dX5_creases_1) <|
  Tc (sd_cs fok_X5_isRow mf_X5_isRow w_ml_X5_121 w_st_X5_isRow (by decide) dX5_creases_2) <|
  Tc (sd_if_ne (by decide) dX5_creases_5) <|
  Tc (sd_bipush (by decide +kernel) dX5_creases_8) <|
  Tc (sd_aload_n dX5_creases_11) <|
  Tc (sd_iload_n dX5_creases_12) <|
  Tc (sd_aload_n dX5_creases_13) <|
  Tc (sd_getf (T := TX5) rfl giX5 (by decide) w_fl_X5_20 dX5_creases_14) <|
  Tc (sd_getf (T := TX4) rfl giX4 (by decide) w_fl_X5_92 dX5_creases_17) <|
  Tc (sd_cs fok_X5_asFigures mf_X5_asFigures w_ml_X5_141 w_st_X5_asFigures (by decide) dX5_creases_20) <|
  Tc (sd_cv (T := TX5) fok_X5_ordersTo mf_X5_ordersTo rfl w_ml_X5_190 w_im_X5_ordersTo w_se_X5_ordersTo (by decide) dX5_creases_23) <|
  Tn
theorem rk_X5_creases : Rok mi_X5_creases rI [10, 26] := rk_i dX5_creases_10 <| rk_i dX5_creases_26 <| rk_n
def rx_X5_creases : Nat → Nat → AL → List AV → List AC → Option (Option AV × List AC) := am_r tb_X5_creases rI [10, 26]
theorem rs_X5_creases_0 (n : Nat) (L : AL) (st : List AV) (M : List AC) : rx_X5_creases (n + 1) 0 L st M = am_j (rx_X5_creases n) ((tIld 1 1) 0 L st M) := rfl
theorem rs_X5_creases_1 (n : Nat) (L : AL) (st : List AV) (M : List AC) : rx_X5_creases (n + 1) 1 L st M = am_j (rx_X5_creases n) ((tIc 1 1) 1 L st M) := rfl
theorem rs_X5_creases_2 (n : Nat) (L : AL) (st : List AV) (M : List AC) : rx_X5_creases (n + 1) 2 L st M = am_j (rx_X5_creases n) ((tCs 2 fn_X5_isRow) 2 L st M) := rfl
theorem rs_X5_creases_5 (n : Nat) (L : AL) (st : List AV) (M : List AC) : rx_X5_creases (n + 1) 5 L st M = am_j (rx_X5_creases n) ((tIfne 11) 5 L st M) := rfl
theorem rs_X5_creases_8 (n : Nat) (L : AL) (st : List AV) (M : List AC) : rx_X5_creases (n + 1) 8 L st M = am_j (rx_X5_creases n) ((tIc (-2) 2) 8 L st M) := rfl
theorem rs_X5_creases_11 (n : Nat) (L : AL) (st : List AV) (M : List AC) : rx_X5_creases (n + 1) 11 L st M = am_j (rx_X5_creases n) ((tAld 0 1) 11 L st M) := rfl
theorem rs_X5_creases_12 (n : Nat) (L : AL) (st : List AV) (M : List AC) : rx_X5_creases (n + 1) 12 L st M = am_j (rx_X5_creases n) ((tIld 1 1) 12 L st M) := rfl
theorem rs_X5_creases_13 (n : Nat) (L : AL) (st : List AV) (M : List AC) : rx_X5_creases (n + 1) 13 L st M = am_j (rx_X5_creases n) ((tAld 0 1) 13 L st M) := rfl
theorem rs_X5_creases_14 (n : Nat) (L : AL) (st : List AV) (M : List AC) : rx_X5_creases (n + 1) 14 L st M = am_j (rx_X5_creases n) ((tGf 5 2) 14 L st M) := rfl
theorem rs_X5_creases_17 (n : Nat) (L : AL) (st : List AV) (M : List AC) : rx_X5_creases (n + 1) 17 L st M = am_j (rx_X5_creases n) ((tGf 4 3) 17 L st M) := rfl
theorem rs_X5_creases_20 (n : Nat) (L : AL) (st : List AV) (M : List AC) : rx_X5_creases (n + 1) 20 L st M = am_j (rx_X5_creases n) ((tCs 1 fn_X5_asFigures) 20 L st M) := rfl
theorem rs_X5_creases_23 (n : Nat) (L : AL) (st : List AV) (M : List AC) : rx_X5_creases (n + 1) 23 L st M = am_j (rx_X5_creases n) ((tCv 5 2 fn_X5_ordersTo) 23 L st M) := rfl
theorem rs_X5_creases_10 (n : Nat) (L : AL) (st : List AV) (M : List AC) : rx_X5_creases (n + 1) 10 L st M = am_e rI st M := rfl
theorem rs_X5_creases_26 (n : Nat) (L : AL) (st : List AV) (M : List AC) : rx_X5_creases (n + 1) 26 L st M = am_e rI st M := rfl
theorem ri_X5_creases (c : Prop) [Decidable c] (p q n : Nat) (L : AL) (st : List AV) (M : List AC) : rx_X5_creases n (if c then p else q) L st M = if c then rx_X5_creases n p L st M else rx_X5_creases n q L st M := by split <;> rfl
theorem rm_X5_creases {n k pc : Nat} {L : AL} {st : List AV} {M : List AC} {x : Option AV × List AC} (h : rx_X5_creases n pc L st M = some x) (hk : n ≤ k) : rx_X5_creases k pc L st M = some x := am_r_mono n k h hk
def fn_X5_creases : Fn := am_fn rx_X5_creases 2
theorem fok_X5_creases : Fok mi_X5_creases fn_X5_creases := fun _ _ _ _ h => am_fok ok_X5_creases rk_X5_creases rfl h
theorem sp_X5_creases {M : List AC} {len fa ac : Int} {sr : AV} {sd : Int64} (h0 : M[0]? = some (co len fa ac sr sd)) {st : Int} {g s d b : F4} (hs : HS M 2 st g s d b) {st' : Int} {g' s' d' b' : F4} (hs' : HS M 7 st' g' s' d' b') (hr : SR st g s d b) (x : Int) (hx : -2147483648 ≤ x ∧ x < 2147483648) : ∃ (st1 : Int) (g1 s1 d1 b1 : F4), fn_X5_creases [vR 0, vI x] M = some (some (vI (if 0 ≤ x ∧ x < 10000 ∧ i4 1 6 (uf x) then oc5 (E5 st g s b x) (fg d) am_orders 0 else -2)), T5 M st1 g1 s1 d1 b1) := by
  have q1 := sp_X5_isRow x 1 M hx (Or.inr rfl)
  obtain ⟨i0, i1, i2, i3, i9⟩ := hs.two
  have q3 := sp_X5_asFigures i3 rfl
  have hfd := fg_rng hr.2.2.2.1 (by decide)
  by_cases h1 : 0 ≤ x ∧ x < 10000 ∧ i4 1 6 (uf x)
  · rw [if_pos h1] at q1
    rw [if_pos h1]
    have hx6 : i4 0 6 (uf x) := by
      obtain ⟨-, -, a, b, c, d⟩ := h1
      exact ⟨⟨by omega, a.2⟩, ⟨by omega, b.2⟩, ⟨by omega, c.2⟩, by omega, d.2⟩
    obtain ⟨st1, g1, s1, d1, b1, q2⟩ := sp_X5_ordersTo h0 hs hs' hr x (fg d) ⟨h1.1, h1.2.1⟩ hx6 (by omega)
    refine ⟨st1, g1, s1, d1, b1, ?_⟩
    generalize oc5 (E5 st g s b x) (fg d) am_orders 0 = T at q2 ⊢
    clear h1 hx6
    simp only [co] at h0
    (refine am_fnI (tb := tb_X5_creases) (n := 60) (Nat.le_of_ble_eq_true rfl) (Nat.le_of_ble_eq_true rfl) ?_; show rx_X5_creases 60 0 _ _ _ = _)
    simp [↓ri_X5_creases, rs_X5_creases_0, rs_X5_creases_1, rs_X5_creases_2, rs_X5_creases_5, rs_X5_creases_8, rs_X5_creases_11, rs_X5_creases_12, rs_X5_creases_13, rs_X5_creases_14, rs_X5_creases_17, rs_X5_creases_20, rs_X5_creases_23, rs_X5_creases_10, rs_X5_creases_26, -List.getElem?_eq_getElem, am_js, am_e, am_in, am_sl, rI, rZ, rV, rJ, rA, rC, kI, kJ, kR, am_one, am_nl, am_w8, tIc, tLc, tNul, tIld, tLld, tAld, tIst, tLst, tAst, tIinc, tI2, tDv, tL2, tLrem, tLs, tLcmp, tI2l, tL2i, tI2c, tDup, tDup2, tPop, tGo, tIfeq, tIfne, tIflt, tIfge, tIfgt, tIfle, tCmeq, tCmne, tCmlt, tCmge, tCmgt, tCmle, tNu, tTs, tGf, tPf, tGs, tIal, tIas, tBal, tBas, tAln, tSv, tSc, tSb, tSl, tSk, tCv, tCs, tCt, tMx, tMn, wr_10000, wr_100000, wr_1000000, wr_10000000, wr_100000000, wr_2400, wr_9999, wr_0, wr_1, wr_2, wr_3, wr_4, wr_5, wr_6, wr_7, wr_8, wr_9, wr_10, wr_11, wr_12, wr_13, wr_14, wr_15, wr_16, wr_17, wr_18, wr_19, wr_20, wr_21, wr_22, wr_23, wr_24, wr_25, wr_26, wr_27, wr_28, wr_29, wr_30, wr_31, wr_32, wr_33, wr_34, wr_35, wr_36, wr_37, wr_38, wr_39, wr_40, wr_41, wr_42, wr_43, wr_44, wr_45, wr_46, wr_47, wr_48, wr_49, wr_50, wr_51, wr_52, wr_53, wr_54, wr_55, wr_56, wr_57, wr_58, wr_59, wr_60, wr_61, wr_62, wr_63, wr_99, wr_100, wr_192, wr_255, wr_256, wr_343, wr_999, wr_1000, wr_2401, wr_2147483647, wr_65535, wr_m1, wr_m2, wr_m3, wr_m4, wr_m9, ak_1000, ak_1001, ak_1002, ak_0, ak_1, ak_2, ak_3, ak_4, ak_5, ak_6, ak_7, ak_8, ak_9, ak_10, ak_11, ak_12, ak_13, ak_14, ak_15, ak_16, ak_17, ak_18, ak_19, ak_20, ak_21, ak_22, ak_23, ak_24, ak_25, ak_26, ak_27, ak_28, ak_29, ak_30, ak_31, ak_32, ak_33, ak_34, ak_35, ak_36, ak_37, ak_38, ak_39, ak_40, ak_41, ak_42, ak_43, ak_44, ak_45, ak_46, ak_47, q1, q3, h0, i0, q2]
  · rw [if_neg h1] at q1
    rw [if_neg h1]
    refine ⟨st', g', s', d', b', ?_⟩
    rw [T5_same hs']
    clear h1
    (refine am_fnI (tb := tb_X5_creases) (n := 60) (Nat.le_of_ble_eq_true rfl) (Nat.le_of_ble_eq_true rfl) ?_; show rx_X5_creases 60 0 _ _ _ = _)
    simp [↓ri_X5_creases, rs_X5_creases_0, rs_X5_creases_1, rs_X5_creases_2, rs_X5_creases_5, rs_X5_creases_8, rs_X5_creases_11, rs_X5_creases_12, rs_X5_creases_13, rs_X5_creases_14, rs_X5_creases_17, rs_X5_creases_20, rs_X5_creases_23, rs_X5_creases_10, rs_X5_creases_26, -List.getElem?_eq_getElem, am_js, am_e, am_in, am_sl, rI, rZ, rV, rJ, rA, rC, kI, kJ, kR, am_one, am_nl, am_w8, tIc, tLc, tNul, tIld, tLld, tAld, tIst, tLst, tAst, tIinc, tI2, tDv, tL2, tLrem, tLs, tLcmp, tI2l, tL2i, tI2c, tDup, tDup2, tPop, tGo, tIfeq, tIfne, tIflt, tIfge, tIfgt, tIfle, tCmeq, tCmne, tCmlt, tCmge, tCmgt, tCmle, tNu, tTs, tGf, tPf, tGs, tIal, tIas, tBal, tBas, tAln, tSv, tSc, tSb, tSl, tSk, tCv, tCs, tCt, tMx, tMn, wr_10000, wr_100000, wr_1000000, wr_10000000, wr_100000000, wr_2400, wr_9999, wr_0, wr_1, wr_2, wr_3, wr_4, wr_5, wr_6, wr_7, wr_8, wr_9, wr_10, wr_11, wr_12, wr_13, wr_14, wr_15, wr_16, wr_17, wr_18, wr_19, wr_20, wr_21, wr_22, wr_23, wr_24, wr_25, wr_26, wr_27, wr_28, wr_29, wr_30, wr_31, wr_32, wr_33, wr_34, wr_35, wr_36, wr_37, wr_38, wr_39, wr_40, wr_41, wr_42, wr_43, wr_44, wr_45, wr_46, wr_47, wr_48, wr_49, wr_50, wr_51, wr_52, wr_53, wr_54, wr_55, wr_56, wr_57, wr_58, wr_59, wr_60, wr_61, wr_62, wr_63, wr_99, wr_100, wr_192, wr_255, wr_256, wr_343, wr_999, wr_1000, wr_2401, wr_2147483647, wr_65535, wr_m1, wr_m2, wr_m3, wr_m4, wr_m9, ak_1000, ak_1001, ak_1002, ak_0, ak_1, ak_2, ak_3, ak_4, ak_5, ak_6, ak_7, ak_8, ak_9, ak_10, ak_11, ak_12, ak_13, ak_14, ak_15, ak_16, ak_17, ak_18, ak_19, ak_20, ak_21, ak_22, ak_23, ak_24, ak_25, ak_26, ak_27, ak_28, ak_29, ak_30, ak_31, ak_32, ak_33, ak_34, ak_35, ak_36, ak_37, ak_38, ak_39, ak_40, ak_41, ak_42, ak_43, ak_44, ak_45, ak_46, ak_47, q1]
end
