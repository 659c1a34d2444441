noncomputable section
abbrev mi_X5_figureAt : Mi := (yX5_figureAt, cX5_figureAt, 2, some .int, 1)
theorem mf_X5_figureAt : am_mf mi_X5_figureAt 1 := ⟨w_co_X5_figureAt, w_in_X5, ⟨by decide +kernel, by decide +kernel⟩, by decide +kernel, by decide⟩
def tb_X5_figureAt : List (Nat × Tr) := [(0, tIld 1 1), (1, tIflt 24), (4, tIld 1 1), (5, tAld 0 1), (6, tGf 5 1), (9, tCmge 24), (12, tAld 0 1), (13, tGf 5 0), (16, tIld 1 1), (17, tIal), (18, tIc 48 2), (20, tI2 (fun a b => a - b)), (21, tGo 25), (24, tIc 0 1)]
theorem ok_X5_figureAt : Tok mi_X5_figureAt tb_X5_figureAt :=
  Tc (sd_iload_n dX5_figureAt_0) <|
  Tc (sd_if_lt (by decide) dX5_figureAt_1) <|
  Tc (sd_iload_n dX5_figureAt_4) <|
  Tc (sd_aload_n dX5_figureAt_5) <|
  Tc (sd_getf (T := TX5) rfl giX5 (by decide) w_fl_X5_13 dX5_figureAt_6) <|
  Tc (sd_cm_ge (by decide) dX5_figureAt_9) <|
  Tc (sd_aload_n dX5_figureAt_12) <|
  Tc (sd_getf (T := TX5) rfl giX5 (by decide) w_fl_X5_9 dX5_figureAt_13) <|
  Tc (sd_iload_n dX5_figureAt_16) <|
  Tc (sd_ial dX5_figureAt_17) <|
  Tc (sd_bipush (by decide +kernel) dX5_figureAt_18) <|
  Tc (sd_isub dX5_figureAt_20) <|
  Tc (sd_goto (by decide) dX5_figureAt_21) <|
  Tc (sd_iconst rfl dX5_figureAt_24) <|
  Tn
theorem rk_X5_figureAt : Rok mi_X5_figureAt rI [25] := rk_i dX5_figureAt_25 <| rk_n
def rx_X5_figureAt : Nat → Nat → AL → List AV → List AC → Option (Option AV × List AC) := am_r tb_X5_figureAt rI [25]
theorem rs_X5_figureAt_0 (n : Nat) (L : AL) (st : List AV) (M : List AC) : rx_X5_figureAt (n + 1) 0 L st M = am_j (rx_X5_figureAt n) ((tIld 1 1) 0 L st M) := rfl
theorem rs_X5_figureAt_1 (n : Nat) (L : AL) (st : List AV) (M : List AC) : rx_X5_figureAt (n + 1) 1 L st M = am_j (rx_X5_figureAt n) ((tIflt 24) 1 L st M) := rfl
theorem rs_X5_figureAt_4 (n : Nat) (L : AL) (st : List AV) (M : List AC) : rx_X5_figureAt (n + 1) 4 L st M = am_j (rx_X5_figureAt n) ((tIld 1 1) 4 L st M) := rfl
theorem rs_X5_figureAt_5 (n : Nat) (L : AL) (st : List AV) (M : List AC) : rx_X5_figureAt (n + 1) 5 L st M = am_j (rx_X5_figureAt n) ((tAld 0 1) 5 L st M) := rfl
theorem rs_X5_figureAt_6 (n : Nat) (L : AL) (st : List AV) (M : List AC) : rx_X5_figureAt (n + 1) 6 L st M = am_j (rx_X5_figureAt n) ((tGf 5 1) 6 L st M) := rfl
theorem rs_X5_figureAt_9 (n : Nat) (L : AL) (st : List AV) (M : List AC) : rx_X5_figureAt (n + 1) 9 L st M = am_j (rx_X5_figureAt n) ((tCmge 24) 9 L st M) := rfl
theorem rs_X5_figureAt_12 (n : Nat) (L : AL) (st : List AV) (M : List AC) : rx_X5_figureAt (n + 1) 12 L st M = am_j (rx_X5_figureAt n) ((tAld 0 1) 12 L st M) := rfl
theorem rs_X5_figureAt_13 (n : Nat) (L : AL) (st : List AV) (M : List AC) : rx_X5_figureAt (n + 1) 13 L st M = am_j (rx_X5_figureAt n) ((tGf 5 0) 13 L st M) := rfl
theorem rs_X5_figureAt_16 (n : Nat) (L : AL) (st : List AV) (M : List AC) : rx_X5_figureAt (n + 1) 16 L st M = am_j (rx_X5_figureAt n) ((tIld 1 1) 16 L st M) := rfl
theorem rs_X5_figureAt_17 (n : Nat) (L : AL) (st : List AV) (M : List AC) : rx_X5_figureAt (n + 1) 17 L st M = am_j (rx_X5_figureAt n) (tIal 17 L st M) := rfl
theorem rs_X5_figureAt_18 (n : Nat) (L : AL) (st : List AV) (M : List AC) : rx_X5_figureAt (n + 1) 18 L st M = am_j (rx_X5_figureAt n) ((tIc 48 2) 18 L st M) := rfl
theorem rs_X5_figureAt_20 (n : Nat) (L : AL) (st : List AV) (M : List AC) : rx_X5_figureAt (n + 1) 20 L st M = am_j (rx_X5_figureAt n) ((tI2 (fun a b => a - b)) 20 L st M) := rfl
theorem rs_X5_figureAt_21 (n : Nat) (L : AL) (st : List AV) (M : List AC) : rx_X5_figureAt (n + 1) 21 L st M = am_j (rx_X5_figureAt n) ((tGo 25) 21 L st M) := rfl
theorem rs_X5_figureAt_24 (n : Nat) (L : AL) (st : List AV) (M : List AC) : rx_X5_figureAt (n + 1) 24 L st M = am_j (rx_X5_figureAt n) ((tIc 0 1) 24 L st M) := rfl
theorem rs_X5_figureAt_25 (n : Nat) (L : AL) (st : List AV) (M : List AC) : rx_X5_figureAt (n + 1) 25 L st M = am_e rI st M := rfl
theorem ri_X5_figureAt (c : Prop) [Decidable c] (p q n : Nat) (L : AL) (st : List AV) (M : List AC) : rx_X5_figureAt n (if c then p else q) L st M = if c then rx_X5_figureAt n p L st M else rx_X5_figureAt n q L st M := by split <;> rfl
theorem rm_X5_figureAt {n k pc : Nat} {L : AL} {st : List AV} {M : List AC} {x : Option AV × List AC} (h : rx_X5_figureAt n pc L st M = some x) (hk : n ≤ k) : rx_X5_figureAt k pc L st M = some x := am_r_mono n k h hk
def fn_X5_figureAt : Fn := am_fn rx_X5_figureAt 2
theorem fok_X5_figureAt : Fok mi_X5_figureAt fn_X5_figureAt := fun _ _ _ _ h => am_fok ok_X5_figureAt rk_X5_figureAt rfl h
theorem sp_X5_figureAt {M : List AC} {len : Int} {txt : List Int} {fs : List AV} (h0 : M[0]? = some (aO 5 (vR 1 :: vI len :: fs))) (h1 : M[1]? = some (aI txt)) (hl : 0 ≤ len ∧ len ≤ 24) (ht : txt.length = 24) (p : Int) (hp : 0 ≤ p ∧ p < len) : fn_X5_figureAt [vR 0, vI p] M = some (some (vI (txt.getD p.toNat 0 - 48)), M) := by
  have wp : wr p = p := wr_id (by omega) (by omega)
  have wl : wr len = len := wr_id (by omega) (by omega)
  have n1 : ¬ p < 0 := by omega
  have n2 : ¬ len ≤ p := by omega
  have n3 : p < 24 := by omega
  (refine am_fnI (tb := tb_X5_figureAt) (n := 30) (Nat.le_of_ble_eq_true rfl) (Nat.le_of_ble_eq_true rfl) ?_; show rx_X5_figureAt 30 0 _ _ _ = _)
  simp [↓ri_X5_figureAt, rs_X5_figureAt_0, rs_X5_figureAt_1, rs_X5_figureAt_4, rs_X5_figureAt_5, rs_X5_figureAt_6, rs_X5_figureAt_9, rs_X5_figureAt_12, rs_X5_figureAt_13, rs_X5_figureAt_16, rs_X5_figureAt_17, rs_X5_figureAt_18, rs_X5_figureAt_20, rs_X5_figureAt_21, rs_X5_figureAt_24, rs_X5_figureAt_25, -List.getElem?_eq_getElem, am_js, am_e, am_in, am_sl, rI, rZ, rV, rJ, rA, rC, kI, kJ, kR, am_one, am_nl, am_w8, tIc, tLc, tNul, tIld, tLld, tAld, tIst, tLst, tAst, tIinc, tI2, tDv, tL2, tLrem, tLs, tLcmp, tI2l, tL2i, tI2c, tDup, tDup2, tPop, tGo, tIfeq, tIfne, tIflt, tIfge, tIfgt, tIfle, tCmeq, tCmne, tCmlt, tCmge, tCmgt, tCmle, tNu, tTs, tGf, tPf, tGs, tIal, tIas, tBal, tBas, tAln, tSv, tSc, tSb, tSl, tSk, tCv, tCs, tCt, tMx, tMn, wr_10000, wr_100000, wr_1000000, wr_10000000, wr_100000000, wr_2400, wr_9999, wr_0, wr_1, wr_2, wr_3, wr_4, wr_5, wr_6, wr_7, wr_8, wr_9, wr_10, wr_11, wr_12, wr_13, wr_14, wr_15, wr_16, wr_17, wr_18, wr_19, wr_20, wr_21, wr_22, wr_23, wr_24, wr_25, wr_26, wr_27, wr_28, wr_29, wr_30, wr_31, wr_32, wr_33, wr_34, wr_35, wr_36, wr_37, wr_38, wr_39, wr_40, wr_41, wr_42, wr_43, wr_44, wr_45, wr_46, wr_47, wr_48, wr_49, wr_50, wr_51, wr_52, wr_53, wr_54, wr_55, wr_56, wr_57, wr_58, wr_59, wr_60, wr_61, wr_62, wr_63, wr_99, wr_100, wr_192, wr_255, wr_256, wr_343, wr_999, wr_1000, wr_2401, wr_2147483647, wr_65535, wr_m1, wr_m2, wr_m3, wr_m4, wr_m9, ak_1000, ak_1001, ak_1002, ak_0, ak_1, ak_2, ak_3, ak_4, ak_5, ak_6, ak_7, ak_8, ak_9, ak_10, ak_11, ak_12, ak_13, ak_14, ak_15, ak_16, ak_17, ak_18, ak_19, ak_20, ak_21, ak_22, ak_23, ak_24, ak_25, ak_26, ak_27, ak_28, ak_29, ak_30, ak_31, ak_32, ak_33, ak_34, ak_35, ak_36, ak_37, ak_38, ak_39, ak_40, ak_41, ak_42, ak_43, ak_44, ak_45, ak_46, ak_47, -List.getD_eq_getElem?_getD, h0, h1, wp, wl, n1, n2, ht, hp, n3]
abbrev mi_X1_give : Mi := (yX1_give, cX1_give, 3, none, 3)
theorem mf_X1_give : am_mf mi_X1_give 2 := ⟨w_co_X1_give, w_in_X1, ⟨by decide +kernel, by decide +kernel⟩, by decide +kernel, by decide⟩
def tb_X1_give : List (Nat × Tr) := [(0, tIld 1 1), (1, tIflt 52), (4, tIld 1 1), (5, tAld 0 1), (6, tGf 1 0), (9, tAln), (10, tCmge 52), (13, tAld 0 1), (14, tGf 1 0), (17, tIld 1 1), (18, tIal), (19, tAld 2 1), (20, tGf 4 3), (23, tCs 2 fn_X5_layFigures), (26, tAld 0 1), (27, tGf 1 1), (30, tIld 1 1), (31, tIal), (32, tAld 2 1), (33, tGf 4 4), (36, tCs 2 fn_X5_layFigures), (39, tAld 0 1), (40, tGf 1 2), (43, tIld 1 1), (44, tIal), (45, tAld 2 1), (46, tGf 4 2), (49, tCs 2 fn_X5_layFigures)]
theorem ok_X1_give : Tok mi_X1_give tb_X1_give :=
  Tc (sd_iload_n dX1_give_0) <|
  Tc (sd_if_lt (by decide) dX1_give_1) <|
  Tc (sd_iload_n dX1_give_4) <|
  Tc (sd_aload_n dX1_give_5) <|
  Tc (sd_getf (T := TX1) rfl giX1 (by decide) w_fl_X1_13 dX1_give_6) <|
  Tc (sd_aln dX1_give_9) <|
  Tc (sd_cm_ge (by decide) dX1_give_10) <|
  Tc (sd_aload_n dX1_give_13) <|
  Tc (sd_getf (T := TX1) rfl giX1 (by decide) w_fl_X1_13 dX1_give_14) <|
  Tc (sd_iload_n dX1_give_17) <|
  Tc (sd_ial dX1_give_18) <|
  Tc (sd_aload_n dX1_give_19) <|
  Tc (sd_getf (T := TX4) rfl giX4 (by decide) w_fl_X1_25 dX1_give_20) <|
  Tc (sd_csN fok_X5_layFigures mf_X5_layFigures (List.mem_of_getElem? (i := 4) rfl) w_st_X5_layFigures (by decide) dX1_give_23) <|
  Tc (sd_aload_n dX1_give_26) <|
  Tc (sd_getf (T := TX1) rfl giX1 (by decide) w_fl_X1_19 dX1_give_27) <|
  Tc (sd_iload_n dX1_give_30) <|
  Tc (sd_ial dX1_give_31) <|
  Tc (sd_aload_n dX1_give_32) <|
  Tc (sd_getf (T := TX4) rfl giX4 (by decide) w_fl_X1_34 dX1_give_33) <|
  Tc (sd_csN fok_X5_layFigures mf_X5_layFigures (List.mem_of_getElem? (i := 4) rfl) w_st_X5_layFigures (by decide) dX1_give_36) <|
  Tc (sd_aload_n dX1_give_39) <|
  Tc (sd_getf (T := TX1) rfl giX1 (by decide) w_fl_X1_22 dX1_give_40) <|
  Tc (sd_iload_n dX1_give_43) <|
  Tc (sd_ial dX1_give_44) <|
  Tc (sd_aload_n dX1_give_45) <|
  Tc (sd_getf (T := TX4) rfl giX4 (by decide) w_fl_X1_35 dX1_give_46) <|
  Tc (sd_csN fok_X5_layFigures mf_X5_layFigures (List.mem_of_getElem? (i := 4) rfl) w_st_X5_layFigures (by decide) dX1_give_49) <|
  Tn
theorem rk_X1_give : Rok mi_X1_give rV [52] := rk_v dX1_give_52 <| rk_n
def rx_X1_give : Nat → Nat → AL → List AV → List AC → Option (Option AV × List AC) := am_r tb_X1_give rV [52]
theorem rs_X1_give_0 (n : Nat) (L : AL) (st : List AV) (M : List AC) : rx_X1_give (n + 1) 0 L st M = am_j (rx_X1_give n) ((tIld 1 1) 0 L st M) := rfl
theorem rs_X1_give_1 (n : Nat) (L : AL) (st : List AV) (M : List AC) : rx_X1_give (n + 1) 1 L st M = am_j (rx_X1_give n) ((tIflt 52) 1 L st M) := rfl
theorem rs_X1_give_4 (n : Nat) (L : AL) (st : List AV) (M : List AC) : rx_X1_give (n + 1) 4 L st M = am_j (rx_X1_give n) ((tIld 1 1) 4 L st M) := rfl
theorem rs_X1_give_5 (n : Nat) (L : AL) (st : List AV) (M : List AC) : rx_X1_give (n + 1) 5 L st M = am_j (rx_X1_give n) ((tAld 0 1) 5 L st M) := rfl
theorem rs_X1_give_6 (n : Nat) (L : AL) (st : List AV) (M : List AC) : rx_X1_give (n + 1) 6 L st M = am_j (rx_X1_give n) ((tGf 1 0) 6 L st M) := rfl
theorem rs_X1_give_9 (n : Nat) (L : AL) (st : List AV) (M : List AC) : rx_X1_give (n + 1) 9 L st M = am_j (rx_X1_give n) (tAln 9 L st M) := rfl
theorem rs_X1_give_10 (n : Nat) (L : AL) (st : List AV) (M : List AC) : rx_X1_give (n + 1) 10 L st M = am_j (rx_X1_give n) ((tCmge 52) 10 L st M) := rfl
theorem rs_X1_give_13 (n : Nat) (L : AL) (st : List AV) (M : List AC) : rx_X1_give (n + 1) 13 L st M = am_j (rx_X1_give n) ((tAld 0 1) 13 L st M) := rfl
theorem rs_X1_give_14 (n : Nat) (L : AL) (st : List AV) (M : List AC) : rx_X1_give (n + 1) 14 L st M = am_j (rx_X1_give n) ((tGf 1 0) 14 L st M) := rfl
theorem rs_X1_give_17 (n : Nat) (L : AL) (st : List AV) (M : List AC) : rx_X1_give (n + 1) 17 L st M = am_j (rx_X1_give n) ((tIld 1 1) 17 L st M) := rfl
theorem rs_X1_give_18 (n : Nat) (L : AL) (st : List AV) (M : List AC) : rx_X1_give (n + 1) 18 L st M = am_j (rx_X1_give n) (tIal 18 L st M) := rfl
theorem rs_X1_give_19 (n : Nat) (L : AL) (st : List AV) (M : List AC) : rx_X1_give (n + 1) 19 L st M = am_j (rx_X1_give n) ((tAld 2 1) 19 L st M) := rfl
theorem rs_X1_give_20 (n : Nat) (L : AL) (st : List AV) (M : List AC) : rx_X1_give (n + 1) 20 L st M = am_j (rx_X1_give n) ((tGf 4 3) 20 L st M) := rfl
theorem rs_X1_give_23 (n : Nat) (L : AL) (st : List AV) (M : List AC) : rx_X1_give (n + 1) 23 L st M = am_j (rx_X1_give n) ((tCs 2 fn_X5_layFigures) 23 L st M) := rfl
theorem rs_X1_give_26 (n : Nat) (L : AL) (st : List AV) (M : List AC) : rx_X1_give (n + 1) 26 L st M = am_j (rx_X1_give n) ((tAld 0 1) 26 L st M) := rfl
theorem rs_X1_give_27 (n : Nat) (L : AL) (st : List AV) (M : List AC) : rx_X1_give (n + 1) 27 L st M = am_j (rx_X1_give n) ((tGf 1 1) 27 L st M) := rfl
theorem rs_X1_give_30 (n : Nat) (L : AL) (st : List AV) (M : List AC) : rx_X1_give (n + 1) 30 L st M = am_j (rx_X1_give n) ((tIld 1 1) 30 L st M) := rfl
theorem rs_X1_give_31 (n : Nat) (L : AL) (st : List AV) (M : List AC) : rx_X1_give (n + 1) 31 L st M = am_j (rx_X1_give n) (tIal 31 L st M) := rfl
theorem rs_X1_give_32 (n : Nat) (L : AL) (st : List AV) (M : List AC) : rx_X1_give (n + 1) 32 L st M = am_j (rx_X1_give n) ((tAld 2 1) 32 L st M) := rfl
theorem rs_X1_give_33 (n : Nat) (L : AL) (st : List AV) (M : List AC) : rx_X1_give (n + 1) 33 L st M = am_j (rx_X1_give n) ((tGf 4 4) 33 L st M) := rfl
theorem rs_X1_give_36 (n : Nat) (L : AL) (st : List AV) (M : List AC) : rx_X1_give (n + 1) 36 L st M = am_j (rx_X1_give n) ((tCs 2 fn_X5_layFigures) 36 L st M) := rfl
theorem rs_X1_give_39 (n : Nat) (L : AL) (st : List AV) (M : List AC) : rx_X1_give (n + 1) 39 L st M = am_j (rx_X1_give n) ((tAld 0 1) 39 L st M) := rfl
theorem rs_X1_give_40 (n : Nat) (L : AL) (st : List AV) (M : List AC) : rx_X1_give (n + 1) 40 L st M = am_j (rx_X1_give n) ((tGf 1 2) 40 L st M) := rfl
theorem rs_X1_give_43 (n : Nat) (L : AL) (st : List AV) (M : List AC) : rx_X1_give (n + 1) 43 L st M = am_j (rx_X1_give n) ((tIld 1 1) 43 L st M) := rfl
theorem rs_X1_give_44 (n : Nat) (L : AL) (st : List AV) (M : List AC) : rx_X1_give (n + 1) 44 L st M = am_j (rx_X1_give n) (tIal 44 L st M) := rfl
theorem rs_X1_give_45 (n : Nat) (L : AL) (st : List AV) (M : List AC) : rx_X1_give (n + 1) 45 L st M = am_j (rx_X1_give n) ((tAld 2 1) 45 L st M) := rfl
theorem rs_X1_give_46 (n : Nat) (L : AL) (st : List AV) (M : List AC) : rx_X1_give (n + 1) 46 L st M = am_j (rx_X1_give n) ((tGf 4 2) 46 L st M) := rfl
theorem rs_X1_give_49 (n : Nat) (L : AL) (st : List AV) (M : List AC) : rx_X1_give (n + 1) 49 L st M = am_j (rx_X1_give n) ((tCs 2 fn_X5_layFigures) 49 L st M) := rfl
theorem rs_X1_give_52 (n : Nat) (L : AL) (st : List AV) (M : List AC) : rx_X1_give (n + 1) 52 L st M = am_e rV st M := rfl
theorem ri_X1_give (c : Prop) [Decidable c] (p q n : Nat) (L : AL) (st : List AV) (M : List AC) : rx_X1_give n (if c then p else q) L st M = if c then rx_X1_give n p L st M else rx_X1_give n q L st M := by split <;> rfl
theorem rm_X1_give {n k pc : Nat} {L : AL} {st : List AV} {M : List AC} {x : Option AV × List AC} (h : rx_X1_give n pc L st M = some x) (hk : n ≤ k) : rx_X1_give k pc L st M = some x := am_r_mono n k h hk
def fn_X1_give : Fn := am_fn rx_X1_give 3
theorem fok_X1_give : Fok mi_X1_give fn_X1_give := fun _ _ _ _ h => am_fok ok_X1_give rk_X1_give rfl h
theorem sp_X1_give {M : List AC} {p : Nat} {ld lb ls : List Int} {st : Int} {g s d b : F4} (hp : p = 15 ∨ p = 19) (hm : HM M p ld lb ls) (hs : HS M 2 st g s d b) (i : Int) (hi : 0 ≤ i ∧ i < ld.length) (h1 : lb.length = ld.length) (h2 : ls.length = ld.length) (hn : ld.length < 1000) (x1 x2 x3 : Int) (e1 : ld.getD i.toNat 0 = x1) (e2 : lb.getD i.toNat 0 = x2) (e3 : ls.getD i.toNat 0 = x3) (r1 : 0 ≤ x1 ∧ x1 < 10000) (r2 : 0 ≤ x2 ∧ x2 < 10000) (r3 : 0 ≤ x3 ∧ x3 < 10000) : fn_X1_give [vR p, vI i, vR 2] M = some (none, ((M.set 4 (aI (l4 (uf x3)))).set 5 (aI (l4 (uf x1)))).set 6 (aI (l4 (uf x2)))) := by
  obtain ⟨-, s0, s1, s2, s3, s4⟩ := hs
  obtain ⟨m0, m1, m2, m3⟩ := hm
  have wi : wr i = i := wr_id (by omega) (by omega)
  have ni : ¬ i < 0 := by omega
  have nl : wr (ld.length : Int) = ld.length := wr_id (by omega) (by omega)
  have ni2 : ¬ (ld.length : Int) ≤ i := by omega
  simp only [Nat.reduceAdd] at s0 s1 s2 s3 s4
  have f1 := sp_X5_layFigures (M := M) (q := 5) s3 rfl x1 (by omega)
  have f2 := sp_X5_layFigures (M := M.set 5 (aI (l4 (uf x1)))) (q := 6) (v := b) (by rw [List.getElem?_set_ne (by decide)]; exact s4) rfl x2 (by omega)
  have f3 := sp_X5_layFigures (M := (M.set 5 (aI (l4 (uf x1)))).set 6 (aI (l4 (uf x2)))) (q := 4) (v := s) (by rw [List.getElem?_set_ne (by decide), List.getElem?_set_ne (by decide)]; exact s2) rfl x3 (by omega)
  generalize uf x1 = u1 at f1 f2 f3 ⊢
  generalize uf x2 = u2 at f1 f2 f3 ⊢
  generalize uf x3 = u3 at f1 f2 f3 ⊢
  clear r1 r2 r3
  rcases hp with rfl | rfl <;>
  (simp only [Nat.reduceAdd] at m0 m1 m2 m3
   (refine am_fnI (tb := tb_X1_give) (n := 60) (Nat.le_of_ble_eq_true rfl) (Nat.le_of_ble_eq_true rfl) ?_; show rx_X1_give 60 0 _ _ _ = _)
   simp [↓ri_X1_give, rs_X1_give_0, rs_X1_give_1, rs_X1_give_4, rs_X1_give_5, rs_X1_give_6, rs_X1_give_9, rs_X1_give_10, rs_X1_give_13, rs_X1_give_14, rs_X1_give_17, rs_X1_give_18, rs_X1_give_19, rs_X1_give_20, rs_X1_give_23, rs_X1_give_26, rs_X1_give_27, rs_X1_give_30, rs_X1_give_31, rs_X1_give_32, rs_X1_give_33, rs_X1_give_36, rs_X1_give_39, rs_X1_give_40, rs_X1_give_43, rs_X1_give_44, rs_X1_give_45, rs_X1_give_46, rs_X1_give_49, rs_X1_give_52, -List.getElem?_eq_getElem, am_js, am_e, am_in, am_sl, rI, rZ, rV, rJ, rA, rC, kI, kJ, kR, am_one, am_nl, am_w8, tIc, tLc, tNul, tIld, tLld, tAld, tIst, tLst, tAst, tIinc, tI2, tDv, tL2, tLrem, tLs, tLcmp, tI2l, tL2i, tI2c, tDup, tDup2, tPop, tGo, tIfeq, tIfne, tIflt, tIfge, tIfgt, tIfle, tCmeq, tCmne, tCmlt, tCmge, tCmgt, tCmle, tNu, tTs, tGf, tPf, tGs, tIal, tIas, tBal, tBas, tAln, tSv, tSc, tSb, tSl, tSk, tCv, tCs, tCt, tMx, tMn, wr_10000, wr_100000, wr_1000000, wr_10000000, wr_100000000, wr_2400, wr_9999, wr_0, wr_1, wr_2, wr_3, wr_4, wr_5, wr_6, wr_7, wr_8, wr_9, wr_10, wr_11, wr_12, wr_13, wr_14, wr_15, wr_16, wr_17, wr_18, wr_19, wr_20, wr_21, wr_22, wr_23, wr_24, wr_25, wr_26, wr_27, wr_28, wr_29, wr_30, wr_31, wr_32, wr_33, wr_34, wr_35, wr_36, wr_37, wr_38, wr_39, wr_40, wr_41, wr_42, wr_43, wr_44, wr_45, wr_46, wr_47, wr_48, wr_49, wr_50, wr_51, wr_52, wr_53, wr_54, wr_55, wr_56, wr_57, wr_58, wr_59, wr_60, wr_61, wr_62, wr_63, wr_99, wr_100, wr_192, wr_255, wr_256, wr_343, wr_999, wr_1000, wr_2401, wr_2147483647, wr_65535, wr_m1, wr_m2, wr_m3, wr_m4, wr_m9, ak_1000, ak_1001, ak_1002, ak_0, ak_1, ak_2, ak_3, ak_4, ak_5, ak_6, ak_7, ak_8, ak_9, ak_10, ak_11, ak_12, ak_13, ak_14, ak_15, ak_16, ak_17, ak_18, ak_19, ak_20, ak_21, ak_22, ak_23, ak_24, ak_25, ak_26, ak_27, ak_28, ak_29, ak_30, ak_31, ak_32, ak_33, ak_34, ak_35, ak_36, ak_37, ak_38, ak_39, ak_40, ak_41, ak_42, ak_43, ak_44, ak_45, ak_46, ak_47, -List.getD_eq_getElem?_getD, s0, s1, s2, s3, s4, m0, m1, m2, m3, wi, ni, ni2, nl, f1, f2, f3, hi, h1, h2, e1, e2, e3, ss (i := 4) (j := 5) (by decide), ss (i := 4) (j := 6) (by decide), ss (i := 5) (j := 6) (by decide)])
end
