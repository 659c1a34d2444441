noncomputable section
abbrev mi_X5_likely : Mi := (yX5_likely, cX5_likely, 4, some .int, 3)
theorem mf_X5_likely : am_mf mi_X5_likely 2 := ⟨w_co_X5_likely, w_in_X5, ⟨by decide +kernel, by decide +kernel⟩, by decide +kernel, by decide⟩
def tb_X5_likely : List (Nat × Tr) := [(0, tIld 1 1), (1, tCs 1 fn_X5_isCorner), (4, tIfne 9), (7, tIc (-1) 1), (9, tAld 0 1), (10, tGf 5 4), (13, tCv 0 0 fn_X0_weightOfAll), (16, tIst 3 1), (17, tIld 3 1), (18, tIfne 24), (21, tIc (-3) 2), (24, tAld 0 1), (25, tGf 5 4), (28, tIld 1 1), (29, tCv 0 1 fn_X0_weight), (32, tIld 3 1), (33, tIld 2 1), (34, tCs 3 fn_X5_fraction)]
theorem ok_X5_likely : Tok mi_X5_likely tb_X5_likely :=
  Tc (sd_iload_n dX5_likely_0) <|
  Tc (sd_cs fok_X5_isCorner mf_X5_isCorner w_ml_X5_105 w_st_X5_isCorner (by decide) dX5_likely_1) <|
  Tc (sd_if_ne (by decide) dX5_likely_4) <|
  Tc (sd_iconst rfl dX5_likely_7) <|
  Tc (sd_aload_n dX5_likely_9) <|
  Tc (sd_getf (T := TX5) rfl giX5 (by decide) w_fl_X5_30 dX5_likely_10) <|
  Tc (sd_cv (T := TX0) fok_X0_weightOfAll mf_X0_weightOfAll rfl w_ml_X5_197 w_im_X0_weightOfAll w_se_X0_weightOfAll (by decide) dX5_likely_13) <|
  Tc (sd_istore_n dX5_likely_16) <|
  Tc (sd_iload_n dX5_likely_17) <|
  Tc (sd_if_ne (by decide) dX5_likely_18) <|
  Tc (sd_bipush (by decide +kernel) dX5_likely_21) <|
  Tc (sd_aload_n dX5_likely_24) <|
  Tc (sd_getf (T := TX5) rfl giX5 (by decide) w_fl_X5_30 dX5_likely_25) <|
  Tc (sd_iload_n dX5_likely_28) <|
  Tc (sd_cv (T := TX0) fok_X0_weight mf_X0_weight rfl w_ml_X5_200 w_im_X0_weight w_se_X0_weight (by decide) dX5_likely_29) <|
  Tc (sd_iload_n dX5_likely_32) <|
  Tc (sd_iload_n dX5_likely_33) <|
  Tc (sd_cs fok_X5_fraction mf_X5_fraction w_ml_X5_203 w_st_X5_fraction (by decide) dX5_likely_34) <|
  Tn
theorem rk_X5_likely : Rok mi_X5_likely rI [8, 23, 37] := rk_i dX5_likely_8 <| rk_i dX5_likely_23 <| rk_i dX5_likely_37 <| rk_n
def rx_X5_likely : Nat → Nat → AL → List AV → List AC → Option (Option AV × List AC) := am_r tb_X5_likely rI [8, 23, 37]
theorem rs_X5_likely_0 (n : Nat) (L : AL) (st : List AV) (M : List AC) : rx_X5_likely (n + 1) 0 L st M = am_j (rx_X5_likely n) ((tIld 1 1) 0 L st M) := rfl
theorem rs_X5_likely_1 (n : Nat) (L : AL) (st : List AV) (M : List AC) : rx_X5_likely (n + 1) 1 L st M = am_j (rx_X5_likely n) ((tCs 1 fn_X5_isCorner) 1 L st M) := rfl
theorem rs_X5_likely_4 (n : Nat) (L : AL) (st : List AV) (M : List AC) : rx_X5_likely (n + 1) 4 L st M = am_j (rx_X5_likely n) ((tIfne 9) 4 L st M) := rfl
theorem rs_X5_likely_7 (n : Nat) (L : AL) (st : List AV) (M : List AC) : rx_X5_likely (n + 1) 7 L st M = am_j (rx_X5_likely n) ((tIc (-1) 1) 7 L st M) := rfl
theorem rs_X5_likely_9 (n : Nat) (L : AL) (st : List AV) (M : List AC) : rx_X5_likely (n + 1) 9 L st M = am_j (rx_X5_likely n) ((tAld 0 1) 9 L st M) := rfl
theorem rs_X5_likely_10 (n : Nat) (L : AL) (st : List AV) (M : List AC) : rx_X5_likely (n + 1) 10 L st M = am_j (rx_X5_likely n) ((tGf 5 4) 10 L st M) := rfl
theorem rs_X5_likely_13 (n : Nat) (L : AL) (st : List AV) (M : List AC) : rx_X5_likely (n + 1) 13 L st M = am_j (rx_X5_likely n) ((tCv 0 0 fn_X0_weightOfAll) 13 L st M) := rfl
theorem rs_X5_likely_16 (n : Nat) (L : AL) (st : List AV) (M : List AC) : rx_X5_likely (n + 1) 16 L st M = am_j (rx_X5_likely n) ((tIst 3 1) 16 L st M) := rfl
theorem rs_X5_likely_17 (n : Nat) (L : AL) (st : List AV) (M : List AC) : rx_X5_likely (n + 1) 17 L st M = am_j (rx_X5_likely n) ((tIld 3 1) 17 L st M) := rfl
theorem rs_X5_likely_18 (n : Nat) (L : AL) (st : List AV) (M : List AC) : rx_X5_likely (n + 1) 18 L st M = am_j (rx_X5_likely n) ((tIfne 24) 18 L st M) := rfl
theorem rs_X5_likely_21 (n : Nat) (L : AL) (st : List AV) (M : List AC) : rx_X5_likely (n + 1) 21 L st M = am_j (rx_X5_likely n) ((tIc (-3) 2) 21 L st M) := rfl
theorem rs_X5_likely_24 (n : Nat) (L : AL) (st : List AV) (M : List AC) : rx_X5_likely (n + 1) 24 L st M = am_j (rx_X5_likely n) ((tAld 0 1) 24 L st M) := rfl
theorem rs_X5_likely_25 (n : Nat) (L : AL) (st : List AV) (M : List AC) : rx_X5_likely (n + 1) 25 L st M = am_j (rx_X5_likely n) ((tGf 5 4) 25 L st M) := rfl
theorem rs_X5_likely_28 (n : Nat) (L : AL) (st : List AV) (M : List AC) : rx_X5_likely (n + 1) 28 L st M = am_j (rx_X5_likely n) ((tIld 1 1) 28 L st M) := rfl
theorem rs_X5_likely_29 (n : Nat) (L : AL) (st : List AV) (M : List AC) : rx_X5_likely (n + 1) 29 L st M = am_j (rx_X5_likely n) ((tCv 0 1 fn_X0_weight) 29 L st M) := rfl
theorem rs_X5_likely_32 (n : Nat) (L : AL) (st : List AV) (M : List AC) : rx_X5_likely (n + 1) 32 L st M = am_j (rx_X5_likely n) ((tIld 3 1) 32 L st M) := rfl
theorem rs_X5_likely_33 (n : Nat) (L : AL) (st : List AV) (M : List AC) : rx_X5_likely (n + 1) 33 L st M = am_j (rx_X5_likely n) ((tIld 2 1) 33 L st M) := rfl
theorem rs_X5_likely_34 (n : Nat) (L : AL) (st : List AV) (M : List AC) : rx_X5_likely (n + 1) 34 L st M = am_j (rx_X5_likely n) ((tCs 3 fn_X5_fraction) 34 L st M) := rfl
theorem rs_X5_likely_8 (n : Nat) (L : AL) (st : List AV) (M : List AC) : rx_X5_likely (n + 1) 8 L st M = am_e rI st M := rfl
theorem rs_X5_likely_23 (n : Nat) (L : AL) (st : List AV) (M : List AC) : rx_X5_likely (n + 1) 23 L st M = am_e rI st M := rfl
theorem rs_X5_likely_37 (n : Nat) (L : AL) (st : List AV) (M : List AC) : rx_X5_likely (n + 1) 37 L st M = am_e rI st M := rfl
theorem ri_X5_likely (c : Prop) [Decidable c] (p q n : Nat) (L : AL) (st : List AV) (M : List AC) : rx_X5_likely n (if c then p else q) L st M = if c then rx_X5_likely n p L st M else rx_X5_likely n q L st M := by split <;> rfl
theorem rm_X5_likely {n k pc : Nat} {L : AL} {st : List AV} {M : List AC} {x : Option AV × List AC} (h : rx_X5_likely n pc L st M = some x) (hk : n ≤ k) : rx_X5_likely k pc L st M = some x := am_r_mono n k h hk
def fn_X5_likely : Fn := am_fn rx_X5_likely 4
theorem fok_X5_likely : Fok mi_X5_likely fn_X5_likely := fun _ _ _ _ h => am_fok ok_X5_likely rk_X5_likely rfl h
theorem sp_X5_likely {M : List AC} {len fa ac : Int} {sr : AV} {sd : Int64} (h0 : M[0]? = some (co len fa ac sr sd)) {lk : Int} {lc lt : F3} (hL : HL M lk lc lt) (hn : 0 ≤ lk ∧ lk ≤ 3) (hc : i3 0 3 lc) (ht : i3 0 9 lt) (q u : Int) (hq : -2147483648 ≤ q ∧ q < 2147483648) (hu : u = 0 ∨ u = 1) : fn_X5_likely [vR 0, vI q, vI u] M = some (some (vI (if 0 ≤ q ∧ q < 4 then (if wa lk lc lt = 0 then -3 else frq (wt lk lc lt q) (wa lk lc lt) u) else -1)), M) := by
  have wq : wr q = q := wr_id (by omega) (by omega)
  obtain ⟨l0, -⟩ := id hL
  by_cases h : 0 ≤ q ∧ q < 4
  · rw [if_pos h]
    have qa := sp_X0_weight hL hn hc q h
    have qw := sp_X0_weightOfAll hL hn hc
    have ra := wt_rng (n := lk) (c := lc) (q := q) ht
    have rw' := wa_rng (n := lk) (c := lc) ht
    obtain ⟨a, ea⟩ := nat_of ra.1
    obtain ⟨w, ew⟩ := nat_of rw'.1
    rw [ea] at qa ra ⊢
    rw [ew] at qw rw' ⊢
    clear ea ew
    have ww : wr (w : Int) = w := wr_id (by omega) (by omega)
    simp only [co] at h0
    by_cases hz : w = 0
    · rw [if_pos (by omega)]
      subst hz
      (refine am_fnI (tb := tb_X5_likely) (n := 60) (Nat.le_of_ble_eq_true rfl) (Nat.le_of_ble_eq_true rfl) ?_; show rx_X5_likely 60 0 _ _ _ = _)
      simp [↓ri_X5_likely, rs_X5_likely_0, rs_X5_likely_1, rs_X5_likely_4, rs_X5_likely_7, rs_X5_likely_9, rs_X5_likely_10, rs_X5_likely_13, rs_X5_likely_16, rs_X5_likely_17, rs_X5_likely_18, rs_X5_likely_21, rs_X5_likely_24, rs_X5_likely_25, rs_X5_likely_28, rs_X5_likely_29, rs_X5_likely_32, rs_X5_likely_33, rs_X5_likely_34, rs_X5_likely_8, rs_X5_likely_23, rs_X5_likely_37, -List.getElem?_eq_getElem, am_js, am_e, am_in, am_sl, rI, rZ, rV, rJ, rA, rC, kI, kJ, kR, am_one, am_nl, am_w8, tIc, tLc, tNul, tIld, tLld, tAld, tIst, tLst, tAst, tIinc, tI2, tDv, tL2, tLrem, tLs, tLcmp, tI2l, tL2i, tI2c, tDup, tDup2, tPop, tGo, tIfeq, tIfne, tIflt, tIfge, tIfgt, tIfle, tCmeq, tCmne, tCmlt, tCmge, tCmgt, tCmle, tNu, tTs, tGf, tPf, tGs, tIal, tIas, tBal, tBas, tAln, tSv, tSc, tSb, tSl, tSk, tCv, tCs, tCt, tMx, tMn, wr_10000, wr_100000, wr_1000000, wr_10000000, wr_100000000, wr_2400, wr_9999, wr_0, wr_1, wr_2, wr_3, wr_4, wr_5, wr_6, wr_7, wr_8, wr_9, wr_10, wr_11, wr_12, wr_13, wr_14, wr_15, wr_16, wr_17, wr_18, wr_19, wr_20, wr_21, wr_22, wr_23, wr_24, wr_25, wr_26, wr_27, wr_28, wr_29, wr_30, wr_31, wr_32, wr_33, wr_34, wr_35, wr_36, wr_37, wr_38, wr_39, wr_40, wr_41, wr_42, wr_43, wr_44, wr_45, wr_46, wr_47, wr_48, wr_49, wr_50, wr_51, wr_52, wr_53, wr_54, wr_55, wr_56, wr_57, wr_58, wr_59, wr_60, wr_61, wr_62, wr_63, wr_99, wr_100, wr_192, wr_255, wr_256, wr_343, wr_999, wr_1000, wr_2401, wr_2147483647, wr_65535, wr_m1, wr_m2, wr_m3, wr_m4, wr_m9, ak_1000, ak_1001, ak_1002, ak_0, ak_1, ak_2, ak_3, ak_4, ak_5, ak_6, ak_7, ak_8, ak_9, ak_10, ak_11, ak_12, ak_13, ak_14, ak_15, ak_16, ak_17, ak_18, ak_19, ak_20, ak_21, ak_22, ak_23, ak_24, ak_25, ak_26, ak_27, ak_28, ak_29, ak_30, ak_31, ak_32, ak_33, ak_34, ak_35, ak_36, ak_37, ak_38, ak_39, ak_40, ak_41, ak_42, ak_43, ak_44, ak_45, ak_46, ak_47, sp_X5_isCorner, wq, h, h0, l0, qw]
    · rw [if_neg (by omega), frq_n]
      have qc := sp_X5_fraction a w u M (by omega) (by omega) hu
      generalize ((if u = 0 then w else a) / Nat.gcd a w) = zz at qc ⊢
      (refine am_fnI (tb := tb_X5_likely) (n := 60) (Nat.le_of_ble_eq_true rfl) (Nat.le_of_ble_eq_true rfl) ?_; show rx_X5_likely 60 0 _ _ _ = _)
      simp [↓ri_X5_likely, rs_X5_likely_0, rs_X5_likely_1, rs_X5_likely_4, rs_X5_likely_7, rs_X5_likely_9, rs_X5_likely_10, rs_X5_likely_13, rs_X5_likely_16, rs_X5_likely_17, rs_X5_likely_18, rs_X5_likely_21, rs_X5_likely_24, rs_X5_likely_25, rs_X5_likely_28, rs_X5_likely_29, rs_X5_likely_32, rs_X5_likely_33, rs_X5_likely_34, rs_X5_likely_8, rs_X5_likely_23, rs_X5_likely_37, -List.getElem?_eq_getElem, am_js, am_e, am_in, am_sl, rI, rZ, rV, rJ, rA, rC, kI, kJ, kR, am_one, am_nl, am_w8, tIc, tLc, tNul, tIld, tLld, tAld, tIst, tLst, tAst, tIinc, tI2, tDv, tL2, tLrem, tLs, tLcmp, tI2l, tL2i, tI2c, tDup, tDup2, tPop, tGo, tIfeq, tIfne, tIflt, tIfge, tIfgt, tIfle, tCmeq, tCmne, tCmlt, tCmge, tCmgt, tCmle, tNu, tTs, tGf, tPf, tGs, tIal, tIas, tBal, tBas, tAln, tSv, tSc, tSb, tSl, tSk, tCv, tCs, tCt, tMx, tMn, wr_10000, wr_100000, wr_1000000, wr_10000000, wr_100000000, wr_2400, wr_9999, wr_0, wr_1, wr_2, wr_3, wr_4, wr_5, wr_6, wr_7, wr_8, wr_9, wr_10, wr_11, wr_12, wr_13, wr_14, wr_15, wr_16, wr_17, wr_18, wr_19, wr_20, wr_21, wr_22, wr_23, wr_24, wr_25, wr_26, wr_27, wr_28, wr_29, wr_30, wr_31, wr_32, wr_33, wr_34, wr_35, wr_36, wr_37, wr_38, wr_39, wr_40, wr_41, wr_42, wr_43, wr_44, wr_45, wr_46, wr_47, wr_48, wr_49, wr_50, wr_51, wr_52, wr_53, wr_54, wr_55, wr_56, wr_57, wr_58, wr_59, wr_60, wr_61, wr_62, wr_63, wr_99, wr_100, wr_192, wr_255, wr_256, wr_343, wr_999, wr_1000, wr_2401, wr_2147483647, wr_65535, wr_m1, wr_m2, wr_m3, wr_m4, wr_m9, ak_1000, ak_1001, ak_1002, ak_0, ak_1, ak_2, ak_3, ak_4, ak_5, ak_6, ak_7, ak_8, ak_9, ak_10, ak_11, ak_12, ak_13, ak_14, ak_15, ak_16, ak_17, ak_18, ak_19, ak_20, ak_21, ak_22, ak_23, ak_24, ak_25, ak_26, ak_27, ak_28, ak_29, ak_30, ak_31, ak_32, ak_33, ak_34, ak_35, ak_36, ak_37, ak_38, ak_39, ak_40, ak_41, ak_42, ak_43, ak_44, ak_45, ak_46, ak_47, sp_X5_isCorner, wq, h, h0, l0, qw, qa, ww, hz, qc]
  · rw [if_neg h]
    (refine am_fnI (tb := tb_X5_likely) (n := 60) (Nat.le_of_ble_eq_true rfl) (Nat.le_of_ble_eq_true rfl) ?_; show rx_X5_likely 60 0 _ _ _ = _)
    simp [↓ri_X5_likely, rs_X5_likely_0, rs_X5_likely_1, rs_X5_likely_4, rs_X5_likely_7, rs_X5_likely_9, rs_X5_likely_10, rs_X5_likely_13, rs_X5_likely_16, rs_X5_likely_17, rs_X5_likely_18, rs_X5_likely_21, rs_X5_likely_24, rs_X5_likely_25, rs_X5_likely_28, rs_X5_likely_29, rs_X5_likely_32, rs_X5_likely_33, rs_X5_likely_34, rs_X5_likely_8, rs_X5_likely_23, rs_X5_likely_37, -List.getElem?_eq_getElem, am_js, am_e, am_in, am_sl, rI, rZ, rV, rJ, rA, rC, kI, kJ, kR, am_one, am_nl, am_w8, tIc, tLc, tNul, tIld, tLld, tAld, tIst, tLst, tAst, tIinc, tI2, tDv, tL2, tLrem, tLs, tLcmp, tI2l, tL2i, tI2c, tDup, tDup2, tPop, tGo, tIfeq, tIfne, tIflt, tIfge, tIfgt, tIfle, tCmeq, tCmne, tCmlt, tCmge, tCmgt, tCmle, tNu, tTs, tGf, tPf, tGs, tIal, tIas, tBal, tBas, tAln, tSv, tSc, tSb, tSl, tSk, tCv, tCs, tCt, tMx, tMn, wr_10000, wr_100000, wr_1000000, wr_10000000, wr_100000000, wr_2400, wr_9999, wr_0, wr_1, wr_2, wr_3, wr_4, wr_5, wr_6, wr_7, wr_8, wr_9, wr_10, wr_11, wr_12, wr_13, wr_14, wr_15, wr_16, wr_17, wr_18, wr_19, wr_20, wr_21, wr_22, wr_23, wr_24, wr_25, wr_26, wr_27, wr_28, wr_29, wr_30, wr_31, wr_32, wr_33, wr_34, wr_35, wr_36, wr_37, wr_38, wr_39, wr_40, wr_41, wr_42, wr_43, wr_44, wr_45, wr_46, wr_47, wr_48, wr_49, wr_50, wr_51, wr_52, wr_53, wr_54, wr_55, wr_56, wr_57, wr_58, wr_59, wr_60, wr_61, wr_62, wr_63, wr_99, wr_100, wr_192, wr_255, wr_256, wr_343, wr_999, wr_1000, wr_2401, wr_2147483647, wr_65535, wr_m1, wr_m2, wr_m3, wr_m4, wr_m9, ak_1000, ak_1001, ak_1002, ak_0, ak_1, ak_2, ak_3, ak_4, ak_5, ak_6, ak_7, ak_8, ak_9, ak_10, ak_11, ak_12, ak_13, ak_14, ak_15, ak_16, ak_17, ak_18, ak_19, ak_20, ak_21, ak_22, ak_23, ak_24, ak_25, ak_26, ak_27, ak_28, ak_29, ak_30, ak_31, ak_32, ak_33, ak_34, ak_35, ak_36, ak_37, ak_38, ak_39, ak_40, ak_41, ak_42, ak_43, ak_44, ak_45, ak_46, ak_47, -not_and, sp_X5_isCorner, wq, h]
abbrev mi_X5_tries : Mi := (yX5_tries, cX5_tries, 3, some .int, 3)
theorem mf_X5_tries : am_mf mi_X5_tries 1 := ⟨w_co_X5_tries, w_in_X5, ⟨by decide +kernel, by decide +kernel⟩, by decide +kernel, by decide⟩
def tb_X5_tries : List (Nat × Tr) := [(0, tAld 0 1), (1, tGf 5 4), (4, tCv 0 0 fn_X0_weightOfAll), (7, tIst 2 1), (8, tIld 2 1), (9, tIfne 15), (12, tIc (-3) 2), (15, tAld 0 1), (16, tGf 5 4), (19, tCv 0 0 fn_X0_weightOfTries), (22, tIld 2 1), (23, tIld 1 1), (24, tCs 3 fn_X5_fraction)]
theorem ok_X5_tries : Tok mi_X5_tries tb_X5_tries :=
  Tc (sd_aload_n dX5_tries_0) <|
  Tc (sd_getf (T := TX5) rfl giX5 (by decide) w_fl_X5_30 dX5_tries_1) <|
  Tc (sd_cv (T := TX0) fok_X0_weightOfAll mf_X0_weightOfAll rfl w_ml_X5_197 w_im_X0_weightOfAll w_se_X0_weightOfAll (by decide) dX5_tries_4) <|
  Tc (sd_istore_n dX5_tries_7) <|
  Tc (sd_iload_n dX5_tries_8) <|
  Tc (sd_if_ne (by decide) dX5_tries_9) <|
  Tc (sd_bipush (by decide +kernel) dX5_tries_12) <|
  Tc (sd_aload_n dX5_tries_15) <|
  Tc (sd_getf (T := TX5) rfl giX5 (by decide) w_fl_X5_30 dX5_tries_16) <|
  Tc (sd_cv (T := TX0) fok_X0_weightOfTries mf_X0_weightOfTries rfl w_ml_X5_207 w_im_X0_weightOfTries w_se_X0_weightOfTries (by decide) dX5_tries_19) <|
  Tc (sd_iload_n dX5_tries_22) <|
  Tc (sd_iload_n dX5_tries_23) <|
  Tc (sd_cs fok_X5_fraction mf_X5_fraction w_ml_X5_203 w_st_X5_fraction (by decide) dX5_tries_24) <|
  Tn
theorem rk_X5_tries : Rok mi_X5_tries rI [14, 27] := rk_i dX5_tries_14 <| rk_i dX5_tries_27 <| rk_n
def rx_X5_tries : Nat → Nat → AL → List AV → List AC → Option (Option AV × List AC) := am_r tb_X5_tries rI [14, 27]
theorem rs_X5_tries_0 (n : Nat) (L : AL) (st : List AV) (M : List AC) : rx_X5_tries (n + 1) 0 L st M = am_j (rx_X5_tries n) ((tAld 0 1) 0 L st M) := rfl
theorem rs_X5_tries_1 (n : Nat) (L : AL) (st : List AV) (M : List AC) : rx_X5_tries (n + 1) 1 L st M = am_j (rx_X5_tries n) ((tGf 5 4) 1 L st M) := rfl
theorem rs_X5_tries_4 (n : Nat) (L : AL) (st : List AV) (M : List AC) : rx_X5_tries (n + 1) 4 L st M = am_j (rx_X5_tries n) ((tCv 0 0 fn_X0_weightOfAll) 4 L st M) := rfl
theorem rs_X5_tries_7 (n : Nat) (L : AL) (st : List AV) (M : List AC) : rx_X5_tries (n + 1) 7 L st M = am_j (rx_X5_tries n) ((tIst 2 1) 7 L st M) := rfl
theorem rs_X5_tries_8 (n : Nat) (L : AL) (st : List AV) (M : List AC) : rx_X5_tries (n + 1) 8 L st M = am_j (rx_X5_tries n) ((tIld 2 1) 8 L st M) := rfl
theorem rs_X5_tries_9 (n : Nat) (L : AL) (st : List AV) (M : List AC) : rx_X5_tries (n + 1) 9 L st M = am_j (rx_X5_tries n) ((tIfne 15) 9 L st M) := rfl
theorem rs_X5_tries_12 (n : Nat) (L : AL) (st : List AV) (M : List AC) : rx_X5_tries (n + 1) 12 L st M = am_j (rx_X5_tries n) ((tIc (-3) 2) 12 L st M) := rfl
theorem rs_X5_tries_15 (n : Nat) (L : AL) (st : List AV) (M : List AC) : rx_X5_tries (n + 1) 15 L st M = am_j (rx_X5_tries n) ((tAld 0 1) 15 L st M) := rfl
theorem rs_X5_tries_16 (n : Nat) (L : AL) (st : List AV) (M : List AC) : rx_X5_tries (n + 1) 16 L st M = am_j (rx_X5_tries n) ((tGf 5 4) 16 L st M) := rfl
theorem rs_X5_tries_19 (n : Nat) (L : AL) (st : List AV) (M : List AC) : rx_X5_tries (n + 1) 19 L st M = am_j (rx_X5_tries n) ((tCv 0 0 fn_X0_weightOfTries) 19 L st M) := rfl
theorem rs_X5_tries_22 (n : Nat) (L : AL) (st : List AV) (M : List AC) : rx_X5_tries (n + 1) 22 L st M = am_j (rx_X5_tries n) ((tIld 2 1) 22 L st M) := rfl
theorem rs_X5_tries_23 (n : Nat) (L : AL) (st : List AV) (M : List AC) : rx_X5_tries (n + 1) 23 L st M = am_j (rx_X5_tries n) ((tIld 1 1) 23 L st M) := rfl
theorem rs_X5_tries_24 (n : Nat) (L : AL) (st : List AV) (M : List AC) : rx_X5_tries (n + 1) 24 L st M = am_j (rx_X5_tries n) ((tCs 3 fn_X5_fraction) 24 L st M) := rfl
theorem rs_X5_tries_14 (n : Nat) (L : AL) (st : List AV) (M : List AC) : rx_X5_tries (n + 1) 14 L st M = am_e rI st M := rfl
theorem rs_X5_tries_27 (n : Nat) (L : AL) (st : List AV) (M : List AC) : rx_X5_tries (n + 1) 27 L st M = am_e rI st M := rfl
theorem ri_X5_tries (c : Prop) [Decidable c] (p q n : Nat) (L : AL) (st : List AV) (M : List AC) : rx_X5_tries n (if c then p else q) L st M = if c then rx_X5_tries n p L st M else rx_X5_tries n q L st M := by split <;> rfl
theorem rm_X5_tries {n k pc : Nat} {L : AL} {st : List AV} {M : List AC} {x : Option AV × List AC} (h : rx_X5_tries n pc L st M = some x) (hk : n ≤ k) : rx_X5_tries k pc L st M = some x := am_r_mono n k h hk
def fn_X5_tries : Fn := am_fn rx_X5_tries 3
theorem fok_X5_tries : Fok mi_X5_tries fn_X5_tries := fun _ _ _ _ h => am_fok ok_X5_tries rk_X5_tries rfl h
theorem sp_X5_tries {M : List AC} {len fa ac : Int} {sr : AV} {sd : Int64} (h0 : M[0]? = some (co len fa ac sr sd)) {lk : Int} {lc lt : F3} (hL : HL M lk lc lt) (hn : 0 ≤ lk ∧ lk ≤ 3) (hc : i3 0 3 lc) (ht : i3 0 9 lt) (u : Int) (hu : u = 0 ∨ u = 1) : fn_X5_tries [vR 0, vI u] M = some (some (vI (if wa lk lc lt = 0 then -3 else frq (tr (wt lk lc lt)) (wa lk lc lt) u)), M) := by
  obtain ⟨l0, -⟩ := id hL
  have qa := sp_X0_weightOfTries hL hn hc ht
  have qw := sp_X0_weightOfAll hL hn hc
  have ra := tr_rng (W := wt lk lc lt) (fun q => wt_rng ht)
  have rw' := wa_rng (n := lk) (c := lc) ht
  obtain ⟨a, ea⟩ := nat_of ra.1
  obtain ⟨w, ew⟩ := nat_of rw'.1
  rw [ea] at qa ra ⊢
  rw [ew] at qw rw' ⊢
  clear ea ew
  have ww : wr (w : Int) = w := wr_id (by omega) (by omega)
  simp only [co] at h0
  by_cases hz : w = 0
  · rw [if_pos (by omega)]
    subst hz
    (refine am_fnI (tb := tb_X5_tries) (n := 60) (Nat.le_of_ble_eq_true rfl) (Nat.le_of_ble_eq_true rfl) ?_; show rx_X5_tries 60 0 _ _ _ = _)
    simp [↓ri_X5_tries, rs_X5_tries_0, rs_X5_tries_1, rs_X5_tries_4, rs_X5_tries_7, rs_X5_tries_8, rs_X5_tries_9, rs_X5_tries_12, rs_X5_tries_15, rs_X5_tries_16, rs_X5_tries_19, rs_X5_tries_22, rs_X5_tries_23, rs_X5_tries_24, rs_X5_tries_14, rs_X5_tries_27, -List.getElem?_eq_getElem, am_js, am_e, am_in, am_sl, rI, rZ, rV, rJ, rA, rC, kI, kJ, kR, am_one, am_nl, am_w8, tIc, tLc, tNul, tIld, tLld, tAld, tIst, tLst, tAst, tIinc, tI2, tDv, tL2, tLrem, tLs, tLcmp, tI2l, tL2i, tI2c, tDup, tDup2, tPop, tGo, tIfeq, tIfne, tIflt, tIfge, tIfgt, tIfle, tCmeq, tCmne, tCmlt, tCmge, tCmgt, tCmle, tNu, tTs, tGf, tPf, tGs, tIal, tIas, tBal, tBas, tAln, tSv, tSc, tSb, tSl, tSk, tCv, tCs, tCt, tMx, tMn, wr_10000, wr_100000, wr_1000000, wr_10000000, wr_100000000, wr_2400, wr_9999, wr_0, wr_1, wr_2, wr_3, wr_4, wr_5, wr_6, wr_7, wr_8, wr_9, wr_10, wr_11, wr_12, wr_13, wr_14, wr_15, wr_16, wr_17, wr_18, wr_19, wr_20, wr_21, wr_22, wr_23, wr_24, wr_25, wr_26, wr_27, wr_28, wr_29, wr_30, wr_31, wr_32, wr_33, wr_34, wr_35, wr_36, wr_37, wr_38, wr_39, wr_40, wr_41, wr_42, wr_43, wr_44, wr_45, wr_46, wr_47, wr_48, wr_49, wr_50, wr_51, wr_52, wr_53, wr_54, wr_55, wr_56, wr_57, wr_58, wr_59, wr_60, wr_61, wr_62, wr_63, wr_99, wr_100, wr_192, wr_255, wr_256, wr_343, wr_999, wr_1000, wr_2401, wr_2147483647, wr_65535, wr_m1, wr_m2, wr_m3, wr_m4, wr_m9, ak_1000, ak_1001, ak_1002, ak_0, ak_1, ak_2, ak_3, ak_4, ak_5, ak_6, ak_7, ak_8, ak_9, ak_10, ak_11, ak_12, ak_13, ak_14, ak_15, ak_16, ak_17, ak_18, ak_19, ak_20, ak_21, ak_22, ak_23, ak_24, ak_25, ak_26, ak_27, ak_28, ak_29, ak_30, ak_31, ak_32, ak_33, ak_34, ak_35, ak_36, ak_37, ak_38, ak_39, ak_40, ak_41, ak_42, ak_43, ak_44, ak_45, ak_46, ak_47, h0, l0, qw]
  · rw [if_neg (by omega), frq_n]
    have qc := sp_X5_fraction a w u M (by omega) (by omega) hu
    generalize ((if u = 0 then w else a) / Nat.gcd a w) = zz at qc ⊢
    (refine am_fnI (tb := tb_X5_tries) (n := 60) (Nat.le_of_ble_eq_true rfl) (Nat.le_of_ble_eq_true rfl) ?_; show rx_X5_tries 60 0 _ _ _ = _)
    simp [↓ri_X5_tries, rs_X5_tries_0, rs_X5_tries_1, rs_X5_tries_4, rs_X5_tries_7, rs_X5_tries_8, rs_X5_tries_9, rs_X5_tries_12, rs_X5_tries_15, rs_X5_tries_16, rs_X5_tries_19, rs_X5_tries_22, rs_X5_tries_23, rs_X5_tries_24, rs_X5_tries_14, rs_X5_tries_27, -List.getElem?_eq_getElem, am_js, am_e, am_in, am_sl, rI, rZ, rV, rJ, rA, rC, kI, kJ, kR, am_one, am_nl, am_w8, tIc, tLc, tNul, tIld, tLld, tAld, tIst, tLst, tAst, tIinc, tI2, tDv, tL2, tLrem, tLs, tLcmp, tI2l, tL2i, tI2c, tDup, tDup2, tPop, tGo, tIfeq, tIfne, tIflt, tIfge, tIfgt, tIfle, tCmeq, tCmne, tCmlt, tCmge, tCmgt, tCmle, tNu, tTs, tGf, tPf, tGs, tIal, tIas, tBal, tBas, tAln, tSv, tSc, tSb, tSl, tSk, tCv, tCs, tCt, tMx, tMn, wr_10000, wr_100000, wr_1000000, wr_10000000, wr_100000000, wr_2400, wr_9999, wr_0, wr_1, wr_2, wr_3, wr_4, wr_5, wr_6, wr_7, wr_8, wr_9, wr_10, wr_11, wr_12, wr_13, wr_14, wr_15, wr_16, wr_17, wr_18, wr_19, wr_20, wr_21, wr_22, wr_23, wr_24, wr_25, wr_26, wr_27, wr_28, wr_29, wr_30, wr_31, wr_32, wr_33, wr_34, wr_35, wr_36, wr_37, wr_38, wr_39, wr_40, wr_41, wr_42, wr_43, wr_44, wr_45, wr_46, wr_47, wr_48, wr_49, wr_50, wr_51, wr_52, wr_53, wr_54, wr_55, wr_56, wr_57, wr_58, wr_59, wr_60, wr_61, wr_62, wr_63, wr_99, wr_100, wr_192, wr_255, wr_256, wr_343, wr_999, wr_1000, wr_2401, wr_2147483647, wr_65535, wr_m1, wr_m2, wr_m3, wr_m4, wr_m9, ak_1000, ak_1001, ak_1002, ak_0, ak_1, ak_2, ak_3, ak_4, ak_5, ak_6, ak_7, ak_8, ak_9, ak_10, ak_11, ak_12, ak_13, ak_14, ak_15, ak_16, ak_17, ak_18, ak_19, ak_20, ak_21, ak_22, ak_23, ak_24, ak_25, ak_26, ak_27, ak_28, ak_29, ak_30, ak_31, ak_32, ak_33, ak_34, ak_35, ak_36, ak_37, ak_38, ak_39, ak_40, ak_41, ak_42, ak_43, ak_44, ak_45, ak_46, ak_47, h0, l0, qw, qa, ww, hz, qc]
abbrev mi_X5_drawer : Mi := (yX5_drawer, cX5_drawer, 4, some .int, 2)
theorem mf_X5_drawer : am_mf mi_X5_drawer 3 := ⟨w_co_X5_drawer, w_in_X5, ⟨by decide +kernel, by decide +kernel⟩, by decide +kernel, by decide⟩
def tb_X5_drawer : List (Nat × Tr) := [(0, tIld 1 1), (1, tIc 1 1), (2, tCmlt 21), (5, tIld 1 1), (6, tIc 12 2), (8, tCmgt 21), (11, tIld 2 1), (12, tIc 1 1), (13, tCmlt 21), (16, tIld 2 1), (17, tIld 1 1), (18, tCmle 24), (21, tIc (-2) 2), (24, tIld 1 1), (25, tIc 1 1), (26, tI2 (fun a b => a + b)), (27, tIld 2 1), (28, tIc 1 1), (29, tI2 (fun a b => a + b)), (30, tIld 3 1), (31, tCs 3 fn_X5_fraction)]
theorem ok_X5_drawer : Tok mi_X5_drawer tb_X5_drawer :=
  Tc (sd_iload_n dX5_drawer_0) <|
  Tc (sd_iconst rfl dX5_drawer_1) <|
  Tc (sd_cm_lt (by decide) dX5_drawer_2) <|
  Tc (sd_iload_n dX5_drawer_5) <|
  Tc (sd_bipush (by decide +kernel) dX5_drawer_6) <|
  Tc (sd_cm_gt (by decide) dX5_drawer_8) <|
  Tc (sd_iload_n dX5_drawer_11) <|
  Tc (sd_iconst rfl dX5_drawer_12) <|
  Tc (sd_cm_lt (by decide) dX5_drawer_13) <|
  Tc (sd_iload_n dX5_drawer_16) <|
  Tc (sd_iload_n dX5_drawer_17) <|
  Tc (sd_cm_le (by decide) dX5_drawer_18) <|
  Tc (sd_bipush (by decide +kernel) dX5_drawer_21) <|
  Tc (sd_iload_n dX5_drawer_24) <|
  Tc (sd_iconst rfl dX5_drawer_25) <|
  Tc (sd_iadd dX5_drawer_26) <|
  Tc (sd_iload_n dX5_drawer_27) <|
  Tc (sd_iconst rfl dX5_drawer_28) <|
  Tc (sd_iadd dX5_drawer_29) <|
  Tc (sd_iload_n dX5_drawer_30) <|
  Tc (sd_cs fok_X5_fraction mf_X5_fraction w_ml_X5_203 w_st_X5_fraction (by decide) dX5_drawer_31) <|
  Tn
theorem rk_X5_drawer : Rok mi_X5_drawer rI [23, 34] := rk_i dX5_drawer_23 <| rk_i dX5_drawer_34 <| rk_n
def rx_X5_drawer : Nat → Nat → AL → List AV → List AC → Option (Option AV × List AC) := am_r tb_X5_drawer rI [23, 34]
theorem rs_X5_drawer_0 (n : Nat) (L : AL) (st : List AV) (M : List AC) : rx_X5_drawer (n + 1) 0 L st M = am_j (rx_X5_drawer n) ((tIld 1 1) 0 L st M) := rfl
theorem rs_X5_drawer_1 (n : Nat) (L : AL) (st : List AV) (M : List AC) : rx_X5_drawer (n + 1) 1 L st M = am_j (rx_X5_drawer n) ((tIc 1 1) 1 L st M) := rfl
theorem rs_X5_drawer_2 (n : Nat) (L : AL) (st : List AV) (M : List AC) : rx_X5_drawer (n + 1) 2 L st M = am_j (rx_X5_drawer n) ((tCmlt 21) 2 L st M) := rfl
theorem rs_X5_drawer_5 (n : Nat) (L : AL) (st : List AV) (M : List AC) : rx_X5_drawer (n + 1) 5 L st M = am_j (rx_X5_drawer n) ((tIld 1 1) 5 L st M) := rfl
theorem rs_X5_drawer_6 (n : Nat) (L : AL) (st : List AV) (M : List AC) : rx_X5_drawer (n + 1) 6 L st M = am_j (rx_X5_drawer n) ((tIc 12 2) 6 L st M) := rfl
theorem rs_X5_drawer_8 (n : Nat) (L : AL) (st : List AV) (M : List AC) : rx_X5_drawer (n + 1) 8 L st M = am_j (rx_X5_drawer n) ((tCmgt 21) 8 L st M) := rfl
theorem rs_X5_drawer_11 (n : Nat) (L : AL) (st : List AV) (M : List AC) : rx_X5_drawer (n + 1) 11 L st M = am_j (rx_X5_drawer n) ((tIld 2 1) 11 L st M) := rfl
theorem rs_X5_drawer_12 (n : Nat) (L : AL) (st : List AV) (M : List AC) : rx_X5_drawer (n + 1) 12 L st M = am_j (rx_X5_drawer n) ((tIc 1 1) 12 L st M) := rfl
theorem rs_X5_drawer_13 (n : Nat) (L : AL) (st : List AV) (M : List AC) : rx_X5_drawer (n + 1) 13 L st M = am_j (rx_X5_drawer n) ((tCmlt 21) 13 L st M) := rfl
theorem rs_X5_drawer_16 (n : Nat) (L : AL) (st : List AV) (M : List AC) : rx_X5_drawer (n + 1) 16 L st M = am_j (rx_X5_drawer n) ((tIld 2 1) 16 L st M) := rfl
theorem rs_X5_drawer_17 (n : Nat) (L : AL) (st : List AV) (M : List AC) : rx_X5_drawer (n + 1) 17 L st M = am_j (rx_X5_drawer n) ((tIld 1 1) 17 L st M) := rfl
theorem rs_X5_drawer_18 (n : Nat) (L : AL) (st : List AV) (M : List AC) : rx_X5_drawer (n + 1) 18 L st M = am_j (rx_X5_drawer n) ((tCmle 24) 18 L st M) := rfl
theorem rs_X5_drawer_21 (n : Nat) (L : AL) (st : List AV) (M : List AC) : rx_X5_drawer (n + 1) 21 L st M = am_j (rx_X5_drawer n) ((tIc (-2) 2) 21 L st M) := rfl
theorem rs_X5_drawer_24 (n : Nat) (L : AL) (st : List AV) (M : List AC) : rx_X5_drawer (n + 1) 24 L st M = am_j (rx_X5_drawer n) ((tIld 1 1) 24 L st M) := rfl
theorem rs_X5_drawer_25 (n : Nat) (L : AL) (st : List AV) (M : List AC) : rx_X5_drawer (n + 1) 25 L st M = am_j (rx_X5_drawer n) ((tIc 1 1) 25 L st M) := rfl
theorem rs_X5_drawer_26 (n : Nat) (L : AL) (st : List AV) (M : List AC) : rx_X5_drawer (n + 1) 26 L st M = am_j (rx_X5_drawer n) ((tI2 (fun a b => a + b)) 26 L st M) := rfl
theorem rs_X5_drawer_27 (n : Nat) (L : AL) (st : List AV) (M : List AC) : rx_X5_drawer (n + 1) 27 L st M = am_j (rx_X5_drawer n) ((tIld 2 1) 27 L st M) := rfl
theorem rs_X5_drawer_28 (n : Nat) (L : AL) (st : List AV) (M : List AC) : rx_X5_drawer (n + 1) 28 L st M = am_j (rx_X5_drawer n) ((tIc 1 1) 28 L st M) := rfl
theorem rs_X5_drawer_29 (n : Nat) (L : AL) (st : List AV) (M : List AC) : rx_X5_drawer (n + 1) 29 L st M = am_j (rx_X5_drawer n) ((tI2 (fun a b => a + b)) 29 L st M) := rfl
theorem rs_X5_drawer_30 (n : Nat) (L : AL) (st : List AV) (M : List AC) : rx_X5_drawer (n + 1) 30 L st M = am_j (rx_X5_drawer n) ((tIld 3 1) 30 L st M) := rfl
theorem rs_X5_drawer_31 (n : Nat) (L : AL) (st : List AV) (M : List AC) : rx_X5_drawer (n + 1) 31 L st M = am_j (rx_X5_drawer n) ((tCs 3 fn_X5_fraction) 31 L st M) := rfl
theorem rs_X5_drawer_23 (n : Nat) (L : AL) (st : List AV) (M : List AC) : rx_X5_drawer (n + 1) 23 L st M = am_e rI st M := rfl
theorem rs_X5_drawer_34 (n : Nat) (L : AL) (st : List AV) (M : List AC) : rx_X5_drawer (n + 1) 34 L st M = am_e rI st M := rfl
theorem ri_X5_drawer (c : Prop) [Decidable c] (p q n : Nat) (L : AL) (st : List AV) (M : List AC) : rx_X5_drawer n (if c then p else q) L st M = if c then rx_X5_drawer n p L st M else rx_X5_drawer n q L st M := by split <;> rfl
theorem rm_X5_drawer {n k pc : Nat} {L : AL} {st : List AV} {M : List AC} {x : Option AV × List AC} (h : rx_X5_drawer n pc L st M = some x) (hk : n ≤ k) : rx_X5_drawer k pc L st M = some x := am_r_mono n k h hk
def fn_X5_drawer : Fn := am_fn rx_X5_drawer 4
theorem fok_X5_drawer : Fok mi_X5_drawer fn_X5_drawer := fun _ _ _ _ h => am_fok ok_X5_drawer rk_X5_drawer rfl h
theorem sp_X5_drawer (M : List AC) (n k u : Int) (hn : -2147483648 ≤ n ∧ n < 2147483648) (hk : -2147483648 ≤ k ∧ k < 2147483648) (hu : u = 0 ∨ u = 1) : fn_X5_drawer [vR 0, vI n, vI k, vI u] M = some (some (vI (if (1 ≤ n ∧ n ≤ 12) ∧ (1 ≤ k ∧ k ≤ n) then frq (n + 1) (k + 1) u else -2)), M) := by
  have wn : wr n = n := wr_id (by omega) (by omega)
  have wk : wr k = k := wr_id (by omega) (by omega)
  by_cases h1 : (1 ≤ n ∧ n ≤ 12) ∧ (1 ≤ k ∧ k ≤ n)
  · rw [if_pos h1]
    obtain ⟨a, ea⟩ := nat_of (x := n + 1) (by omega)
    obtain ⟨w, ew⟩ := nat_of (x := k + 1) (by omega)
    rw [ea, ew, frq_n]
    have qc := sp_X5_fraction a w u M (by omega) (by omega) hu
    generalize ((if u = 0 then w else a) / Nat.gcd a w) = zz at qc ⊢
    have a1 : ¬ n < 1 := by omega
    have a2 : ¬ 12 < n := by omega
    have a3 : ¬ k < 1 := by omega
    have a4 : k ≤ n := by omega
    (refine am_fnI (tb := tb_X5_drawer) (n := 60) (Nat.le_of_ble_eq_true rfl) (Nat.le_of_ble_eq_true rfl) ?_; show rx_X5_drawer 60 0 _ _ _ = _)
    simp [↓ri_X5_drawer, rs_X5_drawer_0, rs_X5_drawer_1, rs_X5_drawer_2, rs_X5_drawer_5, rs_X5_drawer_6, rs_X5_drawer_8, rs_X5_drawer_11, rs_X5_drawer_12, rs_X5_drawer_13, rs_X5_drawer_16, rs_X5_drawer_17, rs_X5_drawer_18, rs_X5_drawer_21, rs_X5_drawer_24, rs_X5_drawer_25, rs_X5_drawer_26, rs_X5_drawer_27, rs_X5_drawer_28, rs_X5_drawer_29, rs_X5_drawer_30, rs_X5_drawer_31, rs_X5_drawer_23, rs_X5_drawer_34, -List.getElem?_eq_getElem, am_js, am_e, am_in, am_sl, rI, rZ, rV, rJ, rA, rC, kI, kJ, kR, am_one, am_nl, am_w8, tIc, tLc, tNul, tIld, tLld, tAld, tIst, tLst, tAst, tIinc, tI2, tDv, tL2, tLrem, tLs, tLcmp, tI2l, tL2i, tI2c, tDup, tDup2, tPop, tGo, tIfeq, tIfne, tIflt, tIfge, tIfgt, tIfle, tCmeq, tCmne, tCmlt, tCmge, tCmgt, tCmle, tNu, tTs, tGf, tPf, tGs, tIal, tIas, tBal, tBas, tAln, tSv, tSc, tSb, tSl, tSk, tCv, tCs, tCt, tMx, tMn, wr_10000, wr_100000, wr_1000000, wr_10000000, wr_100000000, wr_2400, wr_9999, wr_0, wr_1, wr_2, wr_3, wr_4, wr_5, wr_6, wr_7, wr_8, wr_9, wr_10, wr_11, wr_12, wr_13, wr_14, wr_15, wr_16, wr_17, wr_18, wr_19, wr_20, wr_21, wr_22, wr_23, wr_24, wr_25, wr_26, wr_27, wr_28, wr_29, wr_30, wr_31, wr_32, wr_33, wr_34, wr_35, wr_36, wr_37, wr_38, wr_39, wr_40, wr_41, wr_42, wr_43, wr_44, wr_45, wr_46, wr_47, wr_48, wr_49, wr_50, wr_51, wr_52, wr_53, wr_54, wr_55, wr_56, wr_57, wr_58, wr_59, wr_60, wr_61, wr_62, wr_63, wr_99, wr_100, wr_192, wr_255, wr_256, wr_343, wr_999, wr_1000, wr_2401, wr_2147483647, wr_65535, wr_m1, wr_m2, wr_m3, wr_m4, wr_m9, ak_1000, ak_1001, ak_1002, ak_0, ak_1, ak_2, ak_3, ak_4, ak_5, ak_6, ak_7, ak_8, ak_9, ak_10, ak_11, ak_12, ak_13, ak_14, ak_15, ak_16, ak_17, ak_18, ak_19, ak_20, ak_21, ak_22, ak_23, ak_24, ak_25, ak_26, ak_27, ak_28, ak_29, ak_30, ak_31, ak_32, ak_33, ak_34, ak_35, ak_36, ak_37, ak_38, ak_39, ak_40, ak_41, ak_42, ak_43, ak_44, ak_45, ak_46, ak_47, wn, wk, a1, a2, a3, a4, ea, ew, qc]
  · rw [if_neg h1]
    by_cases a1 : n < 1
    · (refine am_fnI (tb := tb_X5_drawer) (n := 60) (Nat.le_of_ble_eq_true rfl) (Nat.le_of_ble_eq_true rfl) ?_; show rx_X5_drawer 60 0 _ _ _ = _)
      simp [↓ri_X5_drawer, rs_X5_drawer_0, rs_X5_drawer_1, rs_X5_drawer_2, rs_X5_drawer_5, rs_X5_drawer_6, rs_X5_drawer_8, rs_X5_drawer_11, rs_X5_drawer_12, rs_X5_drawer_13, rs_X5_drawer_16, rs_X5_drawer_17, rs_X5_drawer_18, rs_X5_drawer_21, rs_X5_drawer_24, rs_X5_drawer_25, rs_X5_drawer_26, rs_X5_drawer_27, rs_X5_drawer_28, rs_X5_drawer_29, rs_X5_drawer_30, rs_X5_drawer_31, rs_X5_drawer_23, rs_X5_drawer_34, -List.getElem?_eq_getElem, am_js, am_e, am_in, am_sl, rI, rZ, rV, rJ, rA, rC, kI, kJ, kR, am_one, am_nl, am_w8, tIc, tLc, tNul, tIld, tLld, tAld, tIst, tLst, tAst, tIinc, tI2, tDv, tL2, tLrem, tLs, tLcmp, tI2l, tL2i, tI2c, tDup, tDup2, tPop, tGo, tIfeq, tIfne, tIflt, tIfge, tIfgt, tIfle, tCmeq, tCmne, tCmlt, tCmge, tCmgt, tCmle, tNu, tTs, tGf, tPf, tGs, tIal, tIas, tBal, tBas, tAln, tSv, tSc, tSb, tSl, tSk, tCv, tCs, tCt, tMx, tMn, wr_10000, wr_100000, wr_1000000, wr_10000000, wr_100000000, wr_2400, wr_9999, wr_0, wr_1, wr_2, wr_3, wr_4, wr_5, wr_6, wr_7, wr_8, wr_9, wr_10, wr_11, wr_12, wr_13, wr_14, wr_15, wr_16, wr_17, wr_18, wr_19, wr_20, wr_21, wr_22, wr_23, wr_24, wr_25, wr_26, wr_27, wr_28, wr_29, wr_30, wr_31, wr_32, wr_33, wr_34, wr_35, wr_36, wr_37, wr_38, wr_39, wr_40, wr_41, wr_42, wr_43, wr_44, wr_45, wr_46, wr_47, wr_48, wr_49, wr_50, wr_51, wr_52, wr_53, wr_54, wr_55, wr_56, wr_57, wr_58, wr_59, wr_60, wr_61, wr_62, wr_63, wr_99, wr_100, wr_192, wr_255, wr_256, wr_343, wr_999, wr_1000, wr_2401, wr_2147483647, wr_65535, wr_m1, wr_m2, wr_m3, wr_m4, wr_m9, ak_1000, ak_1001, ak_1002, ak_0, ak_1, ak_2, ak_3, ak_4, ak_5, ak_6, ak_7, ak_8, ak_9, ak_10, ak_11, ak_12, ak_13, ak_14, ak_15, ak_16, ak_17, ak_18, ak_19, ak_20, ak_21, ak_22, ak_23, ak_24, ak_25, ak_26, ak_27, ak_28, ak_29, ak_30, ak_31, ak_32, ak_33, ak_34, ak_35, ak_36, ak_37, ak_38, ak_39, ak_40, ak_41, ak_42, ak_43, ak_44, ak_45, ak_46, ak_47, wn, a1]
    · by_cases a2 : 12 < n
      · (refine am_fnI (tb := tb_X5_drawer) (n := 60) (Nat.le_of_ble_eq_true rfl) (Nat.le_of_ble_eq_true rfl) ?_; show rx_X5_drawer 60 0 _ _ _ = _)
        simp [↓ri_X5_drawer, rs_X5_drawer_0, rs_X5_drawer_1, rs_X5_drawer_2, rs_X5_drawer_5, rs_X5_drawer_6, rs_X5_drawer_8, rs_X5_drawer_11, rs_X5_drawer_12, rs_X5_drawer_13, rs_X5_drawer_16, rs_X5_drawer_17, rs_X5_drawer_18, rs_X5_drawer_21, rs_X5_drawer_24, rs_X5_drawer_25, rs_X5_drawer_26, rs_X5_drawer_27, rs_X5_drawer_28, rs_X5_drawer_29, rs_X5_drawer_30, rs_X5_drawer_31, rs_X5_drawer_23, rs_X5_drawer_34, -List.getElem?_eq_getElem, am_js, am_e, am_in, am_sl, rI, rZ, rV, rJ, rA, rC, kI, kJ, kR, am_one, am_nl, am_w8, tIc, tLc, tNul, tIld, tLld, tAld, tIst, tLst, tAst, tIinc, tI2, tDv, tL2, tLrem, tLs, tLcmp, tI2l, tL2i, tI2c, tDup, tDup2, tPop, tGo, tIfeq, tIfne, tIflt, tIfge, tIfgt, tIfle, tCmeq, tCmne, tCmlt, tCmge, tCmgt, tCmle, tNu, tTs, tGf, tPf, tGs, tIal, tIas, tBal, tBas, tAln, tSv, tSc, tSb, tSl, tSk, tCv, tCs, tCt, tMx, tMn, wr_10000, wr_100000, wr_1000000, wr_10000000, wr_100000000, wr_2400, wr_9999, wr_0, wr_1, wr_2, wr_3, wr_4, wr_5, wr_6, wr_7, wr_8, wr_9, wr_10, wr_11, wr_12, wr_13, wr_14, wr_15, wr_16, wr_17, wr_18, wr_19, wr_20, wr_21, wr_22, wr_23, wr_24, wr_25, wr_26, wr_27, wr_28, wr_29, wr_30, wr_31, wr_32, wr_33, wr_34, wr_35, wr_36, wr_37, wr_38, wr_39, wr_40, wr_41, wr_42, wr_43, wr_44, wr_45, wr_46, wr_47, wr_48, wr_49, wr_50, wr_51, wr_52, wr_53, wr_54, wr_55, wr_56, wr_57, wr_58, wr_59, wr_60, wr_61, wr_62, wr_63, wr_99, wr_100, wr_192, wr_255, wr_256, wr_343, wr_999, wr_1000, wr_2401, wr_2147483647, wr_65535, wr_m1, wr_m2, wr_m3, wr_m4, wr_m9, ak_1000, ak_1001, ak_1002, ak_0, ak_1, ak_2, ak_3, ak_4, ak_5, ak_6, ak_7, ak_8, ak_9, ak_10, ak_11, ak_12, ak_13, ak_14, ak_15, ak_16, ak_17, ak_18, ak_19, ak_20, ak_21, ak_22, ak_23, ak_24, ak_25, ak_26, ak_27, ak_28, ak_29, ak_30, ak_31, ak_32, ak_33, ak_34, ak_35, ak_36, ak_37, ak_38, ak_39, ak_40, ak_41, ak_42, ak_43, ak_44, ak_45, ak_46, ak_47, wn, a1, a2]
      · by_cases a3 : k < 1
        · (refine am_fnI (tb := tb_X5_drawer) (n := 60) (Nat.le_of_ble_eq_true rfl) (Nat.le_of_ble_eq_true rfl) ?_; show rx_X5_drawer 60 0 _ _ _ = _)
          simp [↓ri_X5_drawer, rs_X5_drawer_0, rs_X5_drawer_1, rs_X5_drawer_2, rs_X5_drawer_5, rs_X5_drawer_6, rs_X5_drawer_8, rs_X5_drawer_11, rs_X5_drawer_12, rs_X5_drawer_13, rs_X5_drawer_16, rs_X5_drawer_17, rs_X5_drawer_18, rs_X5_drawer_21, rs_X5_drawer_24, rs_X5_drawer_25, rs_X5_drawer_26, rs_X5_drawer_27, rs_X5_drawer_28, rs_X5_drawer_29, rs_X5_drawer_30, rs_X5_drawer_31, rs_X5_drawer_23, rs_X5_drawer_34, -List.getElem?_eq_getElem, am_js, am_e, am_in, am_sl, rI, rZ, rV, rJ, rA, rC, kI, kJ, kR, am_one, am_nl, am_w8, tIc, tLc, tNul, tIld, tLld, tAld, tIst, tLst, tAst, tIinc, tI2, tDv, tL2, tLrem, tLs, tLcmp, tI2l, tL2i, tI2c, tDup, tDup2, tPop, tGo, tIfeq, tIfne, tIflt, tIfge, tIfgt, tIfle, tCmeq, tCmne, tCmlt, tCmge, tCmgt, tCmle, tNu, tTs, tGf, tPf, tGs, tIal, tIas, tBal, tBas, tAln, tSv, tSc, tSb, tSl, tSk, tCv, tCs, tCt, tMx, tMn, wr_10000, wr_100000, wr_1000000, wr_10000000, wr_100000000, wr_2400, wr_9999, wr_0, wr_1, wr_2, wr_3, wr_4, wr_5, wr_6, wr_7, wr_8, wr_9, wr_10, wr_11, wr_12, wr_13, wr_14, wr_15, wr_16, wr_17, wr_18, wr_19, wr_20, wr_21, wr_22, wr_23, wr_24, wr_25, wr_26, wr_27, wr_28, wr_29, wr_30, wr_31, wr_32, wr_33, wr_34, wr_35, wr_36, wr_37, wr_38, wr_39, wr_40, wr_41, wr_42, wr_43, wr_44, wr_45, wr_46, wr_47, wr_48, wr_49, wr_50, wr_51, wr_52, wr_53, wr_54, wr_55, wr_56, wr_57, wr_58, wr_59, wr_60, wr_61, wr_62, wr_63, wr_99, wr_100, wr_192, wr_255, wr_256, wr_343, wr_999, wr_1000, wr_2401, wr_2147483647, wr_65535, wr_m1, wr_m2, wr_m3, wr_m4, wr_m9, ak_1000, ak_1001, ak_1002, ak_0, ak_1, ak_2, ak_3, ak_4, ak_5, ak_6, ak_7, ak_8, ak_9, ak_10, ak_11, ak_12, ak_13, ak_14, ak_15, ak_16, ak_17, ak_18, ak_19, ak_20, ak_21, ak_22, ak_23, ak_24, ak_25, ak_26, ak_27, ak_28, ak_29, ak_30, ak_31, ak_32, ak_33, ak_34, ak_35, ak_36, ak_37, ak_38, ak_39, ak_40, ak_41, ak_42, ak_43, ak_44, ak_45, ak_46, ak_47, wn, wk, a1, a2, a3]
        · have a4 : ¬ k ≤ n := by omega
          (refine am_fnI (tb := tb_X5_drawer) (n := 60) (Nat.le_of_ble_eq_true rfl) (Nat.le_of_ble_eq_true rfl) ?_; show rx_X5_drawer 60 0 _ _ _ = _)
          simp [↓ri_X5_drawer, rs_X5_drawer_0, rs_X5_drawer_1, rs_X5_drawer_2, rs_X5_drawer_5, rs_X5_drawer_6, rs_X5_drawer_8, rs_X5_drawer_11, rs_X5_drawer_12, rs_X5_drawer_13, rs_X5_drawer_16, rs_X5_drawer_17, rs_X5_drawer_18, rs_X5_drawer_21, rs_X5_drawer_24, rs_X5_drawer_25, rs_X5_drawer_26, rs_X5_drawer_27, rs_X5_drawer_28, rs_X5_drawer_29, rs_X5_drawer_30, rs_X5_drawer_31, rs_X5_drawer_23, rs_X5_drawer_34, -List.getElem?_eq_getElem, am_js, am_e, am_in, am_sl, rI, rZ, rV, rJ, rA, rC, kI, kJ, kR, am_one, am_nl, am_w8, tIc, tLc, tNul, tIld, tLld, tAld, tIst, tLst, tAst, tIinc, tI2, tDv, tL2, tLrem, tLs, tLcmp, tI2l, tL2i, tI2c, tDup, tDup2, tPop, tGo, tIfeq, tIfne, tIflt, tIfge, tIfgt, tIfle, tCmeq, tCmne, tCmlt, tCmge, tCmgt, tCmle, tNu, tTs, tGf, tPf, tGs, tIal, tIas, tBal, tBas, tAln, tSv, tSc, tSb, tSl, tSk, tCv, tCs, tCt, tMx, tMn, wr_10000, wr_100000, wr_1000000, wr_10000000, wr_100000000, wr_2400, wr_9999, wr_0, wr_1, wr_2, wr_3, wr_4, wr_5, wr_6, wr_7, wr_8, wr_9, wr_10, wr_11, wr_12, wr_13, wr_14, wr_15, wr_16, wr_17, wr_18, wr_19, wr_20, wr_21, wr_22, wr_23, wr_24, wr_25, wr_26, wr_27, wr_28, wr_29, wr_30, wr_31, wr_32, wr_33, wr_34, wr_35, wr_36, wr_37, wr_38, wr_39, wr_40, wr_41, wr_42, wr_43, wr_44, wr_45, wr_46, wr_47, wr_48, wr_49, wr_50, wr_51, wr_52, wr_53, wr_54, wr_55, wr_56, wr_57, wr_58, wr_59, wr_60, wr_61, wr_62, wr_63, wr_99, wr_100, wr_192, wr_255, wr_256, wr_343, wr_999, wr_1000, wr_2401, wr_2147483647, wr_65535, wr_m1, wr_m2, wr_m3, wr_m4, wr_m9, ak_1000, ak_1001, ak_1002, ak_0, ak_1, ak_2, ak_3, ak_4, ak_5, ak_6, ak_7, ak_8, ak_9, ak_10, ak_11, ak_12, ak_13, ak_14, ak_15, ak_16, ak_17, ak_18, ak_19, ak_20, ak_21, ak_22, ak_23, ak_24, ak_25, ak_26, ak_27, ak_28, ak_29, ak_30, ak_31, ak_32, ak_33, ak_34, ak_35, ak_36, ak_37, ak_38, ak_39, ak_40, ak_41, ak_42, ak_43, ak_44, ak_45, ak_46, ak_47, wn, wk, a1, a2, a3, a4]
/-- the first figures, n of them, foremost first -/
def dk5 (x nn : Int) : Nat → Int → Int
  | 0, _ => 1
  | n + 1, i => if x / pw (nn - 1 - i) % 10 < 4 then dk5 x nn n (i + 1) else 0
abbrev mi_X5_areScrews : Mi := (yX5_areScrews, cX5_areScrews, 3, some .boolean, 2)
theorem mf_X5_areScrews : am_mf mi_X5_areScrews 2 := ⟨w_co_X5_areScrews, w_in_X5, ⟨by decide +kernel, by decide +kernel⟩, by decide +kernel, by decide⟩
def tb_X5_areScrews : List (Nat × Tr) := [(0, tIc 0 1), (1, tIst 2 1), (2, tIld 2 1), (3, tIld 0 1), (4, tCmge 27), (7, tIld 1 1), (8, tIld 0 1), (9, tIld 2 1), (10, tCs 3 fn_X5_figureOf), (13, tCs 1 fn_X5_isCorner), (16, tIfne 21), (19, tIc 0 1), (21, tIinc 2 1), (24, tGo 2), (27, tIc 1 1)]
theorem ok_X5_areScrews : Tok mi_X5_areScrews tb_X5_areScrews :=
  Tc (sd_iconst rfl dX5_areScrews_0) <|
  Tc (sd_istore_n dX5_areScrews_1) <|
  Tc (sd_iload_n dX5_areScrews_2) <|
  Tc (sd_iload_n dX5_areScrews_3) <|
  Tc (sd_cm_ge (by decide) dX5_areScrews_4) <|
  Tc (sd_iload_n dX5_areScrews_7) <|
  Tc (sd_iload_n dX5_areScrews_8) <|
  Tc (sd_iload_n dX5_areScrews_9) <|
  Tc (sd_cs fok_X5_figureOf mf_X5_figureOf w_ml_X5_161 w_st_X5_figureOf (by decide) dX5_areScrews_10) <|
  Tc (sd_cs fok_X5_isCorner mf_X5_isCorner w_ml_X5_105 w_st_X5_isCorner (by decide) dX5_areScrews_13) <|
  Tc (sd_if_ne (by decide) dX5_areScrews_16) <|
  Tc (sd_iconst rfl dX5_areScrews_19) <|
  Tc (sd_iinc dX5_areScrews_21) <|
  Tc (sd_goto (by decide) dX5_areScrews_24) <|
  Tc (sd_iconst rfl dX5_areScrews_27) <|
  Tn
theorem rk_X5_areScrews : Rok mi_X5_areScrews rZ [20, 28] := rk_z dX5_areScrews_20 <| rk_z dX5_areScrews_28 <| rk_n
def rx_X5_areScrews : Nat → Nat → AL → List AV → List AC → Option (Option AV × List AC) := am_r tb_X5_areScrews rZ [20, 28]
theorem rs_X5_areScrews_0 (n : Nat) (L : AL) (st : List AV) (M : List AC) : rx_X5_areScrews (n + 1) 0 L st M = am_j (rx_X5_areScrews n) ((tIc 0 1) 0 L st M) := rfl
theorem rs_X5_areScrews_1 (n : Nat) (L : AL) (st : List AV) (M : List AC) : rx_X5_areScrews (n + 1) 1 L st M = am_j (rx_X5_areScrews n) ((tIst 2 1) 1 L st M) := rfl
theorem rs_X5_areScrews_2 (n : Nat) (L : AL) (st : List AV) (M : List AC) : rx_X5_areScrews (n + 1) 2 L st M = am_j (rx_X5_areScrews n) ((tIld 2 1) 2 L st M) := rfl
theorem rs_X5_areScrews_3 (n : Nat) (L : AL) (st : List AV) (M : List AC) : rx_X5_areScrews (n + 1) 3 L st M = am_j (rx_X5_areScrews n) ((tIld 0 1) 3 L st M) := rfl
theorem rs_X5_areScrews_4 (n : Nat) (L : AL) (st : List AV) (M : List AC) : rx_X5_areScrews (n + 1) 4 L st M = am_j (rx_X5_areScrews n) ((tCmge 27) 4 L st M) := rfl
theorem rs_X5_areScrews_7 (n : Nat) (L : AL) (st : List AV) (M : List AC) : rx_X5_areScrews (n + 1) 7 L st M = am_j (rx_X5_areScrews n) ((tIld 1 1) 7 L st M) := rfl
theorem rs_X5_areScrews_8 (n : Nat) (L : AL) (st : List AV) (M : List AC) : rx_X5_areScrews (n + 1) 8 L st M = am_j (rx_X5_areScrews n) ((tIld 0 1) 8 L st M) := rfl
theorem rs_X5_areScrews_9 (n : Nat) (L : AL) (st : List AV) (M : List AC) : rx_X5_areScrews (n + 1) 9 L st M = am_j (rx_X5_areScrews n) ((tIld 2 1) 9 L st M) := rfl
theorem rs_X5_areScrews_10 (n : Nat) (L : AL) (st : List AV) (M : List AC) : rx_X5_areScrews (n + 1) 10 L st M = am_j (rx_X5_areScrews n) ((tCs 3 fn_X5_figureOf) 10 L st M) := rfl
theorem rs_X5_areScrews_13 (n : Nat) (L : AL) (st : List AV) (M : List AC) : rx_X5_areScrews (n + 1) 13 L st M = am_j (rx_X5_areScrews n) ((tCs 1 fn_X5_isCorner) 13 L st M) := rfl
theorem rs_X5_areScrews_16 (n : Nat) (L : AL) (st : List AV) (M : List AC) : rx_X5_areScrews (n + 1) 16 L st M = am_j (rx_X5_areScrews n) ((tIfne 21) 16 L st M) := rfl
theorem rs_X5_areScrews_19 (n : Nat) (L : AL) (st : List AV) (M : List AC) : rx_X5_areScrews (n + 1) 19 L st M = am_j (rx_X5_areScrews n) ((tIc 0 1) 19 L st M) := rfl
theorem rs_X5_areScrews_21 (n : Nat) (L : AL) (st : List AV) (M : List AC) : rx_X5_areScrews (n + 1) 21 L st M = am_j (rx_X5_areScrews n) ((tIinc 2 1) 21 L st M) := rfl
theorem rs_X5_areScrews_24 (n : Nat) (L : AL) (st : List AV) (M : List AC) : rx_X5_areScrews (n + 1) 24 L st M = am_j (rx_X5_areScrews n) ((tGo 2) 24 L st M) := rfl
theorem rs_X5_areScrews_27 (n : Nat) (L : AL) (st : List AV) (M : List AC) : rx_X5_areScrews (n + 1) 27 L st M = am_j (rx_X5_areScrews n) ((tIc 1 1) 27 L st M) := rfl
theorem rs_X5_areScrews_20 (n : Nat) (L : AL) (st : List AV) (M : List AC) : rx_X5_areScrews (n + 1) 20 L st M = am_e rZ st M := rfl
theorem rs_X5_areScrews_28 (n : Nat) (L : AL) (st : List AV) (M : List AC) : rx_X5_areScrews (n + 1) 28 L st M = am_e rZ st M := rfl
theorem ri_X5_areScrews (c : Prop) [Decidable c] (p q n : Nat) (L : AL) (st : List AV) (M : List AC) : rx_X5_areScrews n (if c then p else q) L st M = if c then rx_X5_areScrews n p L st M else rx_X5_areScrews n q L st M := by split <;> rfl
theorem rm_X5_areScrews {n k pc : Nat} {L : AL} {st : List AV} {M : List AC} {x : Option AV × List AC} (h : rx_X5_areScrews n pc L st M = some x) (hk : n ≤ k) : rx_X5_areScrews k pc L st M = some x := am_r_mono n k h hk
def fn_X5_areScrews : Fn := am_fn rx_X5_areScrews 3
theorem fok_X5_areScrews : Fok mi_X5_areScrews fn_X5_areScrews := fun _ _ _ _ h => am_fok ok_X5_areScrews rk_X5_areScrews rfl h
theorem lp_X5_areScrews (x nn : Int) (hx : 0 ≤ x ∧ x < 2147483648) (hn : 0 ≤ nn ∧ nn ≤ 8) (M : List AC) : ∀ (n : Nat) (i : Int), i + n = nn → 0 ≤ i → Ru rx_X5_areScrews (30 * n + 10) 2 [some (vI nn), some (vI x), some (vI i)] [] M (some (vI (dk5 x nn n i)), M)
  | 0, i, hi, hi0 => by
    have e : i = nn := by omega
    subst e
    have wi : wr i = i := wr_id (by omega) (by omega)
    refine ⟨9 + 1, by omega, ?_⟩
    rw [rs_X5_areScrews_2, dk5]
    simp [↓ri_X5_areScrews, rs_X5_areScrews_0, rs_X5_areScrews_1, rs_X5_areScrews_3, rs_X5_areScrews_4, rs_X5_areScrews_7, rs_X5_areScrews_8, rs_X5_areScrews_9, rs_X5_areScrews_10, rs_X5_areScrews_13, rs_X5_areScrews_16, rs_X5_areScrews_19, rs_X5_areScrews_21, rs_X5_areScrews_24, rs_X5_areScrews_27, rs_X5_areScrews_20, rs_X5_areScrews_28, -List.getElem?_eq_getElem, am_js, am_e, am_in, am_sl, rI, rZ, rV, rJ, rA, rC, kI, kJ, kR, am_one, am_nl, am_w8, tIc, tLc, tNul, tIld, tLld, tAld, tIst, tLst, tAst, tIinc, tI2, tDv, tL2, tLrem, tLs, tLcmp, tI2l, tL2i, tI2c, tDup, tDup2, tPop, tGo, tIfeq, tIfne, tIflt, tIfge, tIfgt, tIfle, tCmeq, tCmne, tCmlt, tCmge, tCmgt, tCmle, tNu, tTs, tGf, tPf, tGs, tIal, tIas, tBal, tBas, tAln, tSv, tSc, tSb, tSl, tSk, tCv, tCs, tCt, tMx, tMn, wr_10000, wr_100000, wr_1000000, wr_10000000, wr_100000000, wr_2400, wr_9999, wr_0, wr_1, wr_2, wr_3, wr_4, wr_5, wr_6, wr_7, wr_8, wr_9, wr_10, wr_11, wr_12, wr_13, wr_14, wr_15, wr_16, wr_17, wr_18, wr_19, wr_20, wr_21, wr_22, wr_23, wr_24, wr_25, wr_26, wr_27, wr_28, wr_29, wr_30, wr_31, wr_32, wr_33, wr_34, wr_35, wr_36, wr_37, wr_38, wr_39, wr_40, wr_41, wr_42, wr_43, wr_44, wr_45, wr_46, wr_47, wr_48, wr_49, wr_50, wr_51, wr_52, wr_53, wr_54, wr_55, wr_56, wr_57, wr_58, wr_59, wr_60, wr_61, wr_62, wr_63, wr_99, wr_100, wr_192, wr_255, wr_256, wr_343, wr_999, wr_1000, wr_2401, wr_2147483647, wr_65535, wr_m1, wr_m2, wr_m3, wr_m4, wr_m9, ak_1000, ak_1001, ak_1002, ak_0, ak_1, ak_2, ak_3, ak_4, ak_5, ak_6, ak_7, ak_8, ak_9, ak_10, ak_11, ak_12, ak_13, ak_14, ak_15, ak_16, ak_17, ak_18, ak_19, ak_20, ak_21, ak_22, ak_23, ak_24, ak_25, ak_26, ak_27, ak_28, ak_29, ak_30, ak_31, ak_32, ak_33, ak_34, ak_35, ak_36, ak_37, ak_38, ak_39, ak_40, ak_41, ak_42, ak_43, ak_44, ak_45, ak_46, ak_47, wi]
  | n + 1, i, hi, hi0 => by
    have wi : wr i = i := wr_id (by omega) (by omega)
    have wn : wr nn = nn := wr_id (by omega) (by omega)
    have ni : ¬ nn ≤ i := by omega
    have q1 := figOf_pw x nn i (nn - 1 - i) M hx rfl (by omega)
    obtain ⟨k, hk, h⟩ := lp_X5_areScrews x nn hx hn M n (i + 1) (by omega) (by omega)
    rw [dk5]
    have rf : 0 ≤ x / pw (nn - 1 - i) % 10 ∧ x / pw (nn - 1 - i) % 10 < 10 := ⟨Int.emod_nonneg _ (by decide), Int.emod_lt_of_pos _ (by decide)⟩
    generalize x / pw (nn - 1 - i) % 10 = f at q1 rf ⊢
    have wf : wr f = f := wr_id (by omega) (by omega)
    refine ⟨k + 29 + 1, by omega, ?_⟩
    rw [rs_X5_areScrews_2]
    by_cases hf : f < 4
    · rw [if_pos hf]
      simp [↓ri_X5_areScrews, rs_X5_areScrews_0, rs_X5_areScrews_1, rs_X5_areScrews_3, rs_X5_areScrews_4, rs_X5_areScrews_7, rs_X5_areScrews_8, rs_X5_areScrews_9, rs_X5_areScrews_10, rs_X5_areScrews_13, rs_X5_areScrews_16, rs_X5_areScrews_19, rs_X5_areScrews_21, rs_X5_areScrews_24, rs_X5_areScrews_27, rs_X5_areScrews_20, rs_X5_areScrews_28, -List.getElem?_eq_getElem, am_js, am_e, am_in, am_sl, rI, rZ, rV, rJ, rA, rC, kI, kJ, kR, am_one, am_nl, am_w8, tIc, tLc, tNul, tIld, tLld, tAld, tIst, tLst, tAst, tIinc, tI2, tDv, tL2, tLrem, tLs, tLcmp, tI2l, tL2i, tI2c, tDup, tDup2, tPop, tGo, tIfeq, tIfne, tIflt, tIfge, tIfgt, tIfle, tCmeq, tCmne, tCmlt, tCmge, tCmgt, tCmle, tNu, tTs, tGf, tPf, tGs, tIal, tIas, tBal, tBas, tAln, tSv, tSc, tSb, tSl, tSk, tCv, tCs, tCt, tMx, tMn, wr_10000, wr_100000, wr_1000000, wr_10000000, wr_100000000, wr_2400, wr_9999, wr_0, wr_1, wr_2, wr_3, wr_4, wr_5, wr_6, wr_7, wr_8, wr_9, wr_10, wr_11, wr_12, wr_13, wr_14, wr_15, wr_16, wr_17, wr_18, wr_19, wr_20, wr_21, wr_22, wr_23, wr_24, wr_25, wr_26, wr_27, wr_28, wr_29, wr_30, wr_31, wr_32, wr_33, wr_34, wr_35, wr_36, wr_37, wr_38, wr_39, wr_40, wr_41, wr_42, wr_43, wr_44, wr_45, wr_46, wr_47, wr_48, wr_49, wr_50, wr_51, wr_52, wr_53, wr_54, wr_55, wr_56, wr_57, wr_58, wr_59, wr_60, wr_61, wr_62, wr_63, wr_99, wr_100, wr_192, wr_255, wr_256, wr_343, wr_999, wr_1000, wr_2401, wr_2147483647, wr_65535, wr_m1, wr_m2, wr_m3, wr_m4, wr_m9, ak_1000, ak_1001, ak_1002, ak_0, ak_1, ak_2, ak_3, ak_4, ak_5, ak_6, ak_7, ak_8, ak_9, ak_10, ak_11, ak_12, ak_13, ak_14, ak_15, ak_16, ak_17, ak_18, ak_19, ak_20, ak_21, ak_22, ak_23, ak_24, ak_25, ak_26, ak_27, ak_28, ak_29, ak_30, ak_31, ak_32, ak_33, ak_34, ak_35, ak_36, ak_37, ak_38, ak_39, ak_40, ak_41, ak_42, ak_43, ak_44, ak_45, ak_46, ak_47, wi, wn, ni, q1, sp_X5_isCorner, wf, rf, hf]
      exact rm_X5_areScrews h (by omega)
    · rw [if_neg hf]
      simp [↓ri_X5_areScrews, rs_X5_areScrews_0, rs_X5_areScrews_1, rs_X5_areScrews_3, rs_X5_areScrews_4, rs_X5_areScrews_7, rs_X5_areScrews_8, rs_X5_areScrews_9, rs_X5_areScrews_10, rs_X5_areScrews_13, rs_X5_areScrews_16, rs_X5_areScrews_19, rs_X5_areScrews_21, rs_X5_areScrews_24, rs_X5_areScrews_27, rs_X5_areScrews_20, rs_X5_areScrews_28, -List.getElem?_eq_getElem, am_js, am_e, am_in, am_sl, rI, rZ, rV, rJ, rA, rC, kI, kJ, kR, am_one, am_nl, am_w8, tIc, tLc, tNul, tIld, tLld, tAld, tIst, tLst, tAst, tIinc, tI2, tDv, tL2, tLrem, tLs, tLcmp, tI2l, tL2i, tI2c, tDup, tDup2, tPop, tGo, tIfeq, tIfne, tIflt, tIfge, tIfgt, tIfle, tCmeq, tCmne, tCmlt, tCmge, tCmgt, tCmle, tNu, tTs, tGf, tPf, tGs, tIal, tIas, tBal, tBas, tAln, tSv, tSc, tSb, tSl, tSk, tCv, tCs, tCt, tMx, tMn, wr_10000, wr_100000, wr_1000000, wr_10000000, wr_100000000, wr_2400, wr_9999, wr_0, wr_1, wr_2, wr_3, wr_4, wr_5, wr_6, wr_7, wr_8, wr_9, wr_10, wr_11, wr_12, wr_13, wr_14, wr_15, wr_16, wr_17, wr_18, wr_19, wr_20, wr_21, wr_22, wr_23, wr_24, wr_25, wr_26, wr_27, wr_28, wr_29, wr_30, wr_31, wr_32, wr_33, wr_34, wr_35, wr_36, wr_37, wr_38, wr_39, wr_40, wr_41, wr_42, wr_43, wr_44, wr_45, wr_46, wr_47, wr_48, wr_49, wr_50, wr_51, wr_52, wr_53, wr_54, wr_55, wr_56, wr_57, wr_58, wr_59, wr_60, wr_61, wr_62, wr_63, wr_99, wr_100, wr_192, wr_255, wr_256, wr_343, wr_999, wr_1000, wr_2401, wr_2147483647, wr_65535, wr_m1, wr_m2, wr_m3, wr_m4, wr_m9, ak_1000, ak_1001, ak_1002, ak_0, ak_1, ak_2, ak_3, ak_4, ak_5, ak_6, ak_7, ak_8, ak_9, ak_10, ak_11, ak_12, ak_13, ak_14, ak_15, ak_16, ak_17, ak_18, ak_19, ak_20, ak_21, ak_22, ak_23, ak_24, ak_25, ak_26, ak_27, ak_28, ak_29, ak_30, ak_31, ak_32, ak_33, ak_34, ak_35, ak_36, ak_37, ak_38, ak_39, ak_40, ak_41, ak_42, ak_43, ak_44, ak_45, ak_46, ak_47, wi, wn, ni, q1, sp_X5_isCorner, wf, rf, hf]
theorem sp_X5_areScrews (x n : Int) (hx : 0 ≤ x ∧ x < 2147483648) (hn : 0 ≤ n ∧ n ≤ 8) (M : List AC) : fn_X5_areScrews [vI n, vI x] M = some (some (vI (dk5 x n n.toNat 0)), M) := by
  obtain ⟨k, hk, h⟩ := lp_X5_areScrews x n hx hn M n.toNat 0 (by omega) (by omega)
  generalize dk5 x n n.toNat 0 = W at h ⊢
  (refine am_fnR (tb := tb_X5_areScrews) (N := 2000) (Nat.le_of_ble_eq_true rfl) (Nat.le_of_ble_eq_true rfl) ?_; show Ru rx_X5_areScrews 2000 0 _ _ _ _)
  refine ⟨k + 5, by omega, ?_⟩
  simp [↓ri_X5_areScrews, rs_X5_areScrews_0, rs_X5_areScrews_1, rs_X5_areScrews_3, rs_X5_areScrews_4, rs_X5_areScrews_7, rs_X5_areScrews_8, rs_X5_areScrews_9, rs_X5_areScrews_10, rs_X5_areScrews_13, rs_X5_areScrews_16, rs_X5_areScrews_19, rs_X5_areScrews_21, rs_X5_areScrews_24, rs_X5_areScrews_27, rs_X5_areScrews_20, rs_X5_areScrews_28, -List.getElem?_eq_getElem, am_js, am_e, am_in, am_sl, rI, rZ, rV, rJ, rA, rC, kI, kJ, kR, am_one, am_nl, am_w8, tIc, tLc, tNul, tIld, tLld, tAld, tIst, tLst, tAst, tIinc, tI2, tDv, tL2, tLrem, tLs, tLcmp, tI2l, tL2i, tI2c, tDup, tDup2, tPop, tGo, tIfeq, tIfne, tIflt, tIfge, tIfgt, tIfle, tCmeq, tCmne, tCmlt, tCmge, tCmgt, tCmle, tNu, tTs, tGf, tPf, tGs, tIal, tIas, tBal, tBas, tAln, tSv, tSc, tSb, tSl, tSk, tCv, tCs, tCt, tMx, tMn, wr_10000, wr_100000, wr_1000000, wr_10000000, wr_100000000, wr_2400, wr_9999, wr_0, wr_1, wr_2, wr_3, wr_4, wr_5, wr_6, wr_7, wr_8, wr_9, wr_10, wr_11, wr_12, wr_13, wr_14, wr_15, wr_16, wr_17, wr_18, wr_19, wr_20, wr_21, wr_22, wr_23, wr_24, wr_25, wr_26, wr_27, wr_28, wr_29, wr_30, wr_31, wr_32, wr_33, wr_34, wr_35, wr_36, wr_37, wr_38, wr_39, wr_40, wr_41, wr_42, wr_43, wr_44, wr_45, wr_46, wr_47, wr_48, wr_49, wr_50, wr_51, wr_52, wr_53, wr_54, wr_55, wr_56, wr_57, wr_58, wr_59, wr_60, wr_61, wr_62, wr_63, wr_99, wr_100, wr_192, wr_255, wr_256, wr_343, wr_999, wr_1000, wr_2401, wr_2147483647, wr_65535, wr_m1, wr_m2, wr_m3, wr_m4, wr_m9, ak_1000, ak_1001, ak_1002, ak_0, ak_1, ak_2, ak_3, ak_4, ak_5, ak_6, ak_7, ak_8, ak_9, ak_10, ak_11, ak_12, ak_13, ak_14, ak_15, ak_16, ak_17, ak_18, ak_19, ak_20, ak_21, ak_22, ak_23, ak_24, ak_25, ak_26, ak_27, ak_28, ak_29, ak_30, ak_31, ak_32, ak_33, ak_34, ak_35, ak_36, ak_37, ak_38, ak_39, ak_40, ak_41, ak_42, ak_43, ak_44, ak_45, ak_46, ak_47]
  exact rm_X5_areScrews h (by omega)
theorem dk5_01 (x nn : Int) : ∀ (n : Nat) (i : Int), dk5 x nn n i = 0 ∨ dk5 x nn n i = 1
  | 0, _ => Or.inr rfl
  | n + 1, i => by
    rw [dk5]
    split
    · exact dk5_01 x nn n (i + 1)
    · exact Or.inl rfl
theorem dk5_all (x nn : Int) : ∀ (n : Nat) (i : Int), dk5 x nn n i = 1 ↔ ∀ j : Int, i ≤ j → j < i + n → x / pw (nn - 1 - j) % 10 < 4
  | 0, i => ⟨fun _ j h1 h2 => by omega, fun _ => rfl⟩
  | n + 1, i => by
    rw [dk5]
    have ih := dk5_all x nn n (i + 1)
    constructor
    · intro h j h1 h2
      split at h
      · next hd =>
        by_cases e : j = i
        · rw [e]; exact hd
        · exact ih.mp h j (by omega) (by omega)
      · cases h
    · intro h
      rw [if_pos (h i (by omega) (by omega))]
      exact ih.mpr (fun j h1 h2 => h j (by omega) (by omega))
abbrev mi_X5_drum : Mi := (yX5_drum, cX5_drum, 5, some .int, 3)
theorem mf_X5_drum : am_mf mi_X5_drum 3 := ⟨w_co_X5_drum, w_in_X5, ⟨by decide +kernel, by decide +kernel⟩, by decide +kernel, by decide⟩
def tb_X5_drum : List (Nat × Tr) := [(0, tIld 1 1), (1, tCs 1 fn_X5_isCorner), (4, tIfne 9), (7, tIc (-1) 1), (9, tIld 2 1), (10, tIflt 40), (13, tIld 2 1), (14, tIc 8 2), (16, tCmgt 40), (19, tIld 3 1), (20, tIflt 40), (23, tIld 3 1), (24, tGs (vR 1000)), (27, tIld 2 1), (28, tIal), (29, tCmge 40), (32, tIld 2 1), (33, tIld 3 1), (34, tCs 2 fn_X5_areScrews), (37, tIfne 43), (40, tIc (-2) 2), (43, tAld 0 1), (44, tGf 5 10), (47, tCv 2 0 fn_X2_loosen), (50, tIc 0 1), (51, tIst 4 2), (53, tIld 4 2), (55, tIld 2 1), (56, tCmge 79), (59, tAld 0 1), (60, tGf 5 10), (63, tIld 3 1), (64, tIld 2 1), (65, tIld 4 2), (67, tCs 3 fn_X5_figureOf), (70, tCv 2 1 fn_X2_tighten), (73, tIinc 4 1), (76, tGo 53), (79, tAld 0 1), (80, tGf 5 10), (83, tGf 2 0), (86, tIld 1 1), (87, tIal)]
theorem ok_X5_drum : Tok mi_X5_drum tb_X5_drum :=
  Tc (sd_iload_n dX5_drum_0) <|
  Tc (sd_cs fok_X5_isCorner mf_X5_isCorner w_ml_X5_105 w_st_X5_isCorner (by decide) dX5_drum_1) <|
  Tc (sd_if_ne (by decide) dX5_drum_4) <|
  Tc (sd_iconst rfl dX5_drum_7) <|
  Tc (sd_iload_n dX5_drum_9) <|
  Tc (sd_if_lt (by decide) dX5_drum_10) <|
  Tc (sd_iload_n dX5_drum_13) <|
  Tc (sd_bipush (by decide +kernel) dX5_drum_14) <|
  Tc (sd_cm_gt (by decide) dX5_drum_16) <|
  Tc (sd_iload_n dX5_drum_19) <|
  Tc (sd_if_lt (by decide) dX5_drum_20) <|
  Tc (sd_iload_n dX5_drum_23) <|
  Tc (sd_gsTens w_fl_X5_158 dX5_drum_24) <|
  Tc (sd_iload_n dX5_drum_27) <|
  Tc (sd_ial dX5_drum_28) <|
  Tc (sd_cm_ge (by decide) dX5_drum_29) <|
  Tc (sd_iload_n dX5_drum_32) <|
  Tc (sd_iload_n dX5_drum_33) <|
  Tc (sd_cs fok_X5_areScrews mf_X5_areScrews w_ml_X5_210 w_st_X5_areScrews (by decide) dX5_drum_34) <|
  Tc (sd_if_ne (by decide) dX5_drum_37) <|
  Tc (sd_bipush (by decide +kernel) dX5_drum_40) <|
  Tc (sd_aload_n dX5_drum_43) <|
  Tc (sd_getf (T := TX5) rfl giX5 (by decide) w_fl_X5_59 dX5_drum_44) <|
  Tc (sd_cv (T := TX2) fok_X2_loosen mf_X2_loosen rfl w_ml_X5_213 w_im_X2_loosen w_se_X2_loosen (by decide) dX5_drum_47) <|
  Tc (sd_iconst rfl dX5_drum_50) <|
  Tc (sd_istore dX5_drum_51) <|
  Tc (sd_iload dX5_drum_53) <|
  Tc (sd_iload_n dX5_drum_55) <|
  Tc (sd_cm_ge (by decide) dX5_drum_56) <|
  Tc (sd_aload_n dX5_drum_59) <|
  Tc (sd_getf (T := TX5) rfl giX5 (by decide) w_fl_X5_59 dX5_drum_60) <|
  Tc (sd_iload_n dX5_drum_63) <|
  Tc (sd_iload_n dX5_drum_64) <|
  Tc (sd_iload dX5_drum_65) <|
  Tc (sd_cs fok_X5_figureOf mf_X5_figureOf w_ml_X5_161 w_st_X5_figureOf (by decide) dX5_drum_67) <|
  Tc (sd_cv (T := TX2) fok_X2_tighten mf_X2_tighten rfl w_ml_X5_216 w_im_X2_tighten w_se_X2_tighten (by decide) dX5_drum_70) <|
  Tc (sd_iinc dX5_drum_73) <|
  Tc (sd_goto (by decide) dX5_drum_76) <|
  Tc (sd_aload_n dX5_drum_79) <|
  Tc (sd_getf (T := TX5) rfl giX5 (by decide) w_fl_X5_59 dX5_drum_80) <|
  Tc (sd_getf (T := TX2) rfl giX2 (by decide) w_fl_X5_219 dX5_drum_83) <|
  Tc (sd_iload_n dX5_drum_86) <|
  Tc (sd_ial dX5_drum_87) <|
  Tn
theorem rk_X5_drum : Rok mi_X5_drum rI [8, 42, 88] := rk_i dX5_drum_8 <| rk_i dX5_drum_42 <| rk_i dX5_drum_88 <| rk_n
def rx_X5_drum : Nat → Nat → AL → List AV → List AC → Option (Option AV × List AC) := am_r tb_X5_drum rI [8, 42, 88]
theorem rs_X5_drum_0 (n : Nat) (L : AL) (st : List AV) (M : List AC) : rx_X5_drum (n + 1) 0 L st M = am_j (rx_X5_drum n) ((tIld 1 1) 0 L st M) := rfl
theorem rs_X5_drum_1 (n : Nat) (L : AL) (st : List AV) (M : List AC) : rx_X5_drum (n + 1) 1 L st M = am_j (rx_X5_drum n) ((tCs 1 fn_X5_isCorner) 1 L st M) := rfl
theorem rs_X5_drum_4 (n : Nat) (L : AL) (st : List AV) (M : List AC) : rx_X5_drum (n + 1) 4 L st M = am_j (rx_X5_drum n) ((tIfne 9) 4 L st M) := rfl
theorem rs_X5_drum_7 (n : Nat) (L : AL) (st : List AV) (M : List AC) : rx_X5_drum (n + 1) 7 L st M = am_j (rx_X5_drum n) ((tIc (-1) 1) 7 L st M) := rfl
theorem rs_X5_drum_9 (n : Nat) (L : AL) (st : List AV) (M : List AC) : rx_X5_drum (n + 1) 9 L st M = am_j (rx_X5_drum n) ((tIld 2 1) 9 L st M) := rfl
theorem rs_X5_drum_10 (n : Nat) (L : AL) (st : List AV) (M : List AC) : rx_X5_drum (n + 1) 10 L st M = am_j (rx_X5_drum n) ((tIflt 40) 10 L st M) := rfl
theorem rs_X5_drum_13 (n : Nat) (L : AL) (st : List AV) (M : List AC) : rx_X5_drum (n + 1) 13 L st M = am_j (rx_X5_drum n) ((tIld 2 1) 13 L st M) := rfl
theorem rs_X5_drum_14 (n : Nat) (L : AL) (st : List AV) (M : List AC) : rx_X5_drum (n + 1) 14 L st M = am_j (rx_X5_drum n) ((tIc 8 2) 14 L st M) := rfl
theorem rs_X5_drum_16 (n : Nat) (L : AL) (st : List AV) (M : List AC) : rx_X5_drum (n + 1) 16 L st M = am_j (rx_X5_drum n) ((tCmgt 40) 16 L st M) := rfl
theorem rs_X5_drum_19 (n : Nat) (L : AL) (st : List AV) (M : List AC) : rx_X5_drum (n + 1) 19 L st M = am_j (rx_X5_drum n) ((tIld 3 1) 19 L st M) := rfl
theorem rs_X5_drum_20 (n : Nat) (L : AL) (st : List AV) (M : List AC) : rx_X5_drum (n + 1) 20 L st M = am_j (rx_X5_drum n) ((tIflt 40) 20 L st M) := rfl
theorem rs_X5_drum_23 (n : Nat) (L : AL) (st : List AV) (M : List AC) : rx_X5_drum (n + 1) 23 L st M = am_j (rx_X5_drum n) ((tIld 3 1) 23 L st M) := rfl
theorem rs_X5_drum_24 (n : Nat) (L : AL) (st : List AV) (M : List AC) : rx_X5_drum (n + 1) 24 L st M = am_j (rx_X5_drum n) ((tGs (vR 1000)) 24 L st M) := rfl
theorem rs_X5_drum_27 (n : Nat) (L : AL) (st : List AV) (M : List AC) : rx_X5_drum (n + 1) 27 L st M = am_j (rx_X5_drum n) ((tIld 2 1) 27 L st M) := rfl
theorem rs_X5_drum_28 (n : Nat) (L : AL) (st : List AV) (M : List AC) : rx_X5_drum (n + 1) 28 L st M = am_j (rx_X5_drum n) (tIal 28 L st M) := rfl
theorem rs_X5_drum_29 (n : Nat) (L : AL) (st : List AV) (M : List AC) : rx_X5_drum (n + 1) 29 L st M = am_j (rx_X5_drum n) ((tCmge 40) 29 L st M) := rfl
theorem rs_X5_drum_32 (n : Nat) (L : AL) (st : List AV) (M : List AC) : rx_X5_drum (n + 1) 32 L st M = am_j (rx_X5_drum n) ((tIld 2 1) 32 L st M) := rfl
theorem rs_X5_drum_33 (n : Nat) (L : AL) (st : List AV) (M : List AC) : rx_X5_drum (n + 1) 33 L st M = am_j (rx_X5_drum n) ((tIld 3 1) 33 L st M) := rfl
theorem rs_X5_drum_34 (n : Nat) (L : AL) (st : List AV) (M : List AC) : rx_X5_drum (n + 1) 34 L st M = am_j (rx_X5_drum n) ((tCs 2 fn_X5_areScrews) 34 L st M) := rfl
theorem rs_X5_drum_37 (n : Nat) (L : AL) (st : List AV) (M : List AC) : rx_X5_drum (n + 1) 37 L st M = am_j (rx_X5_drum n) ((tIfne 43) 37 L st M) := rfl
theorem rs_X5_drum_40 (n : Nat) (L : AL) (st : List AV) (M : List AC) : rx_X5_drum (n + 1) 40 L st M = am_j (rx_X5_drum n) ((tIc (-2) 2) 40 L st M) := rfl
theorem rs_X5_drum_43 (n : Nat) (L : AL) (st : List AV) (M : List AC) : rx_X5_drum (n + 1) 43 L st M = am_j (rx_X5_drum n) ((tAld 0 1) 43 L st M) := rfl
theorem rs_X5_drum_44 (n : Nat) (L : AL) (st : List AV) (M : List AC) : rx_X5_drum (n + 1) 44 L st M = am_j (rx_X5_drum n) ((tGf 5 10) 44 L st M) := rfl
theorem rs_X5_drum_47 (n : Nat) (L : AL) (st : List AV) (M : List AC) : rx_X5_drum (n + 1) 47 L st M = am_j (rx_X5_drum n) ((tCv 2 0 fn_X2_loosen) 47 L st M) := rfl
theorem rs_X5_drum_50 (n : Nat) (L : AL) (st : List AV) (M : List AC) : rx_X5_drum (n + 1) 50 L st M = am_j (rx_X5_drum n) ((tIc 0 1) 50 L st M) := rfl
theorem rs_X5_drum_51 (n : Nat) (L : AL) (st : List AV) (M : List AC) : rx_X5_drum (n + 1) 51 L st M = am_j (rx_X5_drum n) ((tIst 4 2) 51 L st M) := rfl
theorem rs_X5_drum_53 (n : Nat) (L : AL) (st : List AV) (M : List AC) : rx_X5_drum (n + 1) 53 L st M = am_j (rx_X5_drum n) ((tIld 4 2) 53 L st M) := rfl
theorem rs_X5_drum_55 (n : Nat) (L : AL) (st : List AV) (M : List AC) : rx_X5_drum (n + 1) 55 L st M = am_j (rx_X5_drum n) ((tIld 2 1) 55 L st M) := rfl
theorem rs_X5_drum_56 (n : Nat) (L : AL) (st : List AV) (M : List AC) : rx_X5_drum (n + 1) 56 L st M = am_j (rx_X5_drum n) ((tCmge 79) 56 L st M) := rfl
theorem rs_X5_drum_59 (n : Nat) (L : AL) (st : List AV) (M : List AC) : rx_X5_drum (n + 1) 59 L st M = am_j (rx_X5_drum n) ((tAld 0 1) 59 L st M) := rfl
theorem rs_X5_drum_60 (n : Nat) (L : AL) (st : List AV) (M : List AC) : rx_X5_drum (n + 1) 60 L st M = am_j (rx_X5_drum n) ((tGf 5 10) 60 L st M) := rfl
theorem rs_X5_drum_63 (n : Nat) (L : AL) (st : List AV) (M : List AC) : rx_X5_drum (n + 1) 63 L st M = am_j (rx_X5_drum n) ((tIld 3 1) 63 L st M) := rfl
theorem rs_X5_drum_64 (n : Nat) (L : AL) (st : List AV) (M : List AC) : rx_X5_drum (n + 1) 64 L st M = am_j (rx_X5_drum n) ((tIld 2 1) 64 L st M) := rfl
theorem rs_X5_drum_65 (n : Nat) (L : AL) (st : List AV) (M : List AC) : rx_X5_drum (n + 1) 65 L st M = am_j (rx_X5_drum n) ((tIld 4 2) 65 L st M) := rfl
theorem rs_X5_drum_67 (n : Nat) (L : AL) (st : List AV) (M : List AC) : rx_X5_drum (n + 1) 67 L st M = am_j (rx_X5_drum n) ((tCs 3 fn_X5_figureOf) 67 L st M) := rfl
theorem rs_X5_drum_70 (n : Nat) (L : AL) (st : List AV) (M : List AC) : rx_X5_drum (n + 1) 70 L st M = am_j (rx_X5_drum n) ((tCv 2 1 fn_X2_tighten) 70 L st M) := rfl
theorem rs_X5_drum_73 (n : Nat) (L : AL) (st : List AV) (M : List AC) : rx_X5_drum (n + 1) 73 L st M = am_j (rx_X5_drum n) ((tIinc 4 1) 73 L st M) := rfl
theorem rs_X5_drum_76 (n : Nat) (L : AL) (st : List AV) (M : List AC) : rx_X5_drum (n + 1) 76 L st M = am_j (rx_X5_drum n) ((tGo 53) 76 L st M) := rfl
theorem rs_X5_drum_79 (n : Nat) (L : AL) (st : List AV) (M : List AC) : rx_X5_drum (n + 1) 79 L st M = am_j (rx_X5_drum n) ((tAld 0 1) 79 L st M) := rfl
theorem rs_X5_drum_80 (n : Nat) (L : AL) (st : List AV) (M : List AC) : rx_X5_drum (n + 1) 80 L st M = am_j (rx_X5_drum n) ((tGf 5 10) 80 L st M) := rfl
theorem rs_X5_drum_83 (n : Nat) (L : AL) (st : List AV) (M : List AC) : rx_X5_drum (n + 1) 83 L st M = am_j (rx_X5_drum n) ((tGf 2 0) 83 L st M) := rfl
theorem rs_X5_drum_86 (n : Nat) (L : AL) (st : List AV) (M : List AC) : rx_X5_drum (n + 1) 86 L st M = am_j (rx_X5_drum n) ((tIld 1 1) 86 L st M) := rfl
theorem rs_X5_drum_87 (n : Nat) (L : AL) (st : List AV) (M : List AC) : rx_X5_drum (n + 1) 87 L st M = am_j (rx_X5_drum n) (tIal 87 L st M) := rfl
theorem rs_X5_drum_8 (n : Nat) (L : AL) (st : List AV) (M : List AC) : rx_X5_drum (n + 1) 8 L st M = am_e rI st M := rfl
theorem rs_X5_drum_42 (n : Nat) (L : AL) (st : List AV) (M : List AC) : rx_X5_drum (n + 1) 42 L st M = am_e rI st M := rfl
theorem rs_X5_drum_88 (n : Nat) (L : AL) (st : List AV) (M : List AC) : rx_X5_drum (n + 1) 88 L st M = am_e rI st M := rfl
theorem ri_X5_drum (c : Prop) [Decidable c] (p q n : Nat) (L : AL) (st : List AV) (M : List AC) : rx_X5_drum n (if c then p else q) L st M = if c then rx_X5_drum n p L st M else rx_X5_drum n q L st M := by split <;> rfl
theorem rm_X5_drum {n k pc : Nat} {L : AL} {st : List AV} {M : List AC} {x : Option AV × List AC} (h : rx_X5_drum n pc L st M = some x) (hk : n ≤ k) : rx_X5_drum k pc L st M = some x := am_r_mono n k h hk
def fn_X5_drum : Fn := am_fn rx_X5_drum 5
theorem fok_X5_drum : Fok mi_X5_drum fn_X5_drum := fun _ _ _ _ h => am_fok ok_X5_drum rk_X5_drum rfl h
theorem lp_X5_drum {len fa ac : Int} {sr : AV} {sd : Int64} {q nn x : Int} (hq : 0 ≤ q ∧ q < 4) (hx : 0 ≤ x ∧ x < 2147483648) (hnn : 0 ≤ nn ∧ nn ≤ 8) (hd : ∀ j : Int, 0 ≤ j → j < nn → x / pw (nn - 1 - j) % 10 < 4) : ∀ (n : Nat) (v : F4) (M : List AC), n ≤ nn.toNat → M[0]? = some (co len fa ac sr sd) → HT M v → i4 0 (40 - 4 * n) v →
    Ru rx_X5_drum (40 * n + 20) 53 [some (vR 0), some (vI q), some (vI nn), some (vI x), some (vI (nn - n))] [] M (some (vI (g4 (drm x n v) q.toNat)), M.set 25 (aI (l4 (drm x n v))))
  | 0, v, M, hn, h0, hT, hv => by
    obtain ⟨t0, t1⟩ := id hT
    have wn : wr nn = nn := wr_id (by omega) (by omega)
    have e0 : nn - ((0 : Nat) : Int) = nn := by omega
    rw [e0]
    refine ⟨19 + 1, by omega, ?_⟩
    rw [rs_X5_drum_53]
    simp only [drm]
    rw [set_same t1]
    simp only [co] at h0
    rcases c4 hq with rfl | rfl | rfl | rfl <;>
    simp [↓ri_X5_drum, rs_X5_drum_0, rs_X5_drum_1, rs_X5_drum_4, rs_X5_drum_7, rs_X5_drum_9, rs_X5_drum_10, rs_X5_drum_13, rs_X5_drum_14, rs_X5_drum_16, rs_X5_drum_19, rs_X5_drum_20, rs_X5_drum_23, rs_X5_drum_24, rs_X5_drum_27, rs_X5_drum_28, rs_X5_drum_29, rs_X5_drum_32, rs_X5_drum_33, rs_X5_drum_34, rs_X5_drum_37, rs_X5_drum_40, rs_X5_drum_43, rs_X5_drum_44, rs_X5_drum_47, rs_X5_drum_50, rs_X5_drum_51, rs_X5_drum_55, rs_X5_drum_56, rs_X5_drum_59, rs_X5_drum_60, rs_X5_drum_63, rs_X5_drum_64, rs_X5_drum_65, rs_X5_drum_67, rs_X5_drum_70, rs_X5_drum_73, rs_X5_drum_76, rs_X5_drum_79, rs_X5_drum_80, rs_X5_drum_83, rs_X5_drum_86, rs_X5_drum_87, rs_X5_drum_8, rs_X5_drum_42, rs_X5_drum_88, -List.getElem?_eq_getElem, am_js, am_e, am_in, am_sl, rI, rZ, rV, rJ, rA, rC, kI, kJ, kR, am_one, am_nl, am_w8, tIc, tLc, tNul, tIld, tLld, tAld, tIst, tLst, tAst, tIinc, tI2, tDv, tL2, tLrem, tLs, tLcmp, tI2l, tL2i, tI2c, tDup, tDup2, tPop, tGo, tIfeq, tIfne, tIflt, tIfge, tIfgt, tIfle, tCmeq, tCmne, tCmlt, tCmge, tCmgt, tCmle, tNu, tTs, tGf, tPf, tGs, tIal, tIas, tBal, tBas, tAln, tSv, tSc, tSb, tSl, tSk, tCv, tCs, tCt, tMx, tMn, wr_10000, wr_100000, wr_1000000, wr_10000000, wr_100000000, wr_2400, wr_9999, wr_0, wr_1, wr_2, wr_3, wr_4, wr_5, wr_6, wr_7, wr_8, wr_9, wr_10, wr_11, wr_12, wr_13, wr_14, wr_15, wr_16, wr_17, wr_18, wr_19, wr_20, wr_21, wr_22, wr_23, wr_24, wr_25, wr_26, wr_27, wr_28, wr_29, wr_30, wr_31, wr_32, wr_33, wr_34, wr_35, wr_36, wr_37, wr_38, wr_39, wr_40, wr_41, wr_42, wr_43, wr_44, wr_45, wr_46, wr_47, wr_48, wr_49, wr_50, wr_51, wr_52, wr_53, wr_54, wr_55, wr_56, wr_57, wr_58, wr_59, wr_60, wr_61, wr_62, wr_63, wr_99, wr_100, wr_192, wr_255, wr_256, wr_343, wr_999, wr_1000, wr_2401, wr_2147483647, wr_65535, wr_m1, wr_m2, wr_m3, wr_m4, wr_m9, ak_1000, ak_1001, ak_1002, ak_0, ak_1, ak_2, ak_3, ak_4, ak_5, ak_6, ak_7, ak_8, ak_9, ak_10, ak_11, ak_12, ak_13, ak_14, ak_15, ak_16, ak_17, ak_18, ak_19, ak_20, ak_21, ak_22, ak_23, ak_24, ak_25, ak_26, ak_27, ak_28, ak_29, ak_30, ak_31, ak_32, ak_33, ak_34, ak_35, ak_36, ak_37, ak_38, ak_39, ak_40, ak_41, ak_42, ak_43, ak_44, ak_45, ak_46, ak_47, wn, h0, t0, t1, g4]
  | n + 1, v, M, hn, h0, hT, hv => by
    obtain ⟨t0, t1⟩ := id hT
    have wn : wr nn = nn := wr_id (by omega) (by omega)
    obtain ⟨i, hi⟩ : ∃ i : Int, nn - ((n + 1 : Nat) : Int) = i := ⟨_, rfl⟩
    rw [hi]
    have wi : wr i = i := wr_id (by omega) (by omega)
    have ni : ¬ nn ≤ i := by omega
    have q1 := figOf_pw x nn i n M hx (by omega) (by omega)
    have hdn := hd i (by omega) (by omega)
    rw [show nn - 1 - i = (n : Int) by omega] at hdn
    rw [drm]
    have rf : 0 ≤ x / pw (n : Int) % 10 := Int.emod_nonneg _ (by decide)
    generalize x / pw (n : Int) % 10 = f at q1 rf hdn ⊢
    have hv9 : i4 0 900 v := ⟨⟨hv.1.1, by have := hv.1.2; omega⟩, ⟨hv.2.1.1, by have := hv.2.1.2; omega⟩, ⟨hv.2.2.1.1, by have := hv.2.2.1.2; omega⟩, ⟨hv.2.2.2.1, by have := hv.2.2.2.2; omega⟩⟩
    have q2 := sp_X2_tighten hT hv9 f ⟨rf, hdn⟩
    have hv2 : i4 0 (40 - 4 * n) (tg v f.toNat) := by
      have := tg_rng hv f.toNat
      have e : (40 - 4 * ((n + 1 : Nat) : Int) + 4) = 40 - 4 * n := by omega
      rw [e] at this
      exact this
    obtain ⟨m, hm, h⟩ := lp_X5_drum (len := len) (fa := fa) (ac := ac) (sr := sr) (sd := sd) hq hx hnn hd n (tg v f.toNat) (M.set 25 (aI (l4 (tg v f.toNat)))) (by omega) (by simp [-List.getElem?_eq_getElem, h0, gs h0]) (hT.set _) hv2
    rw [List.set_set, show nn - (n : Int) = i + 1 by omega] at h
    generalize drm x n (tg v f.toNat) = R at h ⊢
    refine ⟨m + 39 + 1, by omega, ?_⟩
    rw [rs_X5_drum_53]
    simp only [co] at h0
    simp [↓ri_X5_drum, rs_X5_drum_0, rs_X5_drum_1, rs_X5_drum_4, rs_X5_drum_7, rs_X5_drum_9, rs_X5_drum_10, rs_X5_drum_13, rs_X5_drum_14, rs_X5_drum_16, rs_X5_drum_19, rs_X5_drum_20, rs_X5_drum_23, rs_X5_drum_24, rs_X5_drum_27, rs_X5_drum_28, rs_X5_drum_29, rs_X5_drum_32, rs_X5_drum_33, rs_X5_drum_34, rs_X5_drum_37, rs_X5_drum_40, rs_X5_drum_43, rs_X5_drum_44, rs_X5_drum_47, rs_X5_drum_50, rs_X5_drum_51, rs_X5_drum_55, rs_X5_drum_56, rs_X5_drum_59, rs_X5_drum_60, rs_X5_drum_63, rs_X5_drum_64, rs_X5_drum_65, rs_X5_drum_67, rs_X5_drum_70, rs_X5_drum_73, rs_X5_drum_76, rs_X5_drum_79, rs_X5_drum_80, rs_X5_drum_83, rs_X5_drum_86, rs_X5_drum_87, rs_X5_drum_8, rs_X5_drum_42, rs_X5_drum_88, -List.getElem?_eq_getElem, am_js, am_e, am_in, am_sl, rI, rZ, rV, rJ, rA, rC, kI, kJ, kR, am_one, am_nl, am_w8, tIc, tLc, tNul, tIld, tLld, tAld, tIst, tLst, tAst, tIinc, tI2, tDv, tL2, tLrem, tLs, tLcmp, tI2l, tL2i, tI2c, tDup, tDup2, tPop, tGo, tIfeq, tIfne, tIflt, tIfge, tIfgt, tIfle, tCmeq, tCmne, tCmlt, tCmge, tCmgt, tCmle, tNu, tTs, tGf, tPf, tGs, tIal, tIas, tBal, tBas, tAln, tSv, tSc, tSb, tSl, tSk, tCv, tCs, tCt, tMx, tMn, wr_10000, wr_100000, wr_1000000, wr_10000000, wr_100000000, wr_2400, wr_9999, wr_0, wr_1, wr_2, wr_3, wr_4, wr_5, wr_6, wr_7, wr_8, wr_9, wr_10, wr_11, wr_12, wr_13, wr_14, wr_15, wr_16, wr_17, wr_18, wr_19, wr_20, wr_21, wr_22, wr_23, wr_24, wr_25, wr_26, wr_27, wr_28, wr_29, wr_30, wr_31, wr_32, wr_33, wr_34, wr_35, wr_36, wr_37, wr_38, wr_39, wr_40, wr_41, wr_42, wr_43, wr_44, wr_45, wr_46, wr_47, wr_48, wr_49, wr_50, wr_51, wr_52, wr_53, wr_54, wr_55, wr_56, wr_57, wr_58, wr_59, wr_60, wr_61, wr_62, wr_63, wr_99, wr_100, wr_192, wr_255, wr_256, wr_343, wr_999, wr_1000, wr_2401, wr_2147483647, wr_65535, wr_m1, wr_m2, wr_m3, wr_m4, wr_m9, ak_1000, ak_1001, ak_1002, ak_0, ak_1, ak_2, ak_3, ak_4, ak_5, ak_6, ak_7, ak_8, ak_9, ak_10, ak_11, ak_12, ak_13, ak_14, ak_15, ak_16, ak_17, ak_18, ak_19, ak_20, ak_21, ak_22, ak_23, ak_24, ak_25, ak_26, ak_27, ak_28, ak_29, ak_30, ak_31, ak_32, ak_33, ak_34, ak_35, ak_36, ak_37, ak_38, ak_39, ak_40, ak_41, ak_42, ak_43, ak_44, ak_45, ak_46, ak_47, h0, t0, wn, wi, ni, q1, q2]
    exact rm_X5_drum h (by omega)
theorem sp_X5_drum {M : List AC} {len fa ac : Int} {sr : AV} {sd : Int64} (h0 : M[0]? = some (co len fa ac sr sd)) {v : F4} (hT : HT M v) (q n x : Int) (hq : -2147483648 ≤ q ∧ q < 2147483648) (hn : -2147483648 ≤ n ∧ n < 2147483648) (hx : -2147483648 ≤ x ∧ x < 2147483648) : ∃ v1 : F4, fn_X5_drum [vR 0, vI q, vI n, vI x] M = some (some (vI (if 0 ≤ q ∧ q < 4 then (if ((0 ≤ n ∧ n ≤ 8) ∧ (0 ≤ x ∧ x ≤ pw n - 1)) ∧ dk5 x n n.toNat 0 = 1 then g4 (drm x n.toNat (0, 0, 0, 0)) q.toNat else -2) else -1)), M.set 25 (aI (l4 v1))) := by
  have wq : wr q = q := wr_id (by omega) (by omega)
  have wn : wr n = n := wr_id (by omega) (by omega)
  have wx : wr x = x := wr_id (by omega) (by omega)
  obtain ⟨t0, t1⟩ := id hT
  have tl : am_tens.length = 9 := rfl
  by_cases h : 0 ≤ q ∧ q < 4
  · rw [if_pos h]
    by_cases h1 : 0 ≤ n ∧ n ≤ 8
    · have tp := tens_pw n h1
      have p1 := pw_rng n
      have a1 : ¬ n < 0 := by omega
      have a2 : ¬ 8 < n := by omega
      have a3 : n < 9 := by omega
      by_cases h2 : 0 ≤ x ∧ x ≤ pw n - 1
      · have hx2 : 0 ≤ x ∧ x < 2147483648 := by omega
        have q1 := sp_X5_areScrews x n hx2 h1 M
        have q3 := sp_X2_loosen hT
        have b1 : ¬ x < 0 := by omega
        rcases dk5_01 x n n.toNat 0 with hz | hz
        · rw [if_neg (by rw [hz]; intro z; exact absurd z.2 (by decide))]
          rw [hz] at q1
          refine ⟨v, ?_⟩
          rw [set_same t1]
          generalize pw n = a at tp p1 h2
          have wa' : wr a = a := by clear tp; exact wr_id (by omega) (by omega)
          have b2 : x < a := by clear tp; omega
          have b3 : ¬ a ≤ x := by clear tp; omega
          (refine am_fnI (tb := tb_X5_drum) (n := 60) (Nat.le_of_ble_eq_true rfl) (Nat.le_of_ble_eq_true rfl) ?_; show rx_X5_drum 60 0 _ _ _ = _)
          simp [↓ri_X5_drum, rs_X5_drum_0, rs_X5_drum_1, rs_X5_drum_4, rs_X5_drum_7, rs_X5_drum_9, rs_X5_drum_10, rs_X5_drum_13, rs_X5_drum_14, rs_X5_drum_16, rs_X5_drum_19, rs_X5_drum_20, rs_X5_drum_23, rs_X5_drum_24, rs_X5_drum_27, rs_X5_drum_28, rs_X5_drum_29, rs_X5_drum_32, rs_X5_drum_33, rs_X5_drum_34, rs_X5_drum_37, rs_X5_drum_40, rs_X5_drum_43, rs_X5_drum_44, rs_X5_drum_47, rs_X5_drum_50, rs_X5_drum_51, rs_X5_drum_53, rs_X5_drum_55, rs_X5_drum_56, rs_X5_drum_59, rs_X5_drum_60, rs_X5_drum_63, rs_X5_drum_64, rs_X5_drum_65, rs_X5_drum_67, rs_X5_drum_70, rs_X5_drum_73, rs_X5_drum_76, rs_X5_drum_79, rs_X5_drum_80, rs_X5_drum_83, rs_X5_drum_86, rs_X5_drum_87, rs_X5_drum_8, rs_X5_drum_42, rs_X5_drum_88, -List.getElem?_eq_getElem, am_js, am_e, am_in, am_sl, rI, rZ, rV, rJ, rA, rC, kI, kJ, kR, am_one, am_nl, am_w8, tIc, tLc, tNul, tIld, tLld, tAld, tIst, tLst, tAst, tIinc, tI2, tDv, tL2, tLrem, tLs, tLcmp, tI2l, tL2i, tI2c, tDup, tDup2, tPop, tGo, tIfeq, tIfne, tIflt, tIfge, tIfgt, tIfle, tCmeq, tCmne, tCmlt, tCmge, tCmgt, tCmle, tNu, tTs, tGf, tPf, tGs, tIal, tIas, tBal, tBas, tAln, tSv, tSc, tSb, tSl, tSk, tCv, tCs, tCt, tMx, tMn, wr_10000, wr_100000, wr_1000000, wr_10000000, wr_100000000, wr_2400, wr_9999, wr_0, wr_1, wr_2, wr_3, wr_4, wr_5, wr_6, wr_7, wr_8, wr_9, wr_10, wr_11, wr_12, wr_13, wr_14, wr_15, wr_16, wr_17, wr_18, wr_19, wr_20, wr_21, wr_22, wr_23, wr_24, wr_25, wr_26, wr_27, wr_28, wr_29, wr_30, wr_31, wr_32, wr_33, wr_34, wr_35, wr_36, wr_37, wr_38, wr_39, wr_40, wr_41, wr_42, wr_43, wr_44, wr_45, wr_46, wr_47, wr_48, wr_49, wr_50, wr_51, wr_52, wr_53, wr_54, wr_55, wr_56, wr_57, wr_58, wr_59, wr_60, wr_61, wr_62, wr_63, wr_99, wr_100, wr_192, wr_255, wr_256, wr_343, wr_999, wr_1000, wr_2401, wr_2147483647, wr_65535, wr_m1, wr_m2, wr_m3, wr_m4, wr_m9, ak_1000, ak_1001, ak_1002, ak_0, ak_1, ak_2, ak_3, ak_4, ak_5, ak_6, ak_7, ak_8, ak_9, ak_10, ak_11, ak_12, ak_13, ak_14, ak_15, ak_16, ak_17, ak_18, ak_19, ak_20, ak_21, ak_22, ak_23, ak_24, ak_25, ak_26, ak_27, ak_28, ak_29, ak_30, ak_31, ak_32, ak_33, ak_34, ak_35, ak_36, ak_37, ak_38, ak_39, ak_40, ak_41, ak_42, ak_43, ak_44, ak_45, ak_46, ak_47, -List.getD_eq_getElem?_getD, sp_X5_isCorner, wq, h, wn, h1, a1, a2, a3, wx, b1, am_k, tl, tp, wa', b2, b3, q1]
        · rw [if_pos ⟨⟨h1, h2⟩, hz⟩]
          have hall := (dk5_all x n n.toNat 0).mp hz
          rw [hz] at q1
          refine ⟨drm x n.toNat (0, 0, 0, 0), ?_⟩
          obtain ⟨m, hm, h'⟩ := lp_X5_drum (len := len) (fa := fa) (ac := ac) (sr := sr) (sd := sd) h hx2 h1 (fun j j0 j1 => hall j j0 (by omega)) n.toNat (0, 0, 0, 0) (M.set 25 (aI (l4 (0, 0, 0, 0)))) (Nat.le_refl _) (by simp [-List.getElem?_eq_getElem, h0, gs h0]) (hT.set _) (i4_z (by omega))
          rw [List.set_set, show n - ((n.toNat : Nat) : Int) = 0 by omega] at h'
          generalize drm x n.toNat (0, 0, 0, 0) = R at h' ⊢
          clear hall
          generalize pw n = a at tp p1 h2
          have wa' : wr a = a := by clear tp; exact wr_id (by omega) (by omega)
          have b2 : x < a := by clear tp; omega
          have b3 : ¬ a ≤ x := by clear tp; omega
          simp only [co] at h0
          (refine am_fnR (tb := tb_X5_drum) (N := 2000) (Nat.le_of_ble_eq_true rfl) (Nat.le_of_ble_eq_true rfl) ?_; show Ru rx_X5_drum 2000 0 _ _ _ _)
          refine ⟨m + 60, by clear tp; omega, ?_⟩
          simp [↓ri_X5_drum, rs_X5_drum_0, rs_X5_drum_1, rs_X5_drum_4, rs_X5_drum_7, rs_X5_drum_9, rs_X5_drum_10, rs_X5_drum_13, rs_X5_drum_14, rs_X5_drum_16, rs_X5_drum_19, rs_X5_drum_20, rs_X5_drum_23, rs_X5_drum_24, rs_X5_drum_27, rs_X5_drum_28, rs_X5_drum_29, rs_X5_drum_32, rs_X5_drum_33, rs_X5_drum_34, rs_X5_drum_37, rs_X5_drum_40, rs_X5_drum_43, rs_X5_drum_44, rs_X5_drum_47, rs_X5_drum_50, rs_X5_drum_51, rs_X5_drum_55, rs_X5_drum_56, rs_X5_drum_59, rs_X5_drum_60, rs_X5_drum_63, rs_X5_drum_64, rs_X5_drum_65, rs_X5_drum_67, rs_X5_drum_70, rs_X5_drum_73, rs_X5_drum_76, rs_X5_drum_79, rs_X5_drum_80, rs_X5_drum_83, rs_X5_drum_86, rs_X5_drum_87, rs_X5_drum_8, rs_X5_drum_42, rs_X5_drum_88, -List.getElem?_eq_getElem, am_js, am_e, am_in, am_sl, rI, rZ, rV, rJ, rA, rC, kI, kJ, kR, am_one, am_nl, am_w8, tIc, tLc, tNul, tIld, tLld, tAld, tIst, tLst, tAst, tIinc, tI2, tDv, tL2, tLrem, tLs, tLcmp, tI2l, tL2i, tI2c, tDup, tDup2, tPop, tGo, tIfeq, tIfne, tIflt, tIfge, tIfgt, tIfle, tCmeq, tCmne, tCmlt, tCmge, tCmgt, tCmle, tNu, tTs, tGf, tPf, tGs, tIal, tIas, tBal, tBas, tAln, tSv, tSc, tSb, tSl, tSk, tCv, tCs, tCt, tMx, tMn, wr_10000, wr_100000, wr_1000000, wr_10000000, wr_100000000, wr_2400, wr_9999, wr_0, wr_1, wr_2, wr_3, wr_4, wr_5, wr_6, wr_7, wr_8, wr_9, wr_10, wr_11, wr_12, wr_13, wr_14, wr_15, wr_16, wr_17, wr_18, wr_19, wr_20, wr_21, wr_22, wr_23, wr_24, wr_25, wr_26, wr_27, wr_28, wr_29, wr_30, wr_31, wr_32, wr_33, wr_34, wr_35, wr_36, wr_37, wr_38, wr_39, wr_40, wr_41, wr_42, wr_43, wr_44, wr_45, wr_46, wr_47, wr_48, wr_49, wr_50, wr_51, wr_52, wr_53, wr_54, wr_55, wr_56, wr_57, wr_58, wr_59, wr_60, wr_61, wr_62, wr_63, wr_99, wr_100, wr_192, wr_255, wr_256, wr_343, wr_999, wr_1000, wr_2401, wr_2147483647, wr_65535, wr_m1, wr_m2, wr_m3, wr_m4, wr_m9, ak_1000, ak_1001, ak_1002, ak_0, ak_1, ak_2, ak_3, ak_4, ak_5, ak_6, ak_7, ak_8, ak_9, ak_10, ak_11, ak_12, ak_13, ak_14, ak_15, ak_16, ak_17, ak_18, ak_19, ak_20, ak_21, ak_22, ak_23, ak_24, ak_25, ak_26, ak_27, ak_28, ak_29, ak_30, ak_31, ak_32, ak_33, ak_34, ak_35, ak_36, ak_37, ak_38, ak_39, ak_40, ak_41, ak_42, ak_43, ak_44, ak_45, ak_46, ak_47, -List.getD_eq_getElem?_getD, sp_X5_isCorner, wq, h, wn, h1, a1, a2, a3, wx, b1, am_k, tl, tp, wa', b2, b3, q1, h0, t0, q3]
          exact rm_X5_drum h' (Nat.le_add_right _ _)
      · rw [if_neg (fun z => h2 z.1.2)]
        refine ⟨v, ?_⟩
        rw [set_same t1]
        generalize pw n = a at tp p1 h2
        have wa' : wr a = a := by clear tp; exact wr_id (by omega) (by omega)
        by_cases b1 : x < 0
        · (refine am_fnI (tb := tb_X5_drum) (n := 60) (Nat.le_of_ble_eq_true rfl) (Nat.le_of_ble_eq_true rfl) ?_; show rx_X5_drum 60 0 _ _ _ = _)
          simp [↓ri_X5_drum, rs_X5_drum_0, rs_X5_drum_1, rs_X5_drum_4, rs_X5_drum_7, rs_X5_drum_9, rs_X5_drum_10, rs_X5_drum_13, rs_X5_drum_14, rs_X5_drum_16, rs_X5_drum_19, rs_X5_drum_20, rs_X5_drum_23, rs_X5_drum_24, rs_X5_drum_27, rs_X5_drum_28, rs_X5_drum_29, rs_X5_drum_32, rs_X5_drum_33, rs_X5_drum_34, rs_X5_drum_37, rs_X5_drum_40, rs_X5_drum_43, rs_X5_drum_44, rs_X5_drum_47, rs_X5_drum_50, rs_X5_drum_51, rs_X5_drum_53, rs_X5_drum_55, rs_X5_drum_56, rs_X5_drum_59, rs_X5_drum_60, rs_X5_drum_63, rs_X5_drum_64, rs_X5_drum_65, rs_X5_drum_67, rs_X5_drum_70, rs_X5_drum_73, rs_X5_drum_76, rs_X5_drum_79, rs_X5_drum_80, rs_X5_drum_83, rs_X5_drum_86, rs_X5_drum_87, rs_X5_drum_8, rs_X5_drum_42, rs_X5_drum_88, -List.getElem?_eq_getElem, am_js, am_e, am_in, am_sl, rI, rZ, rV, rJ, rA, rC, kI, kJ, kR, am_one, am_nl, am_w8, tIc, tLc, tNul, tIld, tLld, tAld, tIst, tLst, tAst, tIinc, tI2, tDv, tL2, tLrem, tLs, tLcmp, tI2l, tL2i, tI2c, tDup, tDup2, tPop, tGo, tIfeq, tIfne, tIflt, tIfge, tIfgt, tIfle, tCmeq, tCmne, tCmlt, tCmge, tCmgt, tCmle, tNu, tTs, tGf, tPf, tGs, tIal, tIas, tBal, tBas, tAln, tSv, tSc, tSb, tSl, tSk, tCv, tCs, tCt, tMx, tMn, wr_10000, wr_100000, wr_1000000, wr_10000000, wr_100000000, wr_2400, wr_9999, wr_0, wr_1, wr_2, wr_3, wr_4, wr_5, wr_6, wr_7, wr_8, wr_9, wr_10, wr_11, wr_12, wr_13, wr_14, wr_15, wr_16, wr_17, wr_18, wr_19, wr_20, wr_21, wr_22, wr_23, wr_24, wr_25, wr_26, wr_27, wr_28, wr_29, wr_30, wr_31, wr_32, wr_33, wr_34, wr_35, wr_36, wr_37, wr_38, wr_39, wr_40, wr_41, wr_42, wr_43, wr_44, wr_45, wr_46, wr_47, wr_48, wr_49, wr_50, wr_51, wr_52, wr_53, wr_54, wr_55, wr_56, wr_57, wr_58, wr_59, wr_60, wr_61, wr_62, wr_63, wr_99, wr_100, wr_192, wr_255, wr_256, wr_343, wr_999, wr_1000, wr_2401, wr_2147483647, wr_65535, wr_m1, wr_m2, wr_m3, wr_m4, wr_m9, ak_1000, ak_1001, ak_1002, ak_0, ak_1, ak_2, ak_3, ak_4, ak_5, ak_6, ak_7, ak_8, ak_9, ak_10, ak_11, ak_12, ak_13, ak_14, ak_15, ak_16, ak_17, ak_18, ak_19, ak_20, ak_21, ak_22, ak_23, ak_24, ak_25, ak_26, ak_27, ak_28, ak_29, ak_30, ak_31, ak_32, ak_33, ak_34, ak_35, ak_36, ak_37, ak_38, ak_39, ak_40, ak_41, ak_42, ak_43, ak_44, ak_45, ak_46, ak_47, sp_X5_isCorner, wq, h, wn, a1, a2, wx, b1]
        · have b2 : ¬ x < a := by clear tp; omega
          (refine am_fnI (tb := tb_X5_drum) (n := 60) (Nat.le_of_ble_eq_true rfl) (Nat.le_of_ble_eq_true rfl) ?_; show rx_X5_drum 60 0 _ _ _ = _)
          simp [↓ri_X5_drum, rs_X5_drum_0, rs_X5_drum_1, rs_X5_drum_4, rs_X5_drum_7, rs_X5_drum_9, rs_X5_drum_10, rs_X5_drum_13, rs_X5_drum_14, rs_X5_drum_16, rs_X5_drum_19, rs_X5_drum_20, rs_X5_drum_23, rs_X5_drum_24, rs_X5_drum_27, rs_X5_drum_28, rs_X5_drum_29, rs_X5_drum_32, rs_X5_drum_33, rs_X5_drum_34, rs_X5_drum_37, rs_X5_drum_40, rs_X5_drum_43, rs_X5_drum_44, rs_X5_drum_47, rs_X5_drum_50, rs_X5_drum_51, rs_X5_drum_53, rs_X5_drum_55, rs_X5_drum_56, rs_X5_drum_59, rs_X5_drum_60, rs_X5_drum_63, rs_X5_drum_64, rs_X5_drum_65, rs_X5_drum_67, rs_X5_drum_70, rs_X5_drum_73, rs_X5_drum_76, rs_X5_drum_79, rs_X5_drum_80, rs_X5_drum_83, rs_X5_drum_86, rs_X5_drum_87, rs_X5_drum_8, rs_X5_drum_42, rs_X5_drum_88, -List.getElem?_eq_getElem, am_js, am_e, am_in, am_sl, rI, rZ, rV, rJ, rA, rC, kI, kJ, kR, am_one, am_nl, am_w8, tIc, tLc, tNul, tIld, tLld, tAld, tIst, tLst, tAst, tIinc, tI2, tDv, tL2, tLrem, tLs, tLcmp, tI2l, tL2i, tI2c, tDup, tDup2, tPop, tGo, tIfeq, tIfne, tIflt, tIfge, tIfgt, tIfle, tCmeq, tCmne, tCmlt, tCmge, tCmgt, tCmle, tNu, tTs, tGf, tPf, tGs, tIal, tIas, tBal, tBas, tAln, tSv, tSc, tSb, tSl, tSk, tCv, tCs, tCt, tMx, tMn, wr_10000, wr_100000, wr_1000000, wr_10000000, wr_100000000, wr_2400, wr_9999, wr_0, wr_1, wr_2, wr_3, wr_4, wr_5, wr_6, wr_7, wr_8, wr_9, wr_10, wr_11, wr_12, wr_13, wr_14, wr_15, wr_16, wr_17, wr_18, wr_19, wr_20, wr_21, wr_22, wr_23, wr_24, wr_25, wr_26, wr_27, wr_28, wr_29, wr_30, wr_31, wr_32, wr_33, wr_34, wr_35, wr_36, wr_37, wr_38, wr_39, wr_40, wr_41, wr_42, wr_43, wr_44, wr_45, wr_46, wr_47, wr_48, wr_49, wr_50, wr_51, wr_52, wr_53, wr_54, wr_55, wr_56, wr_57, wr_58, wr_59, wr_60, wr_61, wr_62, wr_63, wr_99, wr_100, wr_192, wr_255, wr_256, wr_343, wr_999, wr_1000, wr_2401, wr_2147483647, wr_65535, wr_m1, wr_m2, wr_m3, wr_m4, wr_m9, ak_1000, ak_1001, ak_1002, ak_0, ak_1, ak_2, ak_3, ak_4, ak_5, ak_6, ak_7, ak_8, ak_9, ak_10, ak_11, ak_12, ak_13, ak_14, ak_15, ak_16, ak_17, ak_18, ak_19, ak_20, ak_21, ak_22, ak_23, ak_24, ak_25, ak_26, ak_27, ak_28, ak_29, ak_30, ak_31, ak_32, ak_33, ak_34, ak_35, ak_36, ak_37, ak_38, ak_39, ak_40, ak_41, ak_42, ak_43, ak_44, ak_45, ak_46, ak_47, -List.getD_eq_getElem?_getD, sp_X5_isCorner, wq, h, wn, h1, a1, a2, a3, wx, b1, am_k, tl, tp, wa', b2]
    · rw [if_neg (fun z => h1 z.1.1)]
      refine ⟨v, ?_⟩
      rw [set_same t1]
      by_cases a1 : n < 0
      · (refine am_fnI (tb := tb_X5_drum) (n := 60) (Nat.le_of_ble_eq_true rfl) (Nat.le_of_ble_eq_true rfl) ?_; show rx_X5_drum 60 0 _ _ _ = _)
        simp [↓ri_X5_drum, rs_X5_drum_0, rs_X5_drum_1, rs_X5_drum_4, rs_X5_drum_7, rs_X5_drum_9, rs_X5_drum_10, rs_X5_drum_13, rs_X5_drum_14, rs_X5_drum_16, rs_X5_drum_19, rs_X5_drum_20, rs_X5_drum_23, rs_X5_drum_24, rs_X5_drum_27, rs_X5_drum_28, rs_X5_drum_29, rs_X5_drum_32, rs_X5_drum_33, rs_X5_drum_34, rs_X5_drum_37, rs_X5_drum_40, rs_X5_drum_43, rs_X5_drum_44, rs_X5_drum_47, rs_X5_drum_50, rs_X5_drum_51, rs_X5_drum_53, rs_X5_drum_55, rs_X5_drum_56, rs_X5_drum_59, rs_X5_drum_60, rs_X5_drum_63, rs_X5_drum_64, rs_X5_drum_65, rs_X5_drum_67, rs_X5_drum_70, rs_X5_drum_73, rs_X5_drum_76, rs_X5_drum_79, rs_X5_drum_80, rs_X5_drum_83, rs_X5_drum_86, rs_X5_drum_87, rs_X5_drum_8, rs_X5_drum_42, rs_X5_drum_88, -List.getElem?_eq_getElem, am_js, am_e, am_in, am_sl, rI, rZ, rV, rJ, rA, rC, kI, kJ, kR, am_one, am_nl, am_w8, tIc, tLc, tNul, tIld, tLld, tAld, tIst, tLst, tAst, tIinc, tI2, tDv, tL2, tLrem, tLs, tLcmp, tI2l, tL2i, tI2c, tDup, tDup2, tPop, tGo, tIfeq, tIfne, tIflt, tIfge, tIfgt, tIfle, tCmeq, tCmne, tCmlt, tCmge, tCmgt, tCmle, tNu, tTs, tGf, tPf, tGs, tIal, tIas, tBal, tBas, tAln, tSv, tSc, tSb, tSl, tSk, tCv, tCs, tCt, tMx, tMn, wr_10000, wr_100000, wr_1000000, wr_10000000, wr_100000000, wr_2400, wr_9999, wr_0, wr_1, wr_2, wr_3, wr_4, wr_5, wr_6, wr_7, wr_8, wr_9, wr_10, wr_11, wr_12, wr_13, wr_14, wr_15, wr_16, wr_17, wr_18, wr_19, wr_20, wr_21, wr_22, wr_23, wr_24, wr_25, wr_26, wr_27, wr_28, wr_29, wr_30, wr_31, wr_32, wr_33, wr_34, wr_35, wr_36, wr_37, wr_38, wr_39, wr_40, wr_41, wr_42, wr_43, wr_44, wr_45, wr_46, wr_47, wr_48, wr_49, wr_50, wr_51, wr_52, wr_53, wr_54, wr_55, wr_56, wr_57, wr_58, wr_59, wr_60, wr_61, wr_62, wr_63, wr_99, wr_100, wr_192, wr_255, wr_256, wr_343, wr_999, wr_1000, wr_2401, wr_2147483647, wr_65535, wr_m1, wr_m2, wr_m3, wr_m4, wr_m9, ak_1000, ak_1001, ak_1002, ak_0, ak_1, ak_2, ak_3, ak_4, ak_5, ak_6, ak_7, ak_8, ak_9, ak_10, ak_11, ak_12, ak_13, ak_14, ak_15, ak_16, ak_17, ak_18, ak_19, ak_20, ak_21, ak_22, ak_23, ak_24, ak_25, ak_26, ak_27, ak_28, ak_29, ak_30, ak_31, ak_32, ak_33, ak_34, ak_35, ak_36, ak_37, ak_38, ak_39, ak_40, ak_41, ak_42, ak_43, ak_44, ak_45, ak_46, ak_47, sp_X5_isCorner, wq, h, wn, a1]
      · have a2 : 8 < n := by omega
        (refine am_fnI (tb := tb_X5_drum) (n := 60) (Nat.le_of_ble_eq_true rfl) (Nat.le_of_ble_eq_true rfl) ?_; show rx_X5_drum 60 0 _ _ _ = _)
        simp [↓ri_X5_drum, rs_X5_drum_0, rs_X5_drum_1, rs_X5_drum_4, rs_X5_drum_7, rs_X5_drum_9, rs_X5_drum_10, rs_X5_drum_13, rs_X5_drum_14, rs_X5_drum_16, rs_X5_drum_19, rs_X5_drum_20, rs_X5_drum_23, rs_X5_drum_24, rs_X5_drum_27, rs_X5_drum_28, rs_X5_drum_29, rs_X5_drum_32, rs_X5_drum_33, rs_X5_drum_34, rs_X5_drum_37, rs_X5_drum_40, rs_X5_drum_43, rs_X5_drum_44, rs_X5_drum_47, rs_X5_drum_50, rs_X5_drum_51, rs_X5_drum_53, rs_X5_drum_55, rs_X5_drum_56, rs_X5_drum_59, rs_X5_drum_60, rs_X5_drum_63, rs_X5_drum_64, rs_X5_drum_65, rs_X5_drum_67, rs_X5_drum_70, rs_X5_drum_73, rs_X5_drum_76, rs_X5_drum_79, rs_X5_drum_80, rs_X5_drum_83, rs_X5_drum_86, rs_X5_drum_87, rs_X5_drum_8, rs_X5_drum_42, rs_X5_drum_88, -List.getElem?_eq_getElem, am_js, am_e, am_in, am_sl, rI, rZ, rV, rJ, rA, rC, kI, kJ, kR, am_one, am_nl, am_w8, tIc, tLc, tNul, tIld, tLld, tAld, tIst, tLst, tAst, tIinc, tI2, tDv, tL2, tLrem, tLs, tLcmp, tI2l, tL2i, tI2c, tDup, tDup2, tPop, tGo, tIfeq, tIfne, tIflt, tIfge, tIfgt, tIfle, tCmeq, tCmne, tCmlt, tCmge, tCmgt, tCmle, tNu, tTs, tGf, tPf, tGs, tIal, tIas, tBal, tBas, tAln, tSv, tSc, tSb, tSl, tSk, tCv, tCs, tCt, tMx, tMn, wr_10000, wr_100000, wr_1000000, wr_10000000, wr_100000000, wr_2400, wr_9999, wr_0, wr_1, wr_2, wr_3, wr_4, wr_5, wr_6, wr_7, wr_8, wr_9, wr_10, wr_11, wr_12, wr_13, wr_14, wr_15, wr_16, wr_17, wr_18, wr_19, wr_20, wr_21, wr_22, wr_23, wr_24, wr_25, wr_26, wr_27, wr_28, wr_29, wr_30, wr_31, wr_32, wr_33, wr_34, wr_35, wr_36, wr_37, wr_38, wr_39, wr_40, wr_41, wr_42, wr_43, wr_44, wr_45, wr_46, wr_47, wr_48, wr_49, wr_50, wr_51, wr_52, wr_53, wr_54, wr_55, wr_56, wr_57, wr_58, wr_59, wr_60, wr_61, wr_62, wr_63, wr_99, wr_100, wr_192, wr_255, wr_256, wr_343, wr_999, wr_1000, wr_2401, wr_2147483647, wr_65535, wr_m1, wr_m2, wr_m3, wr_m4, wr_m9, ak_1000, ak_1001, ak_1002, ak_0, ak_1, ak_2, ak_3, ak_4, ak_5, ak_6, ak_7, ak_8, ak_9, ak_10, ak_11, ak_12, ak_13, ak_14, ak_15, ak_16, ak_17, ak_18, ak_19, ak_20, ak_21, ak_22, ak_23, ak_24, ak_25, ak_26, ak_27, ak_28, ak_29, ak_30, ak_31, ak_32, ak_33, ak_34, ak_35, ak_36, ak_37, ak_38, ak_39, ak_40, ak_41, ak_42, ak_43, ak_44, ak_45, ak_46, ak_47, sp_X5_isCorner, wq, h, wn, a1, a2]
  · rw [if_neg h]
    refine ⟨v, ?_⟩
    rw [set_same t1]
    (refine am_fnI (tb := tb_X5_drum) (n := 60) (Nat.le_of_ble_eq_true rfl) (Nat.le_of_ble_eq_true rfl) ?_; show rx_X5_drum 60 0 _ _ _ = _)
    simp [↓ri_X5_drum, rs_X5_drum_0, rs_X5_drum_1, rs_X5_drum_4, rs_X5_drum_7, rs_X5_drum_9, rs_X5_drum_10, rs_X5_drum_13, rs_X5_drum_14, rs_X5_drum_16, rs_X5_drum_19, rs_X5_drum_20, rs_X5_drum_23, rs_X5_drum_24, rs_X5_drum_27, rs_X5_drum_28, rs_X5_drum_29, rs_X5_drum_32, rs_X5_drum_33, rs_X5_drum_34, rs_X5_drum_37, rs_X5_drum_40, rs_X5_drum_43, rs_X5_drum_44, rs_X5_drum_47, rs_X5_drum_50, rs_X5_drum_51, rs_X5_drum_53, rs_X5_drum_55, rs_X5_drum_56, rs_X5_drum_59, rs_X5_drum_60, rs_X5_drum_63, rs_X5_drum_64, rs_X5_drum_65, rs_X5_drum_67, rs_X5_drum_70, rs_X5_drum_73, rs_X5_drum_76, rs_X5_drum_79, rs_X5_drum_80, rs_X5_drum_83, rs_X5_drum_86, rs_X5_drum_87, rs_X5_drum_8, rs_X5_drum_42, rs_X5_drum_88, -List.getElem?_eq_getElem, am_js, am_e, am_in, am_sl, rI, rZ, rV, rJ, rA, rC, kI, kJ, kR, am_one, am_nl, am_w8, tIc, tLc, tNul, tIld, tLld, tAld, tIst, tLst, tAst, tIinc, tI2, tDv, tL2, tLrem, tLs, tLcmp, tI2l, tL2i, tI2c, tDup, tDup2, tPop, tGo, tIfeq, tIfne, tIflt, tIfge, tIfgt, tIfle, tCmeq, tCmne, tCmlt, tCmge, tCmgt, tCmle, tNu, tTs, tGf, tPf, tGs, tIal, tIas, tBal, tBas, tAln, tSv, tSc, tSb, tSl, tSk, tCv, tCs, tCt, tMx, tMn, wr_10000, wr_100000, wr_1000000, wr_10000000, wr_100000000, wr_2400, wr_9999, wr_0, wr_1, wr_2, wr_3, wr_4, wr_5, wr_6, wr_7, wr_8, wr_9, wr_10, wr_11, wr_12, wr_13, wr_14, wr_15, wr_16, wr_17, wr_18, wr_19, wr_20, wr_21, wr_22, wr_23, wr_24, wr_25, wr_26, wr_27, wr_28, wr_29, wr_30, wr_31, wr_32, wr_33, wr_34, wr_35, wr_36, wr_37, wr_38, wr_39, wr_40, wr_41, wr_42, wr_43, wr_44, wr_45, wr_46, wr_47, wr_48, wr_49, wr_50, wr_51, wr_52, wr_53, wr_54, wr_55, wr_56, wr_57, wr_58, wr_59, wr_60, wr_61, wr_62, wr_63, wr_99, wr_100, wr_192, wr_255, wr_256, wr_343, wr_999, wr_1000, wr_2401, wr_2147483647, wr_65535, wr_m1, wr_m2, wr_m3, wr_m4, wr_m9, ak_1000, ak_1001, ak_1002, ak_0, ak_1, ak_2, ak_3, ak_4, ak_5, ak_6, ak_7, ak_8, ak_9, ak_10, ak_11, ak_12, ak_13, ak_14, ak_15, ak_16, ak_17, ak_18, ak_19, ak_20, ak_21, ak_22, ak_23, ak_24, ak_25, ak_26, ak_27, ak_28, ak_29, ak_30, ak_31, ak_32, ak_33, ak_34, ak_35, ak_36, ak_37, ak_38, ak_39, ak_40, ak_41, ak_42, ak_43, ak_44, ak_45, ak_46, ak_47, -not_and, sp_X5_isCorner, wq, h]
theorem ords_uf : ∀ i : Fin 24, i4 0 3 (uf (am_orders.getD i.val 0)) := by decide +kernel
abbrev mi_X5_cross : Mi := (yX5_cross, cX5_cross, 8, some .int, 4)
theorem mf_X5_cross : am_mf mi_X5_cross 2 := ⟨w_co_X5_cross, w_in_X5, ⟨by decide +kernel, by decide +kernel⟩, by decide +kernel, by decide⟩
def tb_X5_cross : List (Nat × Tr) := [(0, tIld 1 1), (1, tIc 1 1), (2, tCmlt 19), (5, tIld 1 1), (6, tIc 5 1), (7, tCmgt 19), (10, tIld 2 1), (11, tIflt 19), (14, tIld 2 1), (15, tIc 2 1), (16, tCmle 22), (19, tIc (-2) 2), (22, tIc 0 1), (23, tIst 3 1), (24, tGs (vR 1002)), (27, tIc 0 1), (28, tIal), (29, tIst 4 2), (31, tAld 0 1), (32, tGf 5 10), (35, tIld 4 2), (37, tIld 1 1), (38, tCv 2 2 fn_X2_gapBy), (41, tIst 5 2), (43, tIc 0 1), (44, tIst 6 2), (46, tIld 6 2), (48, tGs (vR 1002)), (51, tAln), (52, tCmge 113), (55, tAld 0 1), (56, tGf 5 10), (59, tGs (vR 1002)), (62, tIld 6 2), (64, tIal), (65, tIld 1 1), (66, tCv 2 2 fn_X2_gapBy), (69, tIst 7 2), (71, tIld 7 2), (73, tIld 5 2), (75, tCmge 92), (78, tIld 7 2), (80, tIst 5 2), (82, tGs (vR 1002)), (85, tIld 6 2), (87, tIal), (88, tIst 4 2), (90, tIc 0 1), (91, tIst 3 1), (92, tIld 3 1), (93, tIld 7 2), (95, tIld 5 2), (97, tCmne 104), (100, tIc 1 1), (101, tGo 105), (104, tIc 0 1), (105, tI2 (fun a b => a + b)), (106, tIst 3 1), (107, tIinc 6 1), (110, tGo 46), (113, tIld 2 1), (114, tIfne 121), (117, tIld 3 1), (118, tGo 133), (121, tIld 2 1), (122, tIc 1 1), (123, tCmne 131), (126, tIld 4 2), (128, tGo 133), (131, tIld 5 2)]
theorem ok_X5_cross : Tok mi_X5_cross tb_X5_cross :=
  Tc (sd_iload_n dX5_cross_0) <|
  Tc (sd_iconst rfl dX5_cross_1) <|
  Tc (sd_cm_lt (by decide) dX5_cross_2) <|
  Tc (sd_iload_n dX5_cross_5) <|
  Tc (sd_iconst rfl dX5_cross_6) <|
  Tc (sd_cm_gt (by decide) dX5_cross_7) <|
  Tc (sd_iload_n dX5_cross_10) <|
  Tc (sd_if_lt (by decide) dX5_cross_11) <|
  Tc (sd_iload_n dX5_cross_14) <|
  Tc (sd_iconst rfl dX5_cross_15) <|
  Tc (sd_cm_le (by decide) dX5_cross_16) <|
  Tc (sd_bipush (by decide +kernel) dX5_cross_19) <|
  Tc (sd_iconst rfl dX5_cross_22) <|
  Tc (sd_istore_n dX5_cross_23) <|
  Tc (sd_gsOrders w_fl_X5_222 dX5_cross_24) <|
  Tc (sd_iconst rfl dX5_cross_27) <|
  Tc (sd_ial dX5_cross_28) <|
  Tc (sd_istore dX5_cross_29) <|
  Tc (sd_aload_n dX5_cross_31) <|
  Tc (sd_getf (T := TX5) rfl giX5 (by decide) w_fl_X5_59 dX5_cross_32) <|
  Tc (sd_iload dX5_cross_35) <|
  Tc (sd_iload_n dX5_cross_37) <|
  Tc (sd_cv (T := TX2) fok_X2_gapBy mf_X2_gapBy rfl w_ml_X5_225 w_im_X2_gapBy w_se_X2_gapBy (by decide) dX5_cross_38) <|
  Tc (sd_istore dX5_cross_41) <|
  Tc (sd_iconst rfl dX5_cross_43) <|
  Tc (sd_istore dX5_cross_44) <|
  Tc (sd_iload dX5_cross_46) <|
  Tc (sd_gsOrders w_fl_X5_222 dX5_cross_48) <|
  Tc (sd_aln dX5_cross_51) <|
  Tc (sd_cm_ge (by decide) dX5_cross_52) <|
  Tc (sd_aload_n dX5_cross_55) <|
  Tc (sd_getf (T := TX5) rfl giX5 (by decide) w_fl_X5_59 dX5_cross_56) <|
  Tc (sd_gsOrders w_fl_X5_222 dX5_cross_59) <|
  Tc (sd_iload dX5_cross_62) <|
  Tc (sd_ial dX5_cross_64) <|
  Tc (sd_iload_n dX5_cross_65) <|
  Tc (sd_cv (T := TX2) fok_X2_gapBy mf_X2_gapBy rfl w_ml_X5_225 w_im_X2_gapBy w_se_X2_gapBy (by decide) dX5_cross_66) <|
  Tc (sd_istore dX5_cross_69) <|
  Tc (sd_iload dX5_cross_71) <|
  Tc (sd_iload dX5_cross_73) <|
  Tc (sd_cm_ge (by decide) dX5_cross_75) <|
  Tc (sd_iload dX5_cross_78) <|
  Tc (sd_istore dX5_cross_80) <|
  Tc (sd_gsOrders w_fl_X5_222 dX5_cross_82) <|
  Tc (sd_iload dX5_cross_85) <|
  Tc (sd_ial dX5_cross_87) <|
  Tc (sd_istore dX5_cross_88) <|
  Tc (sd_iconst rfl dX5_cross_90) <|
  Tc (sd_istore_n dX5_cross_91) <|
  Tc (sd_iload_n dX5_cross_92) <|
  Tc (sd_iload dX5_cross_93) <|
  Tc (sd_iload dX5_cross_95) <|
  Tc (sd_cm_ne (by decide) dX5_cross_97) <|
  Tc (sd_iconst rfl dX5_cross_100) <|
  Tc (sd_goto (by decide) dX5_cross_101) <|
  Tc (sd_iconst rfl dX5_cross_104) <|
  Tc (sd_iadd dX5_cross_105) <|
  Tc (sd_istore_n dX5_cross_106) <|
  Tc (sd_iinc dX5_cross_107) <|
  Tc (sd_goto (by decide) dX5_cross_110) <|
  Tc (sd_iload_n dX5_cross_113) <|
  Tc (sd_if_ne (by decide) dX5_cross_114) <|
  Tc (sd_iload_n dX5_cross_117) <|
  Tc (sd_goto (by decide) dX5_cross_118) <|
  Tc (sd_iload_n dX5_cross_121) <|
  Tc (sd_iconst rfl dX5_cross_122) <|
  Tc (sd_cm_ne (by decide) dX5_cross_123) <|
  Tc (sd_iload dX5_cross_126) <|
  Tc (sd_goto (by decide) dX5_cross_128) <|
  Tc (sd_iload dX5_cross_131) <|
  Tn
theorem rk_X5_cross : Rok mi_X5_cross rI [21, 133] := rk_i dX5_cross_21 <| rk_i dX5_cross_133 <| rk_n
def rx_X5_cross : Nat → Nat → AL → List AV → List AC → Option (Option AV × List AC) := am_r tb_X5_cross rI [21, 133]
theorem rs_X5_cross_0 (n : Nat) (L : AL) (st : List AV) (M : List AC) : rx_X5_cross (n + 1) 0 L st M = am_j (rx_X5_cross n) ((tIld 1 1) 0 L st M) := rfl
theorem rs_X5_cross_1 (n : Nat) (L : AL) (st : List AV) (M : List AC) : rx_X5_cross (n + 1) 1 L st M = am_j (rx_X5_cross n) ((tIc 1 1) 1 L st M) := rfl
theorem rs_X5_cross_2 (n : Nat) (L : AL) (st : List AV) (M : List AC) : rx_X5_cross (n + 1) 2 L st M = am_j (rx_X5_cross n) ((tCmlt 19) 2 L st M) := rfl
theorem rs_X5_cross_5 (n : Nat) (L : AL) (st : List AV) (M : List AC) : rx_X5_cross (n + 1) 5 L st M = am_j (rx_X5_cross n) ((tIld 1 1) 5 L st M) := rfl
theorem rs_X5_cross_6 (n : Nat) (L : AL) (st : List AV) (M : List AC) : rx_X5_cross (n + 1) 6 L st M = am_j (rx_X5_cross n) ((tIc 5 1) 6 L st M) := rfl
theorem rs_X5_cross_7 (n : Nat) (L : AL) (st : List AV) (M : List AC) : rx_X5_cross (n + 1) 7 L st M = am_j (rx_X5_cross n) ((tCmgt 19) 7 L st M) := rfl
theorem rs_X5_cross_10 (n : Nat) (L : AL) (st : List AV) (M : List AC) : rx_X5_cross (n + 1) 10 L st M = am_j (rx_X5_cross n) ((tIld 2 1) 10 L st M) := rfl
theorem rs_X5_cross_11 (n : Nat) (L : AL) (st : List AV) (M : List AC) : rx_X5_cross (n + 1) 11 L st M = am_j (rx_X5_cross n) ((tIflt 19) 11 L st M) := rfl
theorem rs_X5_cross_14 (n : Nat) (L : AL) (st : List AV) (M : List AC) : rx_X5_cross (n + 1) 14 L st M = am_j (rx_X5_cross n) ((tIld 2 1) 14 L st M) := rfl
theorem rs_X5_cross_15 (n : Nat) (L : AL) (st : List AV) (M : List AC) : rx_X5_cross (n + 1) 15 L st M = am_j (rx_X5_cross n) ((tIc 2 1) 15 L st M) := rfl
theorem rs_X5_cross_16 (n : Nat) (L : AL) (st : List AV) (M : List AC) : rx_X5_cross (n + 1) 16 L st M = am_j (rx_X5_cross n) ((tCmle 22) 16 L st M) := rfl
theorem rs_X5_cross_19 (n : Nat) (L : AL) (st : List AV) (M : List AC) : rx_X5_cross (n + 1) 19 L st M = am_j (rx_X5_cross n) ((tIc (-2) 2) 19 L st M) := rfl
theorem rs_X5_cross_22 (n : Nat) (L : AL) (st : List AV) (M : List AC) : rx_X5_cross (n + 1) 22 L st M = am_j (rx_X5_cross n) ((tIc 0 1) 22 L st M) := rfl
theorem rs_X5_cross_23 (n : Nat) (L : AL) (st : List AV) (M : List AC) : rx_X5_cross (n + 1) 23 L st M = am_j (rx_X5_cross n) ((tIst 3 1) 23 L st M) := rfl
theorem rs_X5_cross_24 (n : Nat) (L : AL) (st : List AV) (M : List AC) : rx_X5_cross (n + 1) 24 L st M = am_j (rx_X5_cross n) ((tGs (vR 1002)) 24 L st M) := rfl
theorem rs_X5_cross_27 (n : Nat) (L : AL) (st : List AV) (M : List AC) : rx_X5_cross (n + 1) 27 L st M = am_j (rx_X5_cross n) ((tIc 0 1) 27 L st M) := rfl
theorem rs_X5_cross_28 (n : Nat) (L : AL) (st : List AV) (M : List AC) : rx_X5_cross (n + 1) 28 L st M = am_j (rx_X5_cross n) (tIal 28 L st M) := rfl
theorem rs_X5_cross_29 (n : Nat) (L : AL) (st : List AV) (M : List AC) : rx_X5_cross (n + 1) 29 L st M = am_j (rx_X5_cross n) ((tIst 4 2) 29 L st M) := rfl
theorem rs_X5_cross_31 (n : Nat) (L : AL) (st : List AV) (M : List AC) : rx_X5_cross (n + 1) 31 L st M = am_j (rx_X5_cross n) ((tAld 0 1) 31 L st M) := rfl
theorem rs_X5_cross_32 (n : Nat) (L : AL) (st : List AV) (M : List AC) : rx_X5_cross (n + 1) 32 L st M = am_j (rx_X5_cross n) ((tGf 5 10) 32 L st M) := rfl
theorem rs_X5_cross_35 (n : Nat) (L : AL) (st : List AV) (M : List AC) : rx_X5_cross (n + 1) 35 L st M = am_j (rx_X5_cross n) ((tIld 4 2) 35 L st M) := rfl
theorem rs_X5_cross_37 (n : Nat) (L : AL) (st : List AV) (M : List AC) : rx_X5_cross (n + 1) 37 L st M = am_j (rx_X5_cross n) ((tIld 1 1) 37 L st M) := rfl
theorem rs_X5_cross_38 (n : Nat) (L : AL) (st : List AV) (M : List AC) : rx_X5_cross (n + 1) 38 L st M = am_j (rx_X5_cross n) ((tCv 2 2 fn_X2_gapBy) 38 L st M) := rfl
theorem rs_X5_cross_41 (n : Nat) (L : AL) (st : List AV) (M : List AC) : rx_X5_cross (n + 1) 41 L st M = am_j (rx_X5_cross n) ((tIst 5 2) 41 L st M) := rfl
theorem rs_X5_cross_43 (n : Nat) (L : AL) (st : List AV) (M : List AC) : rx_X5_cross (n + 1) 43 L st M = am_j (rx_X5_cross n) ((tIc 0 1) 43 L st M) := rfl
theorem rs_X5_cross_44 (n : Nat) (L : AL) (st : List AV) (M : List AC) : rx_X5_cross (n + 1) 44 L st M = am_j (rx_X5_cross n) ((tIst 6 2) 44 L st M) := rfl
theorem rs_X5_cross_46 (n : Nat) (L : AL) (st : List AV) (M : List AC) : rx_X5_cross (n + 1) 46 L st M = am_j (rx_X5_cross n) ((tIld 6 2) 46 L st M) := rfl
theorem rs_X5_cross_48 (n : Nat) (L : AL) (st : List AV) (M : List AC) : rx_X5_cross (n + 1) 48 L st M = am_j (rx_X5_cross n) ((tGs (vR 1002)) 48 L st M) := rfl
theorem rs_X5_cross_51 (n : Nat) (L : AL) (st : List AV) (M : List AC) : rx_X5_cross (n + 1) 51 L st M = am_j (rx_X5_cross n) (tAln 51 L st M) := rfl
theorem rs_X5_cross_52 (n : Nat) (L : AL) (st : List AV) (M : List AC) : rx_X5_cross (n + 1) 52 L st M = am_j (rx_X5_cross n) ((tCmge 113) 52 L st M) := rfl
theorem rs_X5_cross_55 (n : Nat) (L : AL) (st : List AV) (M : List AC) : rx_X5_cross (n + 1) 55 L st M = am_j (rx_X5_cross n) ((tAld 0 1) 55 L st M) := rfl
theorem rs_X5_cross_56 (n : Nat) (L : AL) (st : List AV) (M : List AC) : rx_X5_cross (n + 1) 56 L st M = am_j (rx_X5_cross n) ((tGf 5 10) 56 L st M) := rfl
theorem rs_X5_cross_59 (n : Nat) (L : AL) (st : List AV) (M : List AC) : rx_X5_cross (n + 1) 59 L st M = am_j (rx_X5_cross n) ((tGs (vR 1002)) 59 L st M) := rfl
theorem rs_X5_cross_62 (n : Nat) (L : AL) (st : List AV) (M : List AC) : rx_X5_cross (n + 1) 62 L st M = am_j (rx_X5_cross n) ((tIld 6 2) 62 L st M) := rfl
theorem rs_X5_cross_64 (n : Nat) (L : AL) (st : List AV) (M : List AC) : rx_X5_cross (n + 1) 64 L st M = am_j (rx_X5_cross n) (tIal 64 L st M) := rfl
theorem rs_X5_cross_65 (n : Nat) (L : AL) (st : List AV) (M : List AC) : rx_X5_cross (n + 1) 65 L st M = am_j (rx_X5_cross n) ((tIld 1 1) 65 L st M) := rfl
theorem rs_X5_cross_66 (n : Nat) (L : AL) (st : List AV) (M : List AC) : rx_X5_cross (n + 1) 66 L st M = am_j (rx_X5_cross n) ((tCv 2 2 fn_X2_gapBy) 66 L st M) := rfl
theorem rs_X5_cross_69 (n : Nat) (L : AL) (st : List AV) (M : List AC) : rx_X5_cross (n + 1) 69 L st M = am_j (rx_X5_cross n) ((tIst 7 2) 69 L st M) := rfl
theorem rs_X5_cross_71 (n : Nat) (L : AL) (st : List AV) (M : List AC) : rx_X5_cross (n + 1) 71 L st M = am_j (rx_X5_cross n) ((tIld 7 2) 71 L st M) := rfl
theorem rs_X5_cross_73 (n : Nat) (L : AL) (st : List AV) (M : List AC) : rx_X5_cross (n + 1) 73 L st M = am_j (rx_X5_cross n) ((tIld 5 2) 73 L st M) := rfl
theorem rs_X5_cross_75 (n : Nat) (L : AL) (st : List AV) (M : List AC) : rx_X5_cross (n + 1) 75 L st M = am_j (rx_X5_cross n) ((tCmge 92) 75 L st M) := rfl
theorem rs_X5_cross_78 (n : Nat) (L : AL) (st : List AV) (M : List AC) : rx_X5_cross (n + 1) 78 L st M = am_j (rx_X5_cross n) ((tIld 7 2) 78 L st M) := rfl
theorem rs_X5_cross_80 (n : Nat) (L : AL) (st : List AV) (M : List AC) : rx_X5_cross (n + 1) 80 L st M = am_j (rx_X5_cross n) ((tIst 5 2) 80 L st M) := rfl
theorem rs_X5_cross_82 (n : Nat) (L : AL) (st : List AV) (M : List AC) : rx_X5_cross (n + 1) 82 L st M = am_j (rx_X5_cross n) ((tGs (vR 1002)) 82 L st M) := rfl
theorem rs_X5_cross_85 (n : Nat) (L : AL) (st : List AV) (M : List AC) : rx_X5_cross (n + 1) 85 L st M = am_j (rx_X5_cross n) ((tIld 6 2) 85 L st M) := rfl
theorem rs_X5_cross_87 (n : Nat) (L : AL) (st : List AV) (M : List AC) : rx_X5_cross (n + 1) 87 L st M = am_j (rx_X5_cross n) (tIal 87 L st M) := rfl
theorem rs_X5_cross_88 (n : Nat) (L : AL) (st : List AV) (M : List AC) : rx_X5_cross (n + 1) 88 L st M = am_j (rx_X5_cross n) ((tIst 4 2) 88 L st M) := rfl
theorem rs_X5_cross_90 (n : Nat) (L : AL) (st : List AV) (M : List AC) : rx_X5_cross (n + 1) 90 L st M = am_j (rx_X5_cross n) ((tIc 0 1) 90 L st M) := rfl
theorem rs_X5_cross_91 (n : Nat) (L : AL) (st : List AV) (M : List AC) : rx_X5_cross (n + 1) 91 L st M = am_j (rx_X5_cross n) ((tIst 3 1) 91 L st M) := rfl
theorem rs_X5_cross_92 (n : Nat) (L : AL) (st : List AV) (M : List AC) : rx_X5_cross (n + 1) 92 L st M = am_j (rx_X5_cross n) ((tIld 3 1) 92 L st M) := rfl
theorem rs_X5_cross_93 (n : Nat) (L : AL) (st : List AV) (M : List AC) : rx_X5_cross (n + 1) 93 L st M = am_j (rx_X5_cross n) ((tIld 7 2) 93 L st M) := rfl
theorem rs_X5_cross_95 (n : Nat) (L : AL) (st : List AV) (M : List AC) : rx_X5_cross (n + 1) 95 L st M = am_j (rx_X5_cross n) ((tIld 5 2) 95 L st M) := rfl
theorem rs_X5_cross_97 (n : Nat) (L : AL) (st : List AV) (M : List AC) : rx_X5_cross (n + 1) 97 L st M = am_j (rx_X5_cross n) ((tCmne 104) 97 L st M) := rfl
theorem rs_X5_cross_100 (n : Nat) (L : AL) (st : List AV) (M : List AC) : rx_X5_cross (n + 1) 100 L st M = am_j (rx_X5_cross n) ((tIc 1 1) 100 L st M) := rfl
theorem rs_X5_cross_101 (n : Nat) (L : AL) (st : List AV) (M : List AC) : rx_X5_cross (n + 1) 101 L st M = am_j (rx_X5_cross n) ((tGo 105) 101 L st M) := rfl
theorem rs_X5_cross_104 (n : Nat) (L : AL) (st : List AV) (M : List AC) : rx_X5_cross (n + 1) 104 L st M = am_j (rx_X5_cross n) ((tIc 0 1) 104 L st M) := rfl
theorem rs_X5_cross_105 (n : Nat) (L : AL) (st : List AV) (M : List AC) : rx_X5_cross (n + 1) 105 L st M = am_j (rx_X5_cross n) ((tI2 (fun a b => a + b)) 105 L st M) := rfl
theorem rs_X5_cross_106 (n : Nat) (L : AL) (st : List AV) (M : List AC) : rx_X5_cross (n + 1) 106 L st M = am_j (rx_X5_cross n) ((tIst 3 1) 106 L st M) := rfl
theorem rs_X5_cross_107 (n : Nat) (L : AL) (st : List AV) (M : List AC) : rx_X5_cross (n + 1) 107 L st M = am_j (rx_X5_cross n) ((tIinc 6 1) 107 L st M) := rfl
theorem rs_X5_cross_110 (n : Nat) (L : AL) (st : List AV) (M : List AC) : rx_X5_cross (n + 1) 110 L st M = am_j (rx_X5_cross n) ((tGo 46) 110 L st M) := rfl
theorem rs_X5_cross_113 (n : Nat) (L : AL) (st : List AV) (M : List AC) : rx_X5_cross (n + 1) 113 L st M = am_j (rx_X5_cross n) ((tIld 2 1) 113 L st M) := rfl
theorem rs_X5_cross_114 (n : Nat) (L : AL) (st : List AV) (M : List AC) : rx_X5_cross (n + 1) 114 L st M = am_j (rx_X5_cross n) ((tIfne 121) 114 L st M) := rfl
theorem rs_X5_cross_117 (n : Nat) (L : AL) (st : List AV) (M : List AC) : rx_X5_cross (n + 1) 117 L st M = am_j (rx_X5_cross n) ((tIld 3 1) 117 L st M) := rfl
theorem rs_X5_cross_118 (n : Nat) (L : AL) (st : List AV) (M : List AC) : rx_X5_cross (n + 1) 118 L st M = am_j (rx_X5_cross n) ((tGo 133) 118 L st M) := rfl
theorem rs_X5_cross_121 (n : Nat) (L : AL) (st : List AV) (M : List AC) : rx_X5_cross (n + 1) 121 L st M = am_j (rx_X5_cross n) ((tIld 2 1) 121 L st M) := rfl
theorem rs_X5_cross_122 (n : Nat) (L : AL) (st : List AV) (M : List AC) : rx_X5_cross (n + 1) 122 L st M = am_j (rx_X5_cross n) ((tIc 1 1) 122 L st M) := rfl
theorem rs_X5_cross_123 (n : Nat) (L : AL) (st : List AV) (M : List AC) : rx_X5_cross (n + 1) 123 L st M = am_j (rx_X5_cross n) ((tCmne 131) 123 L st M) := rfl
theorem rs_X5_cross_126 (n : Nat) (L : AL) (st : List AV) (M : List AC) : rx_X5_cross (n + 1) 126 L st M = am_j (rx_X5_cross n) ((tIld 4 2) 126 L st M) := rfl
theorem rs_X5_cross_128 (n : Nat) (L : AL) (st : List AV) (M : List AC) : rx_X5_cross (n + 1) 128 L st M = am_j (rx_X5_cross n) ((tGo 133) 128 L st M) := rfl
theorem rs_X5_cross_131 (n : Nat) (L : AL) (st : List AV) (M : List AC) : rx_X5_cross (n + 1) 131 L st M = am_j (rx_X5_cross n) ((tIld 5 2) 131 L st M) := rfl
theorem rs_X5_cross_21 (n : Nat) (L : AL) (st : List AV) (M : List AC) : rx_X5_cross (n + 1) 21 L st M = am_e rI st M := rfl
theorem rs_X5_cross_133 (n : Nat) (L : AL) (st : List AV) (M : List AC) : rx_X5_cross (n + 1) 133 L st M = am_e rI st M := rfl
theorem ri_X5_cross (c : Prop) [Decidable c] (p q n : Nat) (L : AL) (st : List AV) (M : List AC) : rx_X5_cross n (if c then p else q) L st M = if c then rx_X5_cross n p L st M else rx_X5_cross n q L st M := by split <;> rfl
theorem rm_X5_cross {n k pc : Nat} {L : AL} {st : List AV} {M : List AC} {x : Option AV × List AC} (h : rx_X5_cross n pc L st M = some x) (hk : n ≤ k) : rx_X5_cross k pc L st M = some x := am_r_mono n k h hk
def fn_X5_cross : Fn := am_fn rx_X5_cross 8
theorem fok_X5_cross : Fok mi_X5_cross fn_X5_cross := fun _ _ _ _ h => am_fok ok_X5_cross rk_X5_cross rfl h
theorem lp_X5_cross {len fa ac : Int} {sr : AV} {sd : Int64} {r w : Int} (hr : 1 ≤ r ∧ r ≤ 5) (hw : 0 ≤ w ∧ w ≤ 2) : ∀ (n i : Nat) (a b c : Int) (v : F4) (M : List AC) (x7 : Option AV), i + n = 24 → M[0]? = some (co len fa ac sr sd) → HT M v → 0 ≤ c ∧ c ≤ 2147483647 →
    ∃ v1 : F4, Ru rx_X5_cross (60 * n + 20) 46 [some (vR 0), some (vI r), some (vI w), some (vI a), some (vI b), some (vI c), some (vI (i : Int)), x7] [] M (some (vI (cr3 w (crs (gq r) (am_orders.drop i) (a, b, c)))), M.set 25 (aI (l4 v1)))
  | 0, i, a, b, c, v, M, x7, hi, h0, hT, hc => by
    have e1 : i = 24 := by omega
    subst e1
    refine ⟨v, 19 + 1, by omega, ?_⟩
    rw [rs_X5_cross_46, set_same hT.2]
    have ed : am_orders.drop 24 = [] := rfl
    rw [ed]
    simp only [crs, cr3]
    obtain rfl | rfl | rfl : w = 0 ∨ w = 1 ∨ w = 2 := by omega
    all_goals simp [↓ri_X5_cross, rs_X5_cross_0, rs_X5_cross_1, rs_X5_cross_2, rs_X5_cross_5, rs_X5_cross_6, rs_X5_cross_7, rs_X5_cross_10, rs_X5_cross_11, rs_X5_cross_14, rs_X5_cross_15, rs_X5_cross_16, rs_X5_cross_19, rs_X5_cross_22, rs_X5_cross_23, rs_X5_cross_24, rs_X5_cross_27, rs_X5_cross_28, rs_X5_cross_29, rs_X5_cross_31, rs_X5_cross_32, rs_X5_cross_35, rs_X5_cross_37, rs_X5_cross_38, rs_X5_cross_41, rs_X5_cross_43, rs_X5_cross_44, rs_X5_cross_48, rs_X5_cross_51, rs_X5_cross_52, rs_X5_cross_55, rs_X5_cross_56, rs_X5_cross_59, rs_X5_cross_62, rs_X5_cross_64, rs_X5_cross_65, rs_X5_cross_66, rs_X5_cross_69, rs_X5_cross_71, rs_X5_cross_73, rs_X5_cross_75, rs_X5_cross_78, rs_X5_cross_80, rs_X5_cross_82, rs_X5_cross_85, rs_X5_cross_87, rs_X5_cross_88, rs_X5_cross_90, rs_X5_cross_91, rs_X5_cross_92, rs_X5_cross_93, rs_X5_cross_95, rs_X5_cross_97, rs_X5_cross_100, rs_X5_cross_101, rs_X5_cross_104, rs_X5_cross_105, rs_X5_cross_106, rs_X5_cross_107, rs_X5_cross_110, rs_X5_cross_113, rs_X5_cross_114, rs_X5_cross_117, rs_X5_cross_118, rs_X5_cross_121, rs_X5_cross_122, rs_X5_cross_123, rs_X5_cross_126, rs_X5_cross_128, rs_X5_cross_131, rs_X5_cross_21, rs_X5_cross_133, -List.getElem?_eq_getElem, am_js, am_e, am_in, am_sl, rI, rZ, rV, rJ, rA, rC, kI, kJ, kR, am_one, am_nl, am_w8, tIc, tLc, tNul, tIld, tLld, tAld, tIst, tLst, tAst, tIinc, tI2, tDv, tL2, tLrem, tLs, tLcmp, tI2l, tL2i, tI2c, tDup, tDup2, tPop, tGo, tIfeq, tIfne, tIflt, tIfge, tIfgt, tIfle, tCmeq, tCmne, tCmlt, tCmge, tCmgt, tCmle, tNu, tTs, tGf, tPf, tGs, tIal, tIas, tBal, tBas, tAln, tSv, tSc, tSb, tSl, tSk, tCv, tCs, tCt, tMx, tMn, wr_10000, wr_100000, wr_1000000, wr_10000000, wr_100000000, wr_2400, wr_9999, wr_0, wr_1, wr_2, wr_3, wr_4, wr_5, wr_6, wr_7, wr_8, wr_9, wr_10, wr_11, wr_12, wr_13, wr_14, wr_15, wr_16, wr_17, wr_18, wr_19, wr_20, wr_21, wr_22, wr_23, wr_24, wr_25, wr_26, wr_27, wr_28, wr_29, wr_30, wr_31, wr_32, wr_33, wr_34, wr_35, wr_36, wr_37, wr_38, wr_39, wr_40, wr_41, wr_42, wr_43, wr_44, wr_45, wr_46, wr_47, wr_48, wr_49, wr_50, wr_51, wr_52, wr_53, wr_54, wr_55, wr_56, wr_57, wr_58, wr_59, wr_60, wr_61, wr_62, wr_63, wr_99, wr_100, wr_192, wr_255, wr_256, wr_343, wr_999, wr_1000, wr_2401, wr_2147483647, wr_65535, wr_m1, wr_m2, wr_m3, wr_m4, wr_m9, ak_1000, ak_1001, ak_1002, ak_0, ak_1, ak_2, ak_3, ak_4, ak_5, ak_6, ak_7, ak_8, ak_9, ak_10, ak_11, ak_12, ak_13, ak_14, ak_15, ak_16, ak_17, ak_18, ak_19, ak_20, ak_21, ak_22, ak_23, ak_24, ak_25, ak_26, ak_27, ak_28, ak_29, ak_30, ak_31, ak_32, ak_33, ak_34, ak_35, ak_36, ak_37, ak_38, ak_39, ak_40, ak_41, ak_42, ak_43, ak_44, ak_45, ak_46, ak_47, ords_len]
  | n + 1, i, a, b, c, v, M, x7, hi, h0, hT, hc => by
    have wi : wr (i : Int) = i := wr_id (by omega) (by omega)
    have wc : wr c = c := wr_id (by omega) (by omega)
    have ni : ¬ (24 : Int) ≤ i := by omega
    have i24 : i < 24 := by omega
    have ii24 : (i : Int) < 24 := by omega
    rw [ords_drop i i24, crs]
    have hO := ords_O5 i i24
    have hU := ords_uf ⟨i, i24⟩
    have q2 := sp_X2_gapBy hT (am_orders.getD i 0) r hO.1 hU hr
    have hq := gq_rng hr (am_orders.getD i 0)
    change fn_X2_gapBy [vR 24, vI (am_orders.getD i 0), vI r] M = some (some (vI (gq r (am_orders.getD i 0))), _) at q2
    clear hO hU
    generalize gpi (am_orders.getD i 0) (4 * r).toNat 0 (0, 0, 0, 0) = R at q2
    generalize gq r (am_orders.getD i 0) = z at q2 hq ⊢
    generalize hoi : am_orders.getD i 0 = oi at q2 ⊢
    have wz' : wr z = z := by clear hoi; exact wr_id (by omega) (by omega)
    obtain ⟨t0, t1⟩ := id hT
    have e1 : ((i + 1 : Nat) : Int) = (i : Int) + 1 := by clear hoi; omega
    by_cases h1 : z < c
    · rw [if_pos h1]
      have n1 : ¬ c ≤ z := by clear hoi; omega
      obtain ⟨v1, k, hk, h⟩ := lp_X5_cross (len := len) (fa := fa) (ac := ac) (sr := sr) (sd := sd) hr hw n (i + 1) 1 oi z R (M.set 25 (aI (l4 R))) (some (vI z)) (by clear hoi; omega) (by simp [-List.getElem?_eq_getElem, h0, gs h0]) (hT.set _) (by clear hoi; omega)
      rw [List.set_set, e1] at h
      generalize cr3 w (crs (gq r) (am_orders.drop (i + 1)) (1, oi, z)) = T at h ⊢
      refine ⟨v1, k + 59 + 1, by clear hoi; omega, ?_⟩
      rw [rs_X5_cross_46]
      simp only [co] at h0
      simp [↓ri_X5_cross, rs_X5_cross_0, rs_X5_cross_1, rs_X5_cross_2, rs_X5_cross_5, rs_X5_cross_6, rs_X5_cross_7, rs_X5_cross_10, rs_X5_cross_11, rs_X5_cross_14, rs_X5_cross_15, rs_X5_cross_16, rs_X5_cross_19, rs_X5_cross_22, rs_X5_cross_23, rs_X5_cross_24, rs_X5_cross_27, rs_X5_cross_28, rs_X5_cross_29, rs_X5_cross_31, rs_X5_cross_32, rs_X5_cross_35, rs_X5_cross_37, rs_X5_cross_38, rs_X5_cross_41, rs_X5_cross_43, rs_X5_cross_44, rs_X5_cross_48, rs_X5_cross_51, rs_X5_cross_52, rs_X5_cross_55, rs_X5_cross_56, rs_X5_cross_59, rs_X5_cross_62, rs_X5_cross_64, rs_X5_cross_65, rs_X5_cross_66, rs_X5_cross_69, rs_X5_cross_71, rs_X5_cross_73, rs_X5_cross_75, rs_X5_cross_78, rs_X5_cross_80, rs_X5_cross_82, rs_X5_cross_85, rs_X5_cross_87, rs_X5_cross_88, rs_X5_cross_90, rs_X5_cross_91, rs_X5_cross_92, rs_X5_cross_93, rs_X5_cross_95, rs_X5_cross_97, rs_X5_cross_100, rs_X5_cross_101, rs_X5_cross_104, rs_X5_cross_105, rs_X5_cross_106, rs_X5_cross_107, rs_X5_cross_110, rs_X5_cross_113, rs_X5_cross_114, rs_X5_cross_117, rs_X5_cross_118, rs_X5_cross_121, rs_X5_cross_122, rs_X5_cross_123, rs_X5_cross_126, rs_X5_cross_128, rs_X5_cross_131, rs_X5_cross_21, rs_X5_cross_133, -List.getElem?_eq_getElem, am_js, am_e, am_in, am_sl, rI, rZ, rV, rJ, rA, rC, kI, kJ, kR, am_one, am_nl, am_w8, tIc, tLc, tNul, tIld, tLld, tAld, tIst, tLst, tAst, tIinc, tI2, tDv, tL2, tLrem, tLs, tLcmp, tI2l, tL2i, tI2c, tDup, tDup2, tPop, tGo, tIfeq, tIfne, tIflt, tIfge, tIfgt, tIfle, tCmeq, tCmne, tCmlt, tCmge, tCmgt, tCmle, tNu, tTs, tGf, tPf, tGs, tIal, tIas, tBal, tBas, tAln, tSv, tSc, tSb, tSl, tSk, tCv, tCs, tCt, tMx, tMn, wr_10000, wr_100000, wr_1000000, wr_10000000, wr_100000000, wr_2400, wr_9999, wr_0, wr_1, wr_2, wr_3, wr_4, wr_5, wr_6, wr_7, wr_8, wr_9, wr_10, wr_11, wr_12, wr_13, wr_14, wr_15, wr_16, wr_17, wr_18, wr_19, wr_20, wr_21, wr_22, wr_23, wr_24, wr_25, wr_26, wr_27, wr_28, wr_29, wr_30, wr_31, wr_32, wr_33, wr_34, wr_35, wr_36, wr_37, wr_38, wr_39, wr_40, wr_41, wr_42, wr_43, wr_44, wr_45, wr_46, wr_47, wr_48, wr_49, wr_50, wr_51, wr_52, wr_53, wr_54, wr_55, wr_56, wr_57, wr_58, wr_59, wr_60, wr_61, wr_62, wr_63, wr_99, wr_100, wr_192, wr_255, wr_256, wr_343, wr_999, wr_1000, wr_2401, wr_2147483647, wr_65535, wr_m1, wr_m2, wr_m3, wr_m4, wr_m9, ak_1000, ak_1001, ak_1002, ak_0, ak_1, ak_2, ak_3, ak_4, ak_5, ak_6, ak_7, ak_8, ak_9, ak_10, ak_11, ak_12, ak_13, ak_14, ak_15, ak_16, ak_17, ak_18, ak_19, ak_20, ak_21, ak_22, ak_23, ak_24, ak_25, ak_26, ak_27, ak_28, ak_29, ak_30, ak_31, ak_32, ak_33, ak_34, ak_35, ak_36, ak_37, ak_38, ak_39, ak_40, ak_41, ak_42, ak_43, ak_44, ak_45, ak_46, ak_47, -List.getD_eq_getElem?_getD, ords_len, wi, wc, ni, ii24, hoi, h0, t0, q2, wz', n1]
      exact rm_X5_cross h (Nat.le_add_right _ _)
    · rw [if_neg h1]
      have n1 : c ≤ z := by clear hoi; omega
      by_cases h2 : z = c
      · rw [if_pos h2]
        obtain ⟨v1, k, hk, h⟩ := lp_X5_cross (len := len) (fa := fa) (ac := ac) (sr := sr) (sd := sd) hr hw n (i + 1) (a + 1) b c R (M.set 25 (aI (l4 R))) (some (vI z)) (by clear hoi; omega) (by simp [-List.getElem?_eq_getElem, h0, gs h0]) (hT.set _) hc
        rw [List.set_set, e1] at h
        generalize cr3 w (crs (gq r) (am_orders.drop (i + 1)) (a + 1, b, c)) = T at h ⊢
        refine ⟨v1, k + 59 + 1, by clear hoi; omega, ?_⟩
        rw [rs_X5_cross_46]
        simp only [co] at h0
        subst h2
        simp [↓ri_X5_cross, rs_X5_cross_0, rs_X5_cross_1, rs_X5_cross_2, rs_X5_cross_5, rs_X5_cross_6, rs_X5_cross_7, rs_X5_cross_10, rs_X5_cross_11, rs_X5_cross_14, rs_X5_cross_15, rs_X5_cross_16, rs_X5_cross_19, rs_X5_cross_22, rs_X5_cross_23, rs_X5_cross_24, rs_X5_cross_27, rs_X5_cross_28, rs_X5_cross_29, rs_X5_cross_31, rs_X5_cross_32, rs_X5_cross_35, rs_X5_cross_37, rs_X5_cross_38, rs_X5_cross_41, rs_X5_cross_43, rs_X5_cross_44, rs_X5_cross_48, rs_X5_cross_51, rs_X5_cross_52, rs_X5_cross_55, rs_X5_cross_56, rs_X5_cross_59, rs_X5_cross_62, rs_X5_cross_64, rs_X5_cross_65, rs_X5_cross_66, rs_X5_cross_69, rs_X5_cross_71, rs_X5_cross_73, rs_X5_cross_75, rs_X5_cross_78, rs_X5_cross_80, rs_X5_cross_82, rs_X5_cross_85, rs_X5_cross_87, rs_X5_cross_88, rs_X5_cross_90, rs_X5_cross_91, rs_X5_cross_92, rs_X5_cross_93, rs_X5_cross_95, rs_X5_cross_97, rs_X5_cross_100, rs_X5_cross_101, rs_X5_cross_104, rs_X5_cross_105, rs_X5_cross_106, rs_X5_cross_107, rs_X5_cross_110, rs_X5_cross_113, rs_X5_cross_114, rs_X5_cross_117, rs_X5_cross_118, rs_X5_cross_121, rs_X5_cross_122, rs_X5_cross_123, rs_X5_cross_126, rs_X5_cross_128, rs_X5_cross_131, rs_X5_cross_21, rs_X5_cross_133, -List.getElem?_eq_getElem, am_js, am_e, am_in, am_sl, rI, rZ, rV, rJ, rA, rC, kI, kJ, kR, am_one, am_nl, am_w8, tIc, tLc, tNul, tIld, tLld, tAld, tIst, tLst, tAst, tIinc, tI2, tDv, tL2, tLrem, tLs, tLcmp, tI2l, tL2i, tI2c, tDup, tDup2, tPop, tGo, tIfeq, tIfne, tIflt, tIfge, tIfgt, tIfle, tCmeq, tCmne, tCmlt, tCmge, tCmgt, tCmle, tNu, tTs, tGf, tPf, tGs, tIal, tIas, tBal, tBas, tAln, tSv, tSc, tSb, tSl, tSk, tCv, tCs, tCt, tMx, tMn, wr_10000, wr_100000, wr_1000000, wr_10000000, wr_100000000, wr_2400, wr_9999, wr_0, wr_1, wr_2, wr_3, wr_4, wr_5, wr_6, wr_7, wr_8, wr_9, wr_10, wr_11, wr_12, wr_13, wr_14, wr_15, wr_16, wr_17, wr_18, wr_19, wr_20, wr_21, wr_22, wr_23, wr_24, wr_25, wr_26, wr_27, wr_28, wr_29, wr_30, wr_31, wr_32, wr_33, wr_34, wr_35, wr_36, wr_37, wr_38, wr_39, wr_40, wr_41, wr_42, wr_43, wr_44, wr_45, wr_46, wr_47, wr_48, wr_49, wr_50, wr_51, wr_52, wr_53, wr_54, wr_55, wr_56, wr_57, wr_58, wr_59, wr_60, wr_61, wr_62, wr_63, wr_99, wr_100, wr_192, wr_255, wr_256, wr_343, wr_999, wr_1000, wr_2401, wr_2147483647, wr_65535, wr_m1, wr_m2, wr_m3, wr_m4, wr_m9, ak_1000, ak_1001, ak_1002, ak_0, ak_1, ak_2, ak_3, ak_4, ak_5, ak_6, ak_7, ak_8, ak_9, ak_10, ak_11, ak_12, ak_13, ak_14, ak_15, ak_16, ak_17, ak_18, ak_19, ak_20, ak_21, ak_22, ak_23, ak_24, ak_25, ak_26, ak_27, ak_28, ak_29, ak_30, ak_31, ak_32, ak_33, ak_34, ak_35, ak_36, ak_37, ak_38, ak_39, ak_40, ak_41, ak_42, ak_43, ak_44, ak_45, ak_46, ak_47, -List.getD_eq_getElem?_getD, ords_len, wi, ni, ii24, hoi, h0, t0, q2, wz']
        exact rm_X5_cross h (Nat.le_add_right _ _)
      · rw [if_neg h2]
        obtain ⟨v1, k, hk, h⟩ := lp_X5_cross (len := len) (fa := fa) (ac := ac) (sr := sr) (sd := sd) hr hw n (i + 1) a b c R (M.set 25 (aI (l4 R))) (some (vI z)) (by clear hoi; omega) (by simp [-List.getElem?_eq_getElem, h0, gs h0]) (hT.set _) hc
        rw [List.set_set, e1] at h
        generalize cr3 w (crs (gq r) (am_orders.drop (i + 1)) (a, b, c)) = T at h ⊢
        refine ⟨v1, k + 59 + 1, by clear hoi; omega, ?_⟩
        rw [rs_X5_cross_46]
        simp only [co] at h0
        simp [↓ri_X5_cross, rs_X5_cross_0, rs_X5_cross_1, rs_X5_cross_2, rs_X5_cross_5, rs_X5_cross_6, rs_X5_cross_7, rs_X5_cross_10, rs_X5_cross_11, rs_X5_cross_14, rs_X5_cross_15, rs_X5_cross_16, rs_X5_cross_19, rs_X5_cross_22, rs_X5_cross_23, rs_X5_cross_24, rs_X5_cross_27, rs_X5_cross_28, rs_X5_cross_29, rs_X5_cross_31, rs_X5_cross_32, rs_X5_cross_35, rs_X5_cross_37, rs_X5_cross_38, rs_X5_cross_41, rs_X5_cross_43, rs_X5_cross_44, rs_X5_cross_48, rs_X5_cross_51, rs_X5_cross_52, rs_X5_cross_55, rs_X5_cross_56, rs_X5_cross_59, rs_X5_cross_62, rs_X5_cross_64, rs_X5_cross_65, rs_X5_cross_66, rs_X5_cross_69, rs_X5_cross_71, rs_X5_cross_73, rs_X5_cross_75, rs_X5_cross_78, rs_X5_cross_80, rs_X5_cross_82, rs_X5_cross_85, rs_X5_cross_87, rs_X5_cross_88, rs_X5_cross_90, rs_X5_cross_91, rs_X5_cross_92, rs_X5_cross_93, rs_X5_cross_95, rs_X5_cross_97, rs_X5_cross_100, rs_X5_cross_101, rs_X5_cross_104, rs_X5_cross_105, rs_X5_cross_106, rs_X5_cross_107, rs_X5_cross_110, rs_X5_cross_113, rs_X5_cross_114, rs_X5_cross_117, rs_X5_cross_118, rs_X5_cross_121, rs_X5_cross_122, rs_X5_cross_123, rs_X5_cross_126, rs_X5_cross_128, rs_X5_cross_131, rs_X5_cross_21, rs_X5_cross_133, -List.getElem?_eq_getElem, am_js, am_e, am_in, am_sl, rI, rZ, rV, rJ, rA, rC, kI, kJ, kR, am_one, am_nl, am_w8, tIc, tLc, tNul, tIld, tLld, tAld, tIst, tLst, tAst, tIinc, tI2, tDv, tL2, tLrem, tLs, tLcmp, tI2l, tL2i, tI2c, tDup, tDup2, tPop, tGo, tIfeq, tIfne, tIflt, tIfge, tIfgt, tIfle, tCmeq, tCmne, tCmlt, tCmge, tCmgt, tCmle, tNu, tTs, tGf, tPf, tGs, tIal, tIas, tBal, tBas, tAln, tSv, tSc, tSb, tSl, tSk, tCv, tCs, tCt, tMx, tMn, wr_10000, wr_100000, wr_1000000, wr_10000000, wr_100000000, wr_2400, wr_9999, wr_0, wr_1, wr_2, wr_3, wr_4, wr_5, wr_6, wr_7, wr_8, wr_9, wr_10, wr_11, wr_12, wr_13, wr_14, wr_15, wr_16, wr_17, wr_18, wr_19, wr_20, wr_21, wr_22, wr_23, wr_24, wr_25, wr_26, wr_27, wr_28, wr_29, wr_30, wr_31, wr_32, wr_33, wr_34, wr_35, wr_36, wr_37, wr_38, wr_39, wr_40, wr_41, wr_42, wr_43, wr_44, wr_45, wr_46, wr_47, wr_48, wr_49, wr_50, wr_51, wr_52, wr_53, wr_54, wr_55, wr_56, wr_57, wr_58, wr_59, wr_60, wr_61, wr_62, wr_63, wr_99, wr_100, wr_192, wr_255, wr_256, wr_343, wr_999, wr_1000, wr_2401, wr_2147483647, wr_65535, wr_m1, wr_m2, wr_m3, wr_m4, wr_m9, ak_1000, ak_1001, ak_1002, ak_0, ak_1, ak_2, ak_3, ak_4, ak_5, ak_6, ak_7, ak_8, ak_9, ak_10, ak_11, ak_12, ak_13, ak_14, ak_15, ak_16, ak_17, ak_18, ak_19, ak_20, ak_21, ak_22, ak_23, ak_24, ak_25, ak_26, ak_27, ak_28, ak_29, ak_30, ak_31, ak_32, ak_33, ak_34, ak_35, ak_36, ak_37, ak_38, ak_39, ak_40, ak_41, ak_42, ak_43, ak_44, ak_45, ak_46, ak_47, -List.getD_eq_getElem?_getD, ords_len, wi, wc, ni, ii24, hoi, h0, t0, q2, wz', n1, h2]
        exact rm_X5_cross h (Nat.le_add_right _ _)
theorem crs_hd {G : Int → Int} (h : G 123 < 2147483647) : crs G am_orders (0, 123, G 123) = crs G am_orders (0, -9, 2147483647) := by
  have e : am_orders = 123 :: am_orders.drop 1 := rfl
  generalize am_orders.drop 1 = l at e
  rw [e]
  simp only [crs]
  rw [if_neg (Int.lt_irrefl _), if_pos True.intro, if_pos h]
  rfl
theorem sp_X5_cross {M : List AC} {len fa ac : Int} {sr : AV} {sd : Int64} (h0 : M[0]? = some (co len fa ac sr sd)) {v : F4} (hT : HT M v) (r w : Int) (hr : -2147483648 ≤ r ∧ r < 2147483648) (hw : -2147483648 ≤ w ∧ w < 2147483648) : ∃ v1 : F4, fn_X5_cross [vR 0, vI r, vI w] M = some (some (vI (if (1 ≤ r ∧ r ≤ 5) ∧ (0 ≤ w ∧ w ≤ 2) then cr3 w (crs (gq r) am_orders (0, -9, 2147483647)) else -2)), M.set 25 (aI (l4 v1))) := by
  have wr' : wr r = r := wr_id (by omega) (by omega)
  have ww : wr w = w := wr_id (by omega) (by omega)
  by_cases h1 : (1 ≤ r ∧ r ≤ 5) ∧ (0 ≤ w ∧ w ≤ 2)
  · rw [if_pos h1]
    have q0 := sp_X2_gapBy hT 123 r (ords_O5 0 (by decide)).1 (ords_uf ⟨0, by decide⟩) h1.1
    have hq := gq_rng h1.1 123
    rw [← crs_hd (G := gq r) (by omega)]
    change fn_X2_gapBy [vR 24, vI 123, vI r] M = some (some (vI (gq r 123)), _) at q0
    generalize gpi 123 (4 * r).toNat 0 (0, 0, 0, 0) = R at q0
    obtain ⟨t0, t1⟩ := id hT
    obtain ⟨v1, k, hk, h⟩ := lp_X5_cross (len := len) (fa := fa) (ac := ac) (sr := sr) (sd := sd) h1.1 h1.2 24 0 0 123 (gq r 123) R (M.set 25 (aI (l4 R))) none (by omega) (by simp [-List.getElem?_eq_getElem, h0, gs h0]) (hT.set _) (by omega)
    rw [List.drop_zero, List.set_set] at h
    generalize cr3 w (crs (gq r) am_orders (0, 123, gq r 123)) = T at h ⊢
    generalize gq r 123 = z at q0 hq h
    have wz' : wr z = z := wr_id (by omega) (by omega)
    refine ⟨v1, ?_⟩
    have a1 : ¬ r < 1 := by omega
    have a2 : ¬ 5 < r := by omega
    have a3 : ¬ w < 0 := by omega
    have a4 : w ≤ 2 := by omega
    have e0 : am_orders.getD 0 0 = 123 := rfl
    simp only [co] at h0
    (refine am_fnR (tb := tb_X5_cross) (N := 50000) (Nat.le_of_ble_eq_true rfl) (Nat.le_of_ble_eq_true rfl) ?_; show Ru rx_X5_cross 50000 0 _ _ _ _)
    refine ⟨k + 60, by omega, ?_⟩
    simp [↓ri_X5_cross, rs_X5_cross_0, rs_X5_cross_1, rs_X5_cross_2, rs_X5_cross_5, rs_X5_cross_6, rs_X5_cross_7, rs_X5_cross_10, rs_X5_cross_11, rs_X5_cross_14, rs_X5_cross_15, rs_X5_cross_16, rs_X5_cross_19, rs_X5_cross_22, rs_X5_cross_23, rs_X5_cross_24, rs_X5_cross_27, rs_X5_cross_28, rs_X5_cross_29, rs_X5_cross_31, rs_X5_cross_32, rs_X5_cross_35, rs_X5_cross_37, rs_X5_cross_38, rs_X5_cross_41, rs_X5_cross_43, rs_X5_cross_44, rs_X5_cross_48, rs_X5_cross_51, rs_X5_cross_52, rs_X5_cross_55, rs_X5_cross_56, rs_X5_cross_59, rs_X5_cross_62, rs_X5_cross_64, rs_X5_cross_65, rs_X5_cross_66, rs_X5_cross_69, rs_X5_cross_71, rs_X5_cross_73, rs_X5_cross_75, rs_X5_cross_78, rs_X5_cross_80, rs_X5_cross_82, rs_X5_cross_85, rs_X5_cross_87, rs_X5_cross_88, rs_X5_cross_90, rs_X5_cross_91, rs_X5_cross_92, rs_X5_cross_93, rs_X5_cross_95, rs_X5_cross_97, rs_X5_cross_100, rs_X5_cross_101, rs_X5_cross_104, rs_X5_cross_105, rs_X5_cross_106, rs_X5_cross_107, rs_X5_cross_110, rs_X5_cross_113, rs_X5_cross_114, rs_X5_cross_117, rs_X5_cross_118, rs_X5_cross_121, rs_X5_cross_122, rs_X5_cross_123, rs_X5_cross_126, rs_X5_cross_128, rs_X5_cross_131, rs_X5_cross_21, rs_X5_cross_133, -List.getElem?_eq_getElem, am_js, am_e, am_in, am_sl, rI, rZ, rV, rJ, rA, rC, kI, kJ, kR, am_one, am_nl, am_w8, tIc, tLc, tNul, tIld, tLld, tAld, tIst, tLst, tAst, tIinc, tI2, tDv, tL2, tLrem, tLs, tLcmp, tI2l, tL2i, tI2c, tDup, tDup2, tPop, tGo, tIfeq, tIfne, tIflt, tIfge, tIfgt, tIfle, tCmeq, tCmne, tCmlt, tCmge, tCmgt, tCmle, tNu, tTs, tGf, tPf, tGs, tIal, tIas, tBal, tBas, tAln, tSv, tSc, tSb, tSl, tSk, tCv, tCs, tCt, tMx, tMn, wr_10000, wr_100000, wr_1000000, wr_10000000, wr_100000000, wr_2400, wr_9999, wr_0, wr_1, wr_2, wr_3, wr_4, wr_5, wr_6, wr_7, wr_8, wr_9, wr_10, wr_11, wr_12, wr_13, wr_14, wr_15, wr_16, wr_17, wr_18, wr_19, wr_20, wr_21, wr_22, wr_23, wr_24, wr_25, wr_26, wr_27, wr_28, wr_29, wr_30, wr_31, wr_32, wr_33, wr_34, wr_35, wr_36, wr_37, wr_38, wr_39, wr_40, wr_41, wr_42, wr_43, wr_44, wr_45, wr_46, wr_47, wr_48, wr_49, wr_50, wr_51, wr_52, wr_53, wr_54, wr_55, wr_56, wr_57, wr_58, wr_59, wr_60, wr_61, wr_62, wr_63, wr_99, wr_100, wr_192, wr_255, wr_256, wr_343, wr_999, wr_1000, wr_2401, wr_2147483647, wr_65535, wr_m1, wr_m2, wr_m3, wr_m4, wr_m9, ak_1000, ak_1001, ak_1002, ak_0, ak_1, ak_2, ak_3, ak_4, ak_5, ak_6, ak_7, ak_8, ak_9, ak_10, ak_11, ak_12, ak_13, ak_14, ak_15, ak_16, ak_17, ak_18, ak_19, ak_20, ak_21, ak_22, ak_23, ak_24, ak_25, ak_26, ak_27, ak_28, ak_29, ak_30, ak_31, ak_32, ak_33, ak_34, ak_35, ak_36, ak_37, ak_38, ak_39, ak_40, ak_41, ak_42, ak_43, ak_44, ak_45, ak_46, ak_47, -List.getD_eq_getElem?_getD, ords_len, wr', ww, a1, a2, a3, a4, e0, h0, t0, q0, wz']
    exact rm_X5_cross h (by omega)
  · rw [if_neg h1]
    refine ⟨v, ?_⟩
    rw [set_same hT.2]
    by_cases a1 : r < 1
    · (refine am_fnI (tb := tb_X5_cross) (n := 60) (Nat.le_of_ble_eq_true rfl) (Nat.le_of_ble_eq_true rfl) ?_; show rx_X5_cross 60 0 _ _ _ = _)
      simp [↓ri_X5_cross, rs_X5_cross_0, rs_X5_cross_1, rs_X5_cross_2, rs_X5_cross_5, rs_X5_cross_6, rs_X5_cross_7, rs_X5_cross_10, rs_X5_cross_11, rs_X5_cross_14, rs_X5_cross_15, rs_X5_cross_16, rs_X5_cross_19, rs_X5_cross_22, rs_X5_cross_23, rs_X5_cross_24, rs_X5_cross_27, rs_X5_cross_28, rs_X5_cross_29, rs_X5_cross_31, rs_X5_cross_32, rs_X5_cross_35, rs_X5_cross_37, rs_X5_cross_38, rs_X5_cross_41, rs_X5_cross_43, rs_X5_cross_44, rs_X5_cross_46, rs_X5_cross_48, rs_X5_cross_51, rs_X5_cross_52, rs_X5_cross_55, rs_X5_cross_56, rs_X5_cross_59, rs_X5_cross_62, rs_X5_cross_64, rs_X5_cross_65, rs_X5_cross_66, rs_X5_cross_69, rs_X5_cross_71, rs_X5_cross_73, rs_X5_cross_75, rs_X5_cross_78, rs_X5_cross_80, rs_X5_cross_82, rs_X5_cross_85, rs_X5_cross_87, rs_X5_cross_88, rs_X5_cross_90, rs_X5_cross_91, rs_X5_cross_92, rs_X5_cross_93, rs_X5_cross_95, rs_X5_cross_97, rs_X5_cross_100, rs_X5_cross_101, rs_X5_cross_104, rs_X5_cross_105, rs_X5_cross_106, rs_X5_cross_107, rs_X5_cross_110, rs_X5_cross_113, rs_X5_cross_114, rs_X5_cross_117, rs_X5_cross_118, rs_X5_cross_121, rs_X5_cross_122, rs_X5_cross_123, rs_X5_cross_126, rs_X5_cross_128, rs_X5_cross_131, rs_X5_cross_21, rs_X5_cross_133, -List.getElem?_eq_getElem, am_js, am_e, am_in, am_sl, rI, rZ, rV, rJ, rA, rC, kI, kJ, kR, am_one, am_nl, am_w8, tIc, tLc, tNul, tIld, tLld, tAld, tIst, tLst, tAst, tIinc, tI2, tDv, tL2, tLrem, tLs, tLcmp, tI2l, tL2i, tI2c, tDup, tDup2, tPop, tGo, tIfeq, tIfne, tIflt, tIfge, tIfgt, tIfle, tCmeq, tCmne, tCmlt, tCmge, tCmgt, tCmle, tNu, tTs, tGf, tPf, tGs, tIal, tIas, tBal, tBas, tAln, tSv, tSc, tSb, tSl, tSk, tCv, tCs, tCt, tMx, tMn, wr_10000, wr_100000, wr_1000000, wr_10000000, wr_100000000, wr_2400, wr_9999, wr_0, wr_1, wr_2, wr_3, wr_4, wr_5, wr_6, wr_7, wr_8, wr_9, wr_10, wr_11, wr_12, wr_13, wr_14, wr_15, wr_16, wr_17, wr_18, wr_19, wr_20, wr_21, wr_22, wr_23, wr_24, wr_25, wr_26, wr_27, wr_28, wr_29, wr_30, wr_31, wr_32, wr_33, wr_34, wr_35, wr_36, wr_37, wr_38, wr_39, wr_40, wr_41, wr_42, wr_43, wr_44, wr_45, wr_46, wr_47, wr_48, wr_49, wr_50, wr_51, wr_52, wr_53, wr_54, wr_55, wr_56, wr_57, wr_58, wr_59, wr_60, wr_61, wr_62, wr_63, wr_99, wr_100, wr_192, wr_255, wr_256, wr_343, wr_999, wr_1000, wr_2401, wr_2147483647, wr_65535, wr_m1, wr_m2, wr_m3, wr_m4, wr_m9, ak_1000, ak_1001, ak_1002, ak_0, ak_1, ak_2, ak_3, ak_4, ak_5, ak_6, ak_7, ak_8, ak_9, ak_10, ak_11, ak_12, ak_13, ak_14, ak_15, ak_16, ak_17, ak_18, ak_19, ak_20, ak_21, ak_22, ak_23, ak_24, ak_25, ak_26, ak_27, ak_28, ak_29, ak_30, ak_31, ak_32, ak_33, ak_34, ak_35, ak_36, ak_37, ak_38, ak_39, ak_40, ak_41, ak_42, ak_43, ak_44, ak_45, ak_46, ak_47, wr', a1]
    · by_cases a2 : 5 < r
      · (refine am_fnI (tb := tb_X5_cross) (n := 60) (Nat.le_of_ble_eq_true rfl) (Nat.le_of_ble_eq_true rfl) ?_; show rx_X5_cross 60 0 _ _ _ = _)
        simp [↓ri_X5_cross, rs_X5_cross_0, rs_X5_cross_1, rs_X5_cross_2, rs_X5_cross_5, rs_X5_cross_6, rs_X5_cross_7, rs_X5_cross_10, rs_X5_cross_11, rs_X5_cross_14, rs_X5_cross_15, rs_X5_cross_16, rs_X5_cross_19, rs_X5_cross_22, rs_X5_cross_23, rs_X5_cross_24, rs_X5_cross_27, rs_X5_cross_28, rs_X5_cross_29, rs_X5_cross_31, rs_X5_cross_32, rs_X5_cross_35, rs_X5_cross_37, rs_X5_cross_38, rs_X5_cross_41, rs_X5_cross_43, rs_X5_cross_44, rs_X5_cross_46, rs_X5_cross_48, rs_X5_cross_51, rs_X5_cross_52, rs_X5_cross_55, rs_X5_cross_56, rs_X5_cross_59, rs_X5_cross_62, rs_X5_cross_64, rs_X5_cross_65, rs_X5_cross_66, rs_X5_cross_69, rs_X5_cross_71, rs_X5_cross_73, rs_X5_cross_75, rs_X5_cross_78, rs_X5_cross_80, rs_X5_cross_82, rs_X5_cross_85, rs_X5_cross_87, rs_X5_cross_88, rs_X5_cross_90, rs_X5_cross_91, rs_X5_cross_92, rs_X5_cross_93, rs_X5_cross_95, rs_X5_cross_97, rs_X5_cross_100, rs_X5_cross_101, rs_X5_cross_104, rs_X5_cross_105, rs_X5_cross_106, rs_X5_cross_107, rs_X5_cross_110, rs_X5_cross_113, rs_X5_cross_114, rs_X5_cross_117, rs_X5_cross_118, rs_X5_cross_121, rs_X5_cross_122, rs_X5_cross_123, rs_X5_cross_126, rs_X5_cross_128, rs_X5_cross_131, rs_X5_cross_21, rs_X5_cross_133, -List.getElem?_eq_getElem, am_js, am_e, am_in, am_sl, rI, rZ, rV, rJ, rA, rC, kI, kJ, kR, am_one, am_nl, am_w8, tIc, tLc, tNul, tIld, tLld, tAld, tIst, tLst, tAst, tIinc, tI2, tDv, tL2, tLrem, tLs, tLcmp, tI2l, tL2i, tI2c, tDup, tDup2, tPop, tGo, tIfeq, tIfne, tIflt, tIfge, tIfgt, tIfle, tCmeq, tCmne, tCmlt, tCmge, tCmgt, tCmle, tNu, tTs, tGf, tPf, tGs, tIal, tIas, tBal, tBas, tAln, tSv, tSc, tSb, tSl, tSk, tCv, tCs, tCt, tMx, tMn, wr_10000, wr_100000, wr_1000000, wr_10000000, wr_100000000, wr_2400, wr_9999, wr_0, wr_1, wr_2, wr_3, wr_4, wr_5, wr_6, wr_7, wr_8, wr_9, wr_10, wr_11, wr_12, wr_13, wr_14, wr_15, wr_16, wr_17, wr_18, wr_19, wr_20, wr_21, wr_22, wr_23, wr_24, wr_25, wr_26, wr_27, wr_28, wr_29, wr_30, wr_31, wr_32, wr_33, wr_34, wr_35, wr_36, wr_37, wr_38, wr_39, wr_40, wr_41, wr_42, wr_43, wr_44, wr_45, wr_46, wr_47, wr_48, wr_49, wr_50, wr_51, wr_52, wr_53, wr_54, wr_55, wr_56, wr_57, wr_58, wr_59, wr_60, wr_61, wr_62, wr_63, wr_99, wr_100, wr_192, wr_255, wr_256, wr_343, wr_999, wr_1000, wr_2401, wr_2147483647, wr_65535, wr_m1, wr_m2, wr_m3, wr_m4, wr_m9, ak_1000, ak_1001, ak_1002, ak_0, ak_1, ak_2, ak_3, ak_4, ak_5, ak_6, ak_7, ak_8, ak_9, ak_10, ak_11, ak_12, ak_13, ak_14, ak_15, ak_16, ak_17, ak_18, ak_19, ak_20, ak_21, ak_22, ak_23, ak_24, ak_25, ak_26, ak_27, ak_28, ak_29, ak_30, ak_31, ak_32, ak_33, ak_34, ak_35, ak_36, ak_37, ak_38, ak_39, ak_40, ak_41, ak_42, ak_43, ak_44, ak_45, ak_46, ak_47, wr', a1, a2]
      · by_cases a3 : w < 0
        · (refine am_fnI (tb := tb_X5_cross) (n := 60) (Nat.le_of_ble_eq_true rfl) (Nat.le_of_ble_eq_true rfl) ?_; show rx_X5_cross 60 0 _ _ _ = _)
          simp [↓ri_X5_cross, rs_X5_cross_0, rs_X5_cross_1, rs_X5_cross_2, rs_X5_cross_5, rs_X5_cross_6, rs_X5_cross_7, rs_X5_cross_10, rs_X5_cross_11, rs_X5_cross_14, rs_X5_cross_15, rs_X5_cross_16, rs_X5_cross_19, rs_X5_cross_22, rs_X5_cross_23, rs_X5_cross_24, rs_X5_cross_27, rs_X5_cross_28, rs_X5_cross_29, rs_X5_cross_31, rs_X5_cross_32, rs_X5_cross_35, rs_X5_cross_37, rs_X5_cross_38, rs_X5_cross_41, rs_X5_cross_43, rs_X5_cross_44, rs_X5_cross_46, rs_X5_cross_48, rs_X5_cross_51, rs_X5_cross_52, rs_X5_cross_55, rs_X5_cross_56, rs_X5_cross_59, rs_X5_cross_62, rs_X5_cross_64, rs_X5_cross_65, rs_X5_cross_66, rs_X5_cross_69, rs_X5_cross_71, rs_X5_cross_73, rs_X5_cross_75, rs_X5_cross_78, rs_X5_cross_80, rs_X5_cross_82, rs_X5_cross_85, rs_X5_cross_87, rs_X5_cross_88, rs_X5_cross_90, rs_X5_cross_91, rs_X5_cross_92, rs_X5_cross_93, rs_X5_cross_95, rs_X5_cross_97, rs_X5_cross_100, rs_X5_cross_101, rs_X5_cross_104, rs_X5_cross_105, rs_X5_cross_106, rs_X5_cross_107, rs_X5_cross_110, rs_X5_cross_113, rs_X5_cross_114, rs_X5_cross_117, rs_X5_cross_118, rs_X5_cross_121, rs_X5_cross_122, rs_X5_cross_123, rs_X5_cross_126, rs_X5_cross_128, rs_X5_cross_131, rs_X5_cross_21, rs_X5_cross_133, -List.getElem?_eq_getElem, am_js, am_e, am_in, am_sl, rI, rZ, rV, rJ, rA, rC, kI, kJ, kR, am_one, am_nl, am_w8, tIc, tLc, tNul, tIld, tLld, tAld, tIst, tLst, tAst, tIinc, tI2, tDv, tL2, tLrem, tLs, tLcmp, tI2l, tL2i, tI2c, tDup, tDup2, tPop, tGo, tIfeq, tIfne, tIflt, tIfge, tIfgt, tIfle, tCmeq, tCmne, tCmlt, tCmge, tCmgt, tCmle, tNu, tTs, tGf, tPf, tGs, tIal, tIas, tBal, tBas, tAln, tSv, tSc, tSb, tSl, tSk, tCv, tCs, tCt, tMx, tMn, wr_10000, wr_100000, wr_1000000, wr_10000000, wr_100000000, wr_2400, wr_9999, wr_0, wr_1, wr_2, wr_3, wr_4, wr_5, wr_6, wr_7, wr_8, wr_9, wr_10, wr_11, wr_12, wr_13, wr_14, wr_15, wr_16, wr_17, wr_18, wr_19, wr_20, wr_21, wr_22, wr_23, wr_24, wr_25, wr_26, wr_27, wr_28, wr_29, wr_30, wr_31, wr_32, wr_33, wr_34, wr_35, wr_36, wr_37, wr_38, wr_39, wr_40, wr_41, wr_42, wr_43, wr_44, wr_45, wr_46, wr_47, wr_48, wr_49, wr_50, wr_51, wr_52, wr_53, wr_54, wr_55, wr_56, wr_57, wr_58, wr_59, wr_60, wr_61, wr_62, wr_63, wr_99, wr_100, wr_192, wr_255, wr_256, wr_343, wr_999, wr_1000, wr_2401, wr_2147483647, wr_65535, wr_m1, wr_m2, wr_m3, wr_m4, wr_m9, ak_1000, ak_1001, ak_1002, ak_0, ak_1, ak_2, ak_3, ak_4, ak_5, ak_6, ak_7, ak_8, ak_9, ak_10, ak_11, ak_12, ak_13, ak_14, ak_15, ak_16, ak_17, ak_18, ak_19, ak_20, ak_21, ak_22, ak_23, ak_24, ak_25, ak_26, ak_27, ak_28, ak_29, ak_30, ak_31, ak_32, ak_33, ak_34, ak_35, ak_36, ak_37, ak_38, ak_39, ak_40, ak_41, ak_42, ak_43, ak_44, ak_45, ak_46, ak_47, wr', ww, a1, a2, a3]
        · have a4 : ¬ w ≤ 2 := by omega
          (refine am_fnI (tb := tb_X5_cross) (n := 60) (Nat.le_of_ble_eq_true rfl) (Nat.le_of_ble_eq_true rfl) ?_; show rx_X5_cross 60 0 _ _ _ = _)
          simp [↓ri_X5_cross, rs_X5_cross_0, rs_X5_cross_1, rs_X5_cross_2, rs_X5_cross_5, rs_X5_cross_6, rs_X5_cross_7, rs_X5_cross_10, rs_X5_cross_11, rs_X5_cross_14, rs_X5_cross_15, rs_X5_cross_16, rs_X5_cross_19, rs_X5_cross_22, rs_X5_cross_23, rs_X5_cross_24, rs_X5_cross_27, rs_X5_cross_28, rs_X5_cross_29, rs_X5_cross_31, rs_X5_cross_32, rs_X5_cross_35, rs_X5_cross_37, rs_X5_cross_38, rs_X5_cross_41, rs_X5_cross_43, rs_X5_cross_44, rs_X5_cross_46, rs_X5_cross_48, rs_X5_cross_51, rs_X5_cross_52, rs_X5_cross_55, rs_X5_cross_56, rs_X5_cross_59, rs_X5_cross_62, rs_X5_cross_64, rs_X5_cross_65, rs_X5_cross_66, rs_X5_cross_69, rs_X5_cross_71, rs_X5_cross_73, rs_X5_cross_75, rs_X5_cross_78, rs_X5_cross_80, rs_X5_cross_82, rs_X5_cross_85, rs_X5_cross_87, rs_X5_cross_88, rs_X5_cross_90, rs_X5_cross_91, rs_X5_cross_92, rs_X5_cross_93, rs_X5_cross_95, rs_X5_cross_97, rs_X5_cross_100, rs_X5_cross_101, rs_X5_cross_104, rs_X5_cross_105, rs_X5_cross_106, rs_X5_cross_107, rs_X5_cross_110, rs_X5_cross_113, rs_X5_cross_114, rs_X5_cross_117, rs_X5_cross_118, rs_X5_cross_121, rs_X5_cross_122, rs_X5_cross_123, rs_X5_cross_126, rs_X5_cross_128, rs_X5_cross_131, rs_X5_cross_21, rs_X5_cross_133, -List.getElem?_eq_getElem, am_js, am_e, am_in, am_sl, rI, rZ, rV, rJ, rA, rC, kI, kJ, kR, am_one, am_nl, am_w8, tIc, tLc, tNul, tIld, tLld, tAld, tIst, tLst, tAst, tIinc, tI2, tDv, tL2, tLrem, tLs, tLcmp, tI2l, tL2i, tI2c, tDup, tDup2, tPop, tGo, tIfeq, tIfne, tIflt, tIfge, tIfgt, tIfle, tCmeq, tCmne, tCmlt, tCmge, tCmgt, tCmle, tNu, tTs, tGf, tPf, tGs, tIal, tIas, tBal, tBas, tAln, tSv, tSc, tSb, tSl, tSk, tCv, tCs, tCt, tMx, tMn, wr_10000, wr_100000, wr_1000000, wr_10000000, wr_100000000, wr_2400, wr_9999, wr_0, wr_1, wr_2, wr_3, wr_4, wr_5, wr_6, wr_7, wr_8, wr_9, wr_10, wr_11, wr_12, wr_13, wr_14, wr_15, wr_16, wr_17, wr_18, wr_19, wr_20, wr_21, wr_22, wr_23, wr_24, wr_25, wr_26, wr_27, wr_28, wr_29, wr_30, wr_31, wr_32, wr_33, wr_34, wr_35, wr_36, wr_37, wr_38, wr_39, wr_40, wr_41, wr_42, wr_43, wr_44, wr_45, wr_46, wr_47, wr_48, wr_49, wr_50, wr_51, wr_52, wr_53, wr_54, wr_55, wr_56, wr_57, wr_58, wr_59, wr_60, wr_61, wr_62, wr_63, wr_99, wr_100, wr_192, wr_255, wr_256, wr_343, wr_999, wr_1000, wr_2401, wr_2147483647, wr_65535, wr_m1, wr_m2, wr_m3, wr_m4, wr_m9, ak_1000, ak_1001, ak_1002, ak_0, ak_1, ak_2, ak_3, ak_4, ak_5, ak_6, ak_7, ak_8, ak_9, ak_10, ak_11, ak_12, ak_13, ak_14, ak_15, ak_16, ak_17, ak_18, ak_19, ak_20, ak_21, ak_22, ak_23, ak_24, ak_25, ak_26, ak_27, ak_28, ak_29, ak_30, ak_31, ak_32, ak_33, ak_34, ak_35, ak_36, ak_37, ak_38, ak_39, ak_40, ak_41, ak_42, ak_43, ak_44, ak_45, ak_46, ak_47, wr', ww, a1, a2, a3, a4]
end
