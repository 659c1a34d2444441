noncomputable section
theorem HM.p19 {M : List AC} {ld lb lc : List Int} (h : HM M 19 ld lb lc) : M[19]? = some (aO 1 [vR 20, vR 21, vR 22]) ∧ M[20]? = some (aI ld) ∧ M[21]? = some (aI lb) ∧ M[22]? = some (aI lc) := h
theorem HS.of2 {M : List AC} {st : Int} {g s d b : F4} (h0 : M[2]? = some (aO 4 [vI st, vR 3, vR 4, vR 5, vR 6])) (h1 : M[3]? = some (aI (l4 g))) (h2 : M[4]? = some (aI (l4 s))) (h3 : M[5]? = some (aI (l4 d))) (h4 : M[6]? = some (aI (l4 b))) : HS M 2 st g s d b := ⟨by decide, h0, h1, h2, h3, h4⟩
theorem HS.of7 {M : List AC} {st : Int} {g s d b : F4} (h0 : M[7]? = some (aO 4 [vI st, vR 8, vR 9, vR 10, vR 11])) (h1 : M[8]? = some (aI (l4 g))) (h2 : M[9]? = some (aI (l4 s))) (h3 : M[10]? = some (aI (l4 d))) (h4 : M[11]? = some (aI (l4 b))) : HS M 7 st g s d b := ⟨by decide, h0, h1, h2, h3, h4⟩
theorem HS.seven {M : List AC} {st : Int} {g s d b : F4} (h : HS M 7 st g s d b) : M[7]? = some (aO 4 [vI st, vR 8, vR 9, vR 10, vR 11]) ∧ M[8]? = some (aI (l4 g)) ∧ M[9]? = some (aI (l4 s)) ∧ M[10]? = some (aI (l4 d)) ∧ M[11]? = some (aI (l4 b)) := ⟨h.2.1, h.2.2.1, h.2.2.2.1, h.2.2.2.2.1, h.2.2.2.2.2⟩
abbrev mi_X5_keep : Mi := (yX5_keep, cX5_keep, 2, some .int, 3)
theorem mf_X5_keep : am_mf mi_X5_keep 1 := ⟨w_co_X5_keep, w_in_X5, ⟨by decide +kernel, by decide +kernel⟩, by decide +kernel, by decide⟩
def tb_X5_keep : List (Nat × Tr) := [(0, tIld 1 1), (1, tIflt 9), (4, tIld 1 1), (5, tIc 2 1), (6, tCmlt 11), (9, tIc (-1) 1), (11, tAld 0 1), (12, tGf 5 8), (15, tIld 1 1), (16, tAld 0 1), (17, tGf 5 2), (20, tCv 1 2 fn_X1_take), (23, tAld 0 1), (24, tGf 5 9), (27, tIld 1 1), (28, tIc 1 1), (29, tBas), (30, tAld 0 1), (31, tGf 5 2), (34, tCv 4 0 fn_X4_cornersOn)]
theorem ok_X5_keep : Tok mi_X5_keep tb_X5_keep :=
  Tc (sd_iload_n dX5_keep_0) <|
  Tc (sd_if_lt (by decide) dX5_keep_1) <|
  Tc (sd_iload_n dX5_keep_4) <|
  Tc (sd_iconst rfl dX5_keep_5) <|
  Tc (sd_cm_lt (by decide) dX5_keep_6) <|
  Tc (sd_iconst rfl dX5_keep_9) <|
  Tc (sd_aload_n dX5_keep_11) <|
  Tc (sd_getf (T := TX5) rfl giX5 (by decide) w_fl_X5_49 dX5_keep_12) <|
  Tc (sd_iload_n dX5_keep_15) <|
  Tc (sd_aload_n dX5_keep_16) <|
  Tc (sd_getf (T := TX5) rfl giX5 (by decide) w_fl_X5_20 dX5_keep_17) <|
  Tc (sd_cv (T := TX1) fok_X1_take mf_X1_take rfl w_ml_X5_237 w_im_X1_take w_se_X1_take (by decide) dX5_keep_20) <|
  Tc (sd_aload_n dX5_keep_23) <|
  Tc (sd_getf (T := TX5) rfl giX5 (by decide) w_fl_X5_52 dX5_keep_24) <|
  Tc (sd_iload_n dX5_keep_27) <|
  Tc (sd_iconst rfl dX5_keep_28) <|
  Tc (sd_bas dX5_keep_29) <|
  Tc (sd_aload_n dX5_keep_30) <|
  Tc (sd_getf (T := TX5) rfl giX5 (by decide) w_fl_X5_20 dX5_keep_31) <|
  Tc (sd_cv (T := TX4) fok_X4_cornersOn mf_X4_cornersOn rfl w_ml_X5_151 w_im_X4_cornersOn w_se_X4_cornersOn (by decide) dX5_keep_34) <|
  Tn
theorem rk_X5_keep : Rok mi_X5_keep rI [10, 37] := rk_i dX5_keep_10 <| rk_i dX5_keep_37 <| rk_n
def rx_X5_keep : Nat → Nat → AL → List AV → List AC → Option (Option AV × List AC) := am_r tb_X5_keep rI [10, 37]
theorem rs_X5_keep_0 (n : Nat) (L : AL) (st : List AV) (M : List AC) : rx_X5_keep (n + 1) 0 L st M = am_j (rx_X5_keep n) ((tIld 1 1) 0 L st M) := rfl
theorem rs_X5_keep_1 (n : Nat) (L : AL) (st : List AV) (M : List AC) : rx_X5_keep (n + 1) 1 L st M = am_j (rx_X5_keep n) ((tIflt 9) 1 L st M) := rfl
theorem rs_X5_keep_4 (n : Nat) (L : AL) (st : List AV) (M : List AC) : rx_X5_keep (n + 1) 4 L st M = am_j (rx_X5_keep n) ((tIld 1 1) 4 L st M) := rfl
theorem rs_X5_keep_5 (n : Nat) (L : AL) (st : List AV) (M : List AC) : rx_X5_keep (n + 1) 5 L st M = am_j (rx_X5_keep n) ((tIc 2 1) 5 L st M) := rfl
theorem rs_X5_keep_6 (n : Nat) (L : AL) (st : List AV) (M : List AC) : rx_X5_keep (n + 1) 6 L st M = am_j (rx_X5_keep n) ((tCmlt 11) 6 L st M) := rfl
theorem rs_X5_keep_9 (n : Nat) (L : AL) (st : List AV) (M : List AC) : rx_X5_keep (n + 1) 9 L st M = am_j (rx_X5_keep n) ((tIc (-1) 1) 9 L st M) := rfl
theorem rs_X5_keep_11 (n : Nat) (L : AL) (st : List AV) (M : List AC) : rx_X5_keep (n + 1) 11 L st M = am_j (rx_X5_keep n) ((tAld 0 1) 11 L st M) := rfl
theorem rs_X5_keep_12 (n : Nat) (L : AL) (st : List AV) (M : List AC) : rx_X5_keep (n + 1) 12 L st M = am_j (rx_X5_keep n) ((tGf 5 8) 12 L st M) := rfl
theorem rs_X5_keep_15 (n : Nat) (L : AL) (st : List AV) (M : List AC) : rx_X5_keep (n + 1) 15 L st M = am_j (rx_X5_keep n) ((tIld 1 1) 15 L st M) := rfl
theorem rs_X5_keep_16 (n : Nat) (L : AL) (st : List AV) (M : List AC) : rx_X5_keep (n + 1) 16 L st M = am_j (rx_X5_keep n) ((tAld 0 1) 16 L st M) := rfl
theorem rs_X5_keep_17 (n : Nat) (L : AL) (st : List AV) (M : List AC) : rx_X5_keep (n + 1) 17 L st M = am_j (rx_X5_keep n) ((tGf 5 2) 17 L st M) := rfl
theorem rs_X5_keep_20 (n : Nat) (L : AL) (st : List AV) (M : List AC) : rx_X5_keep (n + 1) 20 L st M = am_j (rx_X5_keep n) ((tCv 1 2 fn_X1_take) 20 L st M) := rfl
theorem rs_X5_keep_23 (n : Nat) (L : AL) (st : List AV) (M : List AC) : rx_X5_keep (n + 1) 23 L st M = am_j (rx_X5_keep n) ((tAld 0 1) 23 L st M) := rfl
theorem rs_X5_keep_24 (n : Nat) (L : AL) (st : List AV) (M : List AC) : rx_X5_keep (n + 1) 24 L st M = am_j (rx_X5_keep n) ((tGf 5 9) 24 L st M) := rfl
theorem rs_X5_keep_27 (n : Nat) (L : AL) (st : List AV) (M : List AC) : rx_X5_keep (n + 1) 27 L st M = am_j (rx_X5_keep n) ((tIld 1 1) 27 L st M) := rfl
theorem rs_X5_keep_28 (n : Nat) (L : AL) (st : List AV) (M : List AC) : rx_X5_keep (n + 1) 28 L st M = am_j (rx_X5_keep n) ((tIc 1 1) 28 L st M) := rfl
theorem rs_X5_keep_29 (n : Nat) (L : AL) (st : List AV) (M : List AC) : rx_X5_keep (n + 1) 29 L st M = am_j (rx_X5_keep n) (tBas 29 L st M) := rfl
theorem rs_X5_keep_30 (n : Nat) (L : AL) (st : List AV) (M : List AC) : rx_X5_keep (n + 1) 30 L st M = am_j (rx_X5_keep n) ((tAld 0 1) 30 L st M) := rfl
theorem rs_X5_keep_31 (n : Nat) (L : AL) (st : List AV) (M : List AC) : rx_X5_keep (n + 1) 31 L st M = am_j (rx_X5_keep n) ((tGf 5 2) 31 L st M) := rfl
theorem rs_X5_keep_34 (n : Nat) (L : AL) (st : List AV) (M : List AC) : rx_X5_keep (n + 1) 34 L st M = am_j (rx_X5_keep n) ((tCv 4 0 fn_X4_cornersOn) 34 L st M) := rfl
theorem rs_X5_keep_10 (n : Nat) (L : AL) (st : List AV) (M : List AC) : rx_X5_keep (n + 1) 10 L st M = am_e rI st M := rfl
theorem rs_X5_keep_37 (n : Nat) (L : AL) (st : List AV) (M : List AC) : rx_X5_keep (n + 1) 37 L st M = am_e rI st M := rfl
theorem ri_X5_keep (c : Prop) [Decidable c] (p q n : Nat) (L : AL) (st : List AV) (M : List AC) : rx_X5_keep n (if c then p else q) L st M = if c then rx_X5_keep n p L st M else rx_X5_keep n q L st M := by split <;> rfl
theorem rm_X5_keep {n k pc : Nat} {L : AL} {st : List AV} {M : List AC} {x : Option AV × List AC} (h : rx_X5_keep n pc L st M = some x) (hk : n ≤ k) : rx_X5_keep k pc L st M = some x := am_r_mono n k h hk
def fn_X5_keep : Fn := am_fn rx_X5_keep 2
theorem fok_X5_keep : Fok mi_X5_keep fn_X5_keep := fun _ _ _ _ h => am_fok ok_X5_keep rk_X5_keep rfl h
theorem sp_X5_keep {M : List AC} {len fa ac : Int} {sr : AV} {sd : Int64} (h0 : M[0]? = some (co len fa ac sr sd)) {st : Int} {g s d b : F4} (hs : HS M 2 st g s d b) {x0 x1 y0 y1 z0 z1 f0 f1 : Int} (hm : HM M 19 [x0, x1] [y0, y1] [z0, z1]) (h23 : M[23]? = some (aB [f0, f1])) (hr : i4 0 6 d) (x : Int) (hx : -2147483648 ≤ x ∧ x < 2147483648) : fn_X5_keep [vR 0, vI x] M = if x = 0 then some (some (vI (onc d)), (((M.set 20 (aI [fg d, x1])).set 21 (aI [fg b, y1])).set 22 (aI [fg s, z1])).set 23 (aB [1, f1])) else if x = 1 then some (some (vI (onc d)), (((M.set 20 (aI [x0, fg d])).set 21 (aI [y0, fg b])).set 22 (aI [z0, fg s])).set 23 (aB [f0, 1])) else some (some (vI (-1)), M) := by
  have wx : wr x = x := wr_id (by omega) (by omega)
  obtain ⟨i0, i1, i2, i3, i4⟩ := hs.two
  obtain ⟨m0, m1, m2, m3⟩ := hm.p19
  by_cases e0 : x = 0
  · rw [if_pos e0]
    subst e0
    have q1 := sp_X1_take (Or.inr rfl) hm hs 0 (by simp) rfl rfl (by simp)
    have hs' : HS ((((M.set 20 (aI [fg d, x1])).set 21 (aI [fg b, y1])).set 22 (aI [fg s, z1])).set 23 (aB [1, f1])) 2 st g s d b := HS.of2 (by simp [-List.getElem?_eq_getElem, i0]) (by simp [-List.getElem?_eq_getElem, i1]) (by simp [-List.getElem?_eq_getElem, i2]) (by simp [-List.getElem?_eq_getElem, i3]) (by simp [-List.getElem?_eq_getElem, i4])
    have q2 := sp_X4_cornersOn hs' hr
    simp at q1
    (refine am_fnI (tb := tb_X5_keep) (n := 60) (Nat.le_of_ble_eq_true rfl) (Nat.le_of_ble_eq_true rfl) ?_; show rx_X5_keep 60 0 _ _ _ = _)
    simp [↓ri_X5_keep, rs_X5_keep_0, rs_X5_keep_1, rs_X5_keep_4, rs_X5_keep_5, rs_X5_keep_6, rs_X5_keep_9, rs_X5_keep_11, rs_X5_keep_12, rs_X5_keep_15, rs_X5_keep_16, rs_X5_keep_17, rs_X5_keep_20, rs_X5_keep_23, rs_X5_keep_24, rs_X5_keep_27, rs_X5_keep_28, rs_X5_keep_29, rs_X5_keep_30, rs_X5_keep_31, rs_X5_keep_34, rs_X5_keep_10, rs_X5_keep_37, -List.getElem?_eq_getElem, am_js, am_e, am_in, am_sl, rI, rZ, rV, rJ, rA, rC, kI, kJ, kR, am_one, am_nl, am_w8, tIc, tLc, tNul, tIld, tLld, tAld, tIst, tLst, tAst, tIinc, tI2, tDv, tL2, tLrem, tLs, tLcmp, tI2l, tL2i, tI2c, tDup, tDup2, tPop, tGo, tIfeq, tIfne, tIflt, tIfge, tIfgt, tIfle, tCmeq, tCmne, tCmlt, tCmge, tCmgt, tCmle, tNu, tTs, tGf, tPf, tGs, tIal, tIas, tBal, tBas, tAln, tSv, tSc, tSb, tSl, tSk, tCv, tCs, tCt, tMx, tMn, wr_10000, wr_100000, wr_1000000, wr_10000000, wr_100000000, wr_2400, wr_9999, wr_0, wr_1, wr_2, wr_3, wr_4, wr_5, wr_6, wr_7, wr_8, wr_9, wr_10, wr_11, wr_12, wr_13, wr_14, wr_15, wr_16, wr_17, wr_18, wr_19, wr_20, wr_21, wr_22, wr_23, wr_24, wr_25, wr_26, wr_27, wr_28, wr_29, wr_30, wr_31, wr_32, wr_33, wr_34, wr_35, wr_36, wr_37, wr_38, wr_39, wr_40, wr_41, wr_42, wr_43, wr_44, wr_45, wr_46, wr_47, wr_48, wr_49, wr_50, wr_51, wr_52, wr_53, wr_54, wr_55, wr_56, wr_57, wr_58, wr_59, wr_60, wr_61, wr_62, wr_63, wr_99, wr_100, wr_192, wr_255, wr_256, wr_343, wr_999, wr_1000, wr_2401, wr_2147483647, wr_65535, wr_m1, wr_m2, wr_m3, wr_m4, wr_m9, ak_1000, ak_1001, ak_1002, ak_0, ak_1, ak_2, ak_3, ak_4, ak_5, ak_6, ak_7, ak_8, ak_9, ak_10, ak_11, ak_12, ak_13, ak_14, ak_15, ak_16, ak_17, ak_18, ak_19, ak_20, ak_21, ak_22, ak_23, ak_24, ak_25, ak_26, ak_27, ak_28, ak_29, ak_30, ak_31, ak_32, ak_33, ak_34, ak_35, ak_36, ak_37, ak_38, ak_39, ak_40, ak_41, ak_42, ak_43, ak_44, ak_45, ak_46, ak_47, h0, co, i0, m0, h23, q1, q2, ss (i := 20) (j := 21) (by decide), ss (i := 20) (j := 22) (by decide), ss (i := 20) (j := 23) (by decide), ss (i := 21) (j := 22) (by decide), ss (i := 21) (j := 23) (by decide), ss (i := 22) (j := 23) (by decide)]
  · rw [if_neg e0]
    by_cases e1 : x = 1
    · rw [if_pos e1]
      subst e1
      have q1 := sp_X1_take (Or.inr rfl) hm hs 1 (by simp) rfl rfl (by simp)
      have hs' : HS ((((M.set 20 (aI [x0, fg d])).set 21 (aI [y0, fg b])).set 22 (aI [z0, fg s])).set 23 (aB [f0, 1])) 2 st g s d b := HS.of2 (by simp [-List.getElem?_eq_getElem, i0]) (by simp [-List.getElem?_eq_getElem, i1]) (by simp [-List.getElem?_eq_getElem, i2]) (by simp [-List.getElem?_eq_getElem, i3]) (by simp [-List.getElem?_eq_getElem, i4])
      have q2 := sp_X4_cornersOn hs' hr
      simp at q1
      (refine am_fnI (tb := tb_X5_keep) (n := 60) (Nat.le_of_ble_eq_true rfl) (Nat.le_of_ble_eq_true rfl) ?_; show rx_X5_keep 60 0 _ _ _ = _)
      simp [↓ri_X5_keep, rs_X5_keep_0, rs_X5_keep_1, rs_X5_keep_4, rs_X5_keep_5, rs_X5_keep_6, rs_X5_keep_9, rs_X5_keep_11, rs_X5_keep_12, rs_X5_keep_15, rs_X5_keep_16, rs_X5_keep_17, rs_X5_keep_20, rs_X5_keep_23, rs_X5_keep_24, rs_X5_keep_27, rs_X5_keep_28, rs_X5_keep_29, rs_X5_keep_30, rs_X5_keep_31, rs_X5_keep_34, rs_X5_keep_10, rs_X5_keep_37, -List.getElem?_eq_getElem, am_js, am_e, am_in, am_sl, rI, rZ, rV, rJ, rA, rC, kI, kJ, kR, am_one, am_nl, am_w8, tIc, tLc, tNul, tIld, tLld, tAld, tIst, tLst, tAst, tIinc, tI2, tDv, tL2, tLrem, tLs, tLcmp, tI2l, tL2i, tI2c, tDup, tDup2, tPop, tGo, tIfeq, tIfne, tIflt, tIfge, tIfgt, tIfle, tCmeq, tCmne, tCmlt, tCmge, tCmgt, tCmle, tNu, tTs, tGf, tPf, tGs, tIal, tIas, tBal, tBas, tAln, tSv, tSc, tSb, tSl, tSk, tCv, tCs, tCt, tMx, tMn, wr_10000, wr_100000, wr_1000000, wr_10000000, wr_100000000, wr_2400, wr_9999, wr_0, wr_1, wr_2, wr_3, wr_4, wr_5, wr_6, wr_7, wr_8, wr_9, wr_10, wr_11, wr_12, wr_13, wr_14, wr_15, wr_16, wr_17, wr_18, wr_19, wr_20, wr_21, wr_22, wr_23, wr_24, wr_25, wr_26, wr_27, wr_28, wr_29, wr_30, wr_31, wr_32, wr_33, wr_34, wr_35, wr_36, wr_37, wr_38, wr_39, wr_40, wr_41, wr_42, wr_43, wr_44, wr_45, wr_46, wr_47, wr_48, wr_49, wr_50, wr_51, wr_52, wr_53, wr_54, wr_55, wr_56, wr_57, wr_58, wr_59, wr_60, wr_61, wr_62, wr_63, wr_99, wr_100, wr_192, wr_255, wr_256, wr_343, wr_999, wr_1000, wr_2401, wr_2147483647, wr_65535, wr_m1, wr_m2, wr_m3, wr_m4, wr_m9, ak_1000, ak_1001, ak_1002, ak_0, ak_1, ak_2, ak_3, ak_4, ak_5, ak_6, ak_7, ak_8, ak_9, ak_10, ak_11, ak_12, ak_13, ak_14, ak_15, ak_16, ak_17, ak_18, ak_19, ak_20, ak_21, ak_22, ak_23, ak_24, ak_25, ak_26, ak_27, ak_28, ak_29, ak_30, ak_31, ak_32, ak_33, ak_34, ak_35, ak_36, ak_37, ak_38, ak_39, ak_40, ak_41, ak_42, ak_43, ak_44, ak_45, ak_46, ak_47, h0, co, i0, m0, h23, q1, q2, ss (i := 20) (j := 21) (by decide), ss (i := 20) (j := 22) (by decide), ss (i := 20) (j := 23) (by decide), ss (i := 21) (j := 22) (by decide), ss (i := 21) (j := 23) (by decide), ss (i := 22) (j := 23) (by decide)]
    · rw [if_neg e1]
      by_cases a1 : x < 0
      · (refine am_fnI (tb := tb_X5_keep) (n := 60) (Nat.le_of_ble_eq_true rfl) (Nat.le_of_ble_eq_true rfl) ?_; show rx_X5_keep 60 0 _ _ _ = _)
        simp [↓ri_X5_keep, rs_X5_keep_0, rs_X5_keep_1, rs_X5_keep_4, rs_X5_keep_5, rs_X5_keep_6, rs_X5_keep_9, rs_X5_keep_11, rs_X5_keep_12, rs_X5_keep_15, rs_X5_keep_16, rs_X5_keep_17, rs_X5_keep_20, rs_X5_keep_23, rs_X5_keep_24, rs_X5_keep_27, rs_X5_keep_28, rs_X5_keep_29, rs_X5_keep_30, rs_X5_keep_31, rs_X5_keep_34, rs_X5_keep_10, rs_X5_keep_37, -List.getElem?_eq_getElem, am_js, am_e, am_in, am_sl, rI, rZ, rV, rJ, rA, rC, kI, kJ, kR, am_one, am_nl, am_w8, tIc, tLc, tNul, tIld, tLld, tAld, tIst, tLst, tAst, tIinc, tI2, tDv, tL2, tLrem, tLs, tLcmp, tI2l, tL2i, tI2c, tDup, tDup2, tPop, tGo, tIfeq, tIfne, tIflt, tIfge, tIfgt, tIfle, tCmeq, tCmne, tCmlt, tCmge, tCmgt, tCmle, tNu, tTs, tGf, tPf, tGs, tIal, tIas, tBal, tBas, tAln, tSv, tSc, tSb, tSl, tSk, tCv, tCs, tCt, tMx, tMn, wr_10000, wr_100000, wr_1000000, wr_10000000, wr_100000000, wr_2400, wr_9999, wr_0, wr_1, wr_2, wr_3, wr_4, wr_5, wr_6, wr_7, wr_8, wr_9, wr_10, wr_11, wr_12, wr_13, wr_14, wr_15, wr_16, wr_17, wr_18, wr_19, wr_20, wr_21, wr_22, wr_23, wr_24, wr_25, wr_26, wr_27, wr_28, wr_29, wr_30, wr_31, wr_32, wr_33, wr_34, wr_35, wr_36, wr_37, wr_38, wr_39, wr_40, wr_41, wr_42, wr_43, wr_44, wr_45, wr_46, wr_47, wr_48, wr_49, wr_50, wr_51, wr_52, wr_53, wr_54, wr_55, wr_56, wr_57, wr_58, wr_59, wr_60, wr_61, wr_62, wr_63, wr_99, wr_100, wr_192, wr_255, wr_256, wr_343, wr_999, wr_1000, wr_2401, wr_2147483647, wr_65535, wr_m1, wr_m2, wr_m3, wr_m4, wr_m9, ak_1000, ak_1001, ak_1002, ak_0, ak_1, ak_2, ak_3, ak_4, ak_5, ak_6, ak_7, ak_8, ak_9, ak_10, ak_11, ak_12, ak_13, ak_14, ak_15, ak_16, ak_17, ak_18, ak_19, ak_20, ak_21, ak_22, ak_23, ak_24, ak_25, ak_26, ak_27, ak_28, ak_29, ak_30, ak_31, ak_32, ak_33, ak_34, ak_35, ak_36, ak_37, ak_38, ak_39, ak_40, ak_41, ak_42, ak_43, ak_44, ak_45, ak_46, ak_47, wx, a1]
      · have a2 : ¬ x < 2 := by omega
        (refine am_fnI (tb := tb_X5_keep) (n := 60) (Nat.le_of_ble_eq_true rfl) (Nat.le_of_ble_eq_true rfl) ?_; show rx_X5_keep 60 0 _ _ _ = _)
        simp [↓ri_X5_keep, rs_X5_keep_0, rs_X5_keep_1, rs_X5_keep_4, rs_X5_keep_5, rs_X5_keep_6, rs_X5_keep_9, rs_X5_keep_11, rs_X5_keep_12, rs_X5_keep_15, rs_X5_keep_16, rs_X5_keep_17, rs_X5_keep_20, rs_X5_keep_23, rs_X5_keep_24, rs_X5_keep_27, rs_X5_keep_28, rs_X5_keep_29, rs_X5_keep_30, rs_X5_keep_31, rs_X5_keep_34, rs_X5_keep_10, rs_X5_keep_37, -List.getElem?_eq_getElem, am_js, am_e, am_in, am_sl, rI, rZ, rV, rJ, rA, rC, kI, kJ, kR, am_one, am_nl, am_w8, tIc, tLc, tNul, tIld, tLld, tAld, tIst, tLst, tAst, tIinc, tI2, tDv, tL2, tLrem, tLs, tLcmp, tI2l, tL2i, tI2c, tDup, tDup2, tPop, tGo, tIfeq, tIfne, tIflt, tIfge, tIfgt, tIfle, tCmeq, tCmne, tCmlt, tCmge, tCmgt, tCmle, tNu, tTs, tGf, tPf, tGs, tIal, tIas, tBal, tBas, tAln, tSv, tSc, tSb, tSl, tSk, tCv, tCs, tCt, tMx, tMn, wr_10000, wr_100000, wr_1000000, wr_10000000, wr_100000000, wr_2400, wr_9999, wr_0, wr_1, wr_2, wr_3, wr_4, wr_5, wr_6, wr_7, wr_8, wr_9, wr_10, wr_11, wr_12, wr_13, wr_14, wr_15, wr_16, wr_17, wr_18, wr_19, wr_20, wr_21, wr_22, wr_23, wr_24, wr_25, wr_26, wr_27, wr_28, wr_29, wr_30, wr_31, wr_32, wr_33, wr_34, wr_35, wr_36, wr_37, wr_38, wr_39, wr_40, wr_41, wr_42, wr_43, wr_44, wr_45, wr_46, wr_47, wr_48, wr_49, wr_50, wr_51, wr_52, wr_53, wr_54, wr_55, wr_56, wr_57, wr_58, wr_59, wr_60, wr_61, wr_62, wr_63, wr_99, wr_100, wr_192, wr_255, wr_256, wr_343, wr_999, wr_1000, wr_2401, wr_2147483647, wr_65535, wr_m1, wr_m2, wr_m3, wr_m4, wr_m9, ak_1000, ak_1001, ak_1002, ak_0, ak_1, ak_2, ak_3, ak_4, ak_5, ak_6, ak_7, ak_8, ak_9, ak_10, ak_11, ak_12, ak_13, ak_14, ak_15, ak_16, ak_17, ak_18, ak_19, ak_20, ak_21, ak_22, ak_23, ak_24, ak_25, ak_26, ak_27, ak_28, ak_29, ak_30, ak_31, ak_32, ak_33, ak_34, ak_35, ak_36, ak_37, ak_38, ak_39, ak_40, ak_41, ak_42, ak_43, ak_44, ak_45, ak_46, ak_47, wx, a1, a2]
abbrev mi_X5_again : Mi := (yX5_again, cX5_again, 2, some .int, 4)
theorem mf_X5_again : am_mf mi_X5_again 1 := ⟨w_co_X5_again, w_in_X5, ⟨by decide +kernel, by decide +kernel⟩, by decide +kernel, by decide⟩
def tb_X5_again : List (Nat × Tr) := [(0, tIld 1 1), (1, tIflt 9), (4, tIld 1 1), (5, tIc 2 1), (6, tCmlt 11), (9, tIc (-1) 1), (11, tAld 0 1), (12, tGf 5 9), (15, tIld 1 1), (16, tBal), (17, tIfne 23), (20, tIc (-3) 2), (23, tAld 0 1), (24, tGf 5 8), (27, tIld 1 1), (28, tAld 0 1), (29, tGf 5 2), (32, tCv 1 2 fn_X1_give), (35, tAld 0 1), (36, tIc 0 1), (37, tPf kI 5 7), (40, tAld 0 1), (41, tGf 5 2), (44, tCv 4 0 fn_X4_cornersOn)]
theorem ok_X5_again : Tok mi_X5_again tb_X5_again :=
  Tc (sd_iload_n dX5_again_0) <|
  Tc (sd_if_lt (by decide) dX5_again_1) <|
  Tc (sd_iload_n dX5_again_4) <|
  Tc (sd_iconst rfl dX5_again_5) <|
  Tc (sd_cm_lt (by decide) dX5_again_6) <|
  Tc (sd_iconst rfl dX5_again_9) <|
  Tc (sd_aload_n dX5_again_11) <|
  Tc (sd_getf (T := TX5) rfl giX5 (by decide) w_fl_X5_52 dX5_again_12) <|
  Tc (sd_iload_n dX5_again_15) <|
  Tc (sd_bal dX5_again_16) <|
  Tc (sd_if_ne (by decide) dX5_again_17) <|
  Tc (sd_bipush (by decide +kernel) dX5_again_20) <|
  Tc (sd_aload_n dX5_again_23) <|
  Tc (sd_getf (T := TX5) rfl giX5 (by decide) w_fl_X5_49 dX5_again_24) <|
  Tc (sd_iload_n dX5_again_27) <|
  Tc (sd_aload_n dX5_again_28) <|
  Tc (sd_getf (T := TX5) rfl giX5 (by decide) w_fl_X5_20 dX5_again_29) <|
  Tc (sd_cv (T := TX1) fok_X1_give mf_X1_give rfl w_ml_X5_154 w_im_X1_give w_se_X1_give (by decide) dX5_again_32) <|
  Tc (sd_aload_n dX5_again_35) <|
  Tc (sd_iconst rfl dX5_again_36) <|
  Tc (sd_putf (T := TX5) rfl giX5 (by decide) w_fl_X5_46 tyX5 tyX5_ok nmX5 (kI_ok) rfl dX5_again_37) <|
  Tc (sd_aload_n dX5_again_40) <|
  Tc (sd_getf (T := TX5) rfl giX5 (by decide) w_fl_X5_20 dX5_again_41) <|
  Tc (sd_cv (T := TX4) fok_X4_cornersOn mf_X4_cornersOn rfl w_ml_X5_151 w_im_X4_cornersOn w_se_X4_cornersOn (by decide) dX5_again_44) <|
  Tn
theorem rk_X5_again : Rok mi_X5_again rI [10, 22, 47] := rk_i dX5_again_10 <| rk_i dX5_again_22 <| rk_i dX5_again_47 <| rk_n
def rx_X5_again : Nat → Nat → AL → List AV → List AC → Option (Option AV × List AC) := am_r tb_X5_again rI [10, 22, 47]
theorem rs_X5_again_0 (n : Nat) (L : AL) (st : List AV) (M : List AC) : rx_X5_again (n + 1) 0 L st M = am_j (rx_X5_again n) ((tIld 1 1) 0 L st M) := rfl
theorem rs_X5_again_1 (n : Nat) (L : AL) (st : List AV) (M : List AC) : rx_X5_again (n + 1) 1 L st M = am_j (rx_X5_again n) ((tIflt 9) 1 L st M) := rfl
theorem rs_X5_again_4 (n : Nat) (L : AL) (st : List AV) (M : List AC) : rx_X5_again (n + 1) 4 L st M = am_j (rx_X5_again n) ((tIld 1 1) 4 L st M) := rfl
theorem rs_X5_again_5 (n : Nat) (L : AL) (st : List AV) (M : List AC) : rx_X5_again (n + 1) 5 L st M = am_j (rx_X5_again n) ((tIc 2 1) 5 L st M) := rfl
theorem rs_X5_again_6 (n : Nat) (L : AL) (st : List AV) (M : List AC) : rx_X5_again (n + 1) 6 L st M = am_j (rx_X5_again n) ((tCmlt 11) 6 L st M) := rfl
theorem rs_X5_again_9 (n : Nat) (L : AL) (st : List AV) (M : List AC) : rx_X5_again (n + 1) 9 L st M = am_j (rx_X5_again n) ((tIc (-1) 1) 9 L st M) := rfl
theorem rs_X5_again_11 (n : Nat) (L : AL) (st : List AV) (M : List AC) : rx_X5_again (n + 1) 11 L st M = am_j (rx_X5_again n) ((tAld 0 1) 11 L st M) := rfl
theorem rs_X5_again_12 (n : Nat) (L : AL) (st : List AV) (M : List AC) : rx_X5_again (n + 1) 12 L st M = am_j (rx_X5_again n) ((tGf 5 9) 12 L st M) := rfl
theorem rs_X5_again_15 (n : Nat) (L : AL) (st : List AV) (M : List AC) : rx_X5_again (n + 1) 15 L st M = am_j (rx_X5_again n) ((tIld 1 1) 15 L st M) := rfl
theorem rs_X5_again_16 (n : Nat) (L : AL) (st : List AV) (M : List AC) : rx_X5_again (n + 1) 16 L st M = am_j (rx_X5_again n) (tBal 16 L st M) := rfl
theorem rs_X5_again_17 (n : Nat) (L : AL) (st : List AV) (M : List AC) : rx_X5_again (n + 1) 17 L st M = am_j (rx_X5_again n) ((tIfne 23) 17 L st M) := rfl
theorem rs_X5_again_20 (n : Nat) (L : AL) (st : List AV) (M : List AC) : rx_X5_again (n + 1) 20 L st M = am_j (rx_X5_again n) ((tIc (-3) 2) 20 L st M) := rfl
theorem rs_X5_again_23 (n : Nat) (L : AL) (st : List AV) (M : List AC) : rx_X5_again (n + 1) 23 L st M = am_j (rx_X5_again n) ((tAld 0 1) 23 L st M) := rfl
theorem rs_X5_again_24 (n : Nat) (L : AL) (st : List AV) (M : List AC) : rx_X5_again (n + 1) 24 L st M = am_j (rx_X5_again n) ((tGf 5 8) 24 L st M) := rfl
theorem rs_X5_again_27 (n : Nat) (L : AL) (st : List AV) (M : List AC) : rx_X5_again (n + 1) 27 L st M = am_j (rx_X5_again n) ((tIld 1 1) 27 L st M) := rfl
theorem rs_X5_again_28 (n : Nat) (L : AL) (st : List AV) (M : List AC) : rx_X5_again (n + 1) 28 L st M = am_j (rx_X5_again n) ((tAld 0 1) 28 L st M) := rfl
theorem rs_X5_again_29 (n : Nat) (L : AL) (st : List AV) (M : List AC) : rx_X5_again (n + 1) 29 L st M = am_j (rx_X5_again n) ((tGf 5 2) 29 L st M) := rfl
theorem rs_X5_again_32 (n : Nat) (L : AL) (st : List AV) (M : List AC) : rx_X5_again (n + 1) 32 L st M = am_j (rx_X5_again n) ((tCv 1 2 fn_X1_give) 32 L st M) := rfl
theorem rs_X5_again_35 (n : Nat) (L : AL) (st : List AV) (M : List AC) : rx_X5_again (n + 1) 35 L st M = am_j (rx_X5_again n) ((tAld 0 1) 35 L st M) := rfl
theorem rs_X5_again_36 (n : Nat) (L : AL) (st : List AV) (M : List AC) : rx_X5_again (n + 1) 36 L st M = am_j (rx_X5_again n) ((tIc 0 1) 36 L st M) := rfl
theorem rs_X5_again_37 (n : Nat) (L : AL) (st : List AV) (M : List AC) : rx_X5_again (n + 1) 37 L st M = am_j (rx_X5_again n) ((tPf kI 5 7) 37 L st M) := rfl
theorem rs_X5_again_40 (n : Nat) (L : AL) (st : List AV) (M : List AC) : rx_X5_again (n + 1) 40 L st M = am_j (rx_X5_again n) ((tAld 0 1) 40 L st M) := rfl
theorem rs_X5_again_41 (n : Nat) (L : AL) (st : List AV) (M : List AC) : rx_X5_again (n + 1) 41 L st M = am_j (rx_X5_again n) ((tGf 5 2) 41 L st M) := rfl
theorem rs_X5_again_44 (n : Nat) (L : AL) (st : List AV) (M : List AC) : rx_X5_again (n + 1) 44 L st M = am_j (rx_X5_again n) ((tCv 4 0 fn_X4_cornersOn) 44 L st M) := rfl
theorem rs_X5_again_10 (n : Nat) (L : AL) (st : List AV) (M : List AC) : rx_X5_again (n + 1) 10 L st M = am_e rI st M := rfl
theorem rs_X5_again_22 (n : Nat) (L : AL) (st : List AV) (M : List AC) : rx_X5_again (n + 1) 22 L st M = am_e rI st M := rfl
theorem rs_X5_again_47 (n : Nat) (L : AL) (st : List AV) (M : List AC) : rx_X5_again (n + 1) 47 L st M = am_e rI st M := rfl
theorem ri_X5_again (c : Prop) [Decidable c] (p q n : Nat) (L : AL) (st : List AV) (M : List AC) : rx_X5_again n (if c then p else q) L st M = if c then rx_X5_again n p L st M else rx_X5_again n q L st M := by split <;> rfl
theorem rm_X5_again {n k pc : Nat} {L : AL} {st : List AV} {M : List AC} {x : Option AV × List AC} (h : rx_X5_again n pc L st M = some x) (hk : n ≤ k) : rx_X5_again k pc L st M = some x := am_r_mono n k h hk
def fn_X5_again : Fn := am_fn rx_X5_again 2
theorem fok_X5_again : Fok mi_X5_again fn_X5_again := fun _ _ _ _ h => am_fok ok_X5_again rk_X5_again rfl h
theorem sp_X5_again {M : List AC} {len fa ac : Int} {sr : AV} {sd : Int64} (h0 : M[0]? = some (co len fa ac sr sd)) {st : Int} {g s d b : F4} (hs : HS M 2 st g s d b) {x0 x1 y0 y1 z0 z1 f0 f1 : Int} (hm : HM M 19 [x0, x1] [y0, y1] [z0, z1]) (h23 : M[23]? = some (aB [f0, f1])) (hf0 : f0 = 0 ∨ f0 = 1) (hf1 : f1 = 0 ∨ f1 = 1) (hr0 : f0 = 1 → (0 ≤ x0 ∧ x0 < 10000) ∧ (0 ≤ y0 ∧ y0 < 10000) ∧ (0 ≤ z0 ∧ z0 < 10000) ∧ i4 0 6 (uf x0)) (hr1 : f1 = 1 → (0 ≤ x1 ∧ x1 < 10000) ∧ (0 ≤ y1 ∧ y1 < 10000) ∧ (0 ≤ z1 ∧ z1 < 10000) ∧ i4 0 6 (uf x1)) (x : Int) (hx : -2147483648 ≤ x ∧ x < 2147483648) : fn_X5_again [vR 0, vI x] M = if x = 0 then (if f0 = 0 then some (some (vI (-3)), M) else some (some (vI (onc (uf x0))), (((M.set 0 (co len fa 0 sr sd)).set 4 (aI (l4 (uf z0)))).set 5 (aI (l4 (uf x0)))).set 6 (aI (l4 (uf y0))))) else if x = 1 then (if f1 = 0 then some (some (vI (-3)), M) else some (some (vI (onc (uf x1))), (((M.set 0 (co len fa 0 sr sd)).set 4 (aI (l4 (uf z1)))).set 5 (aI (l4 (uf x1)))).set 6 (aI (l4 (uf y1))))) else some (some (vI (-1)), M) := by
  have wx : wr x = x := wr_id (by omega) (by omega)
  obtain ⟨i0, i1, i2, i3, i4⟩ := hs.two
  obtain ⟨m0, m1, m2, m3⟩ := hm.p19
  by_cases e0 : x = 0
  · rw [if_pos e0]
    subst e0
    rcases hf0 with rfl | rfl
    · rw [if_pos rfl]
      (refine am_fnI (tb := tb_X5_again) (n := 60) (Nat.le_of_ble_eq_true rfl) (Nat.le_of_ble_eq_true rfl) ?_; show rx_X5_again 60 0 _ _ _ = _)
      simp [↓ri_X5_again, rs_X5_again_0, rs_X5_again_1, rs_X5_again_4, rs_X5_again_5, rs_X5_again_6, rs_X5_again_9, rs_X5_again_11, rs_X5_again_12, rs_X5_again_15, rs_X5_again_16, rs_X5_again_17, rs_X5_again_20, rs_X5_again_23, rs_X5_again_24, rs_X5_again_27, rs_X5_again_28, rs_X5_again_29, rs_X5_again_32, rs_X5_again_35, rs_X5_again_36, rs_X5_again_37, rs_X5_again_40, rs_X5_again_41, rs_X5_again_44, rs_X5_again_10, rs_X5_again_22, rs_X5_again_47, -List.getElem?_eq_getElem, am_js, am_e, am_in, am_sl, rI, rZ, rV, rJ, rA, rC, kI, kJ, kR, am_one, am_nl, am_w8, tIc, tLc, tNul, tIld, tLld, tAld, tIst, tLst, tAst, tIinc, tI2, tDv, tL2, tLrem, tLs, tLcmp, tI2l, tL2i, tI2c, tDup, tDup2, tPop, tGo, tIfeq, tIfne, tIflt, tIfge, tIfgt, tIfle, tCmeq, tCmne, tCmlt, tCmge, tCmgt, tCmle, tNu, tTs, tGf, tPf, tGs, tIal, tIas, tBal, tBas, tAln, tSv, tSc, tSb, tSl, tSk, tCv, tCs, tCt, tMx, tMn, wr_10000, wr_100000, wr_1000000, wr_10000000, wr_100000000, wr_2400, wr_9999, wr_0, wr_1, wr_2, wr_3, wr_4, wr_5, wr_6, wr_7, wr_8, wr_9, wr_10, wr_11, wr_12, wr_13, wr_14, wr_15, wr_16, wr_17, wr_18, wr_19, wr_20, wr_21, wr_22, wr_23, wr_24, wr_25, wr_26, wr_27, wr_28, wr_29, wr_30, wr_31, wr_32, wr_33, wr_34, wr_35, wr_36, wr_37, wr_38, wr_39, wr_40, wr_41, wr_42, wr_43, wr_44, wr_45, wr_46, wr_47, wr_48, wr_49, wr_50, wr_51, wr_52, wr_53, wr_54, wr_55, wr_56, wr_57, wr_58, wr_59, wr_60, wr_61, wr_62, wr_63, wr_99, wr_100, wr_192, wr_255, wr_256, wr_343, wr_999, wr_1000, wr_2401, wr_2147483647, wr_65535, wr_m1, wr_m2, wr_m3, wr_m4, wr_m9, ak_1000, ak_1001, ak_1002, ak_0, ak_1, ak_2, ak_3, ak_4, ak_5, ak_6, ak_7, ak_8, ak_9, ak_10, ak_11, ak_12, ak_13, ak_14, ak_15, ak_16, ak_17, ak_18, ak_19, ak_20, ak_21, ak_22, ak_23, ak_24, ak_25, ak_26, ak_27, ak_28, ak_29, ak_30, ak_31, ak_32, ak_33, ak_34, ak_35, ak_36, ak_37, ak_38, ak_39, ak_40, ak_41, ak_42, ak_43, ak_44, ak_45, ak_46, ak_47, h0, co, h23]
    · rw [if_neg (by decide)]
      obtain ⟨r1, r2, r3, r4⟩ := hr0 rfl
      have q1 := sp_X1_give (Or.inr rfl) hm hs 0 (by simp) rfl rfl (by simp) x0 y0 z0 rfl rfl rfl r1 r2 r3
      have hs' : HS ((((M.set 0 (co len fa 0 sr sd)).set 4 (aI (l4 (uf z0)))).set 5 (aI (l4 (uf x0)))).set 6 (aI (l4 (uf y0)))) 2 st g (uf z0) (uf x0) (uf y0) := HS.of2 (by simp [-List.getElem?_eq_getElem, i0]) (by simp [-List.getElem?_eq_getElem, i1]) (by simp [-List.getElem?_eq_getElem, gs i2]) (by simp [-List.getElem?_eq_getElem, gs i3]) (by simp [-List.getElem?_eq_getElem, gs i4])
      have q2 := sp_X4_cornersOn hs' r4
      clear hs' hr0 hr1
      simp only [co] at q2 ⊢
      (refine am_fnI (tb := tb_X5_again) (n := 60) (Nat.le_of_ble_eq_true rfl) (Nat.le_of_ble_eq_true rfl) ?_; show rx_X5_again 60 0 _ _ _ = _)
      simp [↓ri_X5_again, rs_X5_again_0, rs_X5_again_1, rs_X5_again_4, rs_X5_again_5, rs_X5_again_6, rs_X5_again_9, rs_X5_again_11, rs_X5_again_12, rs_X5_again_15, rs_X5_again_16, rs_X5_again_17, rs_X5_again_20, rs_X5_again_23, rs_X5_again_24, rs_X5_again_27, rs_X5_again_28, rs_X5_again_29, rs_X5_again_32, rs_X5_again_35, rs_X5_again_36, rs_X5_again_37, rs_X5_again_40, rs_X5_again_41, rs_X5_again_44, rs_X5_again_10, rs_X5_again_22, rs_X5_again_47, -List.getElem?_eq_getElem, am_js, am_e, am_in, am_sl, rI, rZ, rV, rJ, rA, rC, kI, kJ, kR, am_one, am_nl, am_w8, tIc, tLc, tNul, tIld, tLld, tAld, tIst, tLst, tAst, tIinc, tI2, tDv, tL2, tLrem, tLs, tLcmp, tI2l, tL2i, tI2c, tDup, tDup2, tPop, tGo, tIfeq, tIfne, tIflt, tIfge, tIfgt, tIfle, tCmeq, tCmne, tCmlt, tCmge, tCmgt, tCmle, tNu, tTs, tGf, tPf, tGs, tIal, tIas, tBal, tBas, tAln, tSv, tSc, tSb, tSl, tSk, tCv, tCs, tCt, tMx, tMn, wr_10000, wr_100000, wr_1000000, wr_10000000, wr_100000000, wr_2400, wr_9999, wr_0, wr_1, wr_2, wr_3, wr_4, wr_5, wr_6, wr_7, wr_8, wr_9, wr_10, wr_11, wr_12, wr_13, wr_14, wr_15, wr_16, wr_17, wr_18, wr_19, wr_20, wr_21, wr_22, wr_23, wr_24, wr_25, wr_26, wr_27, wr_28, wr_29, wr_30, wr_31, wr_32, wr_33, wr_34, wr_35, wr_36, wr_37, wr_38, wr_39, wr_40, wr_41, wr_42, wr_43, wr_44, wr_45, wr_46, wr_47, wr_48, wr_49, wr_50, wr_51, wr_52, wr_53, wr_54, wr_55, wr_56, wr_57, wr_58, wr_59, wr_60, wr_61, wr_62, wr_63, wr_99, wr_100, wr_192, wr_255, wr_256, wr_343, wr_999, wr_1000, wr_2401, wr_2147483647, wr_65535, wr_m1, wr_m2, wr_m3, wr_m4, wr_m9, ak_1000, ak_1001, ak_1002, ak_0, ak_1, ak_2, ak_3, ak_4, ak_5, ak_6, ak_7, ak_8, ak_9, ak_10, ak_11, ak_12, ak_13, ak_14, ak_15, ak_16, ak_17, ak_18, ak_19, ak_20, ak_21, ak_22, ak_23, ak_24, ak_25, ak_26, ak_27, ak_28, ak_29, ak_30, ak_31, ak_32, ak_33, ak_34, ak_35, ak_36, ak_37, ak_38, ak_39, ak_40, ak_41, ak_42, ak_43, ak_44, ak_45, ak_46, ak_47, h0, co, i0, m0, h23, q1, q2, gs h0, ss (i := 0) (j := 4) (by decide), ss (i := 0) (j := 5) (by decide), ss (i := 0) (j := 6) (by decide), ss (i := 4) (j := 5) (by decide), ss (i := 4) (j := 6) (by decide), ss (i := 5) (j := 6) (by decide)]
  · rw [if_neg e0]
    by_cases e1 : x = 1
    · rw [if_pos e1]
      subst e1
      rcases hf1 with rfl | rfl
      · rw [if_pos rfl]
        (refine am_fnI (tb := tb_X5_again) (n := 60) (Nat.le_of_ble_eq_true rfl) (Nat.le_of_ble_eq_true rfl) ?_; show rx_X5_again 60 0 _ _ _ = _)
        simp [↓ri_X5_again, rs_X5_again_0, rs_X5_again_1, rs_X5_again_4, rs_X5_again_5, rs_X5_again_6, rs_X5_again_9, rs_X5_again_11, rs_X5_again_12, rs_X5_again_15, rs_X5_again_16, rs_X5_again_17, rs_X5_again_20, rs_X5_again_23, rs_X5_again_24, rs_X5_again_27, rs_X5_again_28, rs_X5_again_29, rs_X5_again_32, rs_X5_again_35, rs_X5_again_36, rs_X5_again_37, rs_X5_again_40, rs_X5_again_41, rs_X5_again_44, rs_X5_again_10, rs_X5_again_22, rs_X5_again_47, -List.getElem?_eq_getElem, am_js, am_e, am_in, am_sl, rI, rZ, rV, rJ, rA, rC, kI, kJ, kR, am_one, am_nl, am_w8, tIc, tLc, tNul, tIld, tLld, tAld, tIst, tLst, tAst, tIinc, tI2, tDv, tL2, tLrem, tLs, tLcmp, tI2l, tL2i, tI2c, tDup, tDup2, tPop, tGo, tIfeq, tIfne, tIflt, tIfge, tIfgt, tIfle, tCmeq, tCmne, tCmlt, tCmge, tCmgt, tCmle, tNu, tTs, tGf, tPf, tGs, tIal, tIas, tBal, tBas, tAln, tSv, tSc, tSb, tSl, tSk, tCv, tCs, tCt, tMx, tMn, wr_10000, wr_100000, wr_1000000, wr_10000000, wr_100000000, wr_2400, wr_9999, wr_0, wr_1, wr_2, wr_3, wr_4, wr_5, wr_6, wr_7, wr_8, wr_9, wr_10, wr_11, wr_12, wr_13, wr_14, wr_15, wr_16, wr_17, wr_18, wr_19, wr_20, wr_21, wr_22, wr_23, wr_24, wr_25, wr_26, wr_27, wr_28, wr_29, wr_30, wr_31, wr_32, wr_33, wr_34, wr_35, wr_36, wr_37, wr_38, wr_39, wr_40, wr_41, wr_42, wr_43, wr_44, wr_45, wr_46, wr_47, wr_48, wr_49, wr_50, wr_51, wr_52, wr_53, wr_54, wr_55, wr_56, wr_57, wr_58, wr_59, wr_60, wr_61, wr_62, wr_63, wr_99, wr_100, wr_192, wr_255, wr_256, wr_343, wr_999, wr_1000, wr_2401, wr_2147483647, wr_65535, wr_m1, wr_m2, wr_m3, wr_m4, wr_m9, ak_1000, ak_1001, ak_1002, ak_0, ak_1, ak_2, ak_3, ak_4, ak_5, ak_6, ak_7, ak_8, ak_9, ak_10, ak_11, ak_12, ak_13, ak_14, ak_15, ak_16, ak_17, ak_18, ak_19, ak_20, ak_21, ak_22, ak_23, ak_24, ak_25, ak_26, ak_27, ak_28, ak_29, ak_30, ak_31, ak_32, ak_33, ak_34, ak_35, ak_36, ak_37, ak_38, ak_39, ak_40, ak_41, ak_42, ak_43, ak_44, ak_45, ak_46, ak_47, h0, co, h23]
      · rw [if_neg (by decide)]
        obtain ⟨r1, r2, r3, r4⟩ := hr1 rfl
        have q1 := sp_X1_give (Or.inr rfl) hm hs 1 (by simp) rfl rfl (by simp) x1 y1 z1 rfl rfl rfl r1 r2 r3
        have hs' : HS ((((M.set 0 (co len fa 0 sr sd)).set 4 (aI (l4 (uf z1)))).set 5 (aI (l4 (uf x1)))).set 6 (aI (l4 (uf y1)))) 2 st g (uf z1) (uf x1) (uf y1) := HS.of2 (by simp [-List.getElem?_eq_getElem, i0]) (by simp [-List.getElem?_eq_getElem, i1]) (by simp [-List.getElem?_eq_getElem, gs i2]) (by simp [-List.getElem?_eq_getElem, gs i3]) (by simp [-List.getElem?_eq_getElem, gs i4])
        have q2 := sp_X4_cornersOn hs' r4
        clear hs' hr0 hr1
        simp only [co] at q2 ⊢
        (refine am_fnI (tb := tb_X5_again) (n := 60) (Nat.le_of_ble_eq_true rfl) (Nat.le_of_ble_eq_true rfl) ?_; show rx_X5_again 60 0 _ _ _ = _)
        simp [↓ri_X5_again, rs_X5_again_0, rs_X5_again_1, rs_X5_again_4, rs_X5_again_5, rs_X5_again_6, rs_X5_again_9, rs_X5_again_11, rs_X5_again_12, rs_X5_again_15, rs_X5_again_16, rs_X5_again_17, rs_X5_again_20, rs_X5_again_23, rs_X5_again_24, rs_X5_again_27, rs_X5_again_28, rs_X5_again_29, rs_X5_again_32, rs_X5_again_35, rs_X5_again_36, rs_X5_again_37, rs_X5_again_40, rs_X5_again_41, rs_X5_again_44, rs_X5_again_10, rs_X5_again_22, rs_X5_again_47, -List.getElem?_eq_getElem, am_js, am_e, am_in, am_sl, rI, rZ, rV, rJ, rA, rC, kI, kJ, kR, am_one, am_nl, am_w8, tIc, tLc, tNul, tIld, tLld, tAld, tIst, tLst, tAst, tIinc, tI2, tDv, tL2, tLrem, tLs, tLcmp, tI2l, tL2i, tI2c, tDup, tDup2, tPop, tGo, tIfeq, tIfne, tIflt, tIfge, tIfgt, tIfle, tCmeq, tCmne, tCmlt, tCmge, tCmgt, tCmle, tNu, tTs, tGf, tPf, tGs, tIal, tIas, tBal, tBas, tAln, tSv, tSc, tSb, tSl, tSk, tCv, tCs, tCt, tMx, tMn, wr_10000, wr_100000, wr_1000000, wr_10000000, wr_100000000, wr_2400, wr_9999, wr_0, wr_1, wr_2, wr_3, wr_4, wr_5, wr_6, wr_7, wr_8, wr_9, wr_10, wr_11, wr_12, wr_13, wr_14, wr_15, wr_16, wr_17, wr_18, wr_19, wr_20, wr_21, wr_22, wr_23, wr_24, wr_25, wr_26, wr_27, wr_28, wr_29, wr_30, wr_31, wr_32, wr_33, wr_34, wr_35, wr_36, wr_37, wr_38, wr_39, wr_40, wr_41, wr_42, wr_43, wr_44, wr_45, wr_46, wr_47, wr_48, wr_49, wr_50, wr_51, wr_52, wr_53, wr_54, wr_55, wr_56, wr_57, wr_58, wr_59, wr_60, wr_61, wr_62, wr_63, wr_99, wr_100, wr_192, wr_255, wr_256, wr_343, wr_999, wr_1000, wr_2401, wr_2147483647, wr_65535, wr_m1, wr_m2, wr_m3, wr_m4, wr_m9, ak_1000, ak_1001, ak_1002, ak_0, ak_1, ak_2, ak_3, ak_4, ak_5, ak_6, ak_7, ak_8, ak_9, ak_10, ak_11, ak_12, ak_13, ak_14, ak_15, ak_16, ak_17, ak_18, ak_19, ak_20, ak_21, ak_22, ak_23, ak_24, ak_25, ak_26, ak_27, ak_28, ak_29, ak_30, ak_31, ak_32, ak_33, ak_34, ak_35, ak_36, ak_37, ak_38, ak_39, ak_40, ak_41, ak_42, ak_43, ak_44, ak_45, ak_46, ak_47, h0, co, i0, m0, h23, q1, q2, gs h0, ss (i := 0) (j := 4) (by decide), ss (i := 0) (j := 5) (by decide), ss (i := 0) (j := 6) (by decide), ss (i := 4) (j := 5) (by decide), ss (i := 4) (j := 6) (by decide), ss (i := 5) (j := 6) (by decide)]
    · rw [if_neg e1]
      by_cases a1 : x < 0
      · (refine am_fnI (tb := tb_X5_again) (n := 60) (Nat.le_of_ble_eq_true rfl) (Nat.le_of_ble_eq_true rfl) ?_; show rx_X5_again 60 0 _ _ _ = _)
        simp [↓ri_X5_again, rs_X5_again_0, rs_X5_again_1, rs_X5_again_4, rs_X5_again_5, rs_X5_again_6, rs_X5_again_9, rs_X5_again_11, rs_X5_again_12, rs_X5_again_15, rs_X5_again_16, rs_X5_again_17, rs_X5_again_20, rs_X5_again_23, rs_X5_again_24, rs_X5_again_27, rs_X5_again_28, rs_X5_again_29, rs_X5_again_32, rs_X5_again_35, rs_X5_again_36, rs_X5_again_37, rs_X5_again_40, rs_X5_again_41, rs_X5_again_44, rs_X5_again_10, rs_X5_again_22, rs_X5_again_47, -List.getElem?_eq_getElem, am_js, am_e, am_in, am_sl, rI, rZ, rV, rJ, rA, rC, kI, kJ, kR, am_one, am_nl, am_w8, tIc, tLc, tNul, tIld, tLld, tAld, tIst, tLst, tAst, tIinc, tI2, tDv, tL2, tLrem, tLs, tLcmp, tI2l, tL2i, tI2c, tDup, tDup2, tPop, tGo, tIfeq, tIfne, tIflt, tIfge, tIfgt, tIfle, tCmeq, tCmne, tCmlt, tCmge, tCmgt, tCmle, tNu, tTs, tGf, tPf, tGs, tIal, tIas, tBal, tBas, tAln, tSv, tSc, tSb, tSl, tSk, tCv, tCs, tCt, tMx, tMn, wr_10000, wr_100000, wr_1000000, wr_10000000, wr_100000000, wr_2400, wr_9999, wr_0, wr_1, wr_2, wr_3, wr_4, wr_5, wr_6, wr_7, wr_8, wr_9, wr_10, wr_11, wr_12, wr_13, wr_14, wr_15, wr_16, wr_17, wr_18, wr_19, wr_20, wr_21, wr_22, wr_23, wr_24, wr_25, wr_26, wr_27, wr_28, wr_29, wr_30, wr_31, wr_32, wr_33, wr_34, wr_35, wr_36, wr_37, wr_38, wr_39, wr_40, wr_41, wr_42, wr_43, wr_44, wr_45, wr_46, wr_47, wr_48, wr_49, wr_50, wr_51, wr_52, wr_53, wr_54, wr_55, wr_56, wr_57, wr_58, wr_59, wr_60, wr_61, wr_62, wr_63, wr_99, wr_100, wr_192, wr_255, wr_256, wr_343, wr_999, wr_1000, wr_2401, wr_2147483647, wr_65535, wr_m1, wr_m2, wr_m3, wr_m4, wr_m9, ak_1000, ak_1001, ak_1002, ak_0, ak_1, ak_2, ak_3, ak_4, ak_5, ak_6, ak_7, ak_8, ak_9, ak_10, ak_11, ak_12, ak_13, ak_14, ak_15, ak_16, ak_17, ak_18, ak_19, ak_20, ak_21, ak_22, ak_23, ak_24, ak_25, ak_26, ak_27, ak_28, ak_29, ak_30, ak_31, ak_32, ak_33, ak_34, ak_35, ak_36, ak_37, ak_38, ak_39, ak_40, ak_41, ak_42, ak_43, ak_44, ak_45, ak_46, ak_47, wx, a1]
      · have a2 : ¬ x < 2 := by omega
        (refine am_fnI (tb := tb_X5_again) (n := 60) (Nat.le_of_ble_eq_true rfl) (Nat.le_of_ble_eq_true rfl) ?_; show rx_X5_again 60 0 _ _ _ = _)
        simp [↓ri_X5_again, rs_X5_again_0, rs_X5_again_1, rs_X5_again_4, rs_X5_again_5, rs_X5_again_6, rs_X5_again_9, rs_X5_again_11, rs_X5_again_12, rs_X5_again_15, rs_X5_again_16, rs_X5_again_17, rs_X5_again_20, rs_X5_again_23, rs_X5_again_24, rs_X5_again_27, rs_X5_again_28, rs_X5_again_29, rs_X5_again_32, rs_X5_again_35, rs_X5_again_36, rs_X5_again_37, rs_X5_again_40, rs_X5_again_41, rs_X5_again_44, rs_X5_again_10, rs_X5_again_22, rs_X5_again_47, -List.getElem?_eq_getElem, am_js, am_e, am_in, am_sl, rI, rZ, rV, rJ, rA, rC, kI, kJ, kR, am_one, am_nl, am_w8, tIc, tLc, tNul, tIld, tLld, tAld, tIst, tLst, tAst, tIinc, tI2, tDv, tL2, tLrem, tLs, tLcmp, tI2l, tL2i, tI2c, tDup, tDup2, tPop, tGo, tIfeq, tIfne, tIflt, tIfge, tIfgt, tIfle, tCmeq, tCmne, tCmlt, tCmge, tCmgt, tCmle, tNu, tTs, tGf, tPf, tGs, tIal, tIas, tBal, tBas, tAln, tSv, tSc, tSb, tSl, tSk, tCv, tCs, tCt, tMx, tMn, wr_10000, wr_100000, wr_1000000, wr_10000000, wr_100000000, wr_2400, wr_9999, wr_0, wr_1, wr_2, wr_3, wr_4, wr_5, wr_6, wr_7, wr_8, wr_9, wr_10, wr_11, wr_12, wr_13, wr_14, wr_15, wr_16, wr_17, wr_18, wr_19, wr_20, wr_21, wr_22, wr_23, wr_24, wr_25, wr_26, wr_27, wr_28, wr_29, wr_30, wr_31, wr_32, wr_33, wr_34, wr_35, wr_36, wr_37, wr_38, wr_39, wr_40, wr_41, wr_42, wr_43, wr_44, wr_45, wr_46, wr_47, wr_48, wr_49, wr_50, wr_51, wr_52, wr_53, wr_54, wr_55, wr_56, wr_57, wr_58, wr_59, wr_60, wr_61, wr_62, wr_63, wr_99, wr_100, wr_192, wr_255, wr_256, wr_343, wr_999, wr_1000, wr_2401, wr_2147483647, wr_65535, wr_m1, wr_m2, wr_m3, wr_m4, wr_m9, ak_1000, ak_1001, ak_1002, ak_0, ak_1, ak_2, ak_3, ak_4, ak_5, ak_6, ak_7, ak_8, ak_9, ak_10, ak_11, ak_12, ak_13, ak_14, ak_15, ak_16, ak_17, ak_18, ak_19, ak_20, ak_21, ak_22, ak_23, ak_24, ak_25, ak_26, ak_27, ak_28, ak_29, ak_30, ak_31, ak_32, ak_33, ak_34, ak_35, ak_36, ak_37, ak_38, ak_39, ak_40, ak_41, ak_42, ak_43, ak_44, ak_45, ak_46, ak_47, wx, a1, a2]
abbrev mi_X5_would : Mi := (yX5_would, cX5_would, 3, some .int, 6)
theorem mf_X5_would : am_mf mi_X5_would 2 := ⟨w_co_X5_would, w_in_X5, ⟨by decide +kernel, by decide +kernel⟩, by decide +kernel, by decide⟩
def tb_X5_would : List (Nat × Tr) := [(0, tIld 1 1), (1, tIc 0 1), (2, tCs 2 fn_X5_isRow), (5, tIfeq 17), (8, tIld 2 1), (9, tIflt 17), (12, tIld 2 1), (13, tIc 2 1), (14, tCmle 20), (17, tIc (-2) 2), (20, tAld 0 1), (21, tGf 5 3), (24, tAld 0 1), (25, tGf 5 2), (28, tCv 4 1 fn_X4_become), (31, tIld 1 1), (32, tAld 0 1), (33, tGf 5 3), (36, tGf 4 3), (39, tCs 2 fn_X5_layFigures), (42, tIld 2 1), (43, tIfne 54), (46, tAld 0 1), (47, tGf 5 3), (50, tCv 4 0 fn_X4_looseBits), (54, tIld 2 1), (55, tIc 1 1), (56, tCmne 67), (59, tAld 0 1), (60, tGf 5 3), (63, tCv 4 0 fn_X4_firstToSlip), (67, tAld 0 1), (68, tGf 5 3), (71, tCv 4 0 fn_X4_settle), (74, tPop), (75, tAld 0 1), (76, tGf 5 3), (79, tGf 4 3), (82, tCs 1 fn_X5_asFigures)]
theorem ok_X5_would : Tok mi_X5_would tb_X5_would :=
  Tc (sd_iload_n dX5_would_0) <|
  Tc (sd_iconst rfl dX5_would_1) <|
  Tc (sd_cs fok_X5_isRow mf_X5_isRow w_ml_X5_121 w_st_X5_isRow (by decide) dX5_would_2) <|
  Tc (sd_if_eq (by decide) dX5_would_5) <|
  Tc (sd_iload_n dX5_would_8) <|
  Tc (sd_if_lt (by decide) dX5_would_9) <|
  Tc (sd_iload_n dX5_would_12) <|
  Tc (sd_iconst rfl dX5_would_13) <|
  Tc (sd_cm_le (by decide) dX5_would_14) <|
  Tc (sd_bipush (by decide +kernel) dX5_would_17) <|
  Tc (sd_aload_n dX5_would_20) <|
  Tc (sd_getf (T := TX5) rfl giX5 (by decide) w_fl_X5_24 dX5_would_21) <|
  Tc (sd_aload_n dX5_would_24) <|
  Tc (sd_getf (T := TX5) rfl giX5 (by decide) w_fl_X5_20 dX5_would_25) <|
  Tc (sd_cv (T := TX4) fok_X4_become mf_X4_become rfl w_ml_X5_124 w_im_X4_become w_se_X4_become (by decide) dX5_would_28) <|
  Tc (sd_iload_n dX5_would_31) <|
  Tc (sd_aload_n dX5_would_32) <|
  Tc (sd_getf (T := TX5) rfl giX5 (by decide) w_fl_X5_24 dX5_would_33) <|
  Tc (sd_getf (T := TX4) rfl giX4 (by decide) w_fl_X5_92 dX5_would_36) <|
  Tc (sd_cs fok_X5_layFigures mf_X5_layFigures w_ml_X5_128 w_st_X5_layFigures (by decide) dX5_would_39) <|
  Tc (sd_iload_n dX5_would_42) <|
  Tc (sd_if_ne (by decide) dX5_would_43) <|
  Tc (sd_aload_n dX5_would_46) <|
  Tc (sd_getf (T := TX5) rfl giX5 (by decide) w_fl_X5_24 dX5_would_47) <|
  Tc (sd_cv (T := TX4) fok_X4_looseBits mf_X4_looseBits rfl w_ml_X5_132 w_im_X4_looseBits w_se_X4_looseBits (by decide) dX5_would_50) <|
  Tc (sd_iload_n dX5_would_54) <|
  Tc (sd_iconst rfl dX5_would_55) <|
  Tc (sd_cm_ne (by decide) dX5_would_56) <|
  Tc (sd_aload_n dX5_would_59) <|
  Tc (sd_getf (T := TX5) rfl giX5 (by decide) w_fl_X5_24 dX5_would_60) <|
  Tc (sd_cv (T := TX4) fok_X4_firstToSlip mf_X4_firstToSlip rfl w_ml_X5_135 w_im_X4_firstToSlip w_se_X4_firstToSlip (by decide) dX5_would_63) <|
  Tc (sd_aload_n dX5_would_67) <|
  Tc (sd_getf (T := TX5) rfl giX5 (by decide) w_fl_X5_24 dX5_would_68) <|
  Tc (sd_cv (T := TX4) fok_X4_settle mf_X4_settle rfl w_ml_X5_138 w_im_X4_settle w_se_X4_settle (by decide) dX5_would_71) <|
  Tc (sd_pop dX5_would_74) <|
  Tc (sd_aload_n dX5_would_75) <|
  Tc (sd_getf (T := TX5) rfl giX5 (by decide) w_fl_X5_24 dX5_would_76) <|
  Tc (sd_getf (T := TX4) rfl giX4 (by decide) w_fl_X5_92 dX5_would_79) <|
  Tc (sd_cs fok_X5_asFigures mf_X5_asFigures w_ml_X5_141 w_st_X5_asFigures (by decide) dX5_would_82) <|
  Tn
theorem rk_X5_would : Rok mi_X5_would rI [19, 53, 66, 85] := rk_i dX5_would_19 <| rk_i dX5_would_53 <| rk_i dX5_would_66 <| rk_i dX5_would_85 <| rk_n
def rx_X5_would : Nat → Nat → AL → List AV → List AC → Option (Option AV × List AC) := am_r tb_X5_would rI [19, 53, 66, 85]
theorem rs_X5_would_0 (n : Nat) (L : AL) (st : List AV) (M : List AC) : rx_X5_would (n + 1) 0 L st M = am_j (rx_X5_would n) ((tIld 1 1) 0 L st M) := rfl
theorem rs_X5_would_1 (n : Nat) (L : AL) (st : List AV) (M : List AC) : rx_X5_would (n + 1) 1 L st M = am_j (rx_X5_would n) ((tIc 0 1) 1 L st M) := rfl
theorem rs_X5_would_2 (n : Nat) (L : AL) (st : List AV) (M : List AC) : rx_X5_would (n + 1) 2 L st M = am_j (rx_X5_would n) ((tCs 2 fn_X5_isRow) 2 L st M) := rfl
theorem rs_X5_would_5 (n : Nat) (L : AL) (st : List AV) (M : List AC) : rx_X5_would (n + 1) 5 L st M = am_j (rx_X5_would n) ((tIfeq 17) 5 L st M) := rfl
theorem rs_X5_would_8 (n : Nat) (L : AL) (st : List AV) (M : List AC) : rx_X5_would (n + 1) 8 L st M = am_j (rx_X5_would n) ((tIld 2 1) 8 L st M) := rfl
theorem rs_X5_would_9 (n : Nat) (L : AL) (st : List AV) (M : List AC) : rx_X5_would (n + 1) 9 L st M = am_j (rx_X5_would n) ((tIflt 17) 9 L st M) := rfl
theorem rs_X5_would_12 (n : Nat) (L : AL) (st : List AV) (M : List AC) : rx_X5_would (n + 1) 12 L st M = am_j (rx_X5_would n) ((tIld 2 1) 12 L st M) := rfl
theorem rs_X5_would_13 (n : Nat) (L : AL) (st : List AV) (M : List AC) : rx_X5_would (n + 1) 13 L st M = am_j (rx_X5_would n) ((tIc 2 1) 13 L st M) := rfl
theorem rs_X5_would_14 (n : Nat) (L : AL) (st : List AV) (M : List AC) : rx_X5_would (n + 1) 14 L st M = am_j (rx_X5_would n) ((tCmle 20) 14 L st M) := rfl
theorem rs_X5_would_17 (n : Nat) (L : AL) (st : List AV) (M : List AC) : rx_X5_would (n + 1) 17 L st M = am_j (rx_X5_would n) ((tIc (-2) 2) 17 L st M) := rfl
theorem rs_X5_would_20 (n : Nat) (L : AL) (st : List AV) (M : List AC) : rx_X5_would (n + 1) 20 L st M = am_j (rx_X5_would n) ((tAld 0 1) 20 L st M) := rfl
theorem rs_X5_would_21 (n : Nat) (L : AL) (st : List AV) (M : List AC) : rx_X5_would (n + 1) 21 L st M = am_j (rx_X5_would n) ((tGf 5 3) 21 L st M) := rfl
theorem rs_X5_would_24 (n : Nat) (L : AL) (st : List AV) (M : List AC) : rx_X5_would (n + 1) 24 L st M = am_j (rx_X5_would n) ((tAld 0 1) 24 L st M) := rfl
theorem rs_X5_would_25 (n : Nat) (L : AL) (st : List AV) (M : List AC) : rx_X5_would (n + 1) 25 L st M = am_j (rx_X5_would n) ((tGf 5 2) 25 L st M) := rfl
theorem rs_X5_would_28 (n : Nat) (L : AL) (st : List AV) (M : List AC) : rx_X5_would (n + 1) 28 L st M = am_j (rx_X5_would n) ((tCv 4 1 fn_X4_become) 28 L st M) := rfl
theorem rs_X5_would_31 (n : Nat) (L : AL) (st : List AV) (M : List AC) : rx_X5_would (n + 1) 31 L st M = am_j (rx_X5_would n) ((tIld 1 1) 31 L st M) := rfl
theorem rs_X5_would_32 (n : Nat) (L : AL) (st : List AV) (M : List AC) : rx_X5_would (n + 1) 32 L st M = am_j (rx_X5_would n) ((tAld 0 1) 32 L st M) := rfl
theorem rs_X5_would_33 (n : Nat) (L : AL) (st : List AV) (M : List AC) : rx_X5_would (n + 1) 33 L st M = am_j (rx_X5_would n) ((tGf 5 3) 33 L st M) := rfl
theorem rs_X5_would_36 (n : Nat) (L : AL) (st : List AV) (M : List AC) : rx_X5_would (n + 1) 36 L st M = am_j (rx_X5_would n) ((tGf 4 3) 36 L st M) := rfl
theorem rs_X5_would_39 (n : Nat) (L : AL) (st : List AV) (M : List AC) : rx_X5_would (n + 1) 39 L st M = am_j (rx_X5_would n) ((tCs 2 fn_X5_layFigures) 39 L st M) := rfl
theorem rs_X5_would_42 (n : Nat) (L : AL) (st : List AV) (M : List AC) : rx_X5_would (n + 1) 42 L st M = am_j (rx_X5_would n) ((tIld 2 1) 42 L st M) := rfl
theorem rs_X5_would_43 (n : Nat) (L : AL) (st : List AV) (M : List AC) : rx_X5_would (n + 1) 43 L st M = am_j (rx_X5_would n) ((tIfne 54) 43 L st M) := rfl
theorem rs_X5_would_46 (n : Nat) (L : AL) (st : List AV) (M : List AC) : rx_X5_would (n + 1) 46 L st M = am_j (rx_X5_would n) ((tAld 0 1) 46 L st M) := rfl
theorem rs_X5_would_47 (n : Nat) (L : AL) (st : List AV) (M : List AC) : rx_X5_would (n + 1) 47 L st M = am_j (rx_X5_would n) ((tGf 5 3) 47 L st M) := rfl
theorem rs_X5_would_50 (n : Nat) (L : AL) (st : List AV) (M : List AC) : rx_X5_would (n + 1) 50 L st M = am_j (rx_X5_would n) ((tCv 4 0 fn_X4_looseBits) 50 L st M) := rfl
theorem rs_X5_would_54 (n : Nat) (L : AL) (st : List AV) (M : List AC) : rx_X5_would (n + 1) 54 L st M = am_j (rx_X5_would n) ((tIld 2 1) 54 L st M) := rfl
theorem rs_X5_would_55 (n : Nat) (L : AL) (st : List AV) (M : List AC) : rx_X5_would (n + 1) 55 L st M = am_j (rx_X5_would n) ((tIc 1 1) 55 L st M) := rfl
theorem rs_X5_would_56 (n : Nat) (L : AL) (st : List AV) (M : List AC) : rx_X5_would (n + 1) 56 L st M = am_j (rx_X5_would n) ((tCmne 67) 56 L st M) := rfl
theorem rs_X5_would_59 (n : Nat) (L : AL) (st : List AV) (M : List AC) : rx_X5_would (n + 1) 59 L st M = am_j (rx_X5_would n) ((tAld 0 1) 59 L st M) := rfl
theorem rs_X5_would_60 (n : Nat) (L : AL) (st : List AV) (M : List AC) : rx_X5_would (n + 1) 60 L st M = am_j (rx_X5_would n) ((tGf 5 3) 60 L st M) := rfl
theorem rs_X5_would_63 (n : Nat) (L : AL) (st : List AV) (M : List AC) : rx_X5_would (n + 1) 63 L st M = am_j (rx_X5_would n) ((tCv 4 0 fn_X4_firstToSlip) 63 L st M) := rfl
theorem rs_X5_would_67 (n : Nat) (L : AL) (st : List AV) (M : List AC) : rx_X5_would (n + 1) 67 L st M = am_j (rx_X5_would n) ((tAld 0 1) 67 L st M) := rfl
theorem rs_X5_would_68 (n : Nat) (L : AL) (st : List AV) (M : List AC) : rx_X5_would (n + 1) 68 L st M = am_j (rx_X5_would n) ((tGf 5 3) 68 L st M) := rfl
theorem rs_X5_would_71 (n : Nat) (L : AL) (st : List AV) (M : List AC) : rx_X5_would (n + 1) 71 L st M = am_j (rx_X5_would n) ((tCv 4 0 fn_X4_settle) 71 L st M) := rfl
theorem rs_X5_would_74 (n : Nat) (L : AL) (st : List AV) (M : List AC) : rx_X5_would (n + 1) 74 L st M = am_j (rx_X5_would n) (tPop 74 L st M) := rfl
theorem rs_X5_would_75 (n : Nat) (L : AL) (st : List AV) (M : List AC) : rx_X5_would (n + 1) 75 L st M = am_j (rx_X5_would n) ((tAld 0 1) 75 L st M) := rfl
theorem rs_X5_would_76 (n : Nat) (L : AL) (st : List AV) (M : List AC) : rx_X5_would (n + 1) 76 L st M = am_j (rx_X5_would n) ((tGf 5 3) 76 L st M) := rfl
theorem rs_X5_would_79 (n : Nat) (L : AL) (st : List AV) (M : List AC) : rx_X5_would (n + 1) 79 L st M = am_j (rx_X5_would n) ((tGf 4 3) 79 L st M) := rfl
theorem rs_X5_would_82 (n : Nat) (L : AL) (st : List AV) (M : List AC) : rx_X5_would (n + 1) 82 L st M = am_j (rx_X5_would n) ((tCs 1 fn_X5_asFigures) 82 L st M) := rfl
theorem rs_X5_would_19 (n : Nat) (L : AL) (st : List AV) (M : List AC) : rx_X5_would (n + 1) 19 L st M = am_e rI st M := rfl
theorem rs_X5_would_53 (n : Nat) (L : AL) (st : List AV) (M : List AC) : rx_X5_would (n + 1) 53 L st M = am_e rI st M := rfl
theorem rs_X5_would_66 (n : Nat) (L : AL) (st : List AV) (M : List AC) : rx_X5_would (n + 1) 66 L st M = am_e rI st M := rfl
theorem rs_X5_would_85 (n : Nat) (L : AL) (st : List AV) (M : List AC) : rx_X5_would (n + 1) 85 L st M = am_e rI st M := rfl
theorem ri_X5_would (c : Prop) [Decidable c] (p q n : Nat) (L : AL) (st : List AV) (M : List AC) : rx_X5_would n (if c then p else q) L st M = if c then rx_X5_would n p L st M else rx_X5_would n q L st M := by split <;> rfl
theorem rm_X5_would {n k pc : Nat} {L : AL} {st : List AV} {M : List AC} {x : Option AV × List AC} (h : rx_X5_would n pc L st M = some x) (hk : n ≤ k) : rx_X5_would k pc L st M = some x := am_r_mono n k h hk
def fn_X5_would : Fn := am_fn rx_X5_would 3
theorem fok_X5_would : Fok mi_X5_would fn_X5_would := fun _ _ _ _ h => am_fok ok_X5_would rk_X5_would rfl h
theorem bec_HS {M : List AC} {st st' : Int} {g s d b g' s' d' b' : F4} (hs : HS M 2 st g s d b) (hs' : HS M 7 st' g' s' d' b') (x : F4) : HS (((((M.set 7 (aO 4 [vI st, vR 8, vR 9, vR 10, vR 11])).set 8 (aI (l4 g))).set 9 (aI (l4 s))).set 10 (aI (l4 x))).set 11 (aI (l4 b))) 7 st g s x b := by
  obtain ⟨j0, j1, j2, j3, j4⟩ := hs'.seven
  exact HS.of7 (by simp [-List.getElem?_eq_getElem, gs j0]) (by simp [-List.getElem?_eq_getElem, gs j1]) (by simp [-List.getElem?_eq_getElem, gs j2]) (by simp [-List.getElem?_eq_getElem, gs j3]) (by simp [-List.getElem?_eq_getElem, gs j4])
theorem sp_X5_would {M : List AC} {len fa ac : Int} {sr : AV} {sd : Int64} (h0 : M[0]? = some (co len fa ac sr sd)) {st : Int} {g s d b : F4} (hs : HS M 2 st g s d b) {st' : Int} {g' s' d' b' : F4} (hs' : HS M 7 st' g' s' d' b') (hr : SR st g s d b) (x w : Int) (hx : -2147483648 ≤ x ∧ x < 2147483648) (hw : -2147483648 ≤ w ∧ w < 2147483648) : fn_X5_would [vR 0, vI x, vI w] M = if (0 ≤ x ∧ x < 10000 ∧ i4 0 6 (uf x)) ∧ (0 ≤ w ∧ w ≤ 2) then (if w = 0 then some (some (vI (lob st g s (uf x) b)), (((((M.set 7 (aO 4 [vI st, vR 8, vR 9, vR 10, vR 11])).set 8 (aI (l4 g))).set 9 (aI (l4 s))).set 10 (aI (l4 (uf x)))).set 11 (aI (l4 b)))) else if w = 1 then some (some (vI (fs st g s (uf x) b)), (((((M.set 7 (aO 4 [vI st, vR 8, vR 9, vR 10, vR 11])).set 8 (aI (l4 g))).set 9 (aI (l4 s))).set 10 (aI (l4 (uf x)))).set 11 (aI (l4 b)))) else some (some (vI (fg (sl st g s b 4 (uf x) 0).1)), (((((M.set 7 (aO 4 [vI st, vR 8, vR 9, vR 10, vR 11])).set 8 (aI (l4 g))).set 9 (aI (l4 s))).set 10 (aI (l4 (sl st g s b 4 (uf x) 0).1))).set 11 (aI (l4 b))))) else some (some (vI (-2)), M) := by
  have ww : wr w = w := wr_id (by omega) (by omega)
  have p1 := sp_X5_isRow x 0 M hx (Or.inl rfl)
  obtain ⟨i0, i1, i2, i3, i9⟩ := hs.two
  obtain ⟨j0, j1, j2, j3, j4⟩ := hs'.seven
  by_cases hR : 0 ≤ x ∧ x < 10000 ∧ i4 0 6 (uf x)
  · rw [if_pos hR] at p1
    by_cases hW : 0 ≤ w ∧ w ≤ 2
    · rw [if_pos ⟨hR, hW⟩]
      have q1 := sp_X4_become hs hs'
      have q2 := sp_X5_layFigures (M := (((((M.set 7 (aO 4 [vI st, vR 8, vR 9, vR 10, vR 11])).set 8 (aI (l4 g))).set 9 (aI (l4 s))).set 10 (aI (l4 d))).set 11 (aI (l4 b)))) (q := 10) (v := d) (by simp [-List.getElem?_eq_getElem, gs j3]) rfl x (by omega)
      have hq := bec_HS hs hs' (uf x)
      have hr' : SR st g s (uf x) b := ⟨hr.1, hr.2.1, hr.2.2.1, hR.2.2, hr.2.2.2.2⟩
      have q3 := sp_X4_firstToSlip hq hr'
      have q4 := sp_X4_settle hq hr'
      have q5 := sp_X4_looseBits hq hr'
      have q6 := sp_X5_asFigures (M := (((((M.set 7 (aO 4 [vI st, vR 8, vR 9, vR 10, vR 11])).set 8 (aI (l4 g))).set 9 (aI (l4 s))).set 10 (aI (l4 (sl st g s b 4 (uf x) 0).1))).set 11 (aI (l4 b)))) (q := 10) (v := (sl st g s b 4 (uf x) 0).1) (by simp [-List.getElem?_eq_getElem, gs j3]) rfl
      clear hq hr'
      simp [ss (i := 7) (j := 8) (by decide), ss (i := 7) (j := 9) (by decide), ss (i := 7) (j := 10) (by decide), ss (i := 7) (j := 11) (by decide), ss (i := 8) (j := 9) (by decide), ss (i := 8) (j := 10) (by decide), ss (i := 8) (j := 11) (by decide), ss (i := 9) (j := 10) (by decide), ss (i := 9) (j := 11) (by decide), ss (i := 10) (j := 11) (by decide)] at q2 q4
      have z0 : M[0]? = some (co len fa ac sr sd) := h0
      by_cases e0 : w = 0
      · rw [if_pos e0]
        subst e0
        generalize lob st g s (uf x) b = r at q5 ⊢
        generalize uf x = u at *
        (refine am_fnI (tb := tb_X5_would) (n := 60) (Nat.le_of_ble_eq_true rfl) (Nat.le_of_ble_eq_true rfl) ?_; show rx_X5_would 60 0 _ _ _ = _)
        simp [↓ri_X5_would, rs_X5_would_0, rs_X5_would_1, rs_X5_would_2, rs_X5_would_5, rs_X5_would_8, rs_X5_would_9, rs_X5_would_12, rs_X5_would_13, rs_X5_would_14, rs_X5_would_17, rs_X5_would_20, rs_X5_would_21, rs_X5_would_24, rs_X5_would_25, rs_X5_would_28, rs_X5_would_31, rs_X5_would_32, rs_X5_would_33, rs_X5_would_36, rs_X5_would_39, rs_X5_would_42, rs_X5_would_43, rs_X5_would_46, rs_X5_would_47, rs_X5_would_50, rs_X5_would_54, rs_X5_would_55, rs_X5_would_56, rs_X5_would_59, rs_X5_would_60, rs_X5_would_63, rs_X5_would_67, rs_X5_would_68, rs_X5_would_71, rs_X5_would_74, rs_X5_would_75, rs_X5_would_76, rs_X5_would_79, rs_X5_would_82, rs_X5_would_19, rs_X5_would_53, rs_X5_would_66, rs_X5_would_85, -List.getElem?_eq_getElem, am_js, am_e, am_in, am_sl, rI, rZ, rV, rJ, rA, rC, kI, kJ, kR, am_one, am_nl, am_w8, tIc, tLc, tNul, tIld, tLld, tAld, tIst, tLst, tAst, tIinc, tI2, tDv, tL2, tLrem, tLs, tLcmp, tI2l, tL2i, tI2c, tDup, tDup2, tPop, tGo, tIfeq, tIfne, tIflt, tIfge, tIfgt, tIfle, tCmeq, tCmne, tCmlt, tCmge, tCmgt, tCmle, tNu, tTs, tGf, tPf, tGs, tIal, tIas, tBal, tBas, tAln, tSv, tSc, tSb, tSl, tSk, tCv, tCs, tCt, tMx, tMn, wr_10000, wr_100000, wr_1000000, wr_10000000, wr_100000000, wr_2400, wr_9999, wr_0, wr_1, wr_2, wr_3, wr_4, wr_5, wr_6, wr_7, wr_8, wr_9, wr_10, wr_11, wr_12, wr_13, wr_14, wr_15, wr_16, wr_17, wr_18, wr_19, wr_20, wr_21, wr_22, wr_23, wr_24, wr_25, wr_26, wr_27, wr_28, wr_29, wr_30, wr_31, wr_32, wr_33, wr_34, wr_35, wr_36, wr_37, wr_38, wr_39, wr_40, wr_41, wr_42, wr_43, wr_44, wr_45, wr_46, wr_47, wr_48, wr_49, wr_50, wr_51, wr_52, wr_53, wr_54, wr_55, wr_56, wr_57, wr_58, wr_59, wr_60, wr_61, wr_62, wr_63, wr_99, wr_100, wr_192, wr_255, wr_256, wr_343, wr_999, wr_1000, wr_2401, wr_2147483647, wr_65535, wr_m1, wr_m2, wr_m3, wr_m4, wr_m9, ak_1000, ak_1001, ak_1002, ak_0, ak_1, ak_2, ak_3, ak_4, ak_5, ak_6, ak_7, ak_8, ak_9, ak_10, ak_11, ak_12, ak_13, ak_14, ak_15, ak_16, ak_17, ak_18, ak_19, ak_20, ak_21, ak_22, ak_23, ak_24, ak_25, ak_26, ak_27, ak_28, ak_29, ak_30, ak_31, ak_32, ak_33, ak_34, ak_35, ak_36, ak_37, ak_38, ak_39, ak_40, ak_41, ak_42, ak_43, ak_44, ak_45, ak_46, ak_47, p1, h0, co, j0, gs j0, q1, q2, q5]
      · rw [if_neg e0]
        by_cases e1 : w = 1
        · rw [if_pos e1]
          subst e1
          generalize fs st g s (uf x) b = r at q3 ⊢
          generalize uf x = u at *
          (refine am_fnI (tb := tb_X5_would) (n := 60) (Nat.le_of_ble_eq_true rfl) (Nat.le_of_ble_eq_true rfl) ?_; show rx_X5_would 60 0 _ _ _ = _)
          simp [↓ri_X5_would, rs_X5_would_0, rs_X5_would_1, rs_X5_would_2, rs_X5_would_5, rs_X5_would_8, rs_X5_would_9, rs_X5_would_12, rs_X5_would_13, rs_X5_would_14, rs_X5_would_17, rs_X5_would_20, rs_X5_would_21, rs_X5_would_24, rs_X5_would_25, rs_X5_would_28, rs_X5_would_31, rs_X5_would_32, rs_X5_would_33, rs_X5_would_36, rs_X5_would_39, rs_X5_would_42, rs_X5_would_43, rs_X5_would_46, rs_X5_would_47, rs_X5_would_50, rs_X5_would_54, rs_X5_would_55, rs_X5_would_56, rs_X5_would_59, rs_X5_would_60, rs_X5_would_63, rs_X5_would_67, rs_X5_would_68, rs_X5_would_71, rs_X5_would_74, rs_X5_would_75, rs_X5_would_76, rs_X5_would_79, rs_X5_would_82, rs_X5_would_19, rs_X5_would_53, rs_X5_would_66, rs_X5_would_85, -List.getElem?_eq_getElem, am_js, am_e, am_in, am_sl, rI, rZ, rV, rJ, rA, rC, kI, kJ, kR, am_one, am_nl, am_w8, tIc, tLc, tNul, tIld, tLld, tAld, tIst, tLst, tAst, tIinc, tI2, tDv, tL2, tLrem, tLs, tLcmp, tI2l, tL2i, tI2c, tDup, tDup2, tPop, tGo, tIfeq, tIfne, tIflt, tIfge, tIfgt, tIfle, tCmeq, tCmne, tCmlt, tCmge, tCmgt, tCmle, tNu, tTs, tGf, tPf, tGs, tIal, tIas, tBal, tBas, tAln, tSv, tSc, tSb, tSl, tSk, tCv, tCs, tCt, tMx, tMn, wr_10000, wr_100000, wr_1000000, wr_10000000, wr_100000000, wr_2400, wr_9999, wr_0, wr_1, wr_2, wr_3, wr_4, wr_5, wr_6, wr_7, wr_8, wr_9, wr_10, wr_11, wr_12, wr_13, wr_14, wr_15, wr_16, wr_17, wr_18, wr_19, wr_20, wr_21, wr_22, wr_23, wr_24, wr_25, wr_26, wr_27, wr_28, wr_29, wr_30, wr_31, wr_32, wr_33, wr_34, wr_35, wr_36, wr_37, wr_38, wr_39, wr_40, wr_41, wr_42, wr_43, wr_44, wr_45, wr_46, wr_47, wr_48, wr_49, wr_50, wr_51, wr_52, wr_53, wr_54, wr_55, wr_56, wr_57, wr_58, wr_59, wr_60, wr_61, wr_62, wr_63, wr_99, wr_100, wr_192, wr_255, wr_256, wr_343, wr_999, wr_1000, wr_2401, wr_2147483647, wr_65535, wr_m1, wr_m2, wr_m3, wr_m4, wr_m9, ak_1000, ak_1001, ak_1002, ak_0, ak_1, ak_2, ak_3, ak_4, ak_5, ak_6, ak_7, ak_8, ak_9, ak_10, ak_11, ak_12, ak_13, ak_14, ak_15, ak_16, ak_17, ak_18, ak_19, ak_20, ak_21, ak_22, ak_23, ak_24, ak_25, ak_26, ak_27, ak_28, ak_29, ak_30, ak_31, ak_32, ak_33, ak_34, ak_35, ak_36, ak_37, ak_38, ak_39, ak_40, ak_41, ak_42, ak_43, ak_44, ak_45, ak_46, ak_47, p1, h0, co, j0, gs j0, q1, q2, q3]
        · rw [if_neg e1]
          have e2 : w = 2 := by omega
          subst e2
          generalize sl st g s b 4 (uf x) 0 = r at q4 q6 ⊢
          generalize uf x = u at *
          (refine am_fnI (tb := tb_X5_would) (n := 60) (Nat.le_of_ble_eq_true rfl) (Nat.le_of_ble_eq_true rfl) ?_; show rx_X5_would 60 0 _ _ _ = _)
          simp [↓ri_X5_would, rs_X5_would_0, rs_X5_would_1, rs_X5_would_2, rs_X5_would_5, rs_X5_would_8, rs_X5_would_9, rs_X5_would_12, rs_X5_would_13, rs_X5_would_14, rs_X5_would_17, rs_X5_would_20, rs_X5_would_21, rs_X5_would_24, rs_X5_would_25, rs_X5_would_28, rs_X5_would_31, rs_X5_would_32, rs_X5_would_33, rs_X5_would_36, rs_X5_would_39, rs_X5_would_42, rs_X5_would_43, rs_X5_would_46, rs_X5_would_47, rs_X5_would_50, rs_X5_would_54, rs_X5_would_55, rs_X5_would_56, rs_X5_would_59, rs_X5_would_60, rs_X5_would_63, rs_X5_would_67, rs_X5_would_68, rs_X5_would_71, rs_X5_would_74, rs_X5_would_75, rs_X5_would_76, rs_X5_would_79, rs_X5_would_82, rs_X5_would_19, rs_X5_would_53, rs_X5_would_66, rs_X5_would_85, -List.getElem?_eq_getElem, am_js, am_e, am_in, am_sl, rI, rZ, rV, rJ, rA, rC, kI, kJ, kR, am_one, am_nl, am_w8, tIc, tLc, tNul, tIld, tLld, tAld, tIst, tLst, tAst, tIinc, tI2, tDv, tL2, tLrem, tLs, tLcmp, tI2l, tL2i, tI2c, tDup, tDup2, tPop, tGo, tIfeq, tIfne, tIflt, tIfge, tIfgt, tIfle, tCmeq, tCmne, tCmlt, tCmge, tCmgt, tCmle, tNu, tTs, tGf, tPf, tGs, tIal, tIas, tBal, tBas, tAln, tSv, tSc, tSb, tSl, tSk, tCv, tCs, tCt, tMx, tMn, wr_10000, wr_100000, wr_1000000, wr_10000000, wr_100000000, wr_2400, wr_9999, wr_0, wr_1, wr_2, wr_3, wr_4, wr_5, wr_6, wr_7, wr_8, wr_9, wr_10, wr_11, wr_12, wr_13, wr_14, wr_15, wr_16, wr_17, wr_18, wr_19, wr_20, wr_21, wr_22, wr_23, wr_24, wr_25, wr_26, wr_27, wr_28, wr_29, wr_30, wr_31, wr_32, wr_33, wr_34, wr_35, wr_36, wr_37, wr_38, wr_39, wr_40, wr_41, wr_42, wr_43, wr_44, wr_45, wr_46, wr_47, wr_48, wr_49, wr_50, wr_51, wr_52, wr_53, wr_54, wr_55, wr_56, wr_57, wr_58, wr_59, wr_60, wr_61, wr_62, wr_63, wr_99, wr_100, wr_192, wr_255, wr_256, wr_343, wr_999, wr_1000, wr_2401, wr_2147483647, wr_65535, wr_m1, wr_m2, wr_m3, wr_m4, wr_m9, ak_1000, ak_1001, ak_1002, ak_0, ak_1, ak_2, ak_3, ak_4, ak_5, ak_6, ak_7, ak_8, ak_9, ak_10, ak_11, ak_12, ak_13, ak_14, ak_15, ak_16, ak_17, ak_18, ak_19, ak_20, ak_21, ak_22, ak_23, ak_24, ak_25, ak_26, ak_27, ak_28, ak_29, ak_30, ak_31, ak_32, ak_33, ak_34, ak_35, ak_36, ak_37, ak_38, ak_39, ak_40, ak_41, ak_42, ak_43, ak_44, ak_45, ak_46, ak_47, p1, h0, co, j0, gs j0, q1, q2, q4, q6]
    · rw [if_neg (fun z => hW z.2)]
      by_cases a1 : w < 0
      · (refine am_fnI (tb := tb_X5_would) (n := 60) (Nat.le_of_ble_eq_true rfl) (Nat.le_of_ble_eq_true rfl) ?_; show rx_X5_would 60 0 _ _ _ = _)
        simp [↓ri_X5_would, rs_X5_would_0, rs_X5_would_1, rs_X5_would_2, rs_X5_would_5, rs_X5_would_8, rs_X5_would_9, rs_X5_would_12, rs_X5_would_13, rs_X5_would_14, rs_X5_would_17, rs_X5_would_20, rs_X5_would_21, rs_X5_would_24, rs_X5_would_25, rs_X5_would_28, rs_X5_would_31, rs_X5_would_32, rs_X5_would_33, rs_X5_would_36, rs_X5_would_39, rs_X5_would_42, rs_X5_would_43, rs_X5_would_46, rs_X5_would_47, rs_X5_would_50, rs_X5_would_54, rs_X5_would_55, rs_X5_would_56, rs_X5_would_59, rs_X5_would_60, rs_X5_would_63, rs_X5_would_67, rs_X5_would_68, rs_X5_would_71, rs_X5_would_74, rs_X5_would_75, rs_X5_would_76, rs_X5_would_79, rs_X5_would_82, rs_X5_would_19, rs_X5_would_53, rs_X5_would_66, rs_X5_would_85, -List.getElem?_eq_getElem, am_js, am_e, am_in, am_sl, rI, rZ, rV, rJ, rA, rC, kI, kJ, kR, am_one, am_nl, am_w8, tIc, tLc, tNul, tIld, tLld, tAld, tIst, tLst, tAst, tIinc, tI2, tDv, tL2, tLrem, tLs, tLcmp, tI2l, tL2i, tI2c, tDup, tDup2, tPop, tGo, tIfeq, tIfne, tIflt, tIfge, tIfgt, tIfle, tCmeq, tCmne, tCmlt, tCmge, tCmgt, tCmle, tNu, tTs, tGf, tPf, tGs, tIal, tIas, tBal, tBas, tAln, tSv, tSc, tSb, tSl, tSk, tCv, tCs, tCt, tMx, tMn, wr_10000, wr_100000, wr_1000000, wr_10000000, wr_100000000, wr_2400, wr_9999, wr_0, wr_1, wr_2, wr_3, wr_4, wr_5, wr_6, wr_7, wr_8, wr_9, wr_10, wr_11, wr_12, wr_13, wr_14, wr_15, wr_16, wr_17, wr_18, wr_19, wr_20, wr_21, wr_22, wr_23, wr_24, wr_25, wr_26, wr_27, wr_28, wr_29, wr_30, wr_31, wr_32, wr_33, wr_34, wr_35, wr_36, wr_37, wr_38, wr_39, wr_40, wr_41, wr_42, wr_43, wr_44, wr_45, wr_46, wr_47, wr_48, wr_49, wr_50, wr_51, wr_52, wr_53, wr_54, wr_55, wr_56, wr_57, wr_58, wr_59, wr_60, wr_61, wr_62, wr_63, wr_99, wr_100, wr_192, wr_255, wr_256, wr_343, wr_999, wr_1000, wr_2401, wr_2147483647, wr_65535, wr_m1, wr_m2, wr_m3, wr_m4, wr_m9, ak_1000, ak_1001, ak_1002, ak_0, ak_1, ak_2, ak_3, ak_4, ak_5, ak_6, ak_7, ak_8, ak_9, ak_10, ak_11, ak_12, ak_13, ak_14, ak_15, ak_16, ak_17, ak_18, ak_19, ak_20, ak_21, ak_22, ak_23, ak_24, ak_25, ak_26, ak_27, ak_28, ak_29, ak_30, ak_31, ak_32, ak_33, ak_34, ak_35, ak_36, ak_37, ak_38, ak_39, ak_40, ak_41, ak_42, ak_43, ak_44, ak_45, ak_46, ak_47, p1, ww, a1]
      · have a2 : ¬ w ≤ 2 := by omega
        (refine am_fnI (tb := tb_X5_would) (n := 60) (Nat.le_of_ble_eq_true rfl) (Nat.le_of_ble_eq_true rfl) ?_; show rx_X5_would 60 0 _ _ _ = _)
        simp [↓ri_X5_would, rs_X5_would_0, rs_X5_would_1, rs_X5_would_2, rs_X5_would_5, rs_X5_would_8, rs_X5_would_9, rs_X5_would_12, rs_X5_would_13, rs_X5_would_14, rs_X5_would_17, rs_X5_would_20, rs_X5_would_21, rs_X5_would_24, rs_X5_would_25, rs_X5_would_28, rs_X5_would_31, rs_X5_would_32, rs_X5_would_33, rs_X5_would_36, rs_X5_would_39, rs_X5_would_42, rs_X5_would_43, rs_X5_would_46, rs_X5_would_47, rs_X5_would_50, rs_X5_would_54, rs_X5_would_55, rs_X5_would_56, rs_X5_would_59, rs_X5_would_60, rs_X5_would_63, rs_X5_would_67, rs_X5_would_68, rs_X5_would_71, rs_X5_would_74, rs_X5_would_75, rs_X5_would_76, rs_X5_would_79, rs_X5_would_82, rs_X5_would_19, rs_X5_would_53, rs_X5_would_66, rs_X5_would_85, -List.getElem?_eq_getElem, am_js, am_e, am_in, am_sl, rI, rZ, rV, rJ, rA, rC, kI, kJ, kR, am_one, am_nl, am_w8, tIc, tLc, tNul, tIld, tLld, tAld, tIst, tLst, tAst, tIinc, tI2, tDv, tL2, tLrem, tLs, tLcmp, tI2l, tL2i, tI2c, tDup, tDup2, tPop, tGo, tIfeq, tIfne, tIflt, tIfge, tIfgt, tIfle, tCmeq, tCmne, tCmlt, tCmge, tCmgt, tCmle, tNu, tTs, tGf, tPf, tGs, tIal, tIas, tBal, tBas, tAln, tSv, tSc, tSb, tSl, tSk, tCv, tCs, tCt, tMx, tMn, wr_10000, wr_100000, wr_1000000, wr_10000000, wr_100000000, wr_2400, wr_9999, wr_0, wr_1, wr_2, wr_3, wr_4, wr_5, wr_6, wr_7, wr_8, wr_9, wr_10, wr_11, wr_12, wr_13, wr_14, wr_15, wr_16, wr_17, wr_18, wr_19, wr_20, wr_21, wr_22, wr_23, wr_24, wr_25, wr_26, wr_27, wr_28, wr_29, wr_30, wr_31, wr_32, wr_33, wr_34, wr_35, wr_36, wr_37, wr_38, wr_39, wr_40, wr_41, wr_42, wr_43, wr_44, wr_45, wr_46, wr_47, wr_48, wr_49, wr_50, wr_51, wr_52, wr_53, wr_54, wr_55, wr_56, wr_57, wr_58, wr_59, wr_60, wr_61, wr_62, wr_63, wr_99, wr_100, wr_192, wr_255, wr_256, wr_343, wr_999, wr_1000, wr_2401, wr_2147483647, wr_65535, wr_m1, wr_m2, wr_m3, wr_m4, wr_m9, ak_1000, ak_1001, ak_1002, ak_0, ak_1, ak_2, ak_3, ak_4, ak_5, ak_6, ak_7, ak_8, ak_9, ak_10, ak_11, ak_12, ak_13, ak_14, ak_15, ak_16, ak_17, ak_18, ak_19, ak_20, ak_21, ak_22, ak_23, ak_24, ak_25, ak_26, ak_27, ak_28, ak_29, ak_30, ak_31, ak_32, ak_33, ak_34, ak_35, ak_36, ak_37, ak_38, ak_39, ak_40, ak_41, ak_42, ak_43, ak_44, ak_45, ak_46, ak_47, p1, ww, a1, a2]
  · rw [if_neg hR] at p1
    rw [if_neg (fun z => hR z.1)]
    (refine am_fnI (tb := tb_X5_would) (n := 60) (Nat.le_of_ble_eq_true rfl) (Nat.le_of_ble_eq_true rfl) ?_; show rx_X5_would 60 0 _ _ _ = _)
    simp [↓ri_X5_would, rs_X5_would_0, rs_X5_would_1, rs_X5_would_2, rs_X5_would_5, rs_X5_would_8, rs_X5_would_9, rs_X5_would_12, rs_X5_would_13, rs_X5_would_14, rs_X5_would_17, rs_X5_would_20, rs_X5_would_21, rs_X5_would_24, rs_X5_would_25, rs_X5_would_28, rs_X5_would_31, rs_X5_would_32, rs_X5_would_33, rs_X5_would_36, rs_X5_would_39, rs_X5_would_42, rs_X5_would_43, rs_X5_would_46, rs_X5_would_47, rs_X5_would_50, rs_X5_would_54, rs_X5_would_55, rs_X5_would_56, rs_X5_would_59, rs_X5_would_60, rs_X5_would_63, rs_X5_would_67, rs_X5_would_68, rs_X5_would_71, rs_X5_would_74, rs_X5_would_75, rs_X5_would_76, rs_X5_would_79, rs_X5_would_82, rs_X5_would_19, rs_X5_would_53, rs_X5_would_66, rs_X5_would_85, -List.getElem?_eq_getElem, am_js, am_e, am_in, am_sl, rI, rZ, rV, rJ, rA, rC, kI, kJ, kR, am_one, am_nl, am_w8, tIc, tLc, tNul, tIld, tLld, tAld, tIst, tLst, tAst, tIinc, tI2, tDv, tL2, tLrem, tLs, tLcmp, tI2l, tL2i, tI2c, tDup, tDup2, tPop, tGo, tIfeq, tIfne, tIflt, tIfge, tIfgt, tIfle, tCmeq, tCmne, tCmlt, tCmge, tCmgt, tCmle, tNu, tTs, tGf, tPf, tGs, tIal, tIas, tBal, tBas, tAln, tSv, tSc, tSb, tSl, tSk, tCv, tCs, tCt, tMx, tMn, wr_10000, wr_100000, wr_1000000, wr_10000000, wr_100000000, wr_2400, wr_9999, wr_0, wr_1, wr_2, wr_3, wr_4, wr_5, wr_6, wr_7, wr_8, wr_9, wr_10, wr_11, wr_12, wr_13, wr_14, wr_15, wr_16, wr_17, wr_18, wr_19, wr_20, wr_21, wr_22, wr_23, wr_24, wr_25, wr_26, wr_27, wr_28, wr_29, wr_30, wr_31, wr_32, wr_33, wr_34, wr_35, wr_36, wr_37, wr_38, wr_39, wr_40, wr_41, wr_42, wr_43, wr_44, wr_45, wr_46, wr_47, wr_48, wr_49, wr_50, wr_51, wr_52, wr_53, wr_54, wr_55, wr_56, wr_57, wr_58, wr_59, wr_60, wr_61, wr_62, wr_63, wr_99, wr_100, wr_192, wr_255, wr_256, wr_343, wr_999, wr_1000, wr_2401, wr_2147483647, wr_65535, wr_m1, wr_m2, wr_m3, wr_m4, wr_m9, ak_1000, ak_1001, ak_1002, ak_0, ak_1, ak_2, ak_3, ak_4, ak_5, ak_6, ak_7, ak_8, ak_9, ak_10, ak_11, ak_12, ak_13, ak_14, ak_15, ak_16, ak_17, ak_18, ak_19, ak_20, ak_21, ak_22, ak_23, ak_24, ak_25, ak_26, ak_27, ak_28, ak_29, ak_30, ak_31, ak_32, ak_33, ak_34, ak_35, ak_36, ak_37, ak_38, ak_39, ak_40, ak_41, ak_42, ak_43, ak_44, ak_45, ak_46, ak_47, p1]
end
