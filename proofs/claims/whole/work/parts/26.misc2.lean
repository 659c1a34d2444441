noncomputable section
/-- the screws' cells -/
def HT (M : List AC) (v : F4) : Prop := M[24]? = some (aO 2 [vR 25]) ∧ M[25]? = some (aI (l4 v))
abbrev mi_X2_loosen : Mi := (yX2_loosen, cX2_loosen, 2, none, 1)
theorem mf_X2_loosen : am_mf mi_X2_loosen 0 := ⟨w_co_X2_loosen, w_in_X2, ⟨by decide +kernel, by decide +kernel⟩, by decide +kernel, by decide⟩
def tb_X2_loosen : List (Nat × Tr) := [(0, tIc 0 1), (1, tIst 1 1), (2, tIld 1 1), (3, tIc 4 1), (4, tCmge 20), (7, tAld 0 1), (8, tGf 2 0), (11, tIld 1 1), (12, tIc 0 1), (13, tIas), (14, tIinc 1 1), (17, tGo 2)]
theorem ok_X2_loosen : Tok mi_X2_loosen tb_X2_loosen :=
  Tc (sd_iconst rfl dX2_loosen_0) <|
  Tc (sd_istore_n dX2_loosen_1) <|
  Tc (sd_iload_n dX2_loosen_2) <|
  Tc (sd_iconst rfl dX2_loosen_3) <|
  Tc (sd_cm_ge (by decide) dX2_loosen_4) <|
  Tc (sd_aload_n dX2_loosen_7) <|
  Tc (sd_getf (T := TX2) rfl giX2 (by decide) w_fl_X2_9 dX2_loosen_8) <|
  Tc (sd_iload_n dX2_loosen_11) <|
  Tc (sd_iconst rfl dX2_loosen_12) <|
  Tc (sd_ias dX2_loosen_13) <|
  Tc (sd_iinc dX2_loosen_14) <|
  Tc (sd_goto (by decide) dX2_loosen_17) <|
  Tn
theorem rk_X2_loosen : Rok mi_X2_loosen rV [20] := rk_v dX2_loosen_20 <| rk_n
def rx_X2_loosen : Nat → Nat → AL → List AV → List AC → Option (Option AV × List AC) := am_r tb_X2_loosen rV [20]
theorem rs_X2_loosen_0 (n : Nat) (L : AL) (st : List AV) (M : List AC) : rx_X2_loosen (n + 1) 0 L st M = am_j (rx_X2_loosen n) ((tIc 0 1) 0 L st M) := rfl
theorem rs_X2_loosen_1 (n : Nat) (L : AL) (st : List AV) (M : List AC) : rx_X2_loosen (n + 1) 1 L st M = am_j (rx_X2_loosen n) ((tIst 1 1) 1 L st M) := rfl
theorem rs_X2_loosen_2 (n : Nat) (L : AL) (st : List AV) (M : List AC) : rx_X2_loosen (n + 1) 2 L st M = am_j (rx_X2_loosen n) ((tIld 1 1) 2 L st M) := rfl
theorem rs_X2_loosen_3 (n : Nat) (L : AL) (st : List AV) (M : List AC) : rx_X2_loosen (n + 1) 3 L st M = am_j (rx_X2_loosen n) ((tIc 4 1) 3 L st M) := rfl
theorem rs_X2_loosen_4 (n : Nat) (L : AL) (st : List AV) (M : List AC) : rx_X2_loosen (n + 1) 4 L st M = am_j (rx_X2_loosen n) ((tCmge 20) 4 L st M) := rfl
theorem rs_X2_loosen_7 (n : Nat) (L : AL) (st : List AV) (M : List AC) : rx_X2_loosen (n + 1) 7 L st M = am_j (rx_X2_loosen n) ((tAld 0 1) 7 L st M) := rfl
theorem rs_X2_loosen_8 (n : Nat) (L : AL) (st : List AV) (M : List AC) : rx_X2_loosen (n + 1) 8 L st M = am_j (rx_X2_loosen n) ((tGf 2 0) 8 L st M) := rfl
theorem rs_X2_loosen_11 (n : Nat) (L : AL) (st : List AV) (M : List AC) : rx_X2_loosen (n + 1) 11 L st M = am_j (rx_X2_loosen n) ((tIld 1 1) 11 L st M) := rfl
theorem rs_X2_loosen_12 (n : Nat) (L : AL) (st : List AV) (M : List AC) : rx_X2_loosen (n + 1) 12 L st M = am_j (rx_X2_loosen n) ((tIc 0 1) 12 L st M) := rfl
theorem rs_X2_loosen_13 (n : Nat) (L : AL) (st : List AV) (M : List AC) : rx_X2_loosen (n + 1) 13 L st M = am_j (rx_X2_loosen n) (tIas 13 L st M) := rfl
theorem rs_X2_loosen_14 (n : Nat) (L : AL) (st : List AV) (M : List AC) : rx_X2_loosen (n + 1) 14 L st M = am_j (rx_X2_loosen n) ((tIinc 1 1) 14 L st M) := rfl
theorem rs_X2_loosen_17 (n : Nat) (L : AL) (st : List AV) (M : List AC) : rx_X2_loosen (n + 1) 17 L st M = am_j (rx_X2_loosen n) ((tGo 2) 17 L st M) := rfl
theorem rs_X2_loosen_20 (n : Nat) (L : AL) (st : List AV) (M : List AC) : rx_X2_loosen (n + 1) 20 L st M = am_e rV st M := rfl
theorem ri_X2_loosen (c : Prop) [Decidable c] (p q n : Nat) (L : AL) (st : List AV) (M : List AC) : rx_X2_loosen n (if c then p else q) L st M = if c then rx_X2_loosen n p L st M else rx_X2_loosen n q L st M := by split <;> rfl
theorem rm_X2_loosen {n k pc : Nat} {L : AL} {st : List AV} {M : List AC} {x : Option AV × List AC} (h : rx_X2_loosen n pc L st M = some x) (hk : n ≤ k) : rx_X2_loosen k pc L st M = some x := am_r_mono n k h hk
def fn_X2_loosen : Fn := am_fn rx_X2_loosen 2
theorem fok_X2_loosen : Fok mi_X2_loosen fn_X2_loosen := fun _ _ _ _ h => am_fok ok_X2_loosen rk_X2_loosen rfl h
theorem sp_X2_loosen {M : List AC} {v : F4} (h : HT M v) : fn_X2_loosen [vR 24] M = some (none, M.set 25 (aI (l4 (0, 0, 0, 0)))) := by
  obtain ⟨h0, h1⟩ := h
  (refine am_fnI (tb := tb_X2_loosen) (n := 90) (Nat.le_of_ble_eq_true rfl) (Nat.le_of_ble_eq_true rfl) ?_; show rx_X2_loosen 90 0 _ _ _ = _)
  simp [↓ri_X2_loosen, rs_X2_loosen_0, rs_X2_loosen_1, rs_X2_loosen_2, rs_X2_loosen_3, rs_X2_loosen_4, rs_X2_loosen_7, rs_X2_loosen_8, rs_X2_loosen_11, rs_X2_loosen_12, rs_X2_loosen_13, rs_X2_loosen_14, rs_X2_loosen_17, rs_X2_loosen_20, -List.getElem?_eq_getElem, am_js, am_e, am_in, am_sl, rI, rZ, rV, rJ, rA, rC, kI, kJ, kR, am_one, am_nl, am_w8, tIc, tLc, tNul, tIld, tLld, tAld, tIst, tLst, tAst, tIinc, tI2, tDv, tL2, tLrem, tLs, tLcmp, tI2l, tL2i, tI2c, tDup, tDup2, tPop, tGo, tIfeq, tIfne, tIflt, tIfge, tIfgt, tIfle, tCmeq, tCmne, tCmlt, tCmge, tCmgt, tCmle, tNu, tTs, tGf, tPf, tGs, tIal, tIas, tBal, tBas, tAln, tSv, tSc, tSb, tSl, tSk, tCv, tCs, tCt, tMx, tMn, wr_10000, wr_100000, wr_1000000, wr_10000000, wr_100000000, wr_2400, wr_9999, wr_0, wr_1, wr_2, wr_3, wr_4, wr_5, wr_6, wr_7, wr_8, wr_9, wr_10, wr_11, wr_12, wr_13, wr_14, wr_15, wr_16, wr_17, wr_18, wr_19, wr_20, wr_21, wr_22, wr_23, wr_24, wr_25, wr_26, wr_27, wr_28, wr_29, wr_30, wr_31, wr_32, wr_33, wr_34, wr_35, wr_36, wr_37, wr_38, wr_39, wr_40, wr_41, wr_42, wr_43, wr_44, wr_45, wr_46, wr_47, wr_48, wr_49, wr_50, wr_51, wr_52, wr_53, wr_54, wr_55, wr_56, wr_57, wr_58, wr_59, wr_60, wr_61, wr_62, wr_63, wr_99, wr_100, wr_192, wr_255, wr_256, wr_343, wr_999, wr_1000, wr_2401, wr_2147483647, wr_65535, wr_m1, wr_m2, wr_m3, wr_m4, wr_m9, ak_1000, ak_1001, ak_1002, ak_0, ak_1, ak_2, ak_3, ak_4, ak_5, ak_6, ak_7, ak_8, ak_9, ak_10, ak_11, ak_12, ak_13, ak_14, ak_15, ak_16, ak_17, ak_18, ak_19, ak_20, ak_21, ak_22, ak_23, ak_24, ak_25, ak_26, ak_27, ak_28, ak_29, ak_30, ak_31, ak_32, ak_33, ak_34, ak_35, ak_36, ak_37, ak_38, ak_39, ak_40, ak_41, ak_42, ak_43, ak_44, ak_45, ak_46, ak_47, h0, h1, gs h1]
abbrev mi_X2_giveWay : Mi := (yX2_giveWay, cX2_giveWay, 2, none, 1)
theorem mf_X2_giveWay : am_mf mi_X2_giveWay 1 := ⟨w_co_X2_giveWay, w_in_X2, ⟨by decide +kernel, by decide +kernel⟩, by decide +kernel, by decide⟩
def tb_X2_giveWay : List (Nat × Tr) := [(0, tAld 0 1), (1, tGf 2 0), (4, tIld 1 1), (5, tAld 0 1), (6, tGf 2 0), (9, tIld 1 1), (10, tIal), (11, tIfle 25), (14, tAld 0 1), (15, tGf 2 0), (18, tIld 1 1), (19, tIal), (20, tIc 1 1), (21, tI2 (fun a b => a - b)), (22, tGo 26), (25, tIc 0 1), (26, tIas)]
theorem ok_X2_giveWay : Tok mi_X2_giveWay tb_X2_giveWay :=
  Tc (sd_aload_n dX2_giveWay_0) <|
  Tc (sd_getf (T := TX2) rfl giX2 (by decide) w_fl_X2_9 dX2_giveWay_1) <|
  Tc (sd_iload_n dX2_giveWay_4) <|
  Tc (sd_aload_n dX2_giveWay_5) <|
  Tc (sd_getf (T := TX2) rfl giX2 (by decide) w_fl_X2_9 dX2_giveWay_6) <|
  Tc (sd_iload_n dX2_giveWay_9) <|
  Tc (sd_ial dX2_giveWay_10) <|
  Tc (sd_if_le (by decide) dX2_giveWay_11) <|
  Tc (sd_aload_n dX2_giveWay_14) <|
  Tc (sd_getf (T := TX2) rfl giX2 (by decide) w_fl_X2_9 dX2_giveWay_15) <|
  Tc (sd_iload_n dX2_giveWay_18) <|
  Tc (sd_ial dX2_giveWay_19) <|
  Tc (sd_iconst rfl dX2_giveWay_20) <|
  Tc (sd_isub dX2_giveWay_21) <|
  Tc (sd_goto (by decide) dX2_giveWay_22) <|
  Tc (sd_iconst rfl dX2_giveWay_25) <|
  Tc (sd_ias dX2_giveWay_26) <|
  Tn
theorem rk_X2_giveWay : Rok mi_X2_giveWay rV [27] := rk_v dX2_giveWay_27 <| rk_n
def rx_X2_giveWay : Nat → Nat → AL → List AV → List AC → Option (Option AV × List AC) := am_r tb_X2_giveWay rV [27]
theorem rs_X2_giveWay_0 (n : Nat) (L : AL) (st : List AV) (M : List AC) : rx_X2_giveWay (n + 1) 0 L st M = am_j (rx_X2_giveWay n) ((tAld 0 1) 0 L st M) := rfl
theorem rs_X2_giveWay_1 (n : Nat) (L : AL) (st : List AV) (M : List AC) : rx_X2_giveWay (n + 1) 1 L st M = am_j (rx_X2_giveWay n) ((tGf 2 0) 1 L st M) := rfl
theorem rs_X2_giveWay_4 (n : Nat) (L : AL) (st : List AV) (M : List AC) : rx_X2_giveWay (n + 1) 4 L st M = am_j (rx_X2_giveWay n) ((tIld 1 1) 4 L st M) := rfl
theorem rs_X2_giveWay_5 (n : Nat) (L : AL) (st : List AV) (M : List AC) : rx_X2_giveWay (n + 1) 5 L st M = am_j (rx_X2_giveWay n) ((tAld 0 1) 5 L st M) := rfl
theorem rs_X2_giveWay_6 (n : Nat) (L : AL) (st : List AV) (M : List AC) : rx_X2_giveWay (n + 1) 6 L st M = am_j (rx_X2_giveWay n) ((tGf 2 0) 6 L st M) := rfl
theorem rs_X2_giveWay_9 (n : Nat) (L : AL) (st : List AV) (M : List AC) : rx_X2_giveWay (n + 1) 9 L st M = am_j (rx_X2_giveWay n) ((tIld 1 1) 9 L st M) := rfl
theorem rs_X2_giveWay_10 (n : Nat) (L : AL) (st : List AV) (M : List AC) : rx_X2_giveWay (n + 1) 10 L st M = am_j (rx_X2_giveWay n) (tIal 10 L st M) := rfl
theorem rs_X2_giveWay_11 (n : Nat) (L : AL) (st : List AV) (M : List AC) : rx_X2_giveWay (n + 1) 11 L st M = am_j (rx_X2_giveWay n) ((tIfle 25) 11 L st M) := rfl
theorem rs_X2_giveWay_14 (n : Nat) (L : AL) (st : List AV) (M : List AC) : rx_X2_giveWay (n + 1) 14 L st M = am_j (rx_X2_giveWay n) ((tAld 0 1) 14 L st M) := rfl
theorem rs_X2_giveWay_15 (n : Nat) (L : AL) (st : List AV) (M : List AC) : rx_X2_giveWay (n + 1) 15 L st M = am_j (rx_X2_giveWay n) ((tGf 2 0) 15 L st M) := rfl
theorem rs_X2_giveWay_18 (n : Nat) (L : AL) (st : List AV) (M : List AC) : rx_X2_giveWay (n + 1) 18 L st M = am_j (rx_X2_giveWay n) ((tIld 1 1) 18 L st M) := rfl
theorem rs_X2_giveWay_19 (n : Nat) (L : AL) (st : List AV) (M : List AC) : rx_X2_giveWay (n + 1) 19 L st M = am_j (rx_X2_giveWay n) (tIal 19 L st M) := rfl
theorem rs_X2_giveWay_20 (n : Nat) (L : AL) (st : List AV) (M : List AC) : rx_X2_giveWay (n + 1) 20 L st M = am_j (rx_X2_giveWay n) ((tIc 1 1) 20 L st M) := rfl
theorem rs_X2_giveWay_21 (n : Nat) (L : AL) (st : List AV) (M : List AC) : rx_X2_giveWay (n + 1) 21 L st M = am_j (rx_X2_giveWay n) ((tI2 (fun a b => a - b)) 21 L st M) := rfl
theorem rs_X2_giveWay_22 (n : Nat) (L : AL) (st : List AV) (M : List AC) : rx_X2_giveWay (n + 1) 22 L st M = am_j (rx_X2_giveWay n) ((tGo 26) 22 L st M) := rfl
theorem rs_X2_giveWay_25 (n : Nat) (L : AL) (st : List AV) (M : List AC) : rx_X2_giveWay (n + 1) 25 L st M = am_j (rx_X2_giveWay n) ((tIc 0 1) 25 L st M) := rfl
theorem rs_X2_giveWay_26 (n : Nat) (L : AL) (st : List AV) (M : List AC) : rx_X2_giveWay (n + 1) 26 L st M = am_j (rx_X2_giveWay n) (tIas 26 L st M) := rfl
theorem rs_X2_giveWay_27 (n : Nat) (L : AL) (st : List AV) (M : List AC) : rx_X2_giveWay (n + 1) 27 L st M = am_e rV st M := rfl
theorem ri_X2_giveWay (c : Prop) [Decidable c] (p q n : Nat) (L : AL) (st : List AV) (M : List AC) : rx_X2_giveWay n (if c then p else q) L st M = if c then rx_X2_giveWay n p L st M else rx_X2_giveWay n q L st M := by split <;> rfl
theorem rm_X2_giveWay {n k pc : Nat} {L : AL} {st : List AV} {M : List AC} {x : Option AV × List AC} (h : rx_X2_giveWay n pc L st M = some x) (hk : n ≤ k) : rx_X2_giveWay k pc L st M = some x := am_r_mono n k h hk
def fn_X2_giveWay : Fn := am_fn rx_X2_giveWay 2
theorem fok_X2_giveWay : Fok mi_X2_giveWay fn_X2_giveWay := fun _ _ _ _ h => am_fok ok_X2_giveWay rk_X2_giveWay rfl h
theorem sp_X2_giveWay {M : List AC} {v : F4} (h : HT M v) (hv : i4 0 1000 v) (c : Int) (hc : 0 ≤ c ∧ c < 4) : fn_X2_giveWay [vR 24, vI c] M = some (none, M.set 25 (aI (l4 (s4 v c.toNat (wz (g4 v c.toNat)))))) := by
  obtain ⟨h0, h1⟩ := h
  obtain ⟨w0, w1, w2, w3⟩ := i4_wr hv (by decide) (by decide)
  (refine am_fnI (tb := tb_X2_giveWay) (n := 60) (Nat.le_of_ble_eq_true rfl) (Nat.le_of_ble_eq_true rfl) ?_; show rx_X2_giveWay 60 0 _ _ _ = _)
  rcases c4 hc with rfl | rfl | rfl | rfl
  · rcases ps v.1 with ⟨a, b⟩ | ⟨a, b⟩ <;> simp [↓ri_X2_giveWay, rs_X2_giveWay_0, rs_X2_giveWay_1, rs_X2_giveWay_4, rs_X2_giveWay_5, rs_X2_giveWay_6, rs_X2_giveWay_9, rs_X2_giveWay_10, rs_X2_giveWay_11, rs_X2_giveWay_14, rs_X2_giveWay_15, rs_X2_giveWay_18, rs_X2_giveWay_19, rs_X2_giveWay_20, rs_X2_giveWay_21, rs_X2_giveWay_22, rs_X2_giveWay_25, rs_X2_giveWay_26, rs_X2_giveWay_27, -List.getElem?_eq_getElem, am_js, am_e, am_in, am_sl, rI, rZ, rV, rJ, rA, rC, kI, kJ, kR, am_one, am_nl, am_w8, tIc, tLc, tNul, tIld, tLld, tAld, tIst, tLst, tAst, tIinc, tI2, tDv, tL2, tLrem, tLs, tLcmp, tI2l, tL2i, tI2c, tDup, tDup2, tPop, tGo, tIfeq, tIfne, tIflt, tIfge, tIfgt, tIfle, tCmeq, tCmne, tCmlt, tCmge, tCmgt, tCmle, tNu, tTs, tGf, tPf, tGs, tIal, tIas, tBal, tBas, tAln, tSv, tSc, tSb, tSl, tSk, tCv, tCs, tCt, tMx, tMn, wr_10000, wr_100000, wr_1000000, wr_10000000, wr_100000000, wr_2400, wr_9999, wr_0, wr_1, wr_2, wr_3, wr_4, wr_5, wr_6, wr_7, wr_8, wr_9, wr_10, wr_11, wr_12, wr_13, wr_14, wr_15, wr_16, wr_17, wr_18, wr_19, wr_20, wr_21, wr_22, wr_23, wr_24, wr_25, wr_26, wr_27, wr_28, wr_29, wr_30, wr_31, wr_32, wr_33, wr_34, wr_35, wr_36, wr_37, wr_38, wr_39, wr_40, wr_41, wr_42, wr_43, wr_44, wr_45, wr_46, wr_47, wr_48, wr_49, wr_50, wr_51, wr_52, wr_53, wr_54, wr_55, wr_56, wr_57, wr_58, wr_59, wr_60, wr_61, wr_62, wr_63, wr_99, wr_100, wr_192, wr_255, wr_256, wr_343, wr_999, wr_1000, wr_2401, wr_2147483647, wr_65535, wr_m1, wr_m2, wr_m3, wr_m4, wr_m9, ak_1000, ak_1001, ak_1002, ak_0, ak_1, ak_2, ak_3, ak_4, ak_5, ak_6, ak_7, ak_8, ak_9, ak_10, ak_11, ak_12, ak_13, ak_14, ak_15, ak_16, ak_17, ak_18, ak_19, ak_20, ak_21, ak_22, ak_23, ak_24, ak_25, ak_26, ak_27, ak_28, ak_29, ak_30, ak_31, ak_32, ak_33, ak_34, ak_35, ak_36, ak_37, ak_38, ak_39, ak_40, ak_41, ak_42, ak_43, ak_44, ak_45, ak_46, ak_47, h0, h1, w0, a, b, g4, s4, wz]
  · rcases ps v.2.1 with ⟨a, b⟩ | ⟨a, b⟩ <;> simp [↓ri_X2_giveWay, rs_X2_giveWay_0, rs_X2_giveWay_1, rs_X2_giveWay_4, rs_X2_giveWay_5, rs_X2_giveWay_6, rs_X2_giveWay_9, rs_X2_giveWay_10, rs_X2_giveWay_11, rs_X2_giveWay_14, rs_X2_giveWay_15, rs_X2_giveWay_18, rs_X2_giveWay_19, rs_X2_giveWay_20, rs_X2_giveWay_21, rs_X2_giveWay_22, rs_X2_giveWay_25, rs_X2_giveWay_26, rs_X2_giveWay_27, -List.getElem?_eq_getElem, am_js, am_e, am_in, am_sl, rI, rZ, rV, rJ, rA, rC, kI, kJ, kR, am_one, am_nl, am_w8, tIc, tLc, tNul, tIld, tLld, tAld, tIst, tLst, tAst, tIinc, tI2, tDv, tL2, tLrem, tLs, tLcmp, tI2l, tL2i, tI2c, tDup, tDup2, tPop, tGo, tIfeq, tIfne, tIflt, tIfge, tIfgt, tIfle, tCmeq, tCmne, tCmlt, tCmge, tCmgt, tCmle, tNu, tTs, tGf, tPf, tGs, tIal, tIas, tBal, tBas, tAln, tSv, tSc, tSb, tSl, tSk, tCv, tCs, tCt, tMx, tMn, wr_10000, wr_100000, wr_1000000, wr_10000000, wr_100000000, wr_2400, wr_9999, wr_0, wr_1, wr_2, wr_3, wr_4, wr_5, wr_6, wr_7, wr_8, wr_9, wr_10, wr_11, wr_12, wr_13, wr_14, wr_15, wr_16, wr_17, wr_18, wr_19, wr_20, wr_21, wr_22, wr_23, wr_24, wr_25, wr_26, wr_27, wr_28, wr_29, wr_30, wr_31, wr_32, wr_33, wr_34, wr_35, wr_36, wr_37, wr_38, wr_39, wr_40, wr_41, wr_42, wr_43, wr_44, wr_45, wr_46, wr_47, wr_48, wr_49, wr_50, wr_51, wr_52, wr_53, wr_54, wr_55, wr_56, wr_57, wr_58, wr_59, wr_60, wr_61, wr_62, wr_63, wr_99, wr_100, wr_192, wr_255, wr_256, wr_343, wr_999, wr_1000, wr_2401, wr_2147483647, wr_65535, wr_m1, wr_m2, wr_m3, wr_m4, wr_m9, ak_1000, ak_1001, ak_1002, ak_0, ak_1, ak_2, ak_3, ak_4, ak_5, ak_6, ak_7, ak_8, ak_9, ak_10, ak_11, ak_12, ak_13, ak_14, ak_15, ak_16, ak_17, ak_18, ak_19, ak_20, ak_21, ak_22, ak_23, ak_24, ak_25, ak_26, ak_27, ak_28, ak_29, ak_30, ak_31, ak_32, ak_33, ak_34, ak_35, ak_36, ak_37, ak_38, ak_39, ak_40, ak_41, ak_42, ak_43, ak_44, ak_45, ak_46, ak_47, h0, h1, w1, a, b, g4, s4, wz]
  · rcases ps v.2.2.1 with ⟨a, b⟩ | ⟨a, b⟩ <;> simp [↓ri_X2_giveWay, rs_X2_giveWay_0, rs_X2_giveWay_1, rs_X2_giveWay_4, rs_X2_giveWay_5, rs_X2_giveWay_6, rs_X2_giveWay_9, rs_X2_giveWay_10, rs_X2_giveWay_11, rs_X2_giveWay_14, rs_X2_giveWay_15, rs_X2_giveWay_18, rs_X2_giveWay_19, rs_X2_giveWay_20, rs_X2_giveWay_21, rs_X2_giveWay_22, rs_X2_giveWay_25, rs_X2_giveWay_26, rs_X2_giveWay_27, -List.getElem?_eq_getElem, am_js, am_e, am_in, am_sl, rI, rZ, rV, rJ, rA, rC, kI, kJ, kR, am_one, am_nl, am_w8, tIc, tLc, tNul, tIld, tLld, tAld, tIst, tLst, tAst, tIinc, tI2, tDv, tL2, tLrem, tLs, tLcmp, tI2l, tL2i, tI2c, tDup, tDup2, tPop, tGo, tIfeq, tIfne, tIflt, tIfge, tIfgt, tIfle, tCmeq, tCmne, tCmlt, tCmge, tCmgt, tCmle, tNu, tTs, tGf, tPf, tGs, tIal, tIas, tBal, tBas, tAln, tSv, tSc, tSb, tSl, tSk, tCv, tCs, tCt, tMx, tMn, wr_10000, wr_100000, wr_1000000, wr_10000000, wr_100000000, wr_2400, wr_9999, wr_0, wr_1, wr_2, wr_3, wr_4, wr_5, wr_6, wr_7, wr_8, wr_9, wr_10, wr_11, wr_12, wr_13, wr_14, wr_15, wr_16, wr_17, wr_18, wr_19, wr_20, wr_21, wr_22, wr_23, wr_24, wr_25, wr_26, wr_27, wr_28, wr_29, wr_30, wr_31, wr_32, wr_33, wr_34, wr_35, wr_36, wr_37, wr_38, wr_39, wr_40, wr_41, wr_42, wr_43, wr_44, wr_45, wr_46, wr_47, wr_48, wr_49, wr_50, wr_51, wr_52, wr_53, wr_54, wr_55, wr_56, wr_57, wr_58, wr_59, wr_60, wr_61, wr_62, wr_63, wr_99, wr_100, wr_192, wr_255, wr_256, wr_343, wr_999, wr_1000, wr_2401, wr_2147483647, wr_65535, wr_m1, wr_m2, wr_m3, wr_m4, wr_m9, ak_1000, ak_1001, ak_1002, ak_0, ak_1, ak_2, ak_3, ak_4, ak_5, ak_6, ak_7, ak_8, ak_9, ak_10, ak_11, ak_12, ak_13, ak_14, ak_15, ak_16, ak_17, ak_18, ak_19, ak_20, ak_21, ak_22, ak_23, ak_24, ak_25, ak_26, ak_27, ak_28, ak_29, ak_30, ak_31, ak_32, ak_33, ak_34, ak_35, ak_36, ak_37, ak_38, ak_39, ak_40, ak_41, ak_42, ak_43, ak_44, ak_45, ak_46, ak_47, h0, h1, w2, a, b, g4, s4, wz]
  · rcases ps v.2.2.2 with ⟨a, b⟩ | ⟨a, b⟩ <;> simp [↓ri_X2_giveWay, rs_X2_giveWay_0, rs_X2_giveWay_1, rs_X2_giveWay_4, rs_X2_giveWay_5, rs_X2_giveWay_6, rs_X2_giveWay_9, rs_X2_giveWay_10, rs_X2_giveWay_11, rs_X2_giveWay_14, rs_X2_giveWay_15, rs_X2_giveWay_18, rs_X2_giveWay_19, rs_X2_giveWay_20, rs_X2_giveWay_21, rs_X2_giveWay_22, rs_X2_giveWay_25, rs_X2_giveWay_26, rs_X2_giveWay_27, -List.getElem?_eq_getElem, am_js, am_e, am_in, am_sl, rI, rZ, rV, rJ, rA, rC, kI, kJ, kR, am_one, am_nl, am_w8, tIc, tLc, tNul, tIld, tLld, tAld, tIst, tLst, tAst, tIinc, tI2, tDv, tL2, tLrem, tLs, tLcmp, tI2l, tL2i, tI2c, tDup, tDup2, tPop, tGo, tIfeq, tIfne, tIflt, tIfge, tIfgt, tIfle, tCmeq, tCmne, tCmlt, tCmge, tCmgt, tCmle, tNu, tTs, tGf, tPf, tGs, tIal, tIas, tBal, tBas, tAln, tSv, tSc, tSb, tSl, tSk, tCv, tCs, tCt, tMx, tMn, wr_10000, wr_100000, wr_1000000, wr_10000000, wr_100000000, wr_2400, wr_9999, wr_0, wr_1, wr_2, wr_3, wr_4, wr_5, wr_6, wr_7, wr_8, wr_9, wr_10, wr_11, wr_12, wr_13, wr_14, wr_15, wr_16, wr_17, wr_18, wr_19, wr_20, wr_21, wr_22, wr_23, wr_24, wr_25, wr_26, wr_27, wr_28, wr_29, wr_30, wr_31, wr_32, wr_33, wr_34, wr_35, wr_36, wr_37, wr_38, wr_39, wr_40, wr_41, wr_42, wr_43, wr_44, wr_45, wr_46, wr_47, wr_48, wr_49, wr_50, wr_51, wr_52, wr_53, wr_54, wr_55, wr_56, wr_57, wr_58, wr_59, wr_60, wr_61, wr_62, wr_63, wr_99, wr_100, wr_192, wr_255, wr_256, wr_343, wr_999, wr_1000, wr_2401, wr_2147483647, wr_65535, wr_m1, wr_m2, wr_m3, wr_m4, wr_m9, ak_1000, ak_1001, ak_1002, ak_0, ak_1, ak_2, ak_3, ak_4, ak_5, ak_6, ak_7, ak_8, ak_9, ak_10, ak_11, ak_12, ak_13, ak_14, ak_15, ak_16, ak_17, ak_18, ak_19, ak_20, ak_21, ak_22, ak_23, ak_24, ak_25, ak_26, ak_27, ak_28, ak_29, ak_30, ak_31, ak_32, ak_33, ak_34, ak_35, ak_36, ak_37, ak_38, ak_39, ak_40, ak_41, ak_42, ak_43, ak_44, ak_45, ak_46, ak_47, h0, h1, w3, a, b, g4, s4, wz]
abbrev mi_X2_tighten : Mi := (yX2_tighten, cX2_tighten, 2, none, 2)
theorem mf_X2_tighten : am_mf mi_X2_tighten 1 := ⟨w_co_X2_tighten, w_in_X2, ⟨by decide +kernel, by decide +kernel⟩, by decide +kernel, by decide⟩
def tb_X2_tighten : List (Nat × Tr) := [(0, tIld 1 1), (1, tCs 1 fn_X5_isCorner), (4, tIfeq 37), (7, tAld 0 1), (8, tGf 2 0), (11, tIld 1 1), (12, tDup2), (13, tIal), (14, tIc 4 1), (15, tI2 (fun a b => a + b)), (16, tIas), (17, tAld 0 1), (18, tIld 1 1), (19, tIc 1 1), (20, tI2 (fun a b => a + b)), (21, tIc 4 1), (22, tDv Int.tmod), (23, tCv 2 1 fn_X2_giveWay), (26, tAld 0 1), (27, tIld 1 1), (28, tIc 4 1), (29, tI2 (fun a b => a + b)), (30, tIc 1 1), (31, tI2 (fun a b => a - b)), (32, tIc 4 1), (33, tDv Int.tmod), (34, tCv 2 1 fn_X2_giveWay)]
theorem ok_X2_tighten : Tok mi_X2_tighten tb_X2_tighten :=
  Tc (sd_iload_n dX2_tighten_0) <|
  Tc (sd_csN fok_X5_isCorner mf_X5_isCorner (List.mem_of_getElem? (i := 5) rfl) w_st_X5_isCorner (by decide) dX2_tighten_1) <|
  Tc (sd_if_eq (by decide) dX2_tighten_4) <|
  Tc (sd_aload_n dX2_tighten_7) <|
  Tc (sd_getf (T := TX2) rfl giX2 (by decide) w_fl_X2_9 dX2_tighten_8) <|
  Tc (sd_iload_n dX2_tighten_11) <|
  Tc (sd_dup2 dX2_tighten_12) <|
  Tc (sd_ial dX2_tighten_13) <|
  Tc (sd_iconst rfl dX2_tighten_14) <|
  Tc (sd_iadd dX2_tighten_15) <|
  Tc (sd_ias dX2_tighten_16) <|
  Tc (sd_aload_n dX2_tighten_17) <|
  Tc (sd_iload_n dX2_tighten_18) <|
  Tc (sd_iconst rfl dX2_tighten_19) <|
  Tc (sd_iadd dX2_tighten_20) <|
  Tc (sd_iconst rfl dX2_tighten_21) <|
  Tc (sd_irem dX2_tighten_22) <|
  Tc (sd_cv (T := TX2) fok_X2_giveWay mf_X2_giveWay rfl w_ml_X2_19 w_im_X2_giveWay w_se_X2_giveWay (by decide) dX2_tighten_23) <|
  Tc (sd_aload_n dX2_tighten_26) <|
  Tc (sd_iload_n dX2_tighten_27) <|
  Tc (sd_iconst rfl dX2_tighten_28) <|
  Tc (sd_iadd dX2_tighten_29) <|
  Tc (sd_iconst rfl dX2_tighten_30) <|
  Tc (sd_isub dX2_tighten_31) <|
  Tc (sd_iconst rfl dX2_tighten_32) <|
  Tc (sd_irem dX2_tighten_33) <|
  Tc (sd_cv (T := TX2) fok_X2_giveWay mf_X2_giveWay rfl w_ml_X2_19 w_im_X2_giveWay w_se_X2_giveWay (by decide) dX2_tighten_34) <|
  Tn
theorem rk_X2_tighten : Rok mi_X2_tighten rV [37] := rk_v dX2_tighten_37 <| rk_n
def rx_X2_tighten : Nat → Nat → AL → List AV → List AC → Option (Option AV × List AC) := am_r tb_X2_tighten rV [37]
theorem rs_X2_tighten_0 (n : Nat) (L : AL) (st : List AV) (M : List AC) : rx_X2_tighten (n + 1) 0 L st M = am_j (rx_X2_tighten n) ((tIld 1 1) 0 L st M) := rfl
theorem rs_X2_tighten_1 (n : Nat) (L : AL) (st : List AV) (M : List AC) : rx_X2_tighten (n + 1) 1 L st M = am_j (rx_X2_tighten n) ((tCs 1 fn_X5_isCorner) 1 L st M) := rfl
theorem rs_X2_tighten_4 (n : Nat) (L : AL) (st : List AV) (M : List AC) : rx_X2_tighten (n + 1) 4 L st M = am_j (rx_X2_tighten n) ((tIfeq 37) 4 L st M) := rfl
theorem rs_X2_tighten_7 (n : Nat) (L : AL) (st : List AV) (M : List AC) : rx_X2_tighten (n + 1) 7 L st M = am_j (rx_X2_tighten n) ((tAld 0 1) 7 L st M) := rfl
theorem rs_X2_tighten_8 (n : Nat) (L : AL) (st : List AV) (M : List AC) : rx_X2_tighten (n + 1) 8 L st M = am_j (rx_X2_tighten n) ((tGf 2 0) 8 L st M) := rfl
theorem rs_X2_tighten_11 (n : Nat) (L : AL) (st : List AV) (M : List AC) : rx_X2_tighten (n + 1) 11 L st M = am_j (rx_X2_tighten n) ((tIld 1 1) 11 L st M) := rfl
theorem rs_X2_tighten_12 (n : Nat) (L : AL) (st : List AV) (M : List AC) : rx_X2_tighten (n + 1) 12 L st M = am_j (rx_X2_tighten n) (tDup2 12 L st M) := rfl
theorem rs_X2_tighten_13 (n : Nat) (L : AL) (st : List AV) (M : List AC) : rx_X2_tighten (n + 1) 13 L st M = am_j (rx_X2_tighten n) (tIal 13 L st M) := rfl
theorem rs_X2_tighten_14 (n : Nat) (L : AL) (st : List AV) (M : List AC) : rx_X2_tighten (n + 1) 14 L st M = am_j (rx_X2_tighten n) ((tIc 4 1) 14 L st M) := rfl
theorem rs_X2_tighten_15 (n : Nat) (L : AL) (st : List AV) (M : List AC) : rx_X2_tighten (n + 1) 15 L st M = am_j (rx_X2_tighten n) ((tI2 (fun a b => a + b)) 15 L st M) := rfl
theorem rs_X2_tighten_16 (n : Nat) (L : AL) (st : List AV) (M : List AC) : rx_X2_tighten (n + 1) 16 L st M = am_j (rx_X2_tighten n) (tIas 16 L st M) := rfl
theorem rs_X2_tighten_17 (n : Nat) (L : AL) (st : List AV) (M : List AC) : rx_X2_tighten (n + 1) 17 L st M = am_j (rx_X2_tighten n) ((tAld 0 1) 17 L st M) := rfl
theorem rs_X2_tighten_18 (n : Nat) (L : AL) (st : List AV) (M : List AC) : rx_X2_tighten (n + 1) 18 L st M = am_j (rx_X2_tighten n) ((tIld 1 1) 18 L st M) := rfl
theorem rs_X2_tighten_19 (n : Nat) (L : AL) (st : List AV) (M : List AC) : rx_X2_tighten (n + 1) 19 L st M = am_j (rx_X2_tighten n) ((tIc 1 1) 19 L st M) := rfl
theorem rs_X2_tighten_20 (n : Nat) (L : AL) (st : List AV) (M : List AC) : rx_X2_tighten (n + 1) 20 L st M = am_j (rx_X2_tighten n) ((tI2 (fun a b => a + b)) 20 L st M) := rfl
theorem rs_X2_tighten_21 (n : Nat) (L : AL) (st : List AV) (M : List AC) : rx_X2_tighten (n + 1) 21 L st M = am_j (rx_X2_tighten n) ((tIc 4 1) 21 L st M) := rfl
theorem rs_X2_tighten_22 (n : Nat) (L : AL) (st : List AV) (M : List AC) : rx_X2_tighten (n + 1) 22 L st M = am_j (rx_X2_tighten n) ((tDv Int.tmod) 22 L st M) := rfl
theorem rs_X2_tighten_23 (n : Nat) (L : AL) (st : List AV) (M : List AC) : rx_X2_tighten (n + 1) 23 L st M = am_j (rx_X2_tighten n) ((tCv 2 1 fn_X2_giveWay) 23 L st M) := rfl
theorem rs_X2_tighten_26 (n : Nat) (L : AL) (st : List AV) (M : List AC) : rx_X2_tighten (n + 1) 26 L st M = am_j (rx_X2_tighten n) ((tAld 0 1) 26 L st M) := rfl
theorem rs_X2_tighten_27 (n : Nat) (L : AL) (st : List AV) (M : List AC) : rx_X2_tighten (n + 1) 27 L st M = am_j (rx_X2_tighten n) ((tIld 1 1) 27 L st M) := rfl
theorem rs_X2_tighten_28 (n : Nat) (L : AL) (st : List AV) (M : List AC) : rx_X2_tighten (n + 1) 28 L st M = am_j (rx_X2_tighten n) ((tIc 4 1) 28 L st M) := rfl
theorem rs_X2_tighten_29 (n : Nat) (L : AL) (st : List AV) (M : List AC) : rx_X2_tighten (n + 1) 29 L st M = am_j (rx_X2_tighten n) ((tI2 (fun a b => a + b)) 29 L st M) := rfl
theorem rs_X2_tighten_30 (n : Nat) (L : AL) (st : List AV) (M : List AC) : rx_X2_tighten (n + 1) 30 L st M = am_j (rx_X2_tighten n) ((tIc 1 1) 30 L st M) := rfl
theorem rs_X2_tighten_31 (n : Nat) (L : AL) (st : List AV) (M : List AC) : rx_X2_tighten (n + 1) 31 L st M = am_j (rx_X2_tighten n) ((tI2 (fun a b => a - b)) 31 L st M) := rfl
theorem rs_X2_tighten_32 (n : Nat) (L : AL) (st : List AV) (M : List AC) : rx_X2_tighten (n + 1) 32 L st M = am_j (rx_X2_tighten n) ((tIc 4 1) 32 L st M) := rfl
theorem rs_X2_tighten_33 (n : Nat) (L : AL) (st : List AV) (M : List AC) : rx_X2_tighten (n + 1) 33 L st M = am_j (rx_X2_tighten n) ((tDv Int.tmod) 33 L st M) := rfl
theorem rs_X2_tighten_34 (n : Nat) (L : AL) (st : List AV) (M : List AC) : rx_X2_tighten (n + 1) 34 L st M = am_j (rx_X2_tighten n) ((tCv 2 1 fn_X2_giveWay) 34 L st M) := rfl
theorem rs_X2_tighten_37 (n : Nat) (L : AL) (st : List AV) (M : List AC) : rx_X2_tighten (n + 1) 37 L st M = am_e rV st M := rfl
theorem ri_X2_tighten (c : Prop) [Decidable c] (p q n : Nat) (L : AL) (st : List AV) (M : List AC) : rx_X2_tighten n (if c then p else q) L st M = if c then rx_X2_tighten n p L st M else rx_X2_tighten n q L st M := by split <;> rfl
theorem rm_X2_tighten {n k pc : Nat} {L : AL} {st : List AV} {M : List AC} {x : Option AV × List AC} (h : rx_X2_tighten n pc L st M = some x) (hk : n ≤ k) : rx_X2_tighten k pc L st M = some x := am_r_mono n k h hk
def fn_X2_tighten : Fn := am_fn rx_X2_tighten 2
theorem fok_X2_tighten : Fok mi_X2_tighten fn_X2_tighten := fun _ _ _ _ h => am_fok ok_X2_tighten rk_X2_tighten rfl h
def tg (v : F4) (c : Nat) : F4 := match c with
  | 0 => (v.1 + 4, wz v.2.1, v.2.2.1, wz v.2.2.2)
  | 1 => (wz v.1, v.2.1 + 4, wz v.2.2.1, v.2.2.2)
  | 2 => (v.1, wz v.2.1, v.2.2.1 + 4, wz v.2.2.2)
  | _ => (wz v.1, v.2.1, wz v.2.2.1, v.2.2.2 + 4)
theorem wz_rng {x X : Int} (h : 0 ≤ x ∧ x ≤ X) : 0 ≤ wz x ∧ wz x ≤ X := by unfold wz; split <;> omega
theorem tg_rng {v : F4} {X : Int} (h : i4 0 X v) (c : Nat) : i4 0 (X + 4) (tg v c) := by
  obtain ⟨a, b, c', d⟩ := h
  have a1 := wz_rng a
  have b1 := wz_rng b
  have c1 := wz_rng c'
  have d1 := wz_rng d
  unfold tg
  split
  · exact ⟨⟨by dsimp only; omega, by dsimp only; omega⟩, ⟨b1.1, by dsimp only; omega⟩, ⟨c'.1, by dsimp only; omega⟩, ⟨d1.1, by dsimp only; omega⟩⟩
  · exact ⟨⟨a1.1, by dsimp only; omega⟩, ⟨by dsimp only; omega, by dsimp only; omega⟩, ⟨c1.1, by dsimp only; omega⟩, ⟨d.1, by dsimp only; omega⟩⟩
  · exact ⟨⟨a.1, by dsimp only; omega⟩, ⟨b1.1, by dsimp only; omega⟩, ⟨by dsimp only; omega, by dsimp only; omega⟩, ⟨d1.1, by dsimp only; omega⟩⟩
  · exact ⟨⟨a1.1, by dsimp only; omega⟩, ⟨b.1, by dsimp only; omega⟩, ⟨c1.1, by dsimp only; omega⟩, ⟨by dsimp only; omega, by dsimp only; omega⟩⟩
theorem HT.set {M : List AC} {v : F4} (h : HT M v) (v' : F4) : HT (M.set 25 (aI (l4 v'))) v' := ⟨by rw [List.getElem?_set_ne (by decide)]; exact h.1, List.getElem?_set_self (len_of h.2)⟩
theorem sp_X2_tighten {M : List AC} {v : F4} (h : HT M v) (hv : i4 0 900 v) (c : Int) (hc : 0 ≤ c ∧ c < 4) : fn_X2_tighten [vR 24, vI c] M = some (none, M.set 25 (aI (l4 (tg v c.toNat)))) := by
  obtain ⟨h0, h1⟩ := id h
  have r0 : ∀ q : Nat, i4 0 1000 (s4 v q (g4 v q + 4)) := fun q => by
    have a := i4_g hv q
    exact i4_s ⟨⟨hv.1.1, by omega⟩, ⟨hv.2.1.1, by omega⟩, ⟨hv.2.2.1.1, by omega⟩, ⟨hv.2.2.2.1, by omega⟩⟩ q (by omega) (by omega)
  have k1 : ∀ (q : Nat) (e : Int), 0 ≤ e ∧ e < 4 → i4 0 1000 (s4 (s4 v q (g4 v q + 4)) e.toNat (wz (g4 (s4 v q (g4 v q + 4)) e.toNat))) := fun q e he => by
    have a := wz_rng (i4_g (r0 q) e.toNat)
    exact i4_s (r0 q) e.toNat a.1 a.2
  (refine am_fnI (tb := tb_X2_tighten) (n := 60) (Nat.le_of_ble_eq_true rfl) (Nat.le_of_ble_eq_true rfl) ?_; show rx_X2_tighten 60 0 _ _ _ = _)
  rcases c4 hc with rfl | rfl | rfl | rfl
  · have g1 := sp_X2_giveWay (h.set (s4 v 0 (g4 v 0 + 4))) (r0 0) 1 (by omega)
    rw [List.set_set] at g1
    have g2 := sp_X2_giveWay (h.set _) (k1 0 1 (by omega)) 3 (by omega)
    rw [List.set_set] at g2
    simp [g4, s4] at g1 g2
    simp [↓ri_X2_tighten, rs_X2_tighten_0, rs_X2_tighten_1, rs_X2_tighten_4, rs_X2_tighten_7, rs_X2_tighten_8, rs_X2_tighten_11, rs_X2_tighten_12, rs_X2_tighten_13, rs_X2_tighten_14, rs_X2_tighten_15, rs_X2_tighten_16, rs_X2_tighten_17, rs_X2_tighten_18, rs_X2_tighten_19, rs_X2_tighten_20, rs_X2_tighten_21, rs_X2_tighten_22, rs_X2_tighten_23, rs_X2_tighten_26, rs_X2_tighten_27, rs_X2_tighten_28, rs_X2_tighten_29, rs_X2_tighten_30, rs_X2_tighten_31, rs_X2_tighten_32, rs_X2_tighten_33, rs_X2_tighten_34, rs_X2_tighten_37, -List.getElem?_eq_getElem, am_js, am_e, am_in, am_sl, rI, rZ, rV, rJ, rA, rC, kI, kJ, kR, am_one, am_nl, am_w8, tIc, tLc, tNul, tIld, tLld, tAld, tIst, tLst, tAst, tIinc, tI2, tDv, tL2, tLrem, tLs, tLcmp, tI2l, tL2i, tI2c, tDup, tDup2, tPop, tGo, tIfeq, tIfne, tIflt, tIfge, tIfgt, tIfle, tCmeq, tCmne, tCmlt, tCmge, tCmgt, tCmle, tNu, tTs, tGf, tPf, tGs, tIal, tIas, tBal, tBas, tAln, tSv, tSc, tSb, tSl, tSk, tCv, tCs, tCt, tMx, tMn, wr_10000, wr_100000, wr_1000000, wr_10000000, wr_100000000, wr_2400, wr_9999, wr_0, wr_1, wr_2, wr_3, wr_4, wr_5, wr_6, wr_7, wr_8, wr_9, wr_10, wr_11, wr_12, wr_13, wr_14, wr_15, wr_16, wr_17, wr_18, wr_19, wr_20, wr_21, wr_22, wr_23, wr_24, wr_25, wr_26, wr_27, wr_28, wr_29, wr_30, wr_31, wr_32, wr_33, wr_34, wr_35, wr_36, wr_37, wr_38, wr_39, wr_40, wr_41, wr_42, wr_43, wr_44, wr_45, wr_46, wr_47, wr_48, wr_49, wr_50, wr_51, wr_52, wr_53, wr_54, wr_55, wr_56, wr_57, wr_58, wr_59, wr_60, wr_61, wr_62, wr_63, wr_99, wr_100, wr_192, wr_255, wr_256, wr_343, wr_999, wr_1000, wr_2401, wr_2147483647, wr_65535, wr_m1, wr_m2, wr_m3, wr_m4, wr_m9, ak_1000, ak_1001, ak_1002, ak_0, ak_1, ak_2, ak_3, ak_4, ak_5, ak_6, ak_7, ak_8, ak_9, ak_10, ak_11, ak_12, ak_13, ak_14, ak_15, ak_16, ak_17, ak_18, ak_19, ak_20, ak_21, ak_22, ak_23, ak_24, ak_25, ak_26, ak_27, ak_28, ak_29, ak_30, ak_31, ak_32, ak_33, ak_34, ak_35, ak_36, ak_37, ak_38, ak_39, ak_40, ak_41, ak_42, ak_43, ak_44, ak_45, ak_46, ak_47, h0, h1, sp_X5_isCorner, g1, g2, tg]
  · have g1 := sp_X2_giveWay (h.set (s4 v 1 (g4 v 1 + 4))) (r0 1) 2 (by omega)
    rw [List.set_set] at g1
    have g2 := sp_X2_giveWay (h.set _) (k1 1 2 (by omega)) 0 (by omega)
    rw [List.set_set] at g2
    simp [g4, s4] at g1 g2
    simp [↓ri_X2_tighten, rs_X2_tighten_0, rs_X2_tighten_1, rs_X2_tighten_4, rs_X2_tighten_7, rs_X2_tighten_8, rs_X2_tighten_11, rs_X2_tighten_12, rs_X2_tighten_13, rs_X2_tighten_14, rs_X2_tighten_15, rs_X2_tighten_16, rs_X2_tighten_17, rs_X2_tighten_18, rs_X2_tighten_19, rs_X2_tighten_20, rs_X2_tighten_21, rs_X2_tighten_22, rs_X2_tighten_23, rs_X2_tighten_26, rs_X2_tighten_27, rs_X2_tighten_28, rs_X2_tighten_29, rs_X2_tighten_30, rs_X2_tighten_31, rs_X2_tighten_32, rs_X2_tighten_33, rs_X2_tighten_34, rs_X2_tighten_37, -List.getElem?_eq_getElem, am_js, am_e, am_in, am_sl, rI, rZ, rV, rJ, rA, rC, kI, kJ, kR, am_one, am_nl, am_w8, tIc, tLc, tNul, tIld, tLld, tAld, tIst, tLst, tAst, tIinc, tI2, tDv, tL2, tLrem, tLs, tLcmp, tI2l, tL2i, tI2c, tDup, tDup2, tPop, tGo, tIfeq, tIfne, tIflt, tIfge, tIfgt, tIfle, tCmeq, tCmne, tCmlt, tCmge, tCmgt, tCmle, tNu, tTs, tGf, tPf, tGs, tIal, tIas, tBal, tBas, tAln, tSv, tSc, tSb, tSl, tSk, tCv, tCs, tCt, tMx, tMn, wr_10000, wr_100000, wr_1000000, wr_10000000, wr_100000000, wr_2400, wr_9999, wr_0, wr_1, wr_2, wr_3, wr_4, wr_5, wr_6, wr_7, wr_8, wr_9, wr_10, wr_11, wr_12, wr_13, wr_14, wr_15, wr_16, wr_17, wr_18, wr_19, wr_20, wr_21, wr_22, wr_23, wr_24, wr_25, wr_26, wr_27, wr_28, wr_29, wr_30, wr_31, wr_32, wr_33, wr_34, wr_35, wr_36, wr_37, wr_38, wr_39, wr_40, wr_41, wr_42, wr_43, wr_44, wr_45, wr_46, wr_47, wr_48, wr_49, wr_50, wr_51, wr_52, wr_53, wr_54, wr_55, wr_56, wr_57, wr_58, wr_59, wr_60, wr_61, wr_62, wr_63, wr_99, wr_100, wr_192, wr_255, wr_256, wr_343, wr_999, wr_1000, wr_2401, wr_2147483647, wr_65535, wr_m1, wr_m2, wr_m3, wr_m4, wr_m9, ak_1000, ak_1001, ak_1002, ak_0, ak_1, ak_2, ak_3, ak_4, ak_5, ak_6, ak_7, ak_8, ak_9, ak_10, ak_11, ak_12, ak_13, ak_14, ak_15, ak_16, ak_17, ak_18, ak_19, ak_20, ak_21, ak_22, ak_23, ak_24, ak_25, ak_26, ak_27, ak_28, ak_29, ak_30, ak_31, ak_32, ak_33, ak_34, ak_35, ak_36, ak_37, ak_38, ak_39, ak_40, ak_41, ak_42, ak_43, ak_44, ak_45, ak_46, ak_47, h0, h1, sp_X5_isCorner, g1, g2, tg]
  · have g1 := sp_X2_giveWay (h.set (s4 v 2 (g4 v 2 + 4))) (r0 2) 3 (by omega)
    rw [List.set_set] at g1
    have g2 := sp_X2_giveWay (h.set _) (k1 2 3 (by omega)) 1 (by omega)
    rw [List.set_set] at g2
    simp [g4, s4] at g1 g2
    simp [↓ri_X2_tighten, rs_X2_tighten_0, rs_X2_tighten_1, rs_X2_tighten_4, rs_X2_tighten_7, rs_X2_tighten_8, rs_X2_tighten_11, rs_X2_tighten_12, rs_X2_tighten_13, rs_X2_tighten_14, rs_X2_tighten_15, rs_X2_tighten_16, rs_X2_tighten_17, rs_X2_tighten_18, rs_X2_tighten_19, rs_X2_tighten_20, rs_X2_tighten_21, rs_X2_tighten_22, rs_X2_tighten_23, rs_X2_tighten_26, rs_X2_tighten_27, rs_X2_tighten_28, rs_X2_tighten_29, rs_X2_tighten_30, rs_X2_tighten_31, rs_X2_tighten_32, rs_X2_tighten_33, rs_X2_tighten_34, rs_X2_tighten_37, -List.getElem?_eq_getElem, am_js, am_e, am_in, am_sl, rI, rZ, rV, rJ, rA, rC, kI, kJ, kR, am_one, am_nl, am_w8, tIc, tLc, tNul, tIld, tLld, tAld, tIst, tLst, tAst, tIinc, tI2, tDv, tL2, tLrem, tLs, tLcmp, tI2l, tL2i, tI2c, tDup, tDup2, tPop, tGo, tIfeq, tIfne, tIflt, tIfge, tIfgt, tIfle, tCmeq, tCmne, tCmlt, tCmge, tCmgt, tCmle, tNu, tTs, tGf, tPf, tGs, tIal, tIas, tBal, tBas, tAln, tSv, tSc, tSb, tSl, tSk, tCv, tCs, tCt, tMx, tMn, wr_10000, wr_100000, wr_1000000, wr_10000000, wr_100000000, wr_2400, wr_9999, wr_0, wr_1, wr_2, wr_3, wr_4, wr_5, wr_6, wr_7, wr_8, wr_9, wr_10, wr_11, wr_12, wr_13, wr_14, wr_15, wr_16, wr_17, wr_18, wr_19, wr_20, wr_21, wr_22, wr_23, wr_24, wr_25, wr_26, wr_27, wr_28, wr_29, wr_30, wr_31, wr_32, wr_33, wr_34, wr_35, wr_36, wr_37, wr_38, wr_39, wr_40, wr_41, wr_42, wr_43, wr_44, wr_45, wr_46, wr_47, wr_48, wr_49, wr_50, wr_51, wr_52, wr_53, wr_54, wr_55, wr_56, wr_57, wr_58, wr_59, wr_60, wr_61, wr_62, wr_63, wr_99, wr_100, wr_192, wr_255, wr_256, wr_343, wr_999, wr_1000, wr_2401, wr_2147483647, wr_65535, wr_m1, wr_m2, wr_m3, wr_m4, wr_m9, ak_1000, ak_1001, ak_1002, ak_0, ak_1, ak_2, ak_3, ak_4, ak_5, ak_6, ak_7, ak_8, ak_9, ak_10, ak_11, ak_12, ak_13, ak_14, ak_15, ak_16, ak_17, ak_18, ak_19, ak_20, ak_21, ak_22, ak_23, ak_24, ak_25, ak_26, ak_27, ak_28, ak_29, ak_30, ak_31, ak_32, ak_33, ak_34, ak_35, ak_36, ak_37, ak_38, ak_39, ak_40, ak_41, ak_42, ak_43, ak_44, ak_45, ak_46, ak_47, h0, h1, sp_X5_isCorner, g1, g2, tg]
  · have g1 := sp_X2_giveWay (h.set (s4 v 3 (g4 v 3 + 4))) (r0 3) 0 (by omega)
    rw [List.set_set] at g1
    have g2 := sp_X2_giveWay (h.set _) (k1 3 0 (by omega)) 2 (by omega)
    rw [List.set_set] at g2
    simp [g4, s4] at g1 g2
    simp [↓ri_X2_tighten, rs_X2_tighten_0, rs_X2_tighten_1, rs_X2_tighten_4, rs_X2_tighten_7, rs_X2_tighten_8, rs_X2_tighten_11, rs_X2_tighten_12, rs_X2_tighten_13, rs_X2_tighten_14, rs_X2_tighten_15, rs_X2_tighten_16, rs_X2_tighten_17, rs_X2_tighten_18, rs_X2_tighten_19, rs_X2_tighten_20, rs_X2_tighten_21, rs_X2_tighten_22, rs_X2_tighten_23, rs_X2_tighten_26, rs_X2_tighten_27, rs_X2_tighten_28, rs_X2_tighten_29, rs_X2_tighten_30, rs_X2_tighten_31, rs_X2_tighten_32, rs_X2_tighten_33, rs_X2_tighten_34, rs_X2_tighten_37, -List.getElem?_eq_getElem, am_js, am_e, am_in, am_sl, rI, rZ, rV, rJ, rA, rC, kI, kJ, kR, am_one, am_nl, am_w8, tIc, tLc, tNul, tIld, tLld, tAld, tIst, tLst, tAst, tIinc, tI2, tDv, tL2, tLrem, tLs, tLcmp, tI2l, tL2i, tI2c, tDup, tDup2, tPop, tGo, tIfeq, tIfne, tIflt, tIfge, tIfgt, tIfle, tCmeq, tCmne, tCmlt, tCmge, tCmgt, tCmle, tNu, tTs, tGf, tPf, tGs, tIal, tIas, tBal, tBas, tAln, tSv, tSc, tSb, tSl, tSk, tCv, tCs, tCt, tMx, tMn, wr_10000, wr_100000, wr_1000000, wr_10000000, wr_100000000, wr_2400, wr_9999, wr_0, wr_1, wr_2, wr_3, wr_4, wr_5, wr_6, wr_7, wr_8, wr_9, wr_10, wr_11, wr_12, wr_13, wr_14, wr_15, wr_16, wr_17, wr_18, wr_19, wr_20, wr_21, wr_22, wr_23, wr_24, wr_25, wr_26, wr_27, wr_28, wr_29, wr_30, wr_31, wr_32, wr_33, wr_34, wr_35, wr_36, wr_37, wr_38, wr_39, wr_40, wr_41, wr_42, wr_43, wr_44, wr_45, wr_46, wr_47, wr_48, wr_49, wr_50, wr_51, wr_52, wr_53, wr_54, wr_55, wr_56, wr_57, wr_58, wr_59, wr_60, wr_61, wr_62, wr_63, wr_99, wr_100, wr_192, wr_255, wr_256, wr_343, wr_999, wr_1000, wr_2401, wr_2147483647, wr_65535, wr_m1, wr_m2, wr_m3, wr_m4, wr_m9, ak_1000, ak_1001, ak_1002, ak_0, ak_1, ak_2, ak_3, ak_4, ak_5, ak_6, ak_7, ak_8, ak_9, ak_10, ak_11, ak_12, ak_13, ak_14, ak_15, ak_16, ak_17, ak_18, ak_19, ak_20, ak_21, ak_22, ak_23, ak_24, ak_25, ak_26, ak_27, ak_28, ak_29, ak_30, ak_31, ak_32, ak_33, ak_34, ak_35, ak_36, ak_37, ak_38, ak_39, ak_40, ak_41, ak_42, ak_43, ak_44, ak_45, ak_46, ak_47, h0, h1, sp_X5_isCorner, g1, g2, tg]
end
