noncomputable section
/-! the two texts, letter by letter -/
theorem g_gsz {y : MethodName} {cc : ByteArray} {nL : Nat} {ret : Option FieldType} {lev pc idx cells slots : Nat} {a : Am} {ad : Nat → Nat} {L : AL} {st : List AV} {M : List AC} {C n d : String} (v : AV) (hX : am_X a ad (y, cc, nL, ret, lev)) (hz : match a with | (_, _, _, _, s, _, _, _, _, _, _, _, A, _) => va_Z C n d (am_v ad v) A s s.heap) (hl : Cond.fieldLink y.cls idx C n d ∈ GB) (h : decode cc pc = .ok (.getstatic idx, 3)) (k : GG a ad nL cells slots (pc + 3) L (v :: st) M) : GG a ad nL cells slots pc L st M := by
  obtain ⟨p, l, e, R, s, m, args, below, meth, c, D, K, A, Q⟩ := a
  obtain ⟨hx, hb, hml, hr, hlk, hown, hts, hK, hA, hSt, hfr, hlo, hnm⟩ := hX
  intro H locs ls hc hs hP hD hS hL
  exact va_gets hx hb hz hS hown (hts _ hl) (fun _ h9 => h9) h (k H locs ls hc hs hP hD hS hL)
abbrev mi_J3_checkIndex_8e157 : Mi := (yJ3_checkIndex_8e157, cJ3_checkIndex_8e157, 3, some .int, 1)
theorem mf_J3_checkIndex_8e157 : am_mf mi_J3_checkIndex_8e157 3 := ⟨w_co_J3_checkIndex_8e157, w_in_J3, ⟨by decide +kernel, by decide +kernel⟩, by decide +kernel, by decide⟩
def tb_J3_checkIndex_8e157 : List (Nat × Tr) := [(0, tIld 0 1), (1, tIflt 9), (4, tIld 0 1), (5, tIld 1 1), (6, tCmlt 16), (9, tAld 2 1), (10, tIld 0 1), (11, tIld 1 1), (16, tIld 0 1)]
theorem ok_J3_checkIndex_8e157 : Tok mi_J3_checkIndex_8e157 tb_J3_checkIndex_8e157 :=
  Tc (sd_iload_n dJ3_checkIndex_8e157_0) <|
  Tc (sd_if_lt (by decide) dJ3_checkIndex_8e157_1) <|
  Tc (sd_iload_n dJ3_checkIndex_8e157_4) <|
  Tc (sd_iload_n dJ3_checkIndex_8e157_5) <|
  Tc (sd_cm_lt (by decide) dJ3_checkIndex_8e157_6) <|
  Tc (sd_aload_n dJ3_checkIndex_8e157_9) <|
  Tc (sd_iload_n dJ3_checkIndex_8e157_10) <|
  Tc (sd_iload_n dJ3_checkIndex_8e157_11) <|
  Tc (sd_iload_n dJ3_checkIndex_8e157_16) <|
  Tn
theorem rk_J3_checkIndex_8e157 : Rok mi_J3_checkIndex_8e157 rI [17] := rk_i dJ3_checkIndex_8e157_17 <| rk_n
def rx_J3_checkIndex_8e157 : Nat → Nat → AL → List AV → List AC → Option (Option AV × List AC) := am_r tb_J3_checkIndex_8e157 rI [17]
theorem rs_J3_checkIndex_8e157_0 (n : Nat) (L : AL) (st : List AV) (M : List AC) : rx_J3_checkIndex_8e157 (n + 1) 0 L st M = am_j (rx_J3_checkIndex_8e157 n) ((tIld 0 1) 0 L st M) := rfl
theorem rs_J3_checkIndex_8e157_1 (n : Nat) (L : AL) (st : List AV) (M : List AC) : rx_J3_checkIndex_8e157 (n + 1) 1 L st M = am_j (rx_J3_checkIndex_8e157 n) ((tIflt 9) 1 L st M) := rfl
theorem rs_J3_checkIndex_8e157_4 (n : Nat) (L : AL) (st : List AV) (M : List AC) : rx_J3_checkIndex_8e157 (n + 1) 4 L st M = am_j (rx_J3_checkIndex_8e157 n) ((tIld 0 1) 4 L st M) := rfl
theorem rs_J3_checkIndex_8e157_5 (n : Nat) (L : AL) (st : List AV) (M : List AC) : rx_J3_checkIndex_8e157 (n + 1) 5 L st M = am_j (rx_J3_checkIndex_8e157 n) ((tIld 1 1) 5 L st M) := rfl
theorem rs_J3_checkIndex_8e157_6 (n : Nat) (L : AL) (st : List AV) (M : List AC) : rx_J3_checkIndex_8e157 (n + 1) 6 L st M = am_j (rx_J3_checkIndex_8e157 n) ((tCmlt 16) 6 L st M) := rfl
theorem rs_J3_checkIndex_8e157_9 (n : Nat) (L : AL) (st : List AV) (M : List AC) : rx_J3_checkIndex_8e157 (n + 1) 9 L st M = am_j (rx_J3_checkIndex_8e157 n) ((tAld 2 1) 9 L st M) := rfl
theorem rs_J3_checkIndex_8e157_10 (n : Nat) (L : AL) (st : List AV) (M : List AC) : rx_J3_checkIndex_8e157 (n + 1) 10 L st M = am_j (rx_J3_checkIndex_8e157 n) ((tIld 0 1) 10 L st M) := rfl
theorem rs_J3_checkIndex_8e157_11 (n : Nat) (L : AL) (st : List AV) (M : List AC) : rx_J3_checkIndex_8e157 (n + 1) 11 L st M = am_j (rx_J3_checkIndex_8e157 n) ((tIld 1 1) 11 L st M) := rfl
theorem rs_J3_checkIndex_8e157_16 (n : Nat) (L : AL) (st : List AV) (M : List AC) : rx_J3_checkIndex_8e157 (n + 1) 16 L st M = am_j (rx_J3_checkIndex_8e157 n) ((tIld 0 1) 16 L st M) := rfl
theorem rs_J3_checkIndex_8e157_17 (n : Nat) (L : AL) (st : List AV) (M : List AC) : rx_J3_checkIndex_8e157 (n + 1) 17 L st M = am_e rI st M := rfl
theorem ri_J3_checkIndex_8e157 (c : Prop) [Decidable c] (p q n : Nat) (L : AL) (st : List AV) (M : List AC) : rx_J3_checkIndex_8e157 n (if c then p else q) L st M = if c then rx_J3_checkIndex_8e157 n p L st M else rx_J3_checkIndex_8e157 n q L st M := by split <;> rfl
theorem rm_J3_checkIndex_8e157 {n k pc : Nat} {L : AL} {st : List AV} {M : List AC} {x : Option AV × List AC} (h : rx_J3_checkIndex_8e157 n pc L st M = some x) (hk : n ≤ k) : rx_J3_checkIndex_8e157 k pc L st M = some x := am_r_mono n k h hk
def fn_J3_checkIndex_8e157 : Fn := am_fn rx_J3_checkIndex_8e157 3
theorem fok_J3_checkIndex_8e157 : Fok mi_J3_checkIndex_8e157 fn_J3_checkIndex_8e157 := fun _ _ _ _ h => am_fok ok_J3_checkIndex_8e157 rk_J3_checkIndex_8e157 rfl h
theorem sp_J3_checkIndex (i n : Int) (v : AV) (hv : v = vN ∨ v = vR 1020) (M : List AC) (h : 0 ≤ wr i ∧ wr i < wr n) : fn_J3_checkIndex_8e157 [vI i, vI n, v] M = some (some (vI i), M) := by
  have n1 : ¬ wr i < 0 := by omega
  rcases hv with rfl | rfl <;>
  ((refine am_fnI (tb := tb_J3_checkIndex_8e157) (n := 20) (Nat.le_of_ble_eq_true rfl) (Nat.le_of_ble_eq_true rfl) ?_; show rx_J3_checkIndex_8e157 20 0 _ _ _ = _)
   simp [↓ri_J3_checkIndex_8e157, rs_J3_checkIndex_8e157_0, rs_J3_checkIndex_8e157_1, rs_J3_checkIndex_8e157_4, rs_J3_checkIndex_8e157_5, rs_J3_checkIndex_8e157_6, rs_J3_checkIndex_8e157_9, rs_J3_checkIndex_8e157_10, rs_J3_checkIndex_8e157_11, rs_J3_checkIndex_8e157_16, rs_J3_checkIndex_8e157_17, -List.getElem?_eq_getElem, am_js, am_e, am_in, am_sl, rI, rZ, rV, rJ, rA, rC, kI, kJ, kR, am_one, am_nl, am_w8, tIc, tLc, tNul, tIld, tLld, tAld, tIst, tLst, tAst, tIinc, tI2, tDv, tL2, tLrem, tLs, tLcmp, tI2l, tL2i, tI2c, tDup, tDup2, tPop, tGo, tIfeq, tIfne, tIflt, tIfge, tIfgt, tIfle, tCmeq, tCmne, tCmlt, tCmge, tCmgt, tCmle, tNu, tTs, tGf, tPf, tGs, tIal, tIas, tBal, tBas, tAln, tSv, tSc, tSb, tSl, tSk, tCv, tCs, tCt, tMx, tMn, wr_10000, wr_100000, wr_1000000, wr_10000000, wr_100000000, wr_2400, wr_9999, wr_0, wr_1, wr_2, wr_3, wr_4, wr_5, wr_6, wr_7, wr_8, wr_9, wr_10, wr_11, wr_12, wr_13, wr_14, wr_15, wr_16, wr_17, wr_18, wr_19, wr_20, wr_21, wr_22, wr_23, wr_24, wr_25, wr_26, wr_27, wr_28, wr_29, wr_30, wr_31, wr_32, wr_33, wr_34, wr_35, wr_36, wr_37, wr_38, wr_39, wr_40, wr_41, wr_42, wr_43, wr_44, wr_45, wr_46, wr_47, wr_48, wr_49, wr_50, wr_51, wr_52, wr_53, wr_54, wr_55, wr_56, wr_57, wr_58, wr_59, wr_60, wr_61, wr_62, wr_63, wr_99, wr_100, wr_192, wr_255, wr_256, wr_343, wr_999, wr_1000, wr_2401, wr_2147483647, wr_65535, wr_m1, wr_m2, wr_m3, wr_m4, wr_m9, ak_1000, ak_1001, ak_1002, ak_0, ak_1, ak_2, ak_3, ak_4, ak_5, ak_6, ak_7, ak_8, ak_9, ak_10, ak_11, ak_12, ak_13, ak_14, ak_15, ak_16, ak_17, ak_18, ak_19, ak_20, ak_21, ak_22, ak_23, ak_24, ak_25, ak_26, ak_27, ak_28, ak_29, ak_30, ak_31, ak_32, ak_33, ak_34, ak_35, ak_36, ak_37, ak_38, ak_39, ak_40, ak_41, ak_42, ak_43, ak_44, ak_45, ak_46, ak_47, n1, h])
abbrev mi_J0_checkIndex_df160 : Mi := (yJ0_checkIndex_df160, cJ0_checkIndex_df160, 2, none, 2)
theorem mf_J0_checkIndex_df160 : am_mf mi_J0_checkIndex_df160 2 := ⟨w_co_J0_checkIndex_df160, w_in_J0, ⟨by decide +kernel, by decide +kernel⟩, by decide +kernel, by decide⟩
def tb_J0_checkIndex_df160 : List (Nat × Tr) := [(0, tIld 0 1), (1, tIld 1 1), (5, tCs 3 fn_J3_checkIndex_8e157), (8, tPop)]
theorem ok_J0_checkIndex_df160 : Tok mi_J0_checkIndex_df160 tb_J0_checkIndex_df160 :=
  Tc (sd_iload_n dJ0_checkIndex_df160_0) <|
  Tc (sd_iload_n dJ0_checkIndex_df160_1) <|
  Tc (sd_cs fok_J3_checkIndex_8e157 mf_J3_checkIndex_8e157 w_ml_J0_1059 w_st_J3_checkIndex_8e157 (by decide) dJ0_checkIndex_df160_5) <|
  Tc (sd_pop dJ0_checkIndex_df160_8) <|
  Tn
theorem rk_J0_checkIndex_df160 : Rok mi_J0_checkIndex_df160 rV [9] := rk_v dJ0_checkIndex_df160_9 <| rk_n
def rx_J0_checkIndex_df160 : Nat → Nat → AL → List AV → List AC → Option (Option AV × List AC) := am_r tb_J0_checkIndex_df160 rV [9]
theorem rs_J0_checkIndex_df160_0 (n : Nat) (L : AL) (st : List AV) (M : List AC) : rx_J0_checkIndex_df160 (n + 1) 0 L st M = am_j (rx_J0_checkIndex_df160 n) ((tIld 0 1) 0 L st M) := rfl
theorem rs_J0_checkIndex_df160_1 (n : Nat) (L : AL) (st : List AV) (M : List AC) : rx_J0_checkIndex_df160 (n + 1) 1 L st M = am_j (rx_J0_checkIndex_df160 n) ((tIld 1 1) 1 L st M) := rfl
theorem rs_J0_checkIndex_df160_5 (n : Nat) (L : AL) (st : List AV) (M : List AC) : rx_J0_checkIndex_df160 (n + 1) 5 L st M = am_j (rx_J0_checkIndex_df160 n) ((tCs 3 fn_J3_checkIndex_8e157) 5 L st M) := rfl
theorem rs_J0_checkIndex_df160_8 (n : Nat) (L : AL) (st : List AV) (M : List AC) : rx_J0_checkIndex_df160 (n + 1) 8 L st M = am_j (rx_J0_checkIndex_df160 n) (tPop 8 L st M) := rfl
theorem rs_J0_checkIndex_df160_9 (n : Nat) (L : AL) (st : List AV) (M : List AC) : rx_J0_checkIndex_df160 (n + 1) 9 L st M = am_e rV st M := rfl
theorem ri_J0_checkIndex_df160 (c : Prop) [Decidable c] (p q n : Nat) (L : AL) (st : List AV) (M : List AC) : rx_J0_checkIndex_df160 n (if c then p else q) L st M = if c then rx_J0_checkIndex_df160 n p L st M else rx_J0_checkIndex_df160 n q L st M := by split <;> rfl
theorem rm_J0_checkIndex_df160 {n k pc : Nat} {L : AL} {st : List AV} {M : List AC} {x : Option AV × List AC} (h : rx_J0_checkIndex_df160 n pc L st M = some x) (hk : n ≤ k) : rx_J0_checkIndex_df160 k pc L st M = some x := am_r_mono n k h hk
def fn_J0_checkIndex_df160 : Fn := fun av M => match av with
  | [.inl i, .inl n] => if 0 ≤ wr i ∧ wr i < wr n then some (none, M) else none
  | _ => none
theorem fok_J0_checkIndex_df160 : Fok mi_J0_checkIndex_df160 fn_J0_checkIndex_df160 := by
  intro av M r M' h
  unfold fn_J0_checkIndex_df160 at h
  split at h
  · next i n =>
    split at h
    · next hin =>
      cases h
      refine ct_intro rfl (Nat.le_of_ble_eq_true rfl) (fun a ad hX hZ => ?_)
      have key : ∀ v : AV, v = vN ∨ v = vR 1020 → GG a ad 2 0 0 5 [some (vI i), some (vI n)] [v, vI n, vI i] M := by
        intro v hv
        refine am_rr ok_J0_checkIndex_df160 rk_J0_checkIndex_df160 hX hZ 10 (?_ : rx_J0_checkIndex_df160 10 5 _ _ _ = _)
        rcases hv with rfl | rfl
        · simp [↓ri_J0_checkIndex_df160, rs_J0_checkIndex_df160_0, rs_J0_checkIndex_df160_1, rs_J0_checkIndex_df160_5, rs_J0_checkIndex_df160_8, rs_J0_checkIndex_df160_9, -List.getElem?_eq_getElem, am_js, am_e, am_in, am_sl, rI, rZ, rV, rJ, rA, rC, kI, kJ, kR, am_one, am_nl, am_w8, tIc, tLc, tNul, tIld, tLld, tAld, tIst, tLst, tAst, tIinc, tI2, tDv, tL2, tLrem, tLs, tLcmp, tI2l, tL2i, tI2c, tDup, tDup2, tPop, tGo, tIfeq, tIfne, tIflt, tIfge, tIfgt, tIfle, tCmeq, tCmne, tCmlt, tCmge, tCmgt, tCmle, tNu, tTs, tGf, tPf, tGs, tIal, tIas, tBal, tBas, tAln, tSv, tSc, tSb, tSl, tSk, tCv, tCs, tCt, tMx, tMn, wr_10000, wr_100000, wr_1000000, wr_10000000, wr_100000000, wr_2400, wr_9999, wr_0, wr_1, wr_2, wr_3, wr_4, wr_5, wr_6, wr_7, wr_8, wr_9, wr_10, wr_11, wr_12, wr_13, wr_14, wr_15, wr_16, wr_17, wr_18, wr_19, wr_20, wr_21, wr_22, wr_23, wr_24, wr_25, wr_26, wr_27, wr_28, wr_29, wr_30, wr_31, wr_32, wr_33, wr_34, wr_35, wr_36, wr_37, wr_38, wr_39, wr_40, wr_41, wr_42, wr_43, wr_44, wr_45, wr_46, wr_47, wr_48, wr_49, wr_50, wr_51, wr_52, wr_53, wr_54, wr_55, wr_56, wr_57, wr_58, wr_59, wr_60, wr_61, wr_62, wr_63, wr_99, wr_100, wr_192, wr_255, wr_256, wr_343, wr_999, wr_1000, wr_2401, wr_2147483647, wr_65535, wr_m1, wr_m2, wr_m3, wr_m4, wr_m9, ak_1000, ak_1001, ak_1002, ak_0, ak_1, ak_2, ak_3, ak_4, ak_5, ak_6, ak_7, ak_8, ak_9, ak_10, ak_11, ak_12, ak_13, ak_14, ak_15, ak_16, ak_17, ak_18, ak_19, ak_20, ak_21, ak_22, ak_23, ak_24, ak_25, ak_26, ak_27, ak_28, ak_29, ak_30, ak_31, ak_32, ak_33, ak_34, ak_35, ak_36, ak_37, ak_38, ak_39, ak_40, ak_41, ak_42, ak_43, ak_44, ak_45, ak_46, ak_47, sp_J3_checkIndex i n vN (Or.inl rfl) M hin]
        · simp [↓ri_J0_checkIndex_df160, rs_J0_checkIndex_df160_0, rs_J0_checkIndex_df160_1, rs_J0_checkIndex_df160_5, rs_J0_checkIndex_df160_8, rs_J0_checkIndex_df160_9, -List.getElem?_eq_getElem, am_js, am_e, am_in, am_sl, rI, rZ, rV, rJ, rA, rC, kI, kJ, kR, am_one, am_nl, am_w8, tIc, tLc, tNul, tIld, tLld, tAld, tIst, tLst, tAst, tIinc, tI2, tDv, tL2, tLrem, tLs, tLcmp, tI2l, tL2i, tI2c, tDup, tDup2, tPop, tGo, tIfeq, tIfne, tIflt, tIfge, tIfgt, tIfle, tCmeq, tCmne, tCmlt, tCmge, tCmgt, tCmle, tNu, tTs, tGf, tPf, tGs, tIal, tIas, tBal, tBas, tAln, tSv, tSc, tSb, tSl, tSk, tCv, tCs, tCt, tMx, tMn, wr_10000, wr_100000, wr_1000000, wr_10000000, wr_100000000, wr_2400, wr_9999, wr_0, wr_1, wr_2, wr_3, wr_4, wr_5, wr_6, wr_7, wr_8, wr_9, wr_10, wr_11, wr_12, wr_13, wr_14, wr_15, wr_16, wr_17, wr_18, wr_19, wr_20, wr_21, wr_22, wr_23, wr_24, wr_25, wr_26, wr_27, wr_28, wr_29, wr_30, wr_31, wr_32, wr_33, wr_34, wr_35, wr_36, wr_37, wr_38, wr_39, wr_40, wr_41, wr_42, wr_43, wr_44, wr_45, wr_46, wr_47, wr_48, wr_49, wr_50, wr_51, wr_52, wr_53, wr_54, wr_55, wr_56, wr_57, wr_58, wr_59, wr_60, wr_61, wr_62, wr_63, wr_99, wr_100, wr_192, wr_255, wr_256, wr_343, wr_999, wr_1000, wr_2401, wr_2147483647, wr_65535, wr_m1, wr_m2, wr_m3, wr_m4, wr_m9, ak_1000, ak_1001, ak_1002, ak_0, ak_1, ak_2, ak_3, ak_4, ak_5, ak_6, ak_7, ak_8, ak_9, ak_10, ak_11, ak_12, ak_13, ak_14, ak_15, ak_16, ak_17, ak_18, ak_19, ak_20, ak_21, ak_22, ak_23, ak_24, ak_25, ak_26, ak_27, ak_28, ak_29, ak_30, ak_31, ak_32, ak_33, ak_34, ak_35, ak_36, ak_37, ak_38, ak_39, ak_40, ak_41, ak_42, ak_43, ak_44, ak_45, ak_46, ak_47, sp_J3_checkIndex i n (vR 1020) (Or.inr rfl) M hin]
      refine am_run (L' := [some (vI i), some (vI n)]) (st' := [vI n, vI i]) (M' := M) (pc' := 2) ok_J0_checkIndex_df160 hX 2 rfl ?_
      have hzz := hX
      obtain ⟨p, l, e, R, s, m, args, below, meth, c, D, K, A, Q⟩ := a
      rcases hzz.2.2.2.2.2.2.2.2.2.1.2.2.2.2.2.2.2.2 with hz | hz
      · exact g_gsz vN hX hz w_fl_J0_1053 dJ0_checkIndex_df160_2 (key vN (Or.inl rfl))
      · exact g_gsz (vR 1020) hX hz w_fl_J0_1053 dJ0_checkIndex_df160_2 (key (vR 1020) (Or.inr rfl))
    · cases h
  · cases h
abbrev mi_J1_charAt_3b067 : Mi := (yJ1_charAt_3b067, cJ1_charAt_3b067, 2, some .char, 3)
theorem mf_J1_charAt_3b067 : am_mf mi_J1_charAt_3b067 2 := ⟨w_co_J1_charAt_3b067, w_in_J1, ⟨by decide +kernel, by decide +kernel⟩, by decide +kernel, by decide⟩
def tb_J1_charAt_3b067 : List (Nat × Tr) := [(0, tIld 1 1), (1, tAld 0 1), (2, tSl), (3, tCs 2 fn_J0_checkIndex_df160), (6, tAld 0 1), (7, tIld 1 1), (8, tSb), (9, tIc 255 3), (12, tI2 oAnd), (13, tI2c)]
theorem ok_J1_charAt_3b067 : Tok mi_J1_charAt_3b067 tb_J1_charAt_3b067 :=
  Tc (sd_iload_n dJ1_charAt_3b067_0) <|
  Tc (sd_aload_n dJ1_charAt_3b067_1) <|
  Tc (sd_sl dJ1_charAt_3b067_2) <|
  Tc (sd_cs fok_J0_checkIndex_df160 mf_J0_checkIndex_df160 w_ml_J1_9 w_st_J0_checkIndex_df160 (by decide) dJ1_charAt_3b067_3) <|
  Tc (sd_aload_n dJ1_charAt_3b067_6) <|
  Tc (sd_iload_n dJ1_charAt_3b067_7) <|
  Tc (sd_sb dJ1_charAt_3b067_8) <|
  Tc (sd_sipush (by decide +kernel) dJ1_charAt_3b067_9) <|
  Tc (sd_iand dJ1_charAt_3b067_12) <|
  Tc (sd_i2c dJ1_charAt_3b067_13) <|
  Tn
theorem rk_J1_charAt_3b067 : Rok mi_J1_charAt_3b067 rC [14] := rk_c dJ1_charAt_3b067_14 <| rk_n
def rx_J1_charAt_3b067 : Nat → Nat → AL → List AV → List AC → Option (Option AV × List AC) := am_r tb_J1_charAt_3b067 rC [14]
theorem rs_J1_charAt_3b067_0 (n : Nat) (L : AL) (st : List AV) (M : List AC) : rx_J1_charAt_3b067 (n + 1) 0 L st M = am_j (rx_J1_charAt_3b067 n) ((tIld 1 1) 0 L st M) := rfl
theorem rs_J1_charAt_3b067_1 (n : Nat) (L : AL) (st : List AV) (M : List AC) : rx_J1_charAt_3b067 (n + 1) 1 L st M = am_j (rx_J1_charAt_3b067 n) ((tAld 0 1) 1 L st M) := rfl
theorem rs_J1_charAt_3b067_2 (n : Nat) (L : AL) (st : List AV) (M : List AC) : rx_J1_charAt_3b067 (n + 1) 2 L st M = am_j (rx_J1_charAt_3b067 n) (tSl 2 L st M) := rfl
theorem rs_J1_charAt_3b067_3 (n : Nat) (L : AL) (st : List AV) (M : List AC) : rx_J1_charAt_3b067 (n + 1) 3 L st M = am_j (rx_J1_charAt_3b067 n) ((tCs 2 fn_J0_checkIndex_df160) 3 L st M) := rfl
theorem rs_J1_charAt_3b067_6 (n : Nat) (L : AL) (st : List AV) (M : List AC) : rx_J1_charAt_3b067 (n + 1) 6 L st M = am_j (rx_J1_charAt_3b067 n) ((tAld 0 1) 6 L st M) := rfl
theorem rs_J1_charAt_3b067_7 (n : Nat) (L : AL) (st : List AV) (M : List AC) : rx_J1_charAt_3b067 (n + 1) 7 L st M = am_j (rx_J1_charAt_3b067 n) ((tIld 1 1) 7 L st M) := rfl
theorem rs_J1_charAt_3b067_8 (n : Nat) (L : AL) (st : List AV) (M : List AC) : rx_J1_charAt_3b067 (n + 1) 8 L st M = am_j (rx_J1_charAt_3b067 n) (tSb 8 L st M) := rfl
theorem rs_J1_charAt_3b067_9 (n : Nat) (L : AL) (st : List AV) (M : List AC) : rx_J1_charAt_3b067 (n + 1) 9 L st M = am_j (rx_J1_charAt_3b067 n) ((tIc 255 3) 9 L st M) := rfl
theorem rs_J1_charAt_3b067_12 (n : Nat) (L : AL) (st : List AV) (M : List AC) : rx_J1_charAt_3b067 (n + 1) 12 L st M = am_j (rx_J1_charAt_3b067 n) ((tI2 oAnd) 12 L st M) := rfl
theorem rs_J1_charAt_3b067_13 (n : Nat) (L : AL) (st : List AV) (M : List AC) : rx_J1_charAt_3b067 (n + 1) 13 L st M = am_j (rx_J1_charAt_3b067 n) (tI2c 13 L st M) := rfl
theorem rs_J1_charAt_3b067_14 (n : Nat) (L : AL) (st : List AV) (M : List AC) : rx_J1_charAt_3b067 (n + 1) 14 L st M = am_e rC st M := rfl
theorem ri_J1_charAt_3b067 (c : Prop) [Decidable c] (p q n : Nat) (L : AL) (st : List AV) (M : List AC) : rx_J1_charAt_3b067 n (if c then p else q) L st M = if c then rx_J1_charAt_3b067 n p L st M else rx_J1_charAt_3b067 n q L st M := by split <;> rfl
theorem rm_J1_charAt_3b067 {n k pc : Nat} {L : AL} {st : List AV} {M : List AC} {x : Option AV × List AC} (h : rx_J1_charAt_3b067 n pc L st M = some x) (hk : n ≤ k) : rx_J1_charAt_3b067 k pc L st M = some x := am_r_mono n k h hk
def fn_J1_charAt_3b067 : Fn := am_fn rx_J1_charAt_3b067 2
theorem fok_J1_charAt_3b067 : Fok mi_J1_charAt_3b067 fn_J1_charAt_3b067 := fun _ _ _ _ h => am_fok ok_J1_charAt_3b067 rk_J1_charAt_3b067 rfl h
theorem chr_1 : ∀ n : Nat, n < 19 → ((Int32.ofInt (oAnd (am_b1.getD n 0) 255)).toUInt32 % 65536).toInt32.toInt = am_b1.getD n 0 ∧ (0 ≤ am_b1.getD n 0 ∧ am_b1.getD n 0 < 256) := by decide +kernel
theorem chr_2 : ∀ n : Nat, n < 19 → ((Int32.ofInt (oAnd (am_b2.getD n 0) 255)).toUInt32 % 65536).toInt32.toInt = am_b2.getD n 0 ∧ (0 ≤ am_b2.getD n 0 ∧ am_b2.getD n 0 < 256) := by decide +kernel
theorem sp_J1_charAt (p : Int) (hp : 0 ≤ p ∧ p < 19) (M : List AC) : fn_J1_charAt_3b067 [vR 1012, vI p] M = some (some (vI (am_b1.getD p.toNat 0)), M) ∧ fn_J1_charAt_3b067 [vR 1013, vI p] M = some (some (vI (am_b2.getD p.toNat 0)), M) := by
  have wp : wr p = p := wr_id (by omega) (by omega)
  have l1 : am_b1.length = 19 := rfl
  have l2 : am_b2.length = 19 := rfl
  have w19 : wr 19 = 19 := wr_19
  have c1 := chr_1 p.toNat (by omega)
  have c2 := chr_2 p.toNat (by omega)
  constructor
  · (refine am_fnI (tb := tb_J1_charAt_3b067) (n := 20) (Nat.le_of_ble_eq_true rfl) (Nat.le_of_ble_eq_true rfl) ?_; show rx_J1_charAt_3b067 20 0 _ _ _ = _)
    simp [↓ri_J1_charAt_3b067, rs_J1_charAt_3b067_0, rs_J1_charAt_3b067_1, rs_J1_charAt_3b067_2, rs_J1_charAt_3b067_3, rs_J1_charAt_3b067_6, rs_J1_charAt_3b067_7, rs_J1_charAt_3b067_8, rs_J1_charAt_3b067_9, rs_J1_charAt_3b067_12, rs_J1_charAt_3b067_13, rs_J1_charAt_3b067_14, -List.getElem?_eq_getElem, am_js, am_e, am_in, am_sl, rI, rZ, rV, rJ, rA, rC, kI, kJ, kR, am_one, am_nl, am_w8, tIc, tLc, tNul, tIld, tLld, tAld, tIst, tLst, tAst, tIinc, tI2, tDv, tL2, tLrem, tLs, tLcmp, tI2l, tL2i, tI2c, tDup, tDup2, tPop, tGo, tIfeq, tIfne, tIflt, tIfge, tIfgt, tIfle, tCmeq, tCmne, tCmlt, tCmge, tCmgt, tCmle, tNu, tTs, tGf, tPf, tGs, tIal, tIas, tBal, tBas, tAln, tSv, tSc, tSb, tSl, tSk, tCv, tCs, tCt, tMx, tMn, wr_10000, wr_100000, wr_1000000, wr_10000000, wr_100000000, wr_2400, wr_9999, wr_0, wr_1, wr_2, wr_3, wr_4, wr_5, wr_6, wr_7, wr_8, wr_9, wr_10, wr_11, wr_12, wr_13, wr_14, wr_15, wr_16, wr_17, wr_18, wr_19, wr_20, wr_21, wr_22, wr_23, wr_24, wr_25, wr_26, wr_27, wr_28, wr_29, wr_30, wr_31, wr_32, wr_33, wr_34, wr_35, wr_36, wr_37, wr_38, wr_39, wr_40, wr_41, wr_42, wr_43, wr_44, wr_45, wr_46, wr_47, wr_48, wr_49, wr_50, wr_51, wr_52, wr_53, wr_54, wr_55, wr_56, wr_57, wr_58, wr_59, wr_60, wr_61, wr_62, wr_63, wr_99, wr_100, wr_192, wr_255, wr_256, wr_343, wr_999, wr_1000, wr_2401, wr_2147483647, wr_65535, wr_m1, wr_m2, wr_m3, wr_m4, wr_m9, ak_1000, ak_1001, ak_1002, ak_0, ak_1, ak_2, ak_3, ak_4, ak_5, ak_6, ak_7, ak_8, ak_9, ak_10, ak_11, ak_12, ak_13, ak_14, ak_15, ak_16, ak_17, ak_18, ak_19, ak_20, ak_21, ak_22, ak_23, ak_24, ak_25, ak_26, ak_27, ak_28, ak_29, ak_30, ak_31, ak_32, ak_33, ak_34, ak_35, ak_36, ak_37, ak_38, ak_39, ak_40, ak_41, ak_42, ak_43, ak_44, ak_45, ak_46, ak_47, -List.getD_eq_getElem?_getD, fn_J0_checkIndex_df160, am_b, wp, l1, w19, hp, c1]
  · (refine am_fnI (tb := tb_J1_charAt_3b067) (n := 20) (Nat.le_of_ble_eq_true rfl) (Nat.le_of_ble_eq_true rfl) ?_; show rx_J1_charAt_3b067 20 0 _ _ _ = _)
    simp [↓ri_J1_charAt_3b067, rs_J1_charAt_3b067_0, rs_J1_charAt_3b067_1, rs_J1_charAt_3b067_2, rs_J1_charAt_3b067_3, rs_J1_charAt_3b067_6, rs_J1_charAt_3b067_7, rs_J1_charAt_3b067_8, rs_J1_charAt_3b067_9, rs_J1_charAt_3b067_12, rs_J1_charAt_3b067_13, rs_J1_charAt_3b067_14, -List.getElem?_eq_getElem, am_js, am_e, am_in, am_sl, rI, rZ, rV, rJ, rA, rC, kI, kJ, kR, am_one, am_nl, am_w8, tIc, tLc, tNul, tIld, tLld, tAld, tIst, tLst, tAst, tIinc, tI2, tDv, tL2, tLrem, tLs, tLcmp, tI2l, tL2i, tI2c, tDup, tDup2, tPop, tGo, tIfeq, tIfne, tIflt, tIfge, tIfgt, tIfle, tCmeq, tCmne, tCmlt, tCmge, tCmgt, tCmle, tNu, tTs, tGf, tPf, tGs, tIal, tIas, tBal, tBas, tAln, tSv, tSc, tSb, tSl, tSk, tCv, tCs, tCt, tMx, tMn, wr_10000, wr_100000, wr_1000000, wr_10000000, wr_100000000, wr_2400, wr_9999, wr_0, wr_1, wr_2, wr_3, wr_4, wr_5, wr_6, wr_7, wr_8, wr_9, wr_10, wr_11, wr_12, wr_13, wr_14, wr_15, wr_16, wr_17, wr_18, wr_19, wr_20, wr_21, wr_22, wr_23, wr_24, wr_25, wr_26, wr_27, wr_28, wr_29, wr_30, wr_31, wr_32, wr_33, wr_34, wr_35, wr_36, wr_37, wr_38, wr_39, wr_40, wr_41, wr_42, wr_43, wr_44, wr_45, wr_46, wr_47, wr_48, wr_49, wr_50, wr_51, wr_52, wr_53, wr_54, wr_55, wr_56, wr_57, wr_58, wr_59, wr_60, wr_61, wr_62, wr_63, wr_99, wr_100, wr_192, wr_255, wr_256, wr_343, wr_999, wr_1000, wr_2401, wr_2147483647, wr_65535, wr_m1, wr_m2, wr_m3, wr_m4, wr_m9, ak_1000, ak_1001, ak_1002, ak_0, ak_1, ak_2, ak_3, ak_4, ak_5, ak_6, ak_7, ak_8, ak_9, ak_10, ak_11, ak_12, ak_13, ak_14, ak_15, ak_16, ak_17, ak_18, ak_19, ak_20, ak_21, ak_22, ak_23, ak_24, ak_25, ak_26, ak_27, ak_28, ak_29, ak_30, ak_31, ak_32, ak_33, ak_34, ak_35, ak_36, ak_37, ak_38, ak_39, ak_40, ak_41, ak_42, ak_43, ak_44, ak_45, ak_46, ak_47, -List.getD_eq_getElem?_getD, fn_J0_checkIndex_df160, am_b, wp, l2, w19, hp, c2]
abbrev mi_J0_isLatin1_aae02 : Mi := (yJ0_isLatin1_aae02, cJ0_isLatin1_aae02, 1, some .boolean, 1)
theorem mf_J0_isLatin1_aae02 : am_mf mi_J0_isLatin1_aae02 0 := ⟨w_co_J0_isLatin1_aae02, w_in_J0, ⟨by decide +kernel, by decide +kernel⟩, by decide +kernel, by decide⟩
def tb_J0_isLatin1_aae02 : List (Nat × Tr) := [(0, tGs (vI 1)), (3, tIfeq 17), (6, tAld 0 1), (7, tSc), (10, tIfne 17), (13, tIc 1 1), (14, tGo 18), (17, tIc 0 1)]
theorem ok_J0_isLatin1_aae02 : Tok mi_J0_isLatin1_aae02 tb_J0_isLatin1_aae02 :=
  Tc (sd_gsCompact w_fl_J0_38 dJ0_isLatin1_aae02_0) <|
  Tc (sd_if_eq (by decide) dJ0_isLatin1_aae02_3) <|
  Tc (sd_aload_n dJ0_isLatin1_aae02_6) <|
  Tc (sd_sc w_fl_J0_15 dJ0_isLatin1_aae02_7) <|
  Tc (sd_if_ne (by decide) dJ0_isLatin1_aae02_10) <|
  Tc (sd_iconst rfl dJ0_isLatin1_aae02_13) <|
  Tc (sd_goto (by decide) dJ0_isLatin1_aae02_14) <|
  Tc (sd_iconst rfl dJ0_isLatin1_aae02_17) <|
  Tn
theorem rk_J0_isLatin1_aae02 : Rok mi_J0_isLatin1_aae02 rZ [18] := rk_z dJ0_isLatin1_aae02_18 <| rk_n
def rx_J0_isLatin1_aae02 : Nat → Nat → AL → List AV → List AC → Option (Option AV × List AC) := am_r tb_J0_isLatin1_aae02 rZ [18]
theorem rs_J0_isLatin1_aae02_0 (n : Nat) (L : AL) (st : List AV) (M : List AC) : rx_J0_isLatin1_aae02 (n + 1) 0 L st M = am_j (rx_J0_isLatin1_aae02 n) ((tGs (vI 1)) 0 L st M) := rfl
theorem rs_J0_isLatin1_aae02_3 (n : Nat) (L : AL) (st : List AV) (M : List AC) : rx_J0_isLatin1_aae02 (n + 1) 3 L st M = am_j (rx_J0_isLatin1_aae02 n) ((tIfeq 17) 3 L st M) := rfl
theorem rs_J0_isLatin1_aae02_6 (n : Nat) (L : AL) (st : List AV) (M : List AC) : rx_J0_isLatin1_aae02 (n + 1) 6 L st M = am_j (rx_J0_isLatin1_aae02 n) ((tAld 0 1) 6 L st M) := rfl
theorem rs_J0_isLatin1_aae02_7 (n : Nat) (L : AL) (st : List AV) (M : List AC) : rx_J0_isLatin1_aae02 (n + 1) 7 L st M = am_j (rx_J0_isLatin1_aae02 n) (tSc 7 L st M) := rfl
theorem rs_J0_isLatin1_aae02_10 (n : Nat) (L : AL) (st : List AV) (M : List AC) : rx_J0_isLatin1_aae02 (n + 1) 10 L st M = am_j (rx_J0_isLatin1_aae02 n) ((tIfne 17) 10 L st M) := rfl
theorem rs_J0_isLatin1_aae02_13 (n : Nat) (L : AL) (st : List AV) (M : List AC) : rx_J0_isLatin1_aae02 (n + 1) 13 L st M = am_j (rx_J0_isLatin1_aae02 n) ((tIc 1 1) 13 L st M) := rfl
theorem rs_J0_isLatin1_aae02_14 (n : Nat) (L : AL) (st : List AV) (M : List AC) : rx_J0_isLatin1_aae02 (n + 1) 14 L st M = am_j (rx_J0_isLatin1_aae02 n) ((tGo 18) 14 L st M) := rfl
theorem rs_J0_isLatin1_aae02_17 (n : Nat) (L : AL) (st : List AV) (M : List AC) : rx_J0_isLatin1_aae02 (n + 1) 17 L st M = am_j (rx_J0_isLatin1_aae02 n) ((tIc 0 1) 17 L st M) := rfl
theorem rs_J0_isLatin1_aae02_18 (n : Nat) (L : AL) (st : List AV) (M : List AC) : rx_J0_isLatin1_aae02 (n + 1) 18 L st M = am_e rZ st M := rfl
theorem ri_J0_isLatin1_aae02 (c : Prop) [Decidable c] (p q n : Nat) (L : AL) (st : List AV) (M : List AC) : rx_J0_isLatin1_aae02 n (if c then p else q) L st M = if c then rx_J0_isLatin1_aae02 n p L st M else rx_J0_isLatin1_aae02 n q L st M := by split <;> rfl
theorem rm_J0_isLatin1_aae02 {n k pc : Nat} {L : AL} {st : List AV} {M : List AC} {x : Option AV × List AC} (h : rx_J0_isLatin1_aae02 n pc L st M = some x) (hk : n ≤ k) : rx_J0_isLatin1_aae02 k pc L st M = some x := am_r_mono n k h hk
def fn_J0_isLatin1_aae02 : Fn := am_fn rx_J0_isLatin1_aae02 1
theorem fok_J0_isLatin1_aae02 : Fok mi_J0_isLatin1_aae02 fn_J0_isLatin1_aae02 := fun _ _ _ _ h => am_fok ok_J0_isLatin1_aae02 rk_J0_isLatin1_aae02 rfl h
theorem sp_J0_isLatin1 (q : Nat) (hq : q = 1010 ∨ q = 1011) (M : List AC) : fn_J0_isLatin1_aae02 [vR q] M = some (some (vI 1), M) := by
  rcases hq with rfl | rfl <;>
  ((refine am_fnI (tb := tb_J0_isLatin1_aae02) (n := 20) (Nat.le_of_ble_eq_true rfl) (Nat.le_of_ble_eq_true rfl) ?_; show rx_J0_isLatin1_aae02 20 0 _ _ _ = _)
   simp [↓ri_J0_isLatin1_aae02, rs_J0_isLatin1_aae02_0, rs_J0_isLatin1_aae02_3, rs_J0_isLatin1_aae02_6, rs_J0_isLatin1_aae02_7, rs_J0_isLatin1_aae02_10, rs_J0_isLatin1_aae02_13, rs_J0_isLatin1_aae02_14, rs_J0_isLatin1_aae02_17, rs_J0_isLatin1_aae02_18, -List.getElem?_eq_getElem, am_js, am_e, am_in, am_sl, rI, rZ, rV, rJ, rA, rC, kI, kJ, kR, am_one, am_nl, am_w8, tIc, tLc, tNul, tIld, tLld, tAld, tIst, tLst, tAst, tIinc, tI2, tDv, tL2, tLrem, tLs, tLcmp, tI2l, tL2i, tI2c, tDup, tDup2, tPop, tGo, tIfeq, tIfne, tIflt, tIfge, tIfgt, tIfle, tCmeq, tCmne, tCmlt, tCmge, tCmgt, tCmle, tNu, tTs, tGf, tPf, tGs, tIal, tIas, tBal, tBas, tAln, tSv, tSc, tSb, tSl, tSk, tCv, tCs, tCt, tMx, tMn, wr_10000, wr_100000, wr_1000000, wr_10000000, wr_100000000, wr_2400, wr_9999, wr_0, wr_1, wr_2, wr_3, wr_4, wr_5, wr_6, wr_7, wr_8, wr_9, wr_10, wr_11, wr_12, wr_13, wr_14, wr_15, wr_16, wr_17, wr_18, wr_19, wr_20, wr_21, wr_22, wr_23, wr_24, wr_25, wr_26, wr_27, wr_28, wr_29, wr_30, wr_31, wr_32, wr_33, wr_34, wr_35, wr_36, wr_37, wr_38, wr_39, wr_40, wr_41, wr_42, wr_43, wr_44, wr_45, wr_46, wr_47, wr_48, wr_49, wr_50, wr_51, wr_52, wr_53, wr_54, wr_55, wr_56, wr_57, wr_58, wr_59, wr_60, wr_61, wr_62, wr_63, wr_99, wr_100, wr_192, wr_255, wr_256, wr_343, wr_999, wr_1000, wr_2401, wr_2147483647, wr_65535, wr_m1, wr_m2, wr_m3, wr_m4, wr_m9, ak_1000, ak_1001, ak_1002, ak_0, ak_1, ak_2, ak_3, ak_4, ak_5, ak_6, ak_7, ak_8, ak_9, ak_10, ak_11, ak_12, ak_13, ak_14, ak_15, ak_16, ak_17, ak_18, ak_19, ak_20, ak_21, ak_22, ak_23, ak_24, ak_25, ak_26, ak_27, ak_28, ak_29, ak_30, ak_31, ak_32, ak_33, ak_34, ak_35, ak_36, ak_37, ak_38, ak_39, ak_40, ak_41, ak_42, ak_43, ak_44, ak_45, ak_46, ak_47])
abbrev mi_J0_coder_7d493 : Mi := (yJ0_coder_7d493, cJ0_coder_7d493, 1, some .byte, 1)
theorem mf_J0_coder_7d493 : am_mf mi_J0_coder_7d493 0 := ⟨w_co_J0_coder_7d493, w_in_J0, ⟨by decide +kernel, by decide +kernel⟩, by decide +kernel, by decide⟩
def tb_J0_coder_7d493 : List (Nat × Tr) := [(0, tGs (vI 1)), (3, tIfeq 13), (6, tAld 0 1), (7, tSc), (10, tGo 14), (13, tIc 1 1)]
theorem ok_J0_coder_7d493 : Tok mi_J0_coder_7d493 tb_J0_coder_7d493 :=
  Tc (sd_gsCompact w_fl_J0_38 dJ0_coder_7d493_0) <|
  Tc (sd_if_eq (by decide) dJ0_coder_7d493_3) <|
  Tc (sd_aload_n dJ0_coder_7d493_6) <|
  Tc (sd_sc w_fl_J0_15 dJ0_coder_7d493_7) <|
  Tc (sd_goto (by decide) dJ0_coder_7d493_10) <|
  Tc (sd_iconst rfl dJ0_coder_7d493_13) <|
  Tn
theorem rk_J0_coder_7d493 : Rok mi_J0_coder_7d493 rZ [14] := rk_b dJ0_coder_7d493_14 <| rk_n
def rx_J0_coder_7d493 : Nat → Nat → AL → List AV → List AC → Option (Option AV × List AC) := am_r tb_J0_coder_7d493 rZ [14]
theorem rs_J0_coder_7d493_0 (n : Nat) (L : AL) (st : List AV) (M : List AC) : rx_J0_coder_7d493 (n + 1) 0 L st M = am_j (rx_J0_coder_7d493 n) ((tGs (vI 1)) 0 L st M) := rfl
theorem rs_J0_coder_7d493_3 (n : Nat) (L : AL) (st : List AV) (M : List AC) : rx_J0_coder_7d493 (n + 1) 3 L st M = am_j (rx_J0_coder_7d493 n) ((tIfeq 13) 3 L st M) := rfl
theorem rs_J0_coder_7d493_6 (n : Nat) (L : AL) (st : List AV) (M : List AC) : rx_J0_coder_7d493 (n + 1) 6 L st M = am_j (rx_J0_coder_7d493 n) ((tAld 0 1) 6 L st M) := rfl
theorem rs_J0_coder_7d493_7 (n : Nat) (L : AL) (st : List AV) (M : List AC) : rx_J0_coder_7d493 (n + 1) 7 L st M = am_j (rx_J0_coder_7d493 n) (tSc 7 L st M) := rfl
theorem rs_J0_coder_7d493_10 (n : Nat) (L : AL) (st : List AV) (M : List AC) : rx_J0_coder_7d493 (n + 1) 10 L st M = am_j (rx_J0_coder_7d493 n) ((tGo 14) 10 L st M) := rfl
theorem rs_J0_coder_7d493_13 (n : Nat) (L : AL) (st : List AV) (M : List AC) : rx_J0_coder_7d493 (n + 1) 13 L st M = am_j (rx_J0_coder_7d493 n) ((tIc 1 1) 13 L st M) := rfl
theorem rs_J0_coder_7d493_14 (n : Nat) (L : AL) (st : List AV) (M : List AC) : rx_J0_coder_7d493 (n + 1) 14 L st M = am_e rZ st M := rfl
theorem ri_J0_coder_7d493 (c : Prop) [Decidable c] (p q n : Nat) (L : AL) (st : List AV) (M : List AC) : rx_J0_coder_7d493 n (if c then p else q) L st M = if c then rx_J0_coder_7d493 n p L st M else rx_J0_coder_7d493 n q L st M := by split <;> rfl
theorem rm_J0_coder_7d493 {n k pc : Nat} {L : AL} {st : List AV} {M : List AC} {x : Option AV × List AC} (h : rx_J0_coder_7d493 n pc L st M = some x) (hk : n ≤ k) : rx_J0_coder_7d493 k pc L st M = some x := am_r_mono n k h hk
def fn_J0_coder_7d493 : Fn := am_fn rx_J0_coder_7d493 1
theorem fok_J0_coder_7d493 : Fok mi_J0_coder_7d493 fn_J0_coder_7d493 := fun _ _ _ _ h => am_fok ok_J0_coder_7d493 rk_J0_coder_7d493 rfl h
theorem sp_J0_coder (q : Nat) (hq : q = 1010 ∨ q = 1011) (M : List AC) : fn_J0_coder_7d493 [vR q] M = some (some (vI 0), M) := by
  rcases hq with rfl | rfl <;>
  ((refine am_fnI (tb := tb_J0_coder_7d493) (n := 20) (Nat.le_of_ble_eq_true rfl) (Nat.le_of_ble_eq_true rfl) ?_; show rx_J0_coder_7d493 20 0 _ _ _ = _)
   simp [↓ri_J0_coder_7d493, rs_J0_coder_7d493_0, rs_J0_coder_7d493_3, rs_J0_coder_7d493_6, rs_J0_coder_7d493_7, rs_J0_coder_7d493_10, rs_J0_coder_7d493_13, rs_J0_coder_7d493_14, -List.getElem?_eq_getElem, am_js, am_e, am_in, am_sl, rI, rZ, rV, rJ, rA, rC, kI, kJ, kR, am_one, am_nl, am_w8, tIc, tLc, tNul, tIld, tLld, tAld, tIst, tLst, tAst, tIinc, tI2, tDv, tL2, tLrem, tLs, tLcmp, tI2l, tL2i, tI2c, tDup, tDup2, tPop, tGo, tIfeq, tIfne, tIflt, tIfge, tIfgt, tIfle, tCmeq, tCmne, tCmlt, tCmge, tCmgt, tCmle, tNu, tTs, tGf, tPf, tGs, tIal, tIas, tBal, tBas, tAln, tSv, tSc, tSb, tSl, tSk, tCv, tCs, tCt, tMx, tMn, wr_10000, wr_100000, wr_1000000, wr_10000000, wr_100000000, wr_2400, wr_9999, wr_0, wr_1, wr_2, wr_3, wr_4, wr_5, wr_6, wr_7, wr_8, wr_9, wr_10, wr_11, wr_12, wr_13, wr_14, wr_15, wr_16, wr_17, wr_18, wr_19, wr_20, wr_21, wr_22, wr_23, wr_24, wr_25, wr_26, wr_27, wr_28, wr_29, wr_30, wr_31, wr_32, wr_33, wr_34, wr_35, wr_36, wr_37, wr_38, wr_39, wr_40, wr_41, wr_42, wr_43, wr_44, wr_45, wr_46, wr_47, wr_48, wr_49, wr_50, wr_51, wr_52, wr_53, wr_54, wr_55, wr_56, wr_57, wr_58, wr_59, wr_60, wr_61, wr_62, wr_63, wr_99, wr_100, wr_192, wr_255, wr_256, wr_343, wr_999, wr_1000, wr_2401, wr_2147483647, wr_65535, wr_m1, wr_m2, wr_m3, wr_m4, wr_m9, ak_1000, ak_1001, ak_1002, ak_0, ak_1, ak_2, ak_3, ak_4, ak_5, ak_6, ak_7, ak_8, ak_9, ak_10, ak_11, ak_12, ak_13, ak_14, ak_15, ak_16, ak_17, ak_18, ak_19, ak_20, ak_21, ak_22, ak_23, ak_24, ak_25, ak_26, ak_27, ak_28, ak_29, ak_30, ak_31, ak_32, ak_33, ak_34, ak_35, ak_36, ak_37, ak_38, ak_39, ak_40, ak_41, ak_42, ak_43, ak_44, ak_45, ak_46, ak_47])
abbrev mi_J0_length_8abf5 : Mi := (yJ0_length_8abf5, cJ0_length_8abf5, 1, some .int, 2)
theorem mf_J0_length_8abf5 : am_mf mi_J0_length_8abf5 0 := ⟨w_co_J0_length_8abf5, w_in_J0, ⟨by decide +kernel, by decide +kernel⟩, by decide +kernel, by decide⟩
def tb_J0_length_8abf5 : List (Nat × Tr) := [(0, tAld 0 1), (1, tSv), (4, tSl), (5, tAld 0 1), (6, tCt 0 fn_J0_coder_7d493), (9, tI2 oShr)]
theorem ok_J0_length_8abf5 : Tok mi_J0_length_8abf5 tb_J0_length_8abf5 :=
  Tc (sd_aload_n dJ0_length_8abf5_0) <|
  Tc (sd_sv w_fl_J0_9 dJ0_length_8abf5_1) <|
  Tc (sd_sl dJ0_length_8abf5_4) <|
  Tc (sd_aload_n dJ0_length_8abf5_5) <|
  Tc (sd_ct fok_J0_coder_7d493 mf_J0_coder_7d493 rfl w_ml_J0_335 w_im_J0_coder_7d493 w_se_J0_coder_7d493 (by decide) dJ0_length_8abf5_6) <|
  Tc (sd_ishr dJ0_length_8abf5_9) <|
  Tn
theorem rk_J0_length_8abf5 : Rok mi_J0_length_8abf5 rI [10] := rk_i dJ0_length_8abf5_10 <| rk_n
def rx_J0_length_8abf5 : Nat → Nat → AL → List AV → List AC → Option (Option AV × List AC) := am_r tb_J0_length_8abf5 rI [10]
theorem rs_J0_length_8abf5_0 (n : Nat) (L : AL) (st : List AV) (M : List AC) : rx_J0_length_8abf5 (n + 1) 0 L st M = am_j (rx_J0_length_8abf5 n) ((tAld 0 1) 0 L st M) := rfl
theorem rs_J0_length_8abf5_1 (n : Nat) (L : AL) (st : List AV) (M : List AC) : rx_J0_length_8abf5 (n + 1) 1 L st M = am_j (rx_J0_length_8abf5 n) (tSv 1 L st M) := rfl
theorem rs_J0_length_8abf5_4 (n : Nat) (L : AL) (st : List AV) (M : List AC) : rx_J0_length_8abf5 (n + 1) 4 L st M = am_j (rx_J0_length_8abf5 n) (tSl 4 L st M) := rfl
theorem rs_J0_length_8abf5_5 (n : Nat) (L : AL) (st : List AV) (M : List AC) : rx_J0_length_8abf5 (n + 1) 5 L st M = am_j (rx_J0_length_8abf5 n) ((tAld 0 1) 5 L st M) := rfl
theorem rs_J0_length_8abf5_6 (n : Nat) (L : AL) (st : List AV) (M : List AC) : rx_J0_length_8abf5 (n + 1) 6 L st M = am_j (rx_J0_length_8abf5 n) ((tCt 0 fn_J0_coder_7d493) 6 L st M) := rfl
theorem rs_J0_length_8abf5_9 (n : Nat) (L : AL) (st : List AV) (M : List AC) : rx_J0_length_8abf5 (n + 1) 9 L st M = am_j (rx_J0_length_8abf5 n) ((tI2 oShr) 9 L st M) := rfl
theorem rs_J0_length_8abf5_10 (n : Nat) (L : AL) (st : List AV) (M : List AC) : rx_J0_length_8abf5 (n + 1) 10 L st M = am_e rI st M := rfl
theorem ri_J0_length_8abf5 (c : Prop) [Decidable c] (p q n : Nat) (L : AL) (st : List AV) (M : List AC) : rx_J0_length_8abf5 n (if c then p else q) L st M = if c then rx_J0_length_8abf5 n p L st M else rx_J0_length_8abf5 n q L st M := by split <;> rfl
theorem rm_J0_length_8abf5 {n k pc : Nat} {L : AL} {st : List AV} {M : List AC} {x : Option AV × List AC} (h : rx_J0_length_8abf5 n pc L st M = some x) (hk : n ≤ k) : rx_J0_length_8abf5 k pc L st M = some x := am_r_mono n k h hk
def fn_J0_length_8abf5 : Fn := am_fn rx_J0_length_8abf5 1
theorem fok_J0_length_8abf5 : Fok mi_J0_length_8abf5 fn_J0_length_8abf5 := fun _ _ _ _ h => am_fok ok_J0_length_8abf5 rk_J0_length_8abf5 rfl h
theorem shr_0 : oShr 19 0 = 19 := by decide +kernel
theorem sp_J0_length (q : Nat) (hq : q = 1010 ∨ q = 1011) (M : List AC) : fn_J0_length_8abf5 [vR q] M = some (some (vI 19), M) := by
  have l1 : am_b1.length = 19 := rfl
  have l2 : am_b2.length = 19 := rfl
  rcases hq with rfl | rfl <;>
  ((refine am_fnI (tb := tb_J0_length_8abf5) (n := 20) (Nat.le_of_ble_eq_true rfl) (Nat.le_of_ble_eq_true rfl) ?_; show rx_J0_length_8abf5 20 0 _ _ _ = _)
   simp [↓ri_J0_length_8abf5, rs_J0_length_8abf5_0, rs_J0_length_8abf5_1, rs_J0_length_8abf5_4, rs_J0_length_8abf5_5, rs_J0_length_8abf5_6, rs_J0_length_8abf5_9, rs_J0_length_8abf5_10, -List.getElem?_eq_getElem, am_js, am_e, am_in, am_sl, rI, rZ, rV, rJ, rA, rC, kI, kJ, kR, am_one, am_nl, am_w8, tIc, tLc, tNul, tIld, tLld, tAld, tIst, tLst, tAst, tIinc, tI2, tDv, tL2, tLrem, tLs, tLcmp, tI2l, tL2i, tI2c, tDup, tDup2, tPop, tGo, tIfeq, tIfne, tIflt, tIfge, tIfgt, tIfle, tCmeq, tCmne, tCmlt, tCmge, tCmgt, tCmle, tNu, tTs, tGf, tPf, tGs, tIal, tIas, tBal, tBas, tAln, tSv, tSc, tSb, tSl, tSk, tCv, tCs, tCt, tMx, tMn, wr_10000, wr_100000, wr_1000000, wr_10000000, wr_100000000, wr_2400, wr_9999, wr_0, wr_1, wr_2, wr_3, wr_4, wr_5, wr_6, wr_7, wr_8, wr_9, wr_10, wr_11, wr_12, wr_13, wr_14, wr_15, wr_16, wr_17, wr_18, wr_19, wr_20, wr_21, wr_22, wr_23, wr_24, wr_25, wr_26, wr_27, wr_28, wr_29, wr_30, wr_31, wr_32, wr_33, wr_34, wr_35, wr_36, wr_37, wr_38, wr_39, wr_40, wr_41, wr_42, wr_43, wr_44, wr_45, wr_46, wr_47, wr_48, wr_49, wr_50, wr_51, wr_52, wr_53, wr_54, wr_55, wr_56, wr_57, wr_58, wr_59, wr_60, wr_61, wr_62, wr_63, wr_99, wr_100, wr_192, wr_255, wr_256, wr_343, wr_999, wr_1000, wr_2401, wr_2147483647, wr_65535, wr_m1, wr_m2, wr_m3, wr_m4, wr_m9, ak_1000, ak_1001, ak_1002, ak_0, ak_1, ak_2, ak_3, ak_4, ak_5, ak_6, ak_7, ak_8, ak_9, ak_10, ak_11, ak_12, ak_13, ak_14, ak_15, ak_16, ak_17, ak_18, ak_19, ak_20, ak_21, ak_22, ak_23, ak_24, ak_25, ak_26, ak_27, ak_28, ak_29, ak_30, ak_31, ak_32, ak_33, ak_34, ak_35, ak_36, ak_37, ak_38, ak_39, ak_40, ak_41, ak_42, ak_43, ak_44, ak_45, ak_46, ak_47, sp_J0_coder, am_b, l1, l2, shr_0])
abbrev mi_J0_charAt_5068e : Mi := (yJ0_charAt_5068e, cJ0_charAt_5068e, 2, some .char, 4)
theorem mf_J0_charAt_5068e : am_mf mi_J0_charAt_5068e 1 := ⟨w_co_J0_charAt_5068e, w_in_J0, ⟨by decide +kernel, by decide +kernel⟩, by decide +kernel, by decide⟩
def tb_J0_charAt_5068e : List (Nat × Tr) := [(0, tAld 0 1), (1, tCt 0 fn_J0_isLatin1_aae02), (4, tIfeq 16), (7, tAld 0 1), (8, tSv), (11, tIld 1 1), (12, tCs 2 fn_J1_charAt_3b067), (16, tAld 0 1), (17, tSv), (20, tIld 1 1)]
theorem ok_J0_charAt_5068e : Tok mi_J0_charAt_5068e tb_J0_charAt_5068e :=
  Tc (sd_aload_n dJ0_charAt_5068e_0) <|
  Tc (sd_ct fok_J0_isLatin1_aae02 mf_J0_isLatin1_aae02 rfl w_ml_J0_492 w_im_J0_isLatin1_aae02 w_se_J0_isLatin1_aae02 (by decide) dJ0_charAt_5068e_1) <|
  Tc (sd_if_eq (by decide) dJ0_charAt_5068e_4) <|
  Tc (sd_aload_n dJ0_charAt_5068e_7) <|
  Tc (sd_sv w_fl_J0_9 dJ0_charAt_5068e_8) <|
  Tc (sd_iload_n dJ0_charAt_5068e_11) <|
  Tc (sd_cs fok_J1_charAt_3b067 mf_J1_charAt_3b067 w_ml_J0_495 w_st_J1_charAt_3b067 (by decide) dJ0_charAt_5068e_12) <|
  Tc (sd_aload_n dJ0_charAt_5068e_16) <|
  Tc (sd_sv w_fl_J0_9 dJ0_charAt_5068e_17) <|
  Tc (sd_iload_n dJ0_charAt_5068e_20) <|
  Tn
theorem rk_J0_charAt_5068e : Rok mi_J0_charAt_5068e rC [15, 24] := rk_c dJ0_charAt_5068e_15 <| rk_c dJ0_charAt_5068e_24 <| rk_n
def rx_J0_charAt_5068e : Nat → Nat → AL → List AV → List AC → Option (Option AV × List AC) := am_r tb_J0_charAt_5068e rC [15, 24]
theorem rs_J0_charAt_5068e_0 (n : Nat) (L : AL) (st : List AV) (M : List AC) : rx_J0_charAt_5068e (n + 1) 0 L st M = am_j (rx_J0_charAt_5068e n) ((tAld 0 1) 0 L st M) := rfl
theorem rs_J0_charAt_5068e_1 (n : Nat) (L : AL) (st : List AV) (M : List AC) : rx_J0_charAt_5068e (n + 1) 1 L st M = am_j (rx_J0_charAt_5068e n) ((tCt 0 fn_J0_isLatin1_aae02) 1 L st M) := rfl
theorem rs_J0_charAt_5068e_4 (n : Nat) (L : AL) (st : List AV) (M : List AC) : rx_J0_charAt_5068e (n + 1) 4 L st M = am_j (rx_J0_charAt_5068e n) ((tIfeq 16) 4 L st M) := rfl
theorem rs_J0_charAt_5068e_7 (n : Nat) (L : AL) (st : List AV) (M : List AC) : rx_J0_charAt_5068e (n + 1) 7 L st M = am_j (rx_J0_charAt_5068e n) ((tAld 0 1) 7 L st M) := rfl
theorem rs_J0_charAt_5068e_8 (n : Nat) (L : AL) (st : List AV) (M : List AC) : rx_J0_charAt_5068e (n + 1) 8 L st M = am_j (rx_J0_charAt_5068e n) (tSv 8 L st M) := rfl
theorem rs_J0_charAt_5068e_11 (n : Nat) (L : AL) (st : List AV) (M : List AC) : rx_J0_charAt_5068e (n + 1) 11 L st M = am_j (rx_J0_charAt_5068e n) ((tIld 1 1) 11 L st M) := rfl
theorem rs_J0_charAt_5068e_12 (n : Nat) (L : AL) (st : List AV) (M : List AC) : rx_J0_charAt_5068e (n + 1) 12 L st M = am_j (rx_J0_charAt_5068e n) ((tCs 2 fn_J1_charAt_3b067) 12 L st M) := rfl
theorem rs_J0_charAt_5068e_16 (n : Nat) (L : AL) (st : List AV) (M : List AC) : rx_J0_charAt_5068e (n + 1) 16 L st M = am_j (rx_J0_charAt_5068e n) ((tAld 0 1) 16 L st M) := rfl
theorem rs_J0_charAt_5068e_17 (n : Nat) (L : AL) (st : List AV) (M : List AC) : rx_J0_charAt_5068e (n + 1) 17 L st M = am_j (rx_J0_charAt_5068e n) (tSv 17 L st M) := rfl
theorem rs_J0_charAt_5068e_20 (n : Nat) (L : AL) (st : List AV) (M : List AC) : rx_J0_charAt_5068e (n + 1) 20 L st M = am_j (rx_J0_charAt_5068e n) ((tIld 1 1) 20 L st M) := rfl
theorem rs_J0_charAt_5068e_15 (n : Nat) (L : AL) (st : List AV) (M : List AC) : rx_J0_charAt_5068e (n + 1) 15 L st M = am_e rC st M := rfl
theorem rs_J0_charAt_5068e_24 (n : Nat) (L : AL) (st : List AV) (M : List AC) : rx_J0_charAt_5068e (n + 1) 24 L st M = am_e rC st M := rfl
theorem ri_J0_charAt_5068e (c : Prop) [Decidable c] (p q n : Nat) (L : AL) (st : List AV) (M : List AC) : rx_J0_charAt_5068e n (if c then p else q) L st M = if c then rx_J0_charAt_5068e n p L st M else rx_J0_charAt_5068e n q L st M := by split <;> rfl
theorem rm_J0_charAt_5068e {n k pc : Nat} {L : AL} {st : List AV} {M : List AC} {x : Option AV × List AC} (h : rx_J0_charAt_5068e n pc L st M = some x) (hk : n ≤ k) : rx_J0_charAt_5068e k pc L st M = some x := am_r_mono n k h hk
def fn_J0_charAt_5068e : Fn := am_fn rx_J0_charAt_5068e 2
theorem fok_J0_charAt_5068e : Fok mi_J0_charAt_5068e fn_J0_charAt_5068e := fun _ _ _ _ h => am_fok ok_J0_charAt_5068e rk_J0_charAt_5068e rfl h
theorem sp_J0_charAt (p : Int) (hp : 0 ≤ p ∧ p < 19) (M : List AC) : fn_J0_charAt_5068e [vR 1010, vI p] M = some (some (vI (am_b1.getD p.toNat 0)), M) ∧ fn_J0_charAt_5068e [vR 1011, vI p] M = some (some (vI (am_b2.getD p.toNat 0)), M) := by
  obtain ⟨s1, s2⟩ := sp_J1_charAt p hp M
  have c1 := (chr_1 p.toNat (by omega)).2
  have c2 := (chr_2 p.toNat (by omega)).2
  constructor
  · (refine am_fnI (tb := tb_J0_charAt_5068e) (n := 20) (Nat.le_of_ble_eq_true rfl) (Nat.le_of_ble_eq_true rfl) ?_; show rx_J0_charAt_5068e 20 0 _ _ _ = _)
    simp [↓ri_J0_charAt_5068e, rs_J0_charAt_5068e_0, rs_J0_charAt_5068e_1, rs_J0_charAt_5068e_4, rs_J0_charAt_5068e_7, rs_J0_charAt_5068e_8, rs_J0_charAt_5068e_11, rs_J0_charAt_5068e_12, rs_J0_charAt_5068e_16, rs_J0_charAt_5068e_17, rs_J0_charAt_5068e_20, rs_J0_charAt_5068e_15, rs_J0_charAt_5068e_24, -List.getElem?_eq_getElem, am_js, am_e, am_in, am_sl, rI, rZ, rV, rJ, rA, rC, kI, kJ, kR, am_one, am_nl, am_w8, tIc, tLc, tNul, tIld, tLld, tAld, tIst, tLst, tAst, tIinc, tI2, tDv, tL2, tLrem, tLs, tLcmp, tI2l, tL2i, tI2c, tDup, tDup2, tPop, tGo, tIfeq, tIfne, tIflt, tIfge, tIfgt, tIfle, tCmeq, tCmne, tCmlt, tCmge, tCmgt, tCmle, tNu, tTs, tGf, tPf, tGs, tIal, tIas, tBal, tBas, tAln, tSv, tSc, tSb, tSl, tSk, tCv, tCs, tCt, tMx, tMn, wr_10000, wr_100000, wr_1000000, wr_10000000, wr_100000000, wr_2400, wr_9999, wr_0, wr_1, wr_2, wr_3, wr_4, wr_5, wr_6, wr_7, wr_8, wr_9, wr_10, wr_11, wr_12, wr_13, wr_14, wr_15, wr_16, wr_17, wr_18, wr_19, wr_20, wr_21, wr_22, wr_23, wr_24, wr_25, wr_26, wr_27, wr_28, wr_29, wr_30, wr_31, wr_32, wr_33, wr_34, wr_35, wr_36, wr_37, wr_38, wr_39, wr_40, wr_41, wr_42, wr_43, wr_44, wr_45, wr_46, wr_47, wr_48, wr_49, wr_50, wr_51, wr_52, wr_53, wr_54, wr_55, wr_56, wr_57, wr_58, wr_59, wr_60, wr_61, wr_62, wr_63, wr_99, wr_100, wr_192, wr_255, wr_256, wr_343, wr_999, wr_1000, wr_2401, wr_2147483647, wr_65535, wr_m1, wr_m2, wr_m3, wr_m4, wr_m9, ak_1000, ak_1001, ak_1002, ak_0, ak_1, ak_2, ak_3, ak_4, ak_5, ak_6, ak_7, ak_8, ak_9, ak_10, ak_11, ak_12, ak_13, ak_14, ak_15, ak_16, ak_17, ak_18, ak_19, ak_20, ak_21, ak_22, ak_23, ak_24, ak_25, ak_26, ak_27, ak_28, ak_29, ak_30, ak_31, ak_32, ak_33, ak_34, ak_35, ak_36, ak_37, ak_38, ak_39, ak_40, ak_41, ak_42, ak_43, ak_44, ak_45, ak_46, ak_47, -List.getD_eq_getElem?_getD, sp_J0_isLatin1, s1, c1]
  · (refine am_fnI (tb := tb_J0_charAt_5068e) (n := 20) (Nat.le_of_ble_eq_true rfl) (Nat.le_of_ble_eq_true rfl) ?_; show rx_J0_charAt_5068e 20 0 _ _ _ = _)
    simp [↓ri_J0_charAt_5068e, rs_J0_charAt_5068e_0, rs_J0_charAt_5068e_1, rs_J0_charAt_5068e_4, rs_J0_charAt_5068e_7, rs_J0_charAt_5068e_8, rs_J0_charAt_5068e_11, rs_J0_charAt_5068e_12, rs_J0_charAt_5068e_16, rs_J0_charAt_5068e_17, rs_J0_charAt_5068e_20, rs_J0_charAt_5068e_15, rs_J0_charAt_5068e_24, -List.getElem?_eq_getElem, am_js, am_e, am_in, am_sl, rI, rZ, rV, rJ, rA, rC, kI, kJ, kR, am_one, am_nl, am_w8, tIc, tLc, tNul, tIld, tLld, tAld, tIst, tLst, tAst, tIinc, tI2, tDv, tL2, tLrem, tLs, tLcmp, tI2l, tL2i, tI2c, tDup, tDup2, tPop, tGo, tIfeq, tIfne, tIflt, tIfge, tIfgt, tIfle, tCmeq, tCmne, tCmlt, tCmge, tCmgt, tCmle, tNu, tTs, tGf, tPf, tGs, tIal, tIas, tBal, tBas, tAln, tSv, tSc, tSb, tSl, tSk, tCv, tCs, tCt, tMx, tMn, wr_10000, wr_100000, wr_1000000, wr_10000000, wr_100000000, wr_2400, wr_9999, wr_0, wr_1, wr_2, wr_3, wr_4, wr_5, wr_6, wr_7, wr_8, wr_9, wr_10, wr_11, wr_12, wr_13, wr_14, wr_15, wr_16, wr_17, wr_18, wr_19, wr_20, wr_21, wr_22, wr_23, wr_24, wr_25, wr_26, wr_27, wr_28, wr_29, wr_30, wr_31, wr_32, wr_33, wr_34, wr_35, wr_36, wr_37, wr_38, wr_39, wr_40, wr_41, wr_42, wr_43, wr_44, wr_45, wr_46, wr_47, wr_48, wr_49, wr_50, wr_51, wr_52, wr_53, wr_54, wr_55, wr_56, wr_57, wr_58, wr_59, wr_60, wr_61, wr_62, wr_63, wr_99, wr_100, wr_192, wr_255, wr_256, wr_343, wr_999, wr_1000, wr_2401, wr_2147483647, wr_65535, wr_m1, wr_m2, wr_m3, wr_m4, wr_m9, ak_1000, ak_1001, ak_1002, ak_0, ak_1, ak_2, ak_3, ak_4, ak_5, ak_6, ak_7, ak_8, ak_9, ak_10, ak_11, ak_12, ak_13, ak_14, ak_15, ak_16, ak_17, ak_18, ak_19, ak_20, ak_21, ak_22, ak_23, ak_24, ak_25, ak_26, ak_27, ak_28, ak_29, ak_30, ak_31, ak_32, ak_33, ak_34, ak_35, ak_36, ak_37, ak_38, ak_39, ak_40, ak_41, ak_42, ak_43, ak_44, ak_45, ak_46, ak_47, -List.getD_eq_getElem?_getD, sp_J0_isLatin1, s2, c2]
abbrev mi_X5_fits : Mi := (yX5_fits, cX5_fits, 2, some .boolean, 5)
theorem mf_X5_fits : am_mf mi_X5_fits 2 := ⟨w_co_X5_fits, w_in_X5, ⟨by decide +kernel, by decide +kernel⟩, by decide +kernel, by decide⟩
def tb_X5_fits : List (Nat × Tr) := [(0, tIld 0 1), (1, tSk 1010), (3, tCt 0 fn_J0_length_8abf5), (6, tCmge 42), (9, tIld 0 1), (10, tSk 1011), (12, tCt 0 fn_J0_length_8abf5), (15, tCmge 42), (18, tIld 1 1), (19, tSk 1010), (21, tIld 0 1), (22, tCt 1 fn_J0_charAt_5068e), (25, tCmlt 42), (28, tIld 1 1), (29, tSk 1011), (31, tIld 0 1), (32, tCt 1 fn_J0_charAt_5068e), (35, tCmgt 42), (38, tIc 1 1), (39, tGo 43), (42, tIc 0 1)]
theorem ok_X5_fits : Tok mi_X5_fits tb_X5_fits :=
  Tc (sd_iload_n dX5_fits_0) <|
  Tc (sd_ldcS1 rfl dX5_fits_1) <|
  Tc (sd_ct fok_J0_length_8abf5 mf_J0_length_8abf5 rfl w_ml_X5_245 w_im_J0_length_8abf5 w_se_J0_length_8abf5 (by decide) dX5_fits_3) <|
  Tc (sd_cm_ge (by decide) dX5_fits_6) <|
  Tc (sd_iload_n dX5_fits_9) <|
  Tc (sd_ldcS2 rfl dX5_fits_10) <|
  Tc (sd_ct fok_J0_length_8abf5 mf_J0_length_8abf5 rfl w_ml_X5_245 w_im_J0_length_8abf5 w_se_J0_length_8abf5 (by decide) dX5_fits_12) <|
  Tc (sd_cm_ge (by decide) dX5_fits_15) <|
  Tc (sd_iload_n dX5_fits_18) <|
  Tc (sd_ldcS1 rfl dX5_fits_19) <|
  Tc (sd_iload_n dX5_fits_21) <|
  Tc (sd_ct fok_J0_charAt_5068e mf_J0_charAt_5068e rfl w_ml_X5_251 w_im_J0_charAt_5068e w_se_J0_charAt_5068e (by decide) dX5_fits_22) <|
  Tc (sd_cm_lt (by decide) dX5_fits_25) <|
  Tc (sd_iload_n dX5_fits_28) <|
  Tc (sd_ldcS2 rfl dX5_fits_29) <|
  Tc (sd_iload_n dX5_fits_31) <|
  Tc (sd_ct fok_J0_charAt_5068e mf_J0_charAt_5068e rfl w_ml_X5_251 w_im_J0_charAt_5068e w_se_J0_charAt_5068e (by decide) dX5_fits_32) <|
  Tc (sd_cm_gt (by decide) dX5_fits_35) <|
  Tc (sd_iconst rfl dX5_fits_38) <|
  Tc (sd_goto (by decide) dX5_fits_39) <|
  Tc (sd_iconst rfl dX5_fits_42) <|
  Tn
theorem rk_X5_fits : Rok mi_X5_fits rZ [43] := rk_z dX5_fits_43 <| rk_n
def rx_X5_fits : Nat → Nat → AL → List AV → List AC → Option (Option AV × List AC) := am_r tb_X5_fits rZ [43]
theorem rs_X5_fits_0 (n : Nat) (L : AL) (st : List AV) (M : List AC) : rx_X5_fits (n + 1) 0 L st M = am_j (rx_X5_fits n) ((tIld 0 1) 0 L st M) := rfl
theorem rs_X5_fits_1 (n : Nat) (L : AL) (st : List AV) (M : List AC) : rx_X5_fits (n + 1) 1 L st M = am_j (rx_X5_fits n) ((tSk 1010) 1 L st M) := rfl
theorem rs_X5_fits_3 (n : Nat) (L : AL) (st : List AV) (M : List AC) : rx_X5_fits (n + 1) 3 L st M = am_j (rx_X5_fits n) ((tCt 0 fn_J0_length_8abf5) 3 L st M) := rfl
theorem rs_X5_fits_6 (n : Nat) (L : AL) (st : List AV) (M : List AC) : rx_X5_fits (n + 1) 6 L st M = am_j (rx_X5_fits n) ((tCmge 42) 6 L st M) := rfl
theorem rs_X5_fits_9 (n : Nat) (L : AL) (st : List AV) (M : List AC) : rx_X5_fits (n + 1) 9 L st M = am_j (rx_X5_fits n) ((tIld 0 1) 9 L st M) := rfl
theorem rs_X5_fits_10 (n : Nat) (L : AL) (st : List AV) (M : List AC) : rx_X5_fits (n + 1) 10 L st M = am_j (rx_X5_fits n) ((tSk 1011) 10 L st M) := rfl
theorem rs_X5_fits_12 (n : Nat) (L : AL) (st : List AV) (M : List AC) : rx_X5_fits (n + 1) 12 L st M = am_j (rx_X5_fits n) ((tCt 0 fn_J0_length_8abf5) 12 L st M) := rfl
theorem rs_X5_fits_15 (n : Nat) (L : AL) (st : List AV) (M : List AC) : rx_X5_fits (n + 1) 15 L st M = am_j (rx_X5_fits n) ((tCmge 42) 15 L st M) := rfl
theorem rs_X5_fits_18 (n : Nat) (L : AL) (st : List AV) (M : List AC) : rx_X5_fits (n + 1) 18 L st M = am_j (rx_X5_fits n) ((tIld 1 1) 18 L st M) := rfl
theorem rs_X5_fits_19 (n : Nat) (L : AL) (st : List AV) (M : List AC) : rx_X5_fits (n + 1) 19 L st M = am_j (rx_X5_fits n) ((tSk 1010) 19 L st M) := rfl
theorem rs_X5_fits_21 (n : Nat) (L : AL) (st : List AV) (M : List AC) : rx_X5_fits (n + 1) 21 L st M = am_j (rx_X5_fits n) ((tIld 0 1) 21 L st M) := rfl
theorem rs_X5_fits_22 (n : Nat) (L : AL) (st : List AV) (M : List AC) : rx_X5_fits (n + 1) 22 L st M = am_j (rx_X5_fits n) ((tCt 1 fn_J0_charAt_5068e) 22 L st M) := rfl
theorem rs_X5_fits_25 (n : Nat) (L : AL) (st : List AV) (M : List AC) : rx_X5_fits (n + 1) 25 L st M = am_j (rx_X5_fits n) ((tCmlt 42) 25 L st M) := rfl
theorem rs_X5_fits_28 (n : Nat) (L : AL) (st : List AV) (M : List AC) : rx_X5_fits (n + 1) 28 L st M = am_j (rx_X5_fits n) ((tIld 1 1) 28 L st M) := rfl
theorem rs_X5_fits_29 (n : Nat) (L : AL) (st : List AV) (M : List AC) : rx_X5_fits (n + 1) 29 L st M = am_j (rx_X5_fits n) ((tSk 1011) 29 L st M) := rfl
theorem rs_X5_fits_31 (n : Nat) (L : AL) (st : List AV) (M : List AC) : rx_X5_fits (n + 1) 31 L st M = am_j (rx_X5_fits n) ((tIld 0 1) 31 L st M) := rfl
theorem rs_X5_fits_32 (n : Nat) (L : AL) (st : List AV) (M : List AC) : rx_X5_fits (n + 1) 32 L st M = am_j (rx_X5_fits n) ((tCt 1 fn_J0_charAt_5068e) 32 L st M) := rfl
theorem rs_X5_fits_35 (n : Nat) (L : AL) (st : List AV) (M : List AC) : rx_X5_fits (n + 1) 35 L st M = am_j (rx_X5_fits n) ((tCmgt 42) 35 L st M) := rfl
theorem rs_X5_fits_38 (n : Nat) (L : AL) (st : List AV) (M : List AC) : rx_X5_fits (n + 1) 38 L st M = am_j (rx_X5_fits n) ((tIc 1 1) 38 L st M) := rfl
theorem rs_X5_fits_39 (n : Nat) (L : AL) (st : List AV) (M : List AC) : rx_X5_fits (n + 1) 39 L st M = am_j (rx_X5_fits n) ((tGo 43) 39 L st M) := rfl
theorem rs_X5_fits_42 (n : Nat) (L : AL) (st : List AV) (M : List AC) : rx_X5_fits (n + 1) 42 L st M = am_j (rx_X5_fits n) ((tIc 0 1) 42 L st M) := rfl
theorem rs_X5_fits_43 (n : Nat) (L : AL) (st : List AV) (M : List AC) : rx_X5_fits (n + 1) 43 L st M = am_e rZ st M := rfl
theorem ri_X5_fits (c : Prop) [Decidable c] (p q n : Nat) (L : AL) (st : List AV) (M : List AC) : rx_X5_fits n (if c then p else q) L st M = if c then rx_X5_fits n p L st M else rx_X5_fits n q L st M := by split <;> rfl
theorem rm_X5_fits {n k pc : Nat} {L : AL} {st : List AV} {M : List AC} {x : Option AV × List AC} (h : rx_X5_fits n pc L st M = some x) (hk : n ≤ k) : rx_X5_fits k pc L st M = some x := am_r_mono n k h hk
def fn_X5_fits : Fn := am_fn rx_X5_fits 2
theorem fok_X5_fits : Fok mi_X5_fits fn_X5_fits := fun _ _ _ _ h => am_fok ok_X5_fits rk_X5_fits rfl h
def ft (p c : Int) : Int := if p < 19 ∧ am_b1.getD p.toNat 0 ≤ c ∧ c ≤ am_b2.getD p.toNat 0 then 1 else 0
theorem sp_X5_fits (p c : Int) (hp : 0 ≤ p ∧ p < 1000) (hc : 0 ≤ c ∧ c < 256) (M : List AC) : fn_X5_fits [vI p, vI c] M = some (some (vI (ft p c)), M) := by
  have wp : wr p = p := wr_id (by omega) (by omega)
  have wc : wr c = c := wr_id (by omega) (by omega)
  unfold ft
  by_cases h : p < 19
  · obtain ⟨s1, s2⟩ := sp_J0_charAt p ⟨hp.1, h⟩ M
    have c1 := (chr_1 p.toNat (by omega)).2
    have c2 := (chr_2 p.toNat (by omega)).2
    generalize am_b1.getD p.toNat 0 = g1 at s1 c1 ⊢
    generalize am_b2.getD p.toNat 0 = g2 at s2 c2 ⊢
    have w1 : wr g1 = g1 := wr_id (by omega) (by omega)
    have w2 : wr g2 = g2 := wr_id (by omega) (by omega)
    have h2 : ¬ 19 ≤ p := by omega
    (refine am_fnI (tb := tb_X5_fits) (n := 40) (Nat.le_of_ble_eq_true rfl) (Nat.le_of_ble_eq_true rfl) ?_; show rx_X5_fits 40 0 _ _ _ = _)
    simp [↓ri_X5_fits, rs_X5_fits_0, rs_X5_fits_1, rs_X5_fits_3, rs_X5_fits_6, rs_X5_fits_9, rs_X5_fits_10, rs_X5_fits_12, rs_X5_fits_15, rs_X5_fits_18, rs_X5_fits_19, rs_X5_fits_21, rs_X5_fits_22, rs_X5_fits_25, rs_X5_fits_28, rs_X5_fits_29, rs_X5_fits_31, rs_X5_fits_32, rs_X5_fits_35, rs_X5_fits_38, rs_X5_fits_39, rs_X5_fits_42, rs_X5_fits_43, -List.getElem?_eq_getElem, am_js, am_e, am_in, am_sl, rI, rZ, rV, rJ, rA, rC, kI, kJ, kR, am_one, am_nl, am_w8, tIc, tLc, tNul, tIld, tLld, tAld, tIst, tLst, tAst, tIinc, tI2, tDv, tL2, tLrem, tLs, tLcmp, tI2l, tL2i, tI2c, tDup, tDup2, tPop, tGo, tIfeq, tIfne, tIflt, tIfge, tIfgt, tIfle, tCmeq, tCmne, tCmlt, tCmge, tCmgt, tCmle, tNu, tTs, tGf, tPf, tGs, tIal, tIas, tBal, tBas, tAln, tSv, tSc, tSb, tSl, tSk, tCv, tCs, tCt, tMx, tMn, wr_10000, wr_100000, wr_1000000, wr_10000000, wr_100000000, wr_2400, wr_9999, wr_0, wr_1, wr_2, wr_3, wr_4, wr_5, wr_6, wr_7, wr_8, wr_9, wr_10, wr_11, wr_12, wr_13, wr_14, wr_15, wr_16, wr_17, wr_18, wr_19, wr_20, wr_21, wr_22, wr_23, wr_24, wr_25, wr_26, wr_27, wr_28, wr_29, wr_30, wr_31, wr_32, wr_33, wr_34, wr_35, wr_36, wr_37, wr_38, wr_39, wr_40, wr_41, wr_42, wr_43, wr_44, wr_45, wr_46, wr_47, wr_48, wr_49, wr_50, wr_51, wr_52, wr_53, wr_54, wr_55, wr_56, wr_57, wr_58, wr_59, wr_60, wr_61, wr_62, wr_63, wr_99, wr_100, wr_192, wr_255, wr_256, wr_343, wr_999, wr_1000, wr_2401, wr_2147483647, wr_65535, wr_m1, wr_m2, wr_m3, wr_m4, wr_m9, ak_1000, ak_1001, ak_1002, ak_0, ak_1, ak_2, ak_3, ak_4, ak_5, ak_6, ak_7, ak_8, ak_9, ak_10, ak_11, ak_12, ak_13, ak_14, ak_15, ak_16, ak_17, ak_18, ak_19, ak_20, ak_21, ak_22, ak_23, ak_24, ak_25, ak_26, ak_27, ak_28, ak_29, ak_30, ak_31, ak_32, ak_33, ak_34, ak_35, ak_36, ak_37, ak_38, ak_39, ak_40, ak_41, ak_42, ak_43, ak_44, ak_45, ak_46, ak_47, sp_J0_length, wp, wc, w1, w2, h, h2, s1, s2]
    (repeat' split) <;> first | rfl | omega
  · have h2 : 19 ≤ p := by omega
    (refine am_fnI (tb := tb_X5_fits) (n := 40) (Nat.le_of_ble_eq_true rfl) (Nat.le_of_ble_eq_true rfl) ?_; show rx_X5_fits 40 0 _ _ _ = _)
    simp [↓ri_X5_fits, rs_X5_fits_0, rs_X5_fits_1, rs_X5_fits_3, rs_X5_fits_6, rs_X5_fits_9, rs_X5_fits_10, rs_X5_fits_12, rs_X5_fits_15, rs_X5_fits_18, rs_X5_fits_19, rs_X5_fits_21, rs_X5_fits_22, rs_X5_fits_25, rs_X5_fits_28, rs_X5_fits_29, rs_X5_fits_31, rs_X5_fits_32, rs_X5_fits_35, rs_X5_fits_38, rs_X5_fits_39, rs_X5_fits_42, rs_X5_fits_43, -List.getElem?_eq_getElem, am_js, am_e, am_in, am_sl, rI, rZ, rV, rJ, rA, rC, kI, kJ, kR, am_one, am_nl, am_w8, tIc, tLc, tNul, tIld, tLld, tAld, tIst, tLst, tAst, tIinc, tI2, tDv, tL2, tLrem, tLs, tLcmp, tI2l, tL2i, tI2c, tDup, tDup2, tPop, tGo, tIfeq, tIfne, tIflt, tIfge, tIfgt, tIfle, tCmeq, tCmne, tCmlt, tCmge, tCmgt, tCmle, tNu, tTs, tGf, tPf, tGs, tIal, tIas, tBal, tBas, tAln, tSv, tSc, tSb, tSl, tSk, tCv, tCs, tCt, tMx, tMn, wr_10000, wr_100000, wr_1000000, wr_10000000, wr_100000000, wr_2400, wr_9999, wr_0, wr_1, wr_2, wr_3, wr_4, wr_5, wr_6, wr_7, wr_8, wr_9, wr_10, wr_11, wr_12, wr_13, wr_14, wr_15, wr_16, wr_17, wr_18, wr_19, wr_20, wr_21, wr_22, wr_23, wr_24, wr_25, wr_26, wr_27, wr_28, wr_29, wr_30, wr_31, wr_32, wr_33, wr_34, wr_35, wr_36, wr_37, wr_38, wr_39, wr_40, wr_41, wr_42, wr_43, wr_44, wr_45, wr_46, wr_47, wr_48, wr_49, wr_50, wr_51, wr_52, wr_53, wr_54, wr_55, wr_56, wr_57, wr_58, wr_59, wr_60, wr_61, wr_62, wr_63, wr_99, wr_100, wr_192, wr_255, wr_256, wr_343, wr_999, wr_1000, wr_2401, wr_2147483647, wr_65535, wr_m1, wr_m2, wr_m3, wr_m4, wr_m9, ak_1000, ak_1001, ak_1002, ak_0, ak_1, ak_2, ak_3, ak_4, ak_5, ak_6, ak_7, ak_8, ak_9, ak_10, ak_11, ak_12, ak_13, ak_14, ak_15, ak_16, ak_17, ak_18, ak_19, ak_20, ak_21, ak_22, ak_23, ak_24, ak_25, ak_26, ak_27, ak_28, ak_29, ak_30, ak_31, ak_32, ak_33, ak_34, ak_35, ak_36, ak_37, ak_38, ak_39, ak_40, ak_41, ak_42, ak_43, ak_44, ak_45, ak_46, ak_47, sp_J0_length, wp, wc, h, h2]
end
