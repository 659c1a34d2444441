noncomputable section
abbrev nw (d b s : F4) : List Int := [d.1, d.2.1, d.2.2.1, d.2.2.2, b.1, b.2.1, b.2.2.1, b.2.2.2, s.1, s.2.1, s.2.2.1, s.2.2.2]
abbrev mi_X6_layNow : Mi := (yX6_layNow, cX6_layNow, 2, none, 1)
theorem mf_X6_layNow : am_mf mi_X6_layNow 0 := ⟨w_co_X6_layNow, w_in_X6, ⟨by decide +kernel, by decide +kernel⟩, by decide +kernel, by decide⟩
def tb_X6_layNow : List (Nat × Tr) := [(0, tIc 0 1), (1, tIst 1 1), (2, tIld 1 1), (3, tIc 4 1), (4, tCmge 54), (7, tAld 0 1), (8, tGf 6 8), (11, tIld 1 1), (12, tAld 0 1), (13, tGf 6 2), (16, tIld 1 1), (17, tIal), (18, tIas), (19, tAld 0 1), (20, tGf 6 9), (23, tIld 1 1), (24, tAld 0 1), (25, tGf 6 2), (28, tIc 4 1), (29, tIld 1 1), (30, tI2 (fun a b => a + b)), (31, tIal), (32, tIas), (33, tAld 0 1), (34, tGf 6 10), (37, tIld 1 1), (38, tAld 0 1), (39, tGf 6 2), (42, tIc 8 2), (44, tIld 1 1), (45, tI2 (fun a b => a + b)), (46, tIal), (47, tIas), (48, tIinc 1 1), (51, tGo 2)]
theorem ok_X6_layNow : Tok mi_X6_layNow tb_X6_layNow :=
  Tc (sd_iconst rfl dX6_layNow_0) <|
  Tc (sd_istore_n dX6_layNow_1) <|
  Tc (sd_iload_n dX6_layNow_2) <|
  Tc (sd_iconst rfl dX6_layNow_3) <|
  Tc (sd_cm_ge (by decide) dX6_layNow_4) <|
  Tc (sd_aload_n dX6_layNow_7) <|
  Tc (sd_getf (T := TX6) rfl giX6 (by decide) w_fl_X6_25 dX6_layNow_8) <|
  Tc (sd_iload_n dX6_layNow_11) <|
  Tc (sd_aload_n dX6_layNow_12) <|
  Tc (sd_getf (T := TX6) rfl giX6 (by decide) w_fl_X6_13 dX6_layNow_13) <|
  Tc (sd_iload_n dX6_layNow_16) <|
  Tc (sd_ial dX6_layNow_17) <|
  Tc (sd_ias dX6_layNow_18) <|
  Tc (sd_aload_n dX6_layNow_19) <|
  Tc (sd_getf (T := TX6) rfl giX6 (by decide) w_fl_X6_28 dX6_layNow_20) <|
  Tc (sd_iload_n dX6_layNow_23) <|
  Tc (sd_aload_n dX6_layNow_24) <|
  Tc (sd_getf (T := TX6) rfl giX6 (by decide) w_fl_X6_13 dX6_layNow_25) <|
  Tc (sd_iconst rfl dX6_layNow_28) <|
  Tc (sd_iload_n dX6_layNow_29) <|
  Tc (sd_iadd dX6_layNow_30) <|
  Tc (sd_ial dX6_layNow_31) <|
  Tc (sd_ias dX6_layNow_32) <|
  Tc (sd_aload_n dX6_layNow_33) <|
  Tc (sd_getf (T := TX6) rfl giX6 (by decide) w_fl_X6_31 dX6_layNow_34) <|
  Tc (sd_iload_n dX6_layNow_37) <|
  Tc (sd_aload_n dX6_layNow_38) <|
  Tc (sd_getf (T := TX6) rfl giX6 (by decide) w_fl_X6_13 dX6_layNow_39) <|
  Tc (sd_bipush (by decide +kernel) dX6_layNow_42) <|
  Tc (sd_iload_n dX6_layNow_44) <|
  Tc (sd_iadd dX6_layNow_45) <|
  Tc (sd_ial dX6_layNow_46) <|
  Tc (sd_ias dX6_layNow_47) <|
  Tc (sd_iinc dX6_layNow_48) <|
  Tc (sd_goto (by decide) dX6_layNow_51) <|
  Tn
theorem rk_X6_layNow : Rok mi_X6_layNow rV [54] := rk_v dX6_layNow_54 <| rk_n
def rx_X6_layNow : Nat → Nat → AL → List AV → List AC → Option (Option AV × List AC) := am_r tb_X6_layNow rV [54]
theorem rs_X6_layNow_0 (n : Nat) (L : AL) (st : List AV) (M : List AC) : rx_X6_layNow (n + 1) 0 L st M = am_j (rx_X6_layNow n) ((tIc 0 1) 0 L st M) := rfl
theorem rs_X6_layNow_1 (n : Nat) (L : AL) (st : List AV) (M : List AC) : rx_X6_layNow (n + 1) 1 L st M = am_j (rx_X6_layNow n) ((tIst 1 1) 1 L st M) := rfl
theorem rs_X6_layNow_2 (n : Nat) (L : AL) (st : List AV) (M : List AC) : rx_X6_layNow (n + 1) 2 L st M = am_j (rx_X6_layNow n) ((tIld 1 1) 2 L st M) := rfl
theorem rs_X6_layNow_3 (n : Nat) (L : AL) (st : List AV) (M : List AC) : rx_X6_layNow (n + 1) 3 L st M = am_j (rx_X6_layNow n) ((tIc 4 1) 3 L st M) := rfl
theorem rs_X6_layNow_4 (n : Nat) (L : AL) (st : List AV) (M : List AC) : rx_X6_layNow (n + 1) 4 L st M = am_j (rx_X6_layNow n) ((tCmge 54) 4 L st M) := rfl
theorem rs_X6_layNow_7 (n : Nat) (L : AL) (st : List AV) (M : List AC) : rx_X6_layNow (n + 1) 7 L st M = am_j (rx_X6_layNow n) ((tAld 0 1) 7 L st M) := rfl
theorem rs_X6_layNow_8 (n : Nat) (L : AL) (st : List AV) (M : List AC) : rx_X6_layNow (n + 1) 8 L st M = am_j (rx_X6_layNow n) ((tGf 6 8) 8 L st M) := rfl
theorem rs_X6_layNow_11 (n : Nat) (L : AL) (st : List AV) (M : List AC) : rx_X6_layNow (n + 1) 11 L st M = am_j (rx_X6_layNow n) ((tIld 1 1) 11 L st M) := rfl
theorem rs_X6_layNow_12 (n : Nat) (L : AL) (st : List AV) (M : List AC) : rx_X6_layNow (n + 1) 12 L st M = am_j (rx_X6_layNow n) ((tAld 0 1) 12 L st M) := rfl
theorem rs_X6_layNow_13 (n : Nat) (L : AL) (st : List AV) (M : List AC) : rx_X6_layNow (n + 1) 13 L st M = am_j (rx_X6_layNow n) ((tGf 6 2) 13 L st M) := rfl
theorem rs_X6_layNow_16 (n : Nat) (L : AL) (st : List AV) (M : List AC) : rx_X6_layNow (n + 1) 16 L st M = am_j (rx_X6_layNow n) ((tIld 1 1) 16 L st M) := rfl
theorem rs_X6_layNow_17 (n : Nat) (L : AL) (st : List AV) (M : List AC) : rx_X6_layNow (n + 1) 17 L st M = am_j (rx_X6_layNow n) (tIal 17 L st M) := rfl
theorem rs_X6_layNow_18 (n : Nat) (L : AL) (st : List AV) (M : List AC) : rx_X6_layNow (n + 1) 18 L st M = am_j (rx_X6_layNow n) (tIas 18 L st M) := rfl
theorem rs_X6_layNow_19 (n : Nat) (L : AL) (st : List AV) (M : List AC) : rx_X6_layNow (n + 1) 19 L st M = am_j (rx_X6_layNow n) ((tAld 0 1) 19 L st M) := rfl
theorem rs_X6_layNow_20 (n : Nat) (L : AL) (st : List AV) (M : List AC) : rx_X6_layNow (n + 1) 20 L st M = am_j (rx_X6_layNow n) ((tGf 6 9) 20 L st M) := rfl
theorem rs_X6_layNow_23 (n : Nat) (L : AL) (st : List AV) (M : List AC) : rx_X6_layNow (n + 1) 23 L st M = am_j (rx_X6_layNow n) ((tIld 1 1) 23 L st M) := rfl
theorem rs_X6_layNow_24 (n : Nat) (L : AL) (st : List AV) (M : List AC) : rx_X6_layNow (n + 1) 24 L st M = am_j (rx_X6_layNow n) ((tAld 0 1) 24 L st M) := rfl
theorem rs_X6_layNow_25 (n : Nat) (L : AL) (st : List AV) (M : List AC) : rx_X6_layNow (n + 1) 25 L st M = am_j (rx_X6_layNow n) ((tGf 6 2) 25 L st M) := rfl
theorem rs_X6_layNow_28 (n : Nat) (L : AL) (st : List AV) (M : List AC) : rx_X6_layNow (n + 1) 28 L st M = am_j (rx_X6_layNow n) ((tIc 4 1) 28 L st M) := rfl
theorem rs_X6_layNow_29 (n : Nat) (L : AL) (st : List AV) (M : List AC) : rx_X6_layNow (n + 1) 29 L st M = am_j (rx_X6_layNow n) ((tIld 1 1) 29 L st M) := rfl
theorem rs_X6_layNow_30 (n : Nat) (L : AL) (st : List AV) (M : List AC) : rx_X6_layNow (n + 1) 30 L st M = am_j (rx_X6_layNow n) ((tI2 (fun a b => a + b)) 30 L st M) := rfl
theorem rs_X6_layNow_31 (n : Nat) (L : AL) (st : List AV) (M : List AC) : rx_X6_layNow (n + 1) 31 L st M = am_j (rx_X6_layNow n) (tIal 31 L st M) := rfl
theorem rs_X6_layNow_32 (n : Nat) (L : AL) (st : List AV) (M : List AC) : rx_X6_layNow (n + 1) 32 L st M = am_j (rx_X6_layNow n) (tIas 32 L st M) := rfl
theorem rs_X6_layNow_33 (n : Nat) (L : AL) (st : List AV) (M : List AC) : rx_X6_layNow (n + 1) 33 L st M = am_j (rx_X6_layNow n) ((tAld 0 1) 33 L st M) := rfl
theorem rs_X6_layNow_34 (n : Nat) (L : AL) (st : List AV) (M : List AC) : rx_X6_layNow (n + 1) 34 L st M = am_j (rx_X6_layNow n) ((tGf 6 10) 34 L st M) := rfl
theorem rs_X6_layNow_37 (n : Nat) (L : AL) (st : List AV) (M : List AC) : rx_X6_layNow (n + 1) 37 L st M = am_j (rx_X6_layNow n) ((tIld 1 1) 37 L st M) := rfl
theorem rs_X6_layNow_38 (n : Nat) (L : AL) (st : List AV) (M : List AC) : rx_X6_layNow (n + 1) 38 L st M = am_j (rx_X6_layNow n) ((tAld 0 1) 38 L st M) := rfl
theorem rs_X6_layNow_39 (n : Nat) (L : AL) (st : List AV) (M : List AC) : rx_X6_layNow (n + 1) 39 L st M = am_j (rx_X6_layNow n) ((tGf 6 2) 39 L st M) := rfl
theorem rs_X6_layNow_42 (n : Nat) (L : AL) (st : List AV) (M : List AC) : rx_X6_layNow (n + 1) 42 L st M = am_j (rx_X6_layNow n) ((tIc 8 2) 42 L st M) := rfl
theorem rs_X6_layNow_44 (n : Nat) (L : AL) (st : List AV) (M : List AC) : rx_X6_layNow (n + 1) 44 L st M = am_j (rx_X6_layNow n) ((tIld 1 1) 44 L st M) := rfl
theorem rs_X6_layNow_45 (n : Nat) (L : AL) (st : List AV) (M : List AC) : rx_X6_layNow (n + 1) 45 L st M = am_j (rx_X6_layNow n) ((tI2 (fun a b => a + b)) 45 L st M) := rfl
theorem rs_X6_layNow_46 (n : Nat) (L : AL) (st : List AV) (M : List AC) : rx_X6_layNow (n + 1) 46 L st M = am_j (rx_X6_layNow n) (tIal 46 L st M) := rfl
theorem rs_X6_layNow_47 (n : Nat) (L : AL) (st : List AV) (M : List AC) : rx_X6_layNow (n + 1) 47 L st M = am_j (rx_X6_layNow n) (tIas 47 L st M) := rfl
theorem rs_X6_layNow_48 (n : Nat) (L : AL) (st : List AV) (M : List AC) : rx_X6_layNow (n + 1) 48 L st M = am_j (rx_X6_layNow n) ((tIinc 1 1) 48 L st M) := rfl
theorem rs_X6_layNow_51 (n : Nat) (L : AL) (st : List AV) (M : List AC) : rx_X6_layNow (n + 1) 51 L st M = am_j (rx_X6_layNow n) ((tGo 2) 51 L st M) := rfl
theorem rs_X6_layNow_54 (n : Nat) (L : AL) (st : List AV) (M : List AC) : rx_X6_layNow (n + 1) 54 L st M = am_e rV st M := rfl
theorem ri_X6_layNow (c : Prop) [Decidable c] (p q n : Nat) (L : AL) (st : List AV) (M : List AC) : rx_X6_layNow n (if c then p else q) L st M = if c then rx_X6_layNow n p L st M else rx_X6_layNow n q L st M := by split <;> rfl
theorem rm_X6_layNow {n k pc : Nat} {L : AL} {st : List AV} {M : List AC} {x : Option AV × List AC} (h : rx_X6_layNow n pc L st M = some x) (hk : n ≤ k) : rx_X6_layNow k pc L st M = some x := am_r_mono n k h hk
def fn_X6_layNow : Fn := am_fn rx_X6_layNow 2
theorem fok_X6_layNow : Fok mi_X6_layNow fn_X6_layNow := fun _ _ _ _ h => am_fok ok_X6_layNow rk_X6_layNow rfl h
theorem sp_X6_layNow {M : List AC} {st lk len ac nx rf lr en lm : Int} {sd : Int64} (h0 : M[26]? = some (mo st lk len ac nx rf lr en lm sd)) {d b s d' b' s' : F4} (h28 : M[28]? = some (aI (nw d b s))) (h32 : M[32]? = some (aI (l4 d'))) (h33 : M[33]? = some (aI (l4 b'))) (h34 : M[34]? = some (aI (l4 s'))) : fn_X6_layNow [vR 26] M = some (none, ((M.set 32 (aI (l4 d))).set 33 (aI (l4 b))).set 34 (aI (l4 s))) := by
  (refine am_fnI (tb := tb_X6_layNow) (n := 200) (Nat.le_of_ble_eq_true rfl) (Nat.le_of_ble_eq_true rfl) ?_; show rx_X6_layNow 200 0 _ _ _ = _)
  simp [↓ri_X6_layNow, rs_X6_layNow_0, rs_X6_layNow_1, rs_X6_layNow_2, rs_X6_layNow_3, rs_X6_layNow_4, rs_X6_layNow_7, rs_X6_layNow_8, rs_X6_layNow_11, rs_X6_layNow_12, rs_X6_layNow_13, rs_X6_layNow_16, rs_X6_layNow_17, rs_X6_layNow_18, rs_X6_layNow_19, rs_X6_layNow_20, rs_X6_layNow_23, rs_X6_layNow_24, rs_X6_layNow_25, rs_X6_layNow_28, rs_X6_layNow_29, rs_X6_layNow_30, rs_X6_layNow_31, rs_X6_layNow_32, rs_X6_layNow_33, rs_X6_layNow_34, rs_X6_layNow_37, rs_X6_layNow_38, rs_X6_layNow_39, rs_X6_layNow_42, rs_X6_layNow_44, rs_X6_layNow_45, rs_X6_layNow_46, rs_X6_layNow_47, rs_X6_layNow_48, rs_X6_layNow_51, rs_X6_layNow_54, -List.getElem?_eq_getElem, am_js, am_e, am_in, am_sl, rI, rZ, rV, rJ, rA, rC, kI, kJ, kR, am_one, am_nl, am_w8, tIc, tLc, tNul, tIld, tLld, tAld, tIst, tLst, tAst, tIinc, tI2, tDv, tL2, tLrem, tLs, tLcmp, tI2l, tL2i, tI2c, tDup, tDup2, tPop, tGo, tIfeq, tIfne, tIflt, tIfge, tIfgt, tIfle, tCmeq, tCmne, tCmlt, tCmge, tCmgt, tCmle, tNu, tTs, tGf, tPf, tGs, tIal, tIas, tBal, tBas, tAln, tSv, tSc, tSb, tSl, tSk, tCv, tCs, tCt, tMx, tMn, wr_10000, wr_100000, wr_1000000, wr_10000000, wr_100000000, wr_2400, wr_9999, wr_0, wr_1, wr_2, wr_3, wr_4, wr_5, wr_6, wr_7, wr_8, wr_9, wr_10, wr_11, wr_12, wr_13, wr_14, wr_15, wr_16, wr_17, wr_18, wr_19, wr_20, wr_21, wr_22, wr_23, wr_24, wr_25, wr_26, wr_27, wr_28, wr_29, wr_30, wr_31, wr_32, wr_33, wr_34, wr_35, wr_36, wr_37, wr_38, wr_39, wr_40, wr_41, wr_42, wr_43, wr_44, wr_45, wr_46, wr_47, wr_48, wr_49, wr_50, wr_51, wr_52, wr_53, wr_54, wr_55, wr_56, wr_57, wr_58, wr_59, wr_60, wr_61, wr_62, wr_63, wr_99, wr_100, wr_192, wr_255, wr_256, wr_343, wr_999, wr_1000, wr_2401, wr_2147483647, wr_65535, wr_m1, wr_m2, wr_m3, wr_m4, wr_m9, ak_1000, ak_1001, ak_1002, ak_0, ak_1, ak_2, ak_3, ak_4, ak_5, ak_6, ak_7, ak_8, ak_9, ak_10, ak_11, ak_12, ak_13, ak_14, ak_15, ak_16, ak_17, ak_18, ak_19, ak_20, ak_21, ak_22, ak_23, ak_24, ak_25, ak_26, ak_27, ak_28, ak_29, ak_30, ak_31, ak_32, ak_33, ak_34, ak_35, ak_36, ak_37, ak_38, ak_39, ak_40, ak_41, ak_42, ak_43, ak_44, ak_45, ak_46, ak_47, h0, mo, h28, h32, h33, h34, gs h32, gs h33, gs h34, ss (i := 32) (j := 33) (by decide), ss (i := 32) (j := 34) (by decide), ss (i := 33) (j := 34) (by decide)]
def tl (v : F4) : Int := 1000 * v.1 + 100 * v.2.1 + 10 * v.2.2.1 + v.2.2.2
theorem tl_fg (v : F4) : tl v = fg v := by unfold tl fg; omega
abbrev mi_X6_told : Mi := (yX6_told, cX6_told, 1, some .int, 1)
theorem mf_X6_told : am_mf mi_X6_told 0 := ⟨w_co_X6_told, w_in_X6, ⟨by decide +kernel, by decide +kernel⟩, by decide +kernel, by decide⟩
def tb_X6_told : List (Nat × Tr) := [(0, tIc 1000 3), (3, tAld 0 1), (4, tGf 6 8), (7, tIc 0 1), (8, tIal), (9, tI2 (fun a b => a * b)), (10, tIc 100 2), (12, tAld 0 1), (13, tGf 6 8), (16, tIc 1 1), (17, tIal), (18, tI2 (fun a b => a * b)), (19, tI2 (fun a b => a + b)), (20, tIc 10 2), (22, tAld 0 1), (23, tGf 6 8), (26, tIc 2 1), (27, tIal), (28, tI2 (fun a b => a * b)), (29, tI2 (fun a b => a + b)), (30, tAld 0 1), (31, tGf 6 8), (34, tIc 3 1), (35, tIal), (36, tI2 (fun a b => a + b))]
theorem ok_X6_told : Tok mi_X6_told tb_X6_told :=
  Tc (sd_sipush (by decide +kernel) dX6_told_0) <|
  Tc (sd_aload_n dX6_told_3) <|
  Tc (sd_getf (T := TX6) rfl giX6 (by decide) w_fl_X6_25 dX6_told_4) <|
  Tc (sd_iconst rfl dX6_told_7) <|
  Tc (sd_ial dX6_told_8) <|
  Tc (sd_imul dX6_told_9) <|
  Tc (sd_bipush (by decide +kernel) dX6_told_10) <|
  Tc (sd_aload_n dX6_told_12) <|
  Tc (sd_getf (T := TX6) rfl giX6 (by decide) w_fl_X6_25 dX6_told_13) <|
  Tc (sd_iconst rfl dX6_told_16) <|
  Tc (sd_ial dX6_told_17) <|
  Tc (sd_imul dX6_told_18) <|
  Tc (sd_iadd dX6_told_19) <|
  Tc (sd_bipush (by decide +kernel) dX6_told_20) <|
  Tc (sd_aload_n dX6_told_22) <|
  Tc (sd_getf (T := TX6) rfl giX6 (by decide) w_fl_X6_25 dX6_told_23) <|
  Tc (sd_iconst rfl dX6_told_26) <|
  Tc (sd_ial dX6_told_27) <|
  Tc (sd_imul dX6_told_28) <|
  Tc (sd_iadd dX6_told_29) <|
  Tc (sd_aload_n dX6_told_30) <|
  Tc (sd_getf (T := TX6) rfl giX6 (by decide) w_fl_X6_25 dX6_told_31) <|
  Tc (sd_iconst rfl dX6_told_34) <|
  Tc (sd_ial dX6_told_35) <|
  Tc (sd_iadd dX6_told_36) <|
  Tn
theorem rk_X6_told : Rok mi_X6_told rI [37] := rk_i dX6_told_37 <| rk_n
def rx_X6_told : Nat → Nat → AL → List AV → List AC → Option (Option AV × List AC) := am_r tb_X6_told rI [37]
theorem rs_X6_told_0 (n : Nat) (L : AL) (st : List AV) (M : List AC) : rx_X6_told (n + 1) 0 L st M = am_j (rx_X6_told n) ((tIc 1000 3) 0 L st M) := rfl
theorem rs_X6_told_3 (n : Nat) (L : AL) (st : List AV) (M : List AC) : rx_X6_told (n + 1) 3 L st M = am_j (rx_X6_told n) ((tAld 0 1) 3 L st M) := rfl
theorem rs_X6_told_4 (n : Nat) (L : AL) (st : List AV) (M : List AC) : rx_X6_told (n + 1) 4 L st M = am_j (rx_X6_told n) ((tGf 6 8) 4 L st M) := rfl
theorem rs_X6_told_7 (n : Nat) (L : AL) (st : List AV) (M : List AC) : rx_X6_told (n + 1) 7 L st M = am_j (rx_X6_told n) ((tIc 0 1) 7 L st M) := rfl
theorem rs_X6_told_8 (n : Nat) (L : AL) (st : List AV) (M : List AC) : rx_X6_told (n + 1) 8 L st M = am_j (rx_X6_told n) (tIal 8 L st M) := rfl
theorem rs_X6_told_9 (n : Nat) (L : AL) (st : List AV) (M : List AC) : rx_X6_told (n + 1) 9 L st M = am_j (rx_X6_told n) ((tI2 (fun a b => a * b)) 9 L st M) := rfl
theorem rs_X6_told_10 (n : Nat) (L : AL) (st : List AV) (M : List AC) : rx_X6_told (n + 1) 10 L st M = am_j (rx_X6_told n) ((tIc 100 2) 10 L st M) := rfl
theorem rs_X6_told_12 (n : Nat) (L : AL) (st : List AV) (M : List AC) : rx_X6_told (n + 1) 12 L st M = am_j (rx_X6_told n) ((tAld 0 1) 12 L st M) := rfl
theorem rs_X6_told_13 (n : Nat) (L : AL) (st : List AV) (M : List AC) : rx_X6_told (n + 1) 13 L st M = am_j (rx_X6_told n) ((tGf 6 8) 13 L st M) := rfl
theorem rs_X6_told_16 (n : Nat) (L : AL) (st : List AV) (M : List AC) : rx_X6_told (n + 1) 16 L st M = am_j (rx_X6_told n) ((tIc 1 1) 16 L st M) := rfl
theorem rs_X6_told_17 (n : Nat) (L : AL) (st : List AV) (M : List AC) : rx_X6_told (n + 1) 17 L st M = am_j (rx_X6_told n) (tIal 17 L st M) := rfl
theorem rs_X6_told_18 (n : Nat) (L : AL) (st : List AV) (M : List AC) : rx_X6_told (n + 1) 18 L st M = am_j (rx_X6_told n) ((tI2 (fun a b => a * b)) 18 L st M) := rfl
theorem rs_X6_told_19 (n : Nat) (L : AL) (st : List AV) (M : List AC) : rx_X6_told (n + 1) 19 L st M = am_j (rx_X6_told n) ((tI2 (fun a b => a + b)) 19 L st M) := rfl
theorem rs_X6_told_20 (n : Nat) (L : AL) (st : List AV) (M : List AC) : rx_X6_told (n + 1) 20 L st M = am_j (rx_X6_told n) ((tIc 10 2) 20 L st M) := rfl
theorem rs_X6_told_22 (n : Nat) (L : AL) (st : List AV) (M : List AC) : rx_X6_told (n + 1) 22 L st M = am_j (rx_X6_told n) ((tAld 0 1) 22 L st M) := rfl
theorem rs_X6_told_23 (n : Nat) (L : AL) (st : List AV) (M : List AC) : rx_X6_told (n + 1) 23 L st M = am_j (rx_X6_told n) ((tGf 6 8) 23 L st M) := rfl
theorem rs_X6_told_26 (n : Nat) (L : AL) (st : List AV) (M : List AC) : rx_X6_told (n + 1) 26 L st M = am_j (rx_X6_told n) ((tIc 2 1) 26 L st M) := rfl
theorem rs_X6_told_27 (n : Nat) (L : AL) (st : List AV) (M : List AC) : rx_X6_told (n + 1) 27 L st M = am_j (rx_X6_told n) (tIal 27 L st M) := rfl
theorem rs_X6_told_28 (n : Nat) (L : AL) (st : List AV) (M : List AC) : rx_X6_told (n + 1) 28 L st M = am_j (rx_X6_told n) ((tI2 (fun a b => a * b)) 28 L st M) := rfl
theorem rs_X6_told_29 (n : Nat) (L : AL) (st : List AV) (M : List AC) : rx_X6_told (n + 1) 29 L st M = am_j (rx_X6_told n) ((tI2 (fun a b => a + b)) 29 L st M) := rfl
theorem rs_X6_told_30 (n : Nat) (L : AL) (st : List AV) (M : List AC) : rx_X6_told (n + 1) 30 L st M = am_j (rx_X6_told n) ((tAld 0 1) 30 L st M) := rfl
theorem rs_X6_told_31 (n : Nat) (L : AL) (st : List AV) (M : List AC) : rx_X6_told (n + 1) 31 L st M = am_j (rx_X6_told n) ((tGf 6 8) 31 L st M) := rfl
theorem rs_X6_told_34 (n : Nat) (L : AL) (st : List AV) (M : List AC) : rx_X6_told (n + 1) 34 L st M = am_j (rx_X6_told n) ((tIc 3 1) 34 L st M) := rfl
theorem rs_X6_told_35 (n : Nat) (L : AL) (st : List AV) (M : List AC) : rx_X6_told (n + 1) 35 L st M = am_j (rx_X6_told n) (tIal 35 L st M) := rfl
theorem rs_X6_told_36 (n : Nat) (L : AL) (st : List AV) (M : List AC) : rx_X6_told (n + 1) 36 L st M = am_j (rx_X6_told n) ((tI2 (fun a b => a + b)) 36 L st M) := rfl
theorem rs_X6_told_37 (n : Nat) (L : AL) (st : List AV) (M : List AC) : rx_X6_told (n + 1) 37 L st M = am_e rI st M := rfl
theorem ri_X6_told (c : Prop) [Decidable c] (p q n : Nat) (L : AL) (st : List AV) (M : List AC) : rx_X6_told n (if c then p else q) L st M = if c then rx_X6_told n p L st M else rx_X6_told n q L st M := by split <;> rfl
theorem rm_X6_told {n k pc : Nat} {L : AL} {st : List AV} {M : List AC} {x : Option AV × List AC} (h : rx_X6_told n pc L st M = some x) (hk : n ≤ k) : rx_X6_told k pc L st M = some x := am_r_mono n k h hk
def fn_X6_told : Fn := am_fn rx_X6_told 1
theorem fok_X6_told : Fok mi_X6_told fn_X6_told := fun _ _ _ _ h => am_fok ok_X6_told rk_X6_told rfl h
theorem sp_X6_told {M : List AC} {st lk len ac nx rf lr en lm : Int} {sd : Int64} (h0 : M[26]? = some (mo st lk len ac nx rf lr en lm sd)) {d : F4} (h32 : M[32]? = some (aI (l4 d))) : fn_X6_told [vR 26] M = some (some (vI (fg d)), M) := by
  rw [← tl_fg]
  (refine am_fnI (tb := tb_X6_told) (n := 60) (Nat.le_of_ble_eq_true rfl) (Nat.le_of_ble_eq_true rfl) ?_; show rx_X6_told 60 0 _ _ _ = _)
  simp [↓ri_X6_told, rs_X6_told_0, rs_X6_told_3, rs_X6_told_4, rs_X6_told_7, rs_X6_told_8, rs_X6_told_9, rs_X6_told_10, rs_X6_told_12, rs_X6_told_13, rs_X6_told_16, rs_X6_told_17, rs_X6_told_18, rs_X6_told_19, rs_X6_told_20, rs_X6_told_22, rs_X6_told_23, rs_X6_told_26, rs_X6_told_27, rs_X6_told_28, rs_X6_told_29, rs_X6_told_30, rs_X6_told_31, rs_X6_told_34, rs_X6_told_35, rs_X6_told_36, rs_X6_told_37, -List.getElem?_eq_getElem, am_js, am_e, am_in, am_sl, rI, rZ, rV, rJ, rA, rC, kI, kJ, kR, am_one, am_nl, am_w8, tIc, tLc, tNul, tIld, tLld, tAld, tIst, tLst, tAst, tIinc, tI2, tDv, tL2, tLrem, tLs, tLcmp, tI2l, tL2i, tI2c, tDup, tDup2, tPop, tGo, tIfeq, tIfne, tIflt, tIfge, tIfgt, tIfle, tCmeq, tCmne, tCmlt, tCmge, tCmgt, tCmle, tNu, tTs, tGf, tPf, tGs, tIal, tIas, tBal, tBas, tAln, tSv, tSc, tSb, tSl, tSk, tCv, tCs, tCt, tMx, tMn, wr_10000, wr_100000, wr_1000000, wr_10000000, wr_100000000, wr_2400, wr_9999, wr_0, wr_1, wr_2, wr_3, wr_4, wr_5, wr_6, wr_7, wr_8, wr_9, wr_10, wr_11, wr_12, wr_13, wr_14, wr_15, wr_16, wr_17, wr_18, wr_19, wr_20, wr_21, wr_22, wr_23, wr_24, wr_25, wr_26, wr_27, wr_28, wr_29, wr_30, wr_31, wr_32, wr_33, wr_34, wr_35, wr_36, wr_37, wr_38, wr_39, wr_40, wr_41, wr_42, wr_43, wr_44, wr_45, wr_46, wr_47, wr_48, wr_49, wr_50, wr_51, wr_52, wr_53, wr_54, wr_55, wr_56, wr_57, wr_58, wr_59, wr_60, wr_61, wr_62, wr_63, wr_99, wr_100, wr_192, wr_255, wr_256, wr_343, wr_999, wr_1000, wr_2401, wr_2147483647, wr_65535, wr_m1, wr_m2, wr_m3, wr_m4, wr_m9, ak_1000, ak_1001, ak_1002, ak_0, ak_1, ak_2, ak_3, ak_4, ak_5, ak_6, ak_7, ak_8, ak_9, ak_10, ak_11, ak_12, ak_13, ak_14, ak_15, ak_16, ak_17, ak_18, ak_19, ak_20, ak_21, ak_22, ak_23, ak_24, ak_25, ak_26, ak_27, ak_28, ak_29, ak_30, ak_31, ak_32, ak_33, ak_34, ak_35, ak_36, ak_37, ak_38, ak_39, ak_40, ak_41, ak_42, ak_43, ak_44, ak_45, ak_46, ak_47, h0, mo, h32, tl]
abbrev mi_X6_toldNow : Mi := (yX6_toldNow, cX6_toldNow, 1, some .int, 1)
theorem mf_X6_toldNow : am_mf mi_X6_toldNow 0 := ⟨w_co_X6_toldNow, w_in_X6, ⟨by decide +kernel, by decide +kernel⟩, by decide +kernel, by decide⟩
def tb_X6_toldNow : List (Nat × Tr) := [(0, tIc 1000 3), (3, tAld 0 1), (4, tGf 6 2), (7, tIc 0 1), (8, tIal), (9, tI2 (fun a b => a * b)), (10, tIc 100 2), (12, tAld 0 1), (13, tGf 6 2), (16, tIc 1 1), (17, tIal), (18, tI2 (fun a b => a * b)), (19, tI2 (fun a b => a + b)), (20, tIc 10 2), (22, tAld 0 1), (23, tGf 6 2), (26, tIc 2 1), (27, tIal), (28, tI2 (fun a b => a * b)), (29, tI2 (fun a b => a + b)), (30, tAld 0 1), (31, tGf 6 2), (34, tIc 3 1), (35, tIal), (36, tI2 (fun a b => a + b))]
theorem ok_X6_toldNow : Tok mi_X6_toldNow tb_X6_toldNow :=
  Tc (sd_sipush (by decide +kernel) dX6_toldNow_0) <|
  Tc (sd_aload_n dX6_toldNow_3) <|
  Tc (sd_getf (T := TX6) rfl giX6 (by decide) w_fl_X6_13 dX6_toldNow_4) <|
  Tc (sd_iconst rfl dX6_toldNow_7) <|
  Tc (sd_ial dX6_toldNow_8) <|
  Tc (sd_imul dX6_toldNow_9) <|
  Tc (sd_bipush (by decide +kernel) dX6_toldNow_10) <|
  Tc (sd_aload_n dX6_toldNow_12) <|
  Tc (sd_getf (T := TX6) rfl giX6 (by decide) w_fl_X6_13 dX6_toldNow_13) <|
  Tc (sd_iconst rfl dX6_toldNow_16) <|
  Tc (sd_ial dX6_toldNow_17) <|
  Tc (sd_imul dX6_toldNow_18) <|
  Tc (sd_iadd dX6_toldNow_19) <|
  Tc (sd_bipush (by decide +kernel) dX6_toldNow_20) <|
  Tc (sd_aload_n dX6_toldNow_22) <|
  Tc (sd_getf (T := TX6) rfl giX6 (by decide) w_fl_X6_13 dX6_toldNow_23) <|
  Tc (sd_iconst rfl dX6_toldNow_26) <|
  Tc (sd_ial dX6_toldNow_27) <|
  Tc (sd_imul dX6_toldNow_28) <|
  Tc (sd_iadd dX6_toldNow_29) <|
  Tc (sd_aload_n dX6_toldNow_30) <|
  Tc (sd_getf (T := TX6) rfl giX6 (by decide) w_fl_X6_13 dX6_toldNow_31) <|
  Tc (sd_iconst rfl dX6_toldNow_34) <|
  Tc (sd_ial dX6_toldNow_35) <|
  Tc (sd_iadd dX6_toldNow_36) <|
  Tn
theorem rk_X6_toldNow : Rok mi_X6_toldNow rI [37] := rk_i dX6_toldNow_37 <| rk_n
def rx_X6_toldNow : Nat → Nat → AL → List AV → List AC → Option (Option AV × List AC) := am_r tb_X6_toldNow rI [37]
theorem rs_X6_toldNow_0 (n : Nat) (L : AL) (st : List AV) (M : List AC) : rx_X6_toldNow (n + 1) 0 L st M = am_j (rx_X6_toldNow n) ((tIc 1000 3) 0 L st M) := rfl
theorem rs_X6_toldNow_3 (n : Nat) (L : AL) (st : List AV) (M : List AC) : rx_X6_toldNow (n + 1) 3 L st M = am_j (rx_X6_toldNow n) ((tAld 0 1) 3 L st M) := rfl
theorem rs_X6_toldNow_4 (n : Nat) (L : AL) (st : List AV) (M : List AC) : rx_X6_toldNow (n + 1) 4 L st M = am_j (rx_X6_toldNow n) ((tGf 6 2) 4 L st M) := rfl
theorem rs_X6_toldNow_7 (n : Nat) (L : AL) (st : List AV) (M : List AC) : rx_X6_toldNow (n + 1) 7 L st M = am_j (rx_X6_toldNow n) ((tIc 0 1) 7 L st M) := rfl
theorem rs_X6_toldNow_8 (n : Nat) (L : AL) (st : List AV) (M : List AC) : rx_X6_toldNow (n + 1) 8 L st M = am_j (rx_X6_toldNow n) (tIal 8 L st M) := rfl
theorem rs_X6_toldNow_9 (n : Nat) (L : AL) (st : List AV) (M : List AC) : rx_X6_toldNow (n + 1) 9 L st M = am_j (rx_X6_toldNow n) ((tI2 (fun a b => a * b)) 9 L st M) := rfl
theorem rs_X6_toldNow_10 (n : Nat) (L : AL) (st : List AV) (M : List AC) : rx_X6_toldNow (n + 1) 10 L st M = am_j (rx_X6_toldNow n) ((tIc 100 2) 10 L st M) := rfl
theorem rs_X6_toldNow_12 (n : Nat) (L : AL) (st : List AV) (M : List AC) : rx_X6_toldNow (n + 1) 12 L st M = am_j (rx_X6_toldNow n) ((tAld 0 1) 12 L st M) := rfl
theorem rs_X6_toldNow_13 (n : Nat) (L : AL) (st : List AV) (M : List AC) : rx_X6_toldNow (n + 1) 13 L st M = am_j (rx_X6_toldNow n) ((tGf 6 2) 13 L st M) := rfl
theorem rs_X6_toldNow_16 (n : Nat) (L : AL) (st : List AV) (M : List AC) : rx_X6_toldNow (n + 1) 16 L st M = am_j (rx_X6_toldNow n) ((tIc 1 1) 16 L st M) := rfl
theorem rs_X6_toldNow_17 (n : Nat) (L : AL) (st : List AV) (M : List AC) : rx_X6_toldNow (n + 1) 17 L st M = am_j (rx_X6_toldNow n) (tIal 17 L st M) := rfl
theorem rs_X6_toldNow_18 (n : Nat) (L : AL) (st : List AV) (M : List AC) : rx_X6_toldNow (n + 1) 18 L st M = am_j (rx_X6_toldNow n) ((tI2 (fun a b => a * b)) 18 L st M) := rfl
theorem rs_X6_toldNow_19 (n : Nat) (L : AL) (st : List AV) (M : List AC) : rx_X6_toldNow (n + 1) 19 L st M = am_j (rx_X6_toldNow n) ((tI2 (fun a b => a + b)) 19 L st M) := rfl
theorem rs_X6_toldNow_20 (n : Nat) (L : AL) (st : List AV) (M : List AC) : rx_X6_toldNow (n + 1) 20 L st M = am_j (rx_X6_toldNow n) ((tIc 10 2) 20 L st M) := rfl
theorem rs_X6_toldNow_22 (n : Nat) (L : AL) (st : List AV) (M : List AC) : rx_X6_toldNow (n + 1) 22 L st M = am_j (rx_X6_toldNow n) ((tAld 0 1) 22 L st M) := rfl
theorem rs_X6_toldNow_23 (n : Nat) (L : AL) (st : List AV) (M : List AC) : rx_X6_toldNow (n + 1) 23 L st M = am_j (rx_X6_toldNow n) ((tGf 6 2) 23 L st M) := rfl
theorem rs_X6_toldNow_26 (n : Nat) (L : AL) (st : List AV) (M : List AC) : rx_X6_toldNow (n + 1) 26 L st M = am_j (rx_X6_toldNow n) ((tIc 2 1) 26 L st M) := rfl
theorem rs_X6_toldNow_27 (n : Nat) (L : AL) (st : List AV) (M : List AC) : rx_X6_toldNow (n + 1) 27 L st M = am_j (rx_X6_toldNow n) (tIal 27 L st M) := rfl
theorem rs_X6_toldNow_28 (n : Nat) (L : AL) (st : List AV) (M : List AC) : rx_X6_toldNow (n + 1) 28 L st M = am_j (rx_X6_toldNow n) ((tI2 (fun a b => a * b)) 28 L st M) := rfl
theorem rs_X6_toldNow_29 (n : Nat) (L : AL) (st : List AV) (M : List AC) : rx_X6_toldNow (n + 1) 29 L st M = am_j (rx_X6_toldNow n) ((tI2 (fun a b => a + b)) 29 L st M) := rfl
theorem rs_X6_toldNow_30 (n : Nat) (L : AL) (st : List AV) (M : List AC) : rx_X6_toldNow (n + 1) 30 L st M = am_j (rx_X6_toldNow n) ((tAld 0 1) 30 L st M) := rfl
theorem rs_X6_toldNow_31 (n : Nat) (L : AL) (st : List AV) (M : List AC) : rx_X6_toldNow (n + 1) 31 L st M = am_j (rx_X6_toldNow n) ((tGf 6 2) 31 L st M) := rfl
theorem rs_X6_toldNow_34 (n : Nat) (L : AL) (st : List AV) (M : List AC) : rx_X6_toldNow (n + 1) 34 L st M = am_j (rx_X6_toldNow n) ((tIc 3 1) 34 L st M) := rfl
theorem rs_X6_toldNow_35 (n : Nat) (L : AL) (st : List AV) (M : List AC) : rx_X6_toldNow (n + 1) 35 L st M = am_j (rx_X6_toldNow n) (tIal 35 L st M) := rfl
theorem rs_X6_toldNow_36 (n : Nat) (L : AL) (st : List AV) (M : List AC) : rx_X6_toldNow (n + 1) 36 L st M = am_j (rx_X6_toldNow n) ((tI2 (fun a b => a + b)) 36 L st M) := rfl
theorem rs_X6_toldNow_37 (n : Nat) (L : AL) (st : List AV) (M : List AC) : rx_X6_toldNow (n + 1) 37 L st M = am_e rI st M := rfl
theorem ri_X6_toldNow (c : Prop) [Decidable c] (p q n : Nat) (L : AL) (st : List AV) (M : List AC) : rx_X6_toldNow n (if c then p else q) L st M = if c then rx_X6_toldNow n p L st M else rx_X6_toldNow n q L st M := by split <;> rfl
theorem rm_X6_toldNow {n k pc : Nat} {L : AL} {st : List AV} {M : List AC} {x : Option AV × List AC} (h : rx_X6_toldNow n pc L st M = some x) (hk : n ≤ k) : rx_X6_toldNow k pc L st M = some x := am_r_mono n k h hk
def fn_X6_toldNow : Fn := am_fn rx_X6_toldNow 1
theorem fok_X6_toldNow : Fok mi_X6_toldNow fn_X6_toldNow := fun _ _ _ _ h => am_fok ok_X6_toldNow rk_X6_toldNow rfl h
theorem sp_X6_toldNow {M : List AC} {st lk len ac nx rf lr en lm : Int} {sd : Int64} (h0 : M[26]? = some (mo st lk len ac nx rf lr en lm sd)) {d b s : F4} (h28 : M[28]? = some (aI (nw d b s))) : fn_X6_toldNow [vR 26] M = some (some (vI (fg d)), M) := by
  rw [← tl_fg]
  (refine am_fnI (tb := tb_X6_toldNow) (n := 60) (Nat.le_of_ble_eq_true rfl) (Nat.le_of_ble_eq_true rfl) ?_; show rx_X6_toldNow 60 0 _ _ _ = _)
  simp [↓ri_X6_toldNow, rs_X6_toldNow_0, rs_X6_toldNow_3, rs_X6_toldNow_4, rs_X6_toldNow_7, rs_X6_toldNow_8, rs_X6_toldNow_9, rs_X6_toldNow_10, rs_X6_toldNow_12, rs_X6_toldNow_13, rs_X6_toldNow_16, rs_X6_toldNow_17, rs_X6_toldNow_18, rs_X6_toldNow_19, rs_X6_toldNow_20, rs_X6_toldNow_22, rs_X6_toldNow_23, rs_X6_toldNow_26, rs_X6_toldNow_27, rs_X6_toldNow_28, rs_X6_toldNow_29, rs_X6_toldNow_30, rs_X6_toldNow_31, rs_X6_toldNow_34, rs_X6_toldNow_35, rs_X6_toldNow_36, rs_X6_toldNow_37, -List.getElem?_eq_getElem, am_js, am_e, am_in, am_sl, rI, rZ, rV, rJ, rA, rC, kI, kJ, kR, am_one, am_nl, am_w8, tIc, tLc, tNul, tIld, tLld, tAld, tIst, tLst, tAst, tIinc, tI2, tDv, tL2, tLrem, tLs, tLcmp, tI2l, tL2i, tI2c, tDup, tDup2, tPop, tGo, tIfeq, tIfne, tIflt, tIfge, tIfgt, tIfle, tCmeq, tCmne, tCmlt, tCmge, tCmgt, tCmle, tNu, tTs, tGf, tPf, tGs, tIal, tIas, tBal, tBas, tAln, tSv, tSc, tSb, tSl, tSk, tCv, tCs, tCt, tMx, tMn, wr_10000, wr_100000, wr_1000000, wr_10000000, wr_100000000, wr_2400, wr_9999, wr_0, wr_1, wr_2, wr_3, wr_4, wr_5, wr_6, wr_7, wr_8, wr_9, wr_10, wr_11, wr_12, wr_13, wr_14, wr_15, wr_16, wr_17, wr_18, wr_19, wr_20, wr_21, wr_22, wr_23, wr_24, wr_25, wr_26, wr_27, wr_28, wr_29, wr_30, wr_31, wr_32, wr_33, wr_34, wr_35, wr_36, wr_37, wr_38, wr_39, wr_40, wr_41, wr_42, wr_43, wr_44, wr_45, wr_46, wr_47, wr_48, wr_49, wr_50, wr_51, wr_52, wr_53, wr_54, wr_55, wr_56, wr_57, wr_58, wr_59, wr_60, wr_61, wr_62, wr_63, wr_99, wr_100, wr_192, wr_255, wr_256, wr_343, wr_999, wr_1000, wr_2401, wr_2147483647, wr_65535, wr_m1, wr_m2, wr_m3, wr_m4, wr_m9, ak_1000, ak_1001, ak_1002, ak_0, ak_1, ak_2, ak_3, ak_4, ak_5, ak_6, ak_7, ak_8, ak_9, ak_10, ak_11, ak_12, ak_13, ak_14, ak_15, ak_16, ak_17, ak_18, ak_19, ak_20, ak_21, ak_22, ak_23, ak_24, ak_25, ak_26, ak_27, ak_28, ak_29, ak_30, ak_31, ak_32, ak_33, ak_34, ak_35, ak_36, ak_37, ak_38, ak_39, ak_40, ak_41, ak_42, ak_43, ak_44, ak_45, ak_46, ak_47, h0, mo, h28, tl]
abbrev mi_X6_figures : Mi := (yX6_figures, cX6_figures, 2, some .int, 1)
theorem mf_X6_figures : am_mf mi_X6_figures 1 := ⟨w_co_X6_figures, w_in_X6, ⟨by decide +kernel, by decide +kernel⟩, by decide +kernel, by decide⟩
def tb_X6_figures : List (Nat × Tr) := [(0, tIc 1000 3), (3, tAld 0 1), (4, tGf 6 2), (7, tIld 1 1), (8, tIal), (9, tI2 (fun a b => a * b)), (10, tIc 100 2), (12, tAld 0 1), (13, tGf 6 2), (16, tIld 1 1), (17, tIc 1 1), (18, tI2 (fun a b => a + b)), (19, tIal), (20, tI2 (fun a b => a * b)), (21, tI2 (fun a b => a + b)), (22, tIc 10 2), (24, tAld 0 1), (25, tGf 6 2), (28, tIld 1 1), (29, tIc 2 1), (30, tI2 (fun a b => a + b)), (31, tIal), (32, tI2 (fun a b => a * b)), (33, tI2 (fun a b => a + b)), (34, tAld 0 1), (35, tGf 6 2), (38, tIld 1 1), (39, tIc 3 1), (40, tI2 (fun a b => a + b)), (41, tIal), (42, tI2 (fun a b => a + b))]
theorem ok_X6_figures : Tok mi_X6_figures tb_X6_figures :=
  Tc (sd_sipush (by decide +kernel) dX6_figures_0) <|
  Tc (sd_aload_n dX6_figures_3) <|
  Tc (sd_getf (T := TX6) rfl giX6 (by decide) w_fl_X6_13 dX6_figures_4) <|
  Tc (sd_iload_n dX6_figures_7) <|
  Tc (sd_ial dX6_figures_8) <|
  Tc (sd_imul dX6_figures_9) <|
  Tc (sd_bipush (by decide +kernel) dX6_figures_10) <|
  Tc (sd_aload_n dX6_figures_12) <|
  Tc (sd_getf (T := TX6) rfl giX6 (by decide) w_fl_X6_13 dX6_figures_13) <|
  Tc (sd_iload_n dX6_figures_16) <|
  Tc (sd_iconst rfl dX6_figures_17) <|
  Tc (sd_iadd dX6_figures_18) <|
  Tc (sd_ial dX6_figures_19) <|
  Tc (sd_imul dX6_figures_20) <|
  Tc (sd_iadd dX6_figures_21) <|
  Tc (sd_bipush (by decide +kernel) dX6_figures_22) <|
  Tc (sd_aload_n dX6_figures_24) <|
  Tc (sd_getf (T := TX6) rfl giX6 (by decide) w_fl_X6_13 dX6_figures_25) <|
  Tc (sd_iload_n dX6_figures_28) <|
  Tc (sd_iconst rfl dX6_figures_29) <|
  Tc (sd_iadd dX6_figures_30) <|
  Tc (sd_ial dX6_figures_31) <|
  Tc (sd_imul dX6_figures_32) <|
  Tc (sd_iadd dX6_figures_33) <|
  Tc (sd_aload_n dX6_figures_34) <|
  Tc (sd_getf (T := TX6) rfl giX6 (by decide) w_fl_X6_13 dX6_figures_35) <|
  Tc (sd_iload_n dX6_figures_38) <|
  Tc (sd_iconst rfl dX6_figures_39) <|
  Tc (sd_iadd dX6_figures_40) <|
  Tc (sd_ial dX6_figures_41) <|
  Tc (sd_iadd dX6_figures_42) <|
  Tn
theorem rk_X6_figures : Rok mi_X6_figures rI [43] := rk_i dX6_figures_43 <| rk_n
def rx_X6_figures : Nat → Nat → AL → List AV → List AC → Option (Option AV × List AC) := am_r tb_X6_figures rI [43]
theorem rs_X6_figures_0 (n : Nat) (L : AL) (st : List AV) (M : List AC) : rx_X6_figures (n + 1) 0 L st M = am_j (rx_X6_figures n) ((tIc 1000 3) 0 L st M) := rfl
theorem rs_X6_figures_3 (n : Nat) (L : AL) (st : List AV) (M : List AC) : rx_X6_figures (n + 1) 3 L st M = am_j (rx_X6_figures n) ((tAld 0 1) 3 L st M) := rfl
theorem rs_X6_figures_4 (n : Nat) (L : AL) (st : List AV) (M : List AC) : rx_X6_figures (n + 1) 4 L st M = am_j (rx_X6_figures n) ((tGf 6 2) 4 L st M) := rfl
theorem rs_X6_figures_7 (n : Nat) (L : AL) (st : List AV) (M : List AC) : rx_X6_figures (n + 1) 7 L st M = am_j (rx_X6_figures n) ((tIld 1 1) 7 L st M) := rfl
theorem rs_X6_figures_8 (n : Nat) (L : AL) (st : List AV) (M : List AC) : rx_X6_figures (n + 1) 8 L st M = am_j (rx_X6_figures n) (tIal 8 L st M) := rfl
theorem rs_X6_figures_9 (n : Nat) (L : AL) (st : List AV) (M : List AC) : rx_X6_figures (n + 1) 9 L st M = am_j (rx_X6_figures n) ((tI2 (fun a b => a * b)) 9 L st M) := rfl
theorem rs_X6_figures_10 (n : Nat) (L : AL) (st : List AV) (M : List AC) : rx_X6_figures (n + 1) 10 L st M = am_j (rx_X6_figures n) ((tIc 100 2) 10 L st M) := rfl
theorem rs_X6_figures_12 (n : Nat) (L : AL) (st : List AV) (M : List AC) : rx_X6_figures (n + 1) 12 L st M = am_j (rx_X6_figures n) ((tAld 0 1) 12 L st M) := rfl
theorem rs_X6_figures_13 (n : Nat) (L : AL) (st : List AV) (M : List AC) : rx_X6_figures (n + 1) 13 L st M = am_j (rx_X6_figures n) ((tGf 6 2) 13 L st M) := rfl
theorem rs_X6_figures_16 (n : Nat) (L : AL) (st : List AV) (M : List AC) : rx_X6_figures (n + 1) 16 L st M = am_j (rx_X6_figures n) ((tIld 1 1) 16 L st M) := rfl
theorem rs_X6_figures_17 (n : Nat) (L : AL) (st : List AV) (M : List AC) : rx_X6_figures (n + 1) 17 L st M = am_j (rx_X6_figures n) ((tIc 1 1) 17 L st M) := rfl
theorem rs_X6_figures_18 (n : Nat) (L : AL) (st : List AV) (M : List AC) : rx_X6_figures (n + 1) 18 L st M = am_j (rx_X6_figures n) ((tI2 (fun a b => a + b)) 18 L st M) := rfl
theorem rs_X6_figures_19 (n : Nat) (L : AL) (st : List AV) (M : List AC) : rx_X6_figures (n + 1) 19 L st M = am_j (rx_X6_figures n) (tIal 19 L st M) := rfl
theorem rs_X6_figures_20 (n : Nat) (L : AL) (st : List AV) (M : List AC) : rx_X6_figures (n + 1) 20 L st M = am_j (rx_X6_figures n) ((tI2 (fun a b => a * b)) 20 L st M) := rfl
theorem rs_X6_figures_21 (n : Nat) (L : AL) (st : List AV) (M : List AC) : rx_X6_figures (n + 1) 21 L st M = am_j (rx_X6_figures n) ((tI2 (fun a b => a + b)) 21 L st M) := rfl
theorem rs_X6_figures_22 (n : Nat) (L : AL) (st : List AV) (M : List AC) : rx_X6_figures (n + 1) 22 L st M = am_j (rx_X6_figures n) ((tIc 10 2) 22 L st M) := rfl
theorem rs_X6_figures_24 (n : Nat) (L : AL) (st : List AV) (M : List AC) : rx_X6_figures (n + 1) 24 L st M = am_j (rx_X6_figures n) ((tAld 0 1) 24 L st M) := rfl
theorem rs_X6_figures_25 (n : Nat) (L : AL) (st : List AV) (M : List AC) : rx_X6_figures (n + 1) 25 L st M = am_j (rx_X6_figures n) ((tGf 6 2) 25 L st M) := rfl
theorem rs_X6_figures_28 (n : Nat) (L : AL) (st : List AV) (M : List AC) : rx_X6_figures (n + 1) 28 L st M = am_j (rx_X6_figures n) ((tIld 1 1) 28 L st M) := rfl
theorem rs_X6_figures_29 (n : Nat) (L : AL) (st : List AV) (M : List AC) : rx_X6_figures (n + 1) 29 L st M = am_j (rx_X6_figures n) ((tIc 2 1) 29 L st M) := rfl
theorem rs_X6_figures_30 (n : Nat) (L : AL) (st : List AV) (M : List AC) : rx_X6_figures (n + 1) 30 L st M = am_j (rx_X6_figures n) ((tI2 (fun a b => a + b)) 30 L st M) := rfl
theorem rs_X6_figures_31 (n : Nat) (L : AL) (st : List AV) (M : List AC) : rx_X6_figures (n + 1) 31 L st M = am_j (rx_X6_figures n) (tIal 31 L st M) := rfl
theorem rs_X6_figures_32 (n : Nat) (L : AL) (st : List AV) (M : List AC) : rx_X6_figures (n + 1) 32 L st M = am_j (rx_X6_figures n) ((tI2 (fun a b => a * b)) 32 L st M) := rfl
theorem rs_X6_figures_33 (n : Nat) (L : AL) (st : List AV) (M : List AC) : rx_X6_figures (n + 1) 33 L st M = am_j (rx_X6_figures n) ((tI2 (fun a b => a + b)) 33 L st M) := rfl
theorem rs_X6_figures_34 (n : Nat) (L : AL) (st : List AV) (M : List AC) : rx_X6_figures (n + 1) 34 L st M = am_j (rx_X6_figures n) ((tAld 0 1) 34 L st M) := rfl
theorem rs_X6_figures_35 (n : Nat) (L : AL) (st : List AV) (M : List AC) : rx_X6_figures (n + 1) 35 L st M = am_j (rx_X6_figures n) ((tGf 6 2) 35 L st M) := rfl
theorem rs_X6_figures_38 (n : Nat) (L : AL) (st : List AV) (M : List AC) : rx_X6_figures (n + 1) 38 L st M = am_j (rx_X6_figures n) ((tIld 1 1) 38 L st M) := rfl
theorem rs_X6_figures_39 (n : Nat) (L : AL) (st : List AV) (M : List AC) : rx_X6_figures (n + 1) 39 L st M = am_j (rx_X6_figures n) ((tIc 3 1) 39 L st M) := rfl
theorem rs_X6_figures_40 (n : Nat) (L : AL) (st : List AV) (M : List AC) : rx_X6_figures (n + 1) 40 L st M = am_j (rx_X6_figures n) ((tI2 (fun a b => a + b)) 40 L st M) := rfl
theorem rs_X6_figures_41 (n : Nat) (L : AL) (st : List AV) (M : List AC) : rx_X6_figures (n + 1) 41 L st M = am_j (rx_X6_figures n) (tIal 41 L st M) := rfl
theorem rs_X6_figures_42 (n : Nat) (L : AL) (st : List AV) (M : List AC) : rx_X6_figures (n + 1) 42 L st M = am_j (rx_X6_figures n) ((tI2 (fun a b => a + b)) 42 L st M) := rfl
theorem rs_X6_figures_43 (n : Nat) (L : AL) (st : List AV) (M : List AC) : rx_X6_figures (n + 1) 43 L st M = am_e rI st M := rfl
theorem ri_X6_figures (c : Prop) [Decidable c] (p q n : Nat) (L : AL) (st : List AV) (M : List AC) : rx_X6_figures n (if c then p else q) L st M = if c then rx_X6_figures n p L st M else rx_X6_figures n q L st M := by split <;> rfl
theorem rm_X6_figures {n k pc : Nat} {L : AL} {st : List AV} {M : List AC} {x : Option AV × List AC} (h : rx_X6_figures n pc L st M = some x) (hk : n ≤ k) : rx_X6_figures k pc L st M = some x := am_r_mono n k h hk
def fn_X6_figures : Fn := am_fn rx_X6_figures 2
theorem fok_X6_figures : Fok mi_X6_figures fn_X6_figures := fun _ _ _ _ h => am_fok ok_X6_figures rk_X6_figures rfl h
theorem sp_X6_figures {M : List AC} {st lk len ac nx rf lr en lm : Int} {sd : Int64} (h0 : M[26]? = some (mo st lk len ac nx rf lr en lm sd)) {d b s : F4} (h28 : M[28]? = some (aI (nw d b s))) : fn_X6_figures [vR 26, vI 0] M = some (some (vI (fg d)), M) ∧ fn_X6_figures [vR 26, vI 4] M = some (some (vI (fg b)), M) ∧ fn_X6_figures [vR 26, vI 8] M = some (some (vI (fg s)), M) := by
  refine ⟨?_, ?_, ?_⟩ <;> rw [← tl_fg] <;>
  ((refine am_fnI (tb := tb_X6_figures) (n := 60) (Nat.le_of_ble_eq_true rfl) (Nat.le_of_ble_eq_true rfl) ?_; show rx_X6_figures 60 0 _ _ _ = _)
   simp [↓ri_X6_figures, rs_X6_figures_0, rs_X6_figures_3, rs_X6_figures_4, rs_X6_figures_7, rs_X6_figures_8, rs_X6_figures_9, rs_X6_figures_10, rs_X6_figures_12, rs_X6_figures_13, rs_X6_figures_16, rs_X6_figures_17, rs_X6_figures_18, rs_X6_figures_19, rs_X6_figures_20, rs_X6_figures_21, rs_X6_figures_22, rs_X6_figures_24, rs_X6_figures_25, rs_X6_figures_28, rs_X6_figures_29, rs_X6_figures_30, rs_X6_figures_31, rs_X6_figures_32, rs_X6_figures_33, rs_X6_figures_34, rs_X6_figures_35, rs_X6_figures_38, rs_X6_figures_39, rs_X6_figures_40, rs_X6_figures_41, rs_X6_figures_42, rs_X6_figures_43, -List.getElem?_eq_getElem, am_js, am_e, am_in, am_sl, rI, rZ, rV, rJ, rA, rC, kI, kJ, kR, am_one, am_nl, am_w8, tIc, tLc, tNul, tIld, tLld, tAld, tIst, tLst, tAst, tIinc, tI2, tDv, tL2, tLrem, tLs, tLcmp, tI2l, tL2i, tI2c, tDup, tDup2, tPop, tGo, tIfeq, tIfne, tIflt, tIfge, tIfgt, tIfle, tCmeq, tCmne, tCmlt, tCmge, tCmgt, tCmle, tNu, tTs, tGf, tPf, tGs, tIal, tIas, tBal, tBas, tAln, tSv, tSc, tSb, tSl, tSk, tCv, tCs, tCt, tMx, tMn, wr_10000, wr_100000, wr_1000000, wr_10000000, wr_100000000, wr_2400, wr_9999, wr_0, wr_1, wr_2, wr_3, wr_4, wr_5, wr_6, wr_7, wr_8, wr_9, wr_10, wr_11, wr_12, wr_13, wr_14, wr_15, wr_16, wr_17, wr_18, wr_19, wr_20, wr_21, wr_22, wr_23, wr_24, wr_25, wr_26, wr_27, wr_28, wr_29, wr_30, wr_31, wr_32, wr_33, wr_34, wr_35, wr_36, wr_37, wr_38, wr_39, wr_40, wr_41, wr_42, wr_43, wr_44, wr_45, wr_46, wr_47, wr_48, wr_49, wr_50, wr_51, wr_52, wr_53, wr_54, wr_55, wr_56, wr_57, wr_58, wr_59, wr_60, wr_61, wr_62, wr_63, wr_99, wr_100, wr_192, wr_255, wr_256, wr_343, wr_999, wr_1000, wr_2401, wr_2147483647, wr_65535, wr_m1, wr_m2, wr_m3, wr_m4, wr_m9, ak_1000, ak_1001, ak_1002, ak_0, ak_1, ak_2, ak_3, ak_4, ak_5, ak_6, ak_7, ak_8, ak_9, ak_10, ak_11, ak_12, ak_13, ak_14, ak_15, ak_16, ak_17, ak_18, ak_19, ak_20, ak_21, ak_22, ak_23, ak_24, ak_25, ak_26, ak_27, ak_28, ak_29, ak_30, ak_31, ak_32, ak_33, ak_34, ak_35, ak_36, ak_37, ak_38, ak_39, ak_40, ak_41, ak_42, ak_43, ak_44, ak_45, ak_46, ak_47, h0, mo, h28, tl])
def so (v : F4) : Int := 343 * v.1 + 49 * v.2.1 + 7 * v.2.2.1 + v.2.2.2
abbrev mi_X6_stateOf : Mi := (yX6_stateOf, cX6_stateOf, 1, some .int, 1)
theorem mf_X6_stateOf : am_mf mi_X6_stateOf 0 := ⟨w_co_X6_stateOf, w_in_X6, ⟨by decide +kernel, by decide +kernel⟩, by decide +kernel, by decide⟩
def tb_X6_stateOf : List (Nat × Tr) := [(0, tIc 343 3), (3, tAld 0 1), (4, tGf 6 8), (7, tIc 0 1), (8, tIal), (9, tI2 (fun a b => a * b)), (10, tIc 49 2), (12, tAld 0 1), (13, tGf 6 8), (16, tIc 1 1), (17, tIal), (18, tI2 (fun a b => a * b)), (19, tI2 (fun a b => a + b)), (20, tIc 7 2), (22, tAld 0 1), (23, tGf 6 8), (26, tIc 2 1), (27, tIal), (28, tI2 (fun a b => a * b)), (29, tI2 (fun a b => a + b)), (30, tAld 0 1), (31, tGf 6 8), (34, tIc 3 1), (35, tIal), (36, tI2 (fun a b => a + b))]
theorem ok_X6_stateOf : Tok mi_X6_stateOf tb_X6_stateOf :=
  Tc (sd_sipush (by decide +kernel) dX6_stateOf_0) <|
  Tc (sd_aload_n dX6_stateOf_3) <|
  Tc (sd_getf (T := TX6) rfl giX6 (by decide) w_fl_X6_25 dX6_stateOf_4) <|
  Tc (sd_iconst rfl dX6_stateOf_7) <|
  Tc (sd_ial dX6_stateOf_8) <|
  Tc (sd_imul dX6_stateOf_9) <|
  Tc (sd_bipush (by decide +kernel) dX6_stateOf_10) <|
  Tc (sd_aload_n dX6_stateOf_12) <|
  Tc (sd_getf (T := TX6) rfl giX6 (by decide) w_fl_X6_25 dX6_stateOf_13) <|
  Tc (sd_iconst rfl dX6_stateOf_16) <|
  Tc (sd_ial dX6_stateOf_17) <|
  Tc (sd_imul dX6_stateOf_18) <|
  Tc (sd_iadd dX6_stateOf_19) <|
  Tc (sd_bipush (by decide +kernel) dX6_stateOf_20) <|
  Tc (sd_aload_n dX6_stateOf_22) <|
  Tc (sd_getf (T := TX6) rfl giX6 (by decide) w_fl_X6_25 dX6_stateOf_23) <|
  Tc (sd_iconst rfl dX6_stateOf_26) <|
  Tc (sd_ial dX6_stateOf_27) <|
  Tc (sd_imul dX6_stateOf_28) <|
  Tc (sd_iadd dX6_stateOf_29) <|
  Tc (sd_aload_n dX6_stateOf_30) <|
  Tc (sd_getf (T := TX6) rfl giX6 (by decide) w_fl_X6_25 dX6_stateOf_31) <|
  Tc (sd_iconst rfl dX6_stateOf_34) <|
  Tc (sd_ial dX6_stateOf_35) <|
  Tc (sd_iadd dX6_stateOf_36) <|
  Tn
theorem rk_X6_stateOf : Rok mi_X6_stateOf rI [37] := rk_i dX6_stateOf_37 <| rk_n
def rx_X6_stateOf : Nat → Nat → AL → List AV → List AC → Option (Option AV × List AC) := am_r tb_X6_stateOf rI [37]
theorem rs_X6_stateOf_0 (n : Nat) (L : AL) (st : List AV) (M : List AC) : rx_X6_stateOf (n + 1) 0 L st M = am_j (rx_X6_stateOf n) ((tIc 343 3) 0 L st M) := rfl
theorem rs_X6_stateOf_3 (n : Nat) (L : AL) (st : List AV) (M : List AC) : rx_X6_stateOf (n + 1) 3 L st M = am_j (rx_X6_stateOf n) ((tAld 0 1) 3 L st M) := rfl
theorem rs_X6_stateOf_4 (n : Nat) (L : AL) (st : List AV) (M : List AC) : rx_X6_stateOf (n + 1) 4 L st M = am_j (rx_X6_stateOf n) ((tGf 6 8) 4 L st M) := rfl
theorem rs_X6_stateOf_7 (n : Nat) (L : AL) (st : List AV) (M : List AC) : rx_X6_stateOf (n + 1) 7 L st M = am_j (rx_X6_stateOf n) ((tIc 0 1) 7 L st M) := rfl
theorem rs_X6_stateOf_8 (n : Nat) (L : AL) (st : List AV) (M : List AC) : rx_X6_stateOf (n + 1) 8 L st M = am_j (rx_X6_stateOf n) (tIal 8 L st M) := rfl
theorem rs_X6_stateOf_9 (n : Nat) (L : AL) (st : List AV) (M : List AC) : rx_X6_stateOf (n + 1) 9 L st M = am_j (rx_X6_stateOf n) ((tI2 (fun a b => a * b)) 9 L st M) := rfl
theorem rs_X6_stateOf_10 (n : Nat) (L : AL) (st : List AV) (M : List AC) : rx_X6_stateOf (n + 1) 10 L st M = am_j (rx_X6_stateOf n) ((tIc 49 2) 10 L st M) := rfl
theorem rs_X6_stateOf_12 (n : Nat) (L : AL) (st : List AV) (M : List AC) : rx_X6_stateOf (n + 1) 12 L st M = am_j (rx_X6_stateOf n) ((tAld 0 1) 12 L st M) := rfl
theorem rs_X6_stateOf_13 (n : Nat) (L : AL) (st : List AV) (M : List AC) : rx_X6_stateOf (n + 1) 13 L st M = am_j (rx_X6_stateOf n) ((tGf 6 8) 13 L st M) := rfl
theorem rs_X6_stateOf_16 (n : Nat) (L : AL) (st : List AV) (M : List AC) : rx_X6_stateOf (n + 1) 16 L st M = am_j (rx_X6_stateOf n) ((tIc 1 1) 16 L st M) := rfl
theorem rs_X6_stateOf_17 (n : Nat) (L : AL) (st : List AV) (M : List AC) : rx_X6_stateOf (n + 1) 17 L st M = am_j (rx_X6_stateOf n) (tIal 17 L st M) := rfl
theorem rs_X6_stateOf_18 (n : Nat) (L : AL) (st : List AV) (M : List AC) : rx_X6_stateOf (n + 1) 18 L st M = am_j (rx_X6_stateOf n) ((tI2 (fun a b => a * b)) 18 L st M) := rfl
theorem rs_X6_stateOf_19 (n : Nat) (L : AL) (st : List AV) (M : List AC) : rx_X6_stateOf (n + 1) 19 L st M = am_j (rx_X6_stateOf n) ((tI2 (fun a b => a + b)) 19 L st M) := rfl
theorem rs_X6_stateOf_20 (n : Nat) (L : AL) (st : List AV) (M : List AC) : rx_X6_stateOf (n + 1) 20 L st M = am_j (rx_X6_stateOf n) ((tIc 7 2) 20 L st M) := rfl
theorem rs_X6_stateOf_22 (n : Nat) (L : AL) (st : List AV) (M : List AC) : rx_X6_stateOf (n + 1) 22 L st M = am_j (rx_X6_stateOf n) ((tAld 0 1) 22 L st M) := rfl
theorem rs_X6_stateOf_23 (n : Nat) (L : AL) (st : List AV) (M : List AC) : rx_X6_stateOf (n + 1) 23 L st M = am_j (rx_X6_stateOf n) ((tGf 6 8) 23 L st M) := rfl
theorem rs_X6_stateOf_26 (n : Nat) (L : AL) (st : List AV) (M : List AC) : rx_X6_stateOf (n + 1) 26 L st M = am_j (rx_X6_stateOf n) ((tIc 2 1) 26 L st M) := rfl
theorem rs_X6_stateOf_27 (n : Nat) (L : AL) (st : List AV) (M : List AC) : rx_X6_stateOf (n + 1) 27 L st M = am_j (rx_X6_stateOf n) (tIal 27 L st M) := rfl
theorem rs_X6_stateOf_28 (n : Nat) (L : AL) (st : List AV) (M : List AC) : rx_X6_stateOf (n + 1) 28 L st M = am_j (rx_X6_stateOf n) ((tI2 (fun a b => a * b)) 28 L st M) := rfl
theorem rs_X6_stateOf_29 (n : Nat) (L : AL) (st : List AV) (M : List AC) : rx_X6_stateOf (n + 1) 29 L st M = am_j (rx_X6_stateOf n) ((tI2 (fun a b => a + b)) 29 L st M) := rfl
theorem rs_X6_stateOf_30 (n : Nat) (L : AL) (st : List AV) (M : List AC) : rx_X6_stateOf (n + 1) 30 L st M = am_j (rx_X6_stateOf n) ((tAld 0 1) 30 L st M) := rfl
theorem rs_X6_stateOf_31 (n : Nat) (L : AL) (st : List AV) (M : List AC) : rx_X6_stateOf (n + 1) 31 L st M = am_j (rx_X6_stateOf n) ((tGf 6 8) 31 L st M) := rfl
theorem rs_X6_stateOf_34 (n : Nat) (L : AL) (st : List AV) (M : List AC) : rx_X6_stateOf (n + 1) 34 L st M = am_j (rx_X6_stateOf n) ((tIc 3 1) 34 L st M) := rfl
theorem rs_X6_stateOf_35 (n : Nat) (L : AL) (st : List AV) (M : List AC) : rx_X6_stateOf (n + 1) 35 L st M = am_j (rx_X6_stateOf n) (tIal 35 L st M) := rfl
theorem rs_X6_stateOf_36 (n : Nat) (L : AL) (st : List AV) (M : List AC) : rx_X6_stateOf (n + 1) 36 L st M = am_j (rx_X6_stateOf n) ((tI2 (fun a b => a + b)) 36 L st M) := rfl
theorem rs_X6_stateOf_37 (n : Nat) (L : AL) (st : List AV) (M : List AC) : rx_X6_stateOf (n + 1) 37 L st M = am_e rI st M := rfl
theorem ri_X6_stateOf (c : Prop) [Decidable c] (p q n : Nat) (L : AL) (st : List AV) (M : List AC) : rx_X6_stateOf n (if c then p else q) L st M = if c then rx_X6_stateOf n p L st M else rx_X6_stateOf n q L st M := by split <;> rfl
theorem rm_X6_stateOf {n k pc : Nat} {L : AL} {st : List AV} {M : List AC} {x : Option AV × List AC} (h : rx_X6_stateOf n pc L st M = some x) (hk : n ≤ k) : rx_X6_stateOf k pc L st M = some x := am_r_mono n k h hk
def fn_X6_stateOf : Fn := am_fn rx_X6_stateOf 1
theorem fok_X6_stateOf : Fok mi_X6_stateOf fn_X6_stateOf := fun _ _ _ _ h => am_fok ok_X6_stateOf rk_X6_stateOf rfl h
theorem sp_X6_stateOf {M : List AC} {st lk len ac nx rf lr en lm : Int} {sd : Int64} (h0 : M[26]? = some (mo st lk len ac nx rf lr en lm sd)) {d : F4} (h32 : M[32]? = some (aI (l4 d))) : fn_X6_stateOf [vR 26] M = some (some (vI (so d)), M) := by
  (refine am_fnI (tb := tb_X6_stateOf) (n := 60) (Nat.le_of_ble_eq_true rfl) (Nat.le_of_ble_eq_true rfl) ?_; show rx_X6_stateOf 60 0 _ _ _ = _)
  simp [↓ri_X6_stateOf, rs_X6_stateOf_0, rs_X6_stateOf_3, rs_X6_stateOf_4, rs_X6_stateOf_7, rs_X6_stateOf_8, rs_X6_stateOf_9, rs_X6_stateOf_10, rs_X6_stateOf_12, rs_X6_stateOf_13, rs_X6_stateOf_16, rs_X6_stateOf_17, rs_X6_stateOf_18, rs_X6_stateOf_19, rs_X6_stateOf_20, rs_X6_stateOf_22, rs_X6_stateOf_23, rs_X6_stateOf_26, rs_X6_stateOf_27, rs_X6_stateOf_28, rs_X6_stateOf_29, rs_X6_stateOf_30, rs_X6_stateOf_31, rs_X6_stateOf_34, rs_X6_stateOf_35, rs_X6_stateOf_36, rs_X6_stateOf_37, -List.getElem?_eq_getElem, am_js, am_e, am_in, am_sl, rI, rZ, rV, rJ, rA, rC, kI, kJ, kR, am_one, am_nl, am_w8, tIc, tLc, tNul, tIld, tLld, tAld, tIst, tLst, tAst, tIinc, tI2, tDv, tL2, tLrem, tLs, tLcmp, tI2l, tL2i, tI2c, tDup, tDup2, tPop, tGo, tIfeq, tIfne, tIflt, tIfge, tIfgt, tIfle, tCmeq, tCmne, tCmlt, tCmge, tCmgt, tCmle, tNu, tTs, tGf, tPf, tGs, tIal, tIas, tBal, tBas, tAln, tSv, tSc, tSb, tSl, tSk, tCv, tCs, tCt, tMx, tMn, wr_10000, wr_100000, wr_1000000, wr_10000000, wr_100000000, wr_2400, wr_9999, wr_0, wr_1, wr_2, wr_3, wr_4, wr_5, wr_6, wr_7, wr_8, wr_9, wr_10, wr_11, wr_12, wr_13, wr_14, wr_15, wr_16, wr_17, wr_18, wr_19, wr_20, wr_21, wr_22, wr_23, wr_24, wr_25, wr_26, wr_27, wr_28, wr_29, wr_30, wr_31, wr_32, wr_33, wr_34, wr_35, wr_36, wr_37, wr_38, wr_39, wr_40, wr_41, wr_42, wr_43, wr_44, wr_45, wr_46, wr_47, wr_48, wr_49, wr_50, wr_51, wr_52, wr_53, wr_54, wr_55, wr_56, wr_57, wr_58, wr_59, wr_60, wr_61, wr_62, wr_63, wr_99, wr_100, wr_192, wr_255, wr_256, wr_343, wr_999, wr_1000, wr_2401, wr_2147483647, wr_65535, wr_m1, wr_m2, wr_m3, wr_m4, wr_m9, ak_1000, ak_1001, ak_1002, ak_0, ak_1, ak_2, ak_3, ak_4, ak_5, ak_6, ak_7, ak_8, ak_9, ak_10, ak_11, ak_12, ak_13, ak_14, ak_15, ak_16, ak_17, ak_18, ak_19, ak_20, ak_21, ak_22, ak_23, ak_24, ak_25, ak_26, ak_27, ak_28, ak_29, ak_30, ak_31, ak_32, ak_33, ak_34, ak_35, ak_36, ak_37, ak_38, ak_39, ak_40, ak_41, ak_42, ak_43, ak_44, ak_45, ak_46, ak_47, h0, mo, h32, so]
def su (x : Int) : F4 := (x / 343, x / 49 % 7, x / 7 % 7, x % 7)
abbrev mi_X6_layState : Mi := (yX6_layState, cX6_layState, 2, none, 1)
theorem mf_X6_layState : am_mf mi_X6_layState 1 := ⟨w_co_X6_layState, w_in_X6, ⟨by decide +kernel, by decide +kernel⟩, by decide +kernel, by decide⟩
def tb_X6_layState : List (Nat × Tr) := [(0, tAld 0 1), (1, tGf 6 8), (4, tIc 0 1), (5, tIld 1 1), (6, tIc 343 3), (9, tDv Int.tdiv), (10, tIas), (11, tAld 0 1), (12, tGf 6 8), (15, tIc 1 1), (16, tIld 1 1), (17, tIc 49 2), (19, tDv Int.tdiv), (20, tIc 7 2), (22, tDv Int.tmod), (23, tIas), (24, tAld 0 1), (25, tGf 6 8), (28, tIc 2 1), (29, tIld 1 1), (30, tIc 7 2), (32, tDv Int.tdiv), (33, tIc 7 2), (35, tDv Int.tmod), (36, tIas), (37, tAld 0 1), (38, tGf 6 8), (41, tIc 3 1), (42, tIld 1 1), (43, tIc 7 2), (45, tDv Int.tmod), (46, tIas)]
theorem ok_X6_layState : Tok mi_X6_layState tb_X6_layState :=
  Tc (sd_aload_n dX6_layState_0) <|
  Tc (sd_getf (T := TX6) rfl giX6 (by decide) w_fl_X6_25 dX6_layState_1) <|
  Tc (sd_iconst rfl dX6_layState_4) <|
  Tc (sd_iload_n dX6_layState_5) <|
  Tc (sd_sipush (by decide +kernel) dX6_layState_6) <|
  Tc (sd_idiv dX6_layState_9) <|
  Tc (sd_ias dX6_layState_10) <|
  Tc (sd_aload_n dX6_layState_11) <|
  Tc (sd_getf (T := TX6) rfl giX6 (by decide) w_fl_X6_25 dX6_layState_12) <|
  Tc (sd_iconst rfl dX6_layState_15) <|
  Tc (sd_iload_n dX6_layState_16) <|
  Tc (sd_bipush (by decide +kernel) dX6_layState_17) <|
  Tc (sd_idiv dX6_layState_19) <|
  Tc (sd_bipush (by decide +kernel) dX6_layState_20) <|
  Tc (sd_irem dX6_layState_22) <|
  Tc (sd_ias dX6_layState_23) <|
  Tc (sd_aload_n dX6_layState_24) <|
  Tc (sd_getf (T := TX6) rfl giX6 (by decide) w_fl_X6_25 dX6_layState_25) <|
  Tc (sd_iconst rfl dX6_layState_28) <|
  Tc (sd_iload_n dX6_layState_29) <|
  Tc (sd_bipush (by decide +kernel) dX6_layState_30) <|
  Tc (sd_idiv dX6_layState_32) <|
  Tc (sd_bipush (by decide +kernel) dX6_layState_33) <|
  Tc (sd_irem dX6_layState_35) <|
  Tc (sd_ias dX6_layState_36) <|
  Tc (sd_aload_n dX6_layState_37) <|
  Tc (sd_getf (T := TX6) rfl giX6 (by decide) w_fl_X6_25 dX6_layState_38) <|
  Tc (sd_iconst rfl dX6_layState_41) <|
  Tc (sd_iload_n dX6_layState_42) <|
  Tc (sd_bipush (by decide +kernel) dX6_layState_43) <|
  Tc (sd_irem dX6_layState_45) <|
  Tc (sd_ias dX6_layState_46) <|
  Tn
theorem rk_X6_layState : Rok mi_X6_layState rV [47] := rk_v dX6_layState_47 <| rk_n
def rx_X6_layState : Nat → Nat → AL → List AV → List AC → Option (Option AV × List AC) := am_r tb_X6_layState rV [47]
theorem rs_X6_layState_0 (n : Nat) (L : AL) (st : List AV) (M : List AC) : rx_X6_layState (n + 1) 0 L st M = am_j (rx_X6_layState n) ((tAld 0 1) 0 L st M) := rfl
theorem rs_X6_layState_1 (n : Nat) (L : AL) (st : List AV) (M : List AC) : rx_X6_layState (n + 1) 1 L st M = am_j (rx_X6_layState n) ((tGf 6 8) 1 L st M) := rfl
theorem rs_X6_layState_4 (n : Nat) (L : AL) (st : List AV) (M : List AC) : rx_X6_layState (n + 1) 4 L st M = am_j (rx_X6_layState n) ((tIc 0 1) 4 L st M) := rfl
theorem rs_X6_layState_5 (n : Nat) (L : AL) (st : List AV) (M : List AC) : rx_X6_layState (n + 1) 5 L st M = am_j (rx_X6_layState n) ((tIld 1 1) 5 L st M) := rfl
theorem rs_X6_layState_6 (n : Nat) (L : AL) (st : List AV) (M : List AC) : rx_X6_layState (n + 1) 6 L st M = am_j (rx_X6_layState n) ((tIc 343 3) 6 L st M) := rfl
theorem rs_X6_layState_9 (n : Nat) (L : AL) (st : List AV) (M : List AC) : rx_X6_layState (n + 1) 9 L st M = am_j (rx_X6_layState n) ((tDv Int.tdiv) 9 L st M) := rfl
theorem rs_X6_layState_10 (n : Nat) (L : AL) (st : List AV) (M : List AC) : rx_X6_layState (n + 1) 10 L st M = am_j (rx_X6_layState n) (tIas 10 L st M) := rfl
theorem rs_X6_layState_11 (n : Nat) (L : AL) (st : List AV) (M : List AC) : rx_X6_layState (n + 1) 11 L st M = am_j (rx_X6_layState n) ((tAld 0 1) 11 L st M) := rfl
theorem rs_X6_layState_12 (n : Nat) (L : AL) (st : List AV) (M : List AC) : rx_X6_layState (n + 1) 12 L st M = am_j (rx_X6_layState n) ((tGf 6 8) 12 L st M) := rfl
theorem rs_X6_layState_15 (n : Nat) (L : AL) (st : List AV) (M : List AC) : rx_X6_layState (n + 1) 15 L st M = am_j (rx_X6_layState n) ((tIc 1 1) 15 L st M) := rfl
theorem rs_X6_layState_16 (n : Nat) (L : AL) (st : List AV) (M : List AC) : rx_X6_layState (n + 1) 16 L st M = am_j (rx_X6_layState n) ((tIld 1 1) 16 L st M) := rfl
theorem rs_X6_layState_17 (n : Nat) (L : AL) (st : List AV) (M : List AC) : rx_X6_layState (n + 1) 17 L st M = am_j (rx_X6_layState n) ((tIc 49 2) 17 L st M) := rfl
theorem rs_X6_layState_19 (n : Nat) (L : AL) (st : List AV) (M : List AC) : rx_X6_layState (n + 1) 19 L st M = am_j (rx_X6_layState n) ((tDv Int.tdiv) 19 L st M) := rfl
theorem rs_X6_layState_20 (n : Nat) (L : AL) (st : List AV) (M : List AC) : rx_X6_layState (n + 1) 20 L st M = am_j (rx_X6_layState n) ((tIc 7 2) 20 L st M) := rfl
theorem rs_X6_layState_22 (n : Nat) (L : AL) (st : List AV) (M : List AC) : rx_X6_layState (n + 1) 22 L st M = am_j (rx_X6_layState n) ((tDv Int.tmod) 22 L st M) := rfl
theorem rs_X6_layState_23 (n : Nat) (L : AL) (st : List AV) (M : List AC) : rx_X6_layState (n + 1) 23 L st M = am_j (rx_X6_layState n) (tIas 23 L st M) := rfl
theorem rs_X6_layState_24 (n : Nat) (L : AL) (st : List AV) (M : List AC) : rx_X6_layState (n + 1) 24 L st M = am_j (rx_X6_layState n) ((tAld 0 1) 24 L st M) := rfl
theorem rs_X6_layState_25 (n : Nat) (L : AL) (st : List AV) (M : List AC) : rx_X6_layState (n + 1) 25 L st M = am_j (rx_X6_layState n) ((tGf 6 8) 25 L st M) := rfl
theorem rs_X6_layState_28 (n : Nat) (L : AL) (st : List AV) (M : List AC) : rx_X6_layState (n + 1) 28 L st M = am_j (rx_X6_layState n) ((tIc 2 1) 28 L st M) := rfl
theorem rs_X6_layState_29 (n : Nat) (L : AL) (st : List AV) (M : List AC) : rx_X6_layState (n + 1) 29 L st M = am_j (rx_X6_layState n) ((tIld 1 1) 29 L st M) := rfl
theorem rs_X6_layState_30 (n : Nat) (L : AL) (st : List AV) (M : List AC) : rx_X6_layState (n + 1) 30 L st M = am_j (rx_X6_layState n) ((tIc 7 2) 30 L st M) := rfl
theorem rs_X6_layState_32 (n : Nat) (L : AL) (st : List AV) (M : List AC) : rx_X6_layState (n + 1) 32 L st M = am_j (rx_X6_layState n) ((tDv Int.tdiv) 32 L st M) := rfl
theorem rs_X6_layState_33 (n : Nat) (L : AL) (st : List AV) (M : List AC) : rx_X6_layState (n + 1) 33 L st M = am_j (rx_X6_layState n) ((tIc 7 2) 33 L st M) := rfl
theorem rs_X6_layState_35 (n : Nat) (L : AL) (st : List AV) (M : List AC) : rx_X6_layState (n + 1) 35 L st M = am_j (rx_X6_layState n) ((tDv Int.tmod) 35 L st M) := rfl
theorem rs_X6_layState_36 (n : Nat) (L : AL) (st : List AV) (M : List AC) : rx_X6_layState (n + 1) 36 L st M = am_j (rx_X6_layState n) (tIas 36 L st M) := rfl
theorem rs_X6_layState_37 (n : Nat) (L : AL) (st : List AV) (M : List AC) : rx_X6_layState (n + 1) 37 L st M = am_j (rx_X6_layState n) ((tAld 0 1) 37 L st M) := rfl
theorem rs_X6_layState_38 (n : Nat) (L : AL) (st : List AV) (M : List AC) : rx_X6_layState (n + 1) 38 L st M = am_j (rx_X6_layState n) ((tGf 6 8) 38 L st M) := rfl
theorem rs_X6_layState_41 (n : Nat) (L : AL) (st : List AV) (M : List AC) : rx_X6_layState (n + 1) 41 L st M = am_j (rx_X6_layState n) ((tIc 3 1) 41 L st M) := rfl
theorem rs_X6_layState_42 (n : Nat) (L : AL) (st : List AV) (M : List AC) : rx_X6_layState (n + 1) 42 L st M = am_j (rx_X6_layState n) ((tIld 1 1) 42 L st M) := rfl
theorem rs_X6_layState_43 (n : Nat) (L : AL) (st : List AV) (M : List AC) : rx_X6_layState (n + 1) 43 L st M = am_j (rx_X6_layState n) ((tIc 7 2) 43 L st M) := rfl
theorem rs_X6_layState_45 (n : Nat) (L : AL) (st : List AV) (M : List AC) : rx_X6_layState (n + 1) 45 L st M = am_j (rx_X6_layState n) ((tDv Int.tmod) 45 L st M) := rfl
theorem rs_X6_layState_46 (n : Nat) (L : AL) (st : List AV) (M : List AC) : rx_X6_layState (n + 1) 46 L st M = am_j (rx_X6_layState n) (tIas 46 L st M) := rfl
theorem rs_X6_layState_47 (n : Nat) (L : AL) (st : List AV) (M : List AC) : rx_X6_layState (n + 1) 47 L st M = am_e rV st M := rfl
theorem ri_X6_layState (c : Prop) [Decidable c] (p q n : Nat) (L : AL) (st : List AV) (M : List AC) : rx_X6_layState n (if c then p else q) L st M = if c then rx_X6_layState n p L st M else rx_X6_layState n q L st M := by split <;> rfl
theorem rm_X6_layState {n k pc : Nat} {L : AL} {st : List AV} {M : List AC} {x : Option AV × List AC} (h : rx_X6_layState n pc L st M = some x) (hk : n ≤ k) : rx_X6_layState k pc L st M = some x := am_r_mono n k h hk
def fn_X6_layState : Fn := am_fn rx_X6_layState 2
theorem fok_X6_layState : Fok mi_X6_layState fn_X6_layState := fun _ _ _ _ h => am_fok ok_X6_layState rk_X6_layState rfl h
theorem sp_X6_layState {M : List AC} {st lk len ac nx rf lr en lm : Int} {sd : Int64} (h0 : M[26]? = some (mo st lk len ac nx rf lr en lm sd)) {d : F4} (h32 : M[32]? = some (aI (l4 d))) (x : Int) (hx : 0 ≤ x ∧ x < 2401) : fn_X6_layState [vR 26, vI x] M = some (none, M.set 32 (aI (l4 (su x)))) := by
  have wx : wr x = x := wr_id (by omega) (by omega)
  have e1 : x.tdiv 343 = x / 343 := Int.tdiv_eq_ediv_of_nonneg hx.1
  have e2 : x.tdiv 49 = x / 49 := Int.tdiv_eq_ediv_of_nonneg hx.1
  have e3 : x.tdiv 7 = x / 7 := Int.tdiv_eq_ediv_of_nonneg hx.1
  have e4 : x.tmod 7 = x % 7 := Int.tmod_eq_emod_of_nonneg hx.1
  have w2 : wr (x / 49) = x / 49 := wr_id (by omega) (by omega)
  have w3 : wr (x / 7) = x / 7 := wr_id (by omega) (by omega)
  have e5 : (x / 49).tmod 7 = x / 49 % 7 := Int.tmod_eq_emod_of_nonneg (by omega)
  have e6 : (x / 7).tmod 7 = x / 7 % 7 := Int.tmod_eq_emod_of_nonneg (by omega)
  (refine am_fnI (tb := tb_X6_layState) (n := 60) (Nat.le_of_ble_eq_true rfl) (Nat.le_of_ble_eq_true rfl) ?_; show rx_X6_layState 60 0 _ _ _ = _)
  simp [↓ri_X6_layState, rs_X6_layState_0, rs_X6_layState_1, rs_X6_layState_4, rs_X6_layState_5, rs_X6_layState_6, rs_X6_layState_9, rs_X6_layState_10, rs_X6_layState_11, rs_X6_layState_12, rs_X6_layState_15, rs_X6_layState_16, rs_X6_layState_17, rs_X6_layState_19, rs_X6_layState_20, rs_X6_layState_22, rs_X6_layState_23, rs_X6_layState_24, rs_X6_layState_25, rs_X6_layState_28, rs_X6_layState_29, rs_X6_layState_30, rs_X6_layState_32, rs_X6_layState_33, rs_X6_layState_35, rs_X6_layState_36, rs_X6_layState_37, rs_X6_layState_38, rs_X6_layState_41, rs_X6_layState_42, rs_X6_layState_43, rs_X6_layState_45, rs_X6_layState_46, rs_X6_layState_47, -List.getElem?_eq_getElem, am_js, am_e, am_in, am_sl, rI, rZ, rV, rJ, rA, rC, kI, kJ, kR, am_one, am_nl, am_w8, tIc, tLc, tNul, tIld, tLld, tAld, tIst, tLst, tAst, tIinc, tI2, tDv, tL2, tLrem, tLs, tLcmp, tI2l, tL2i, tI2c, tDup, tDup2, tPop, tGo, tIfeq, tIfne, tIflt, tIfge, tIfgt, tIfle, tCmeq, tCmne, tCmlt, tCmge, tCmgt, tCmle, tNu, tTs, tGf, tPf, tGs, tIal, tIas, tBal, tBas, tAln, tSv, tSc, tSb, tSl, tSk, tCv, tCs, tCt, tMx, tMn, wr_10000, wr_100000, wr_1000000, wr_10000000, wr_100000000, wr_2400, wr_9999, wr_0, wr_1, wr_2, wr_3, wr_4, wr_5, wr_6, wr_7, wr_8, wr_9, wr_10, wr_11, wr_12, wr_13, wr_14, wr_15, wr_16, wr_17, wr_18, wr_19, wr_20, wr_21, wr_22, wr_23, wr_24, wr_25, wr_26, wr_27, wr_28, wr_29, wr_30, wr_31, wr_32, wr_33, wr_34, wr_35, wr_36, wr_37, wr_38, wr_39, wr_40, wr_41, wr_42, wr_43, wr_44, wr_45, wr_46, wr_47, wr_48, wr_49, wr_50, wr_51, wr_52, wr_53, wr_54, wr_55, wr_56, wr_57, wr_58, wr_59, wr_60, wr_61, wr_62, wr_63, wr_99, wr_100, wr_192, wr_255, wr_256, wr_343, wr_999, wr_1000, wr_2401, wr_2147483647, wr_65535, wr_m1, wr_m2, wr_m3, wr_m4, wr_m9, ak_1000, ak_1001, ak_1002, ak_0, ak_1, ak_2, ak_3, ak_4, ak_5, ak_6, ak_7, ak_8, ak_9, ak_10, ak_11, ak_12, ak_13, ak_14, ak_15, ak_16, ak_17, ak_18, ak_19, ak_20, ak_21, ak_22, ak_23, ak_24, ak_25, ak_26, ak_27, ak_28, ak_29, ak_30, ak_31, ak_32, ak_33, ak_34, ak_35, ak_36, ak_37, ak_38, ak_39, ak_40, ak_41, ak_42, ak_43, ak_44, ak_45, ak_46, ak_47, h0, mo, h32, gs h32, wx, e1, e2, e3, e4, w2, w3, e5, e6, su]
def dp (m : Int) (d : F4) : Prop := m ≤ d.1 ∧ m ≤ d.2.1 ∧ m ≤ d.2.2.1 ∧ m ≤ d.2.2.2
abbrev mi_X6_isDeep : Mi := (yX6_isDeep, cX6_isDeep, 2, some .boolean, 1)
theorem mf_X6_isDeep : am_mf mi_X6_isDeep 1 := ⟨w_co_X6_isDeep, w_in_X6, ⟨by decide +kernel, by decide +kernel⟩, by decide +kernel, by decide⟩
def tb_X6_isDeep : List (Nat × Tr) := [(0, tAld 0 1), (1, tGf 6 8), (4, tIc 0 1), (5, tIal), (6, tIld 1 1), (7, tCmlt 44), (10, tAld 0 1), (11, tGf 6 8), (14, tIc 1 1), (15, tIal), (16, tIld 1 1), (17, tCmlt 44), (20, tAld 0 1), (21, tGf 6 8), (24, tIc 2 1), (25, tIal), (26, tIld 1 1), (27, tCmlt 44), (30, tAld 0 1), (31, tGf 6 8), (34, tIc 3 1), (35, tIal), (36, tIld 1 1), (37, tCmlt 44), (40, tIc 1 1), (41, tGo 45), (44, tIc 0 1)]
theorem ok_X6_isDeep : Tok mi_X6_isDeep tb_X6_isDeep :=
  Tc (sd_aload_n dX6_isDeep_0) <|
  Tc (sd_getf (T := TX6) rfl giX6 (by decide) w_fl_X6_25 dX6_isDeep_1) <|
  Tc (sd_iconst rfl dX6_isDeep_4) <|
  Tc (sd_ial dX6_isDeep_5) <|
  Tc (sd_iload_n dX6_isDeep_6) <|
  Tc (sd_cm_lt (by decide) dX6_isDeep_7) <|
  Tc (sd_aload_n dX6_isDeep_10) <|
  Tc (sd_getf (T := TX6) rfl giX6 (by decide) w_fl_X6_25 dX6_isDeep_11) <|
  Tc (sd_iconst rfl dX6_isDeep_14) <|
  Tc (sd_ial dX6_isDeep_15) <|
  Tc (sd_iload_n dX6_isDeep_16) <|
  Tc (sd_cm_lt (by decide) dX6_isDeep_17) <|
  Tc (sd_aload_n dX6_isDeep_20) <|
  Tc (sd_getf (T := TX6) rfl giX6 (by decide) w_fl_X6_25 dX6_isDeep_21) <|
  Tc (sd_iconst rfl dX6_isDeep_24) <|
  Tc (sd_ial dX6_isDeep_25) <|
  Tc (sd_iload_n dX6_isDeep_26) <|
  Tc (sd_cm_lt (by decide) dX6_isDeep_27) <|
  Tc (sd_aload_n dX6_isDeep_30) <|
  Tc (sd_getf (T := TX6) rfl giX6 (by decide) w_fl_X6_25 dX6_isDeep_31) <|
  Tc (sd_iconst rfl dX6_isDeep_34) <|
  Tc (sd_ial dX6_isDeep_35) <|
  Tc (sd_iload_n dX6_isDeep_36) <|
  Tc (sd_cm_lt (by decide) dX6_isDeep_37) <|
  Tc (sd_iconst rfl dX6_isDeep_40) <|
  Tc (sd_goto (by decide) dX6_isDeep_41) <|
  Tc (sd_iconst rfl dX6_isDeep_44) <|
  Tn
theorem rk_X6_isDeep : Rok mi_X6_isDeep rZ [45] := rk_z dX6_isDeep_45 <| rk_n
def rx_X6_isDeep : Nat → Nat → AL → List AV → List AC → Option (Option AV × List AC) := am_r tb_X6_isDeep rZ [45]
theorem rs_X6_isDeep_0 (n : Nat) (L : AL) (st : List AV) (M : List AC) : rx_X6_isDeep (n + 1) 0 L st M = am_j (rx_X6_isDeep n) ((tAld 0 1) 0 L st M) := rfl
theorem rs_X6_isDeep_1 (n : Nat) (L : AL) (st : List AV) (M : List AC) : rx_X6_isDeep (n + 1) 1 L st M = am_j (rx_X6_isDeep n) ((tGf 6 8) 1 L st M) := rfl
theorem rs_X6_isDeep_4 (n : Nat) (L : AL) (st : List AV) (M : List AC) : rx_X6_isDeep (n + 1) 4 L st M = am_j (rx_X6_isDeep n) ((tIc 0 1) 4 L st M) := rfl
theorem rs_X6_isDeep_5 (n : Nat) (L : AL) (st : List AV) (M : List AC) : rx_X6_isDeep (n + 1) 5 L st M = am_j (rx_X6_isDeep n) (tIal 5 L st M) := rfl
theorem rs_X6_isDeep_6 (n : Nat) (L : AL) (st : List AV) (M : List AC) : rx_X6_isDeep (n + 1) 6 L st M = am_j (rx_X6_isDeep n) ((tIld 1 1) 6 L st M) := rfl
theorem rs_X6_isDeep_7 (n : Nat) (L : AL) (st : List AV) (M : List AC) : rx_X6_isDeep (n + 1) 7 L st M = am_j (rx_X6_isDeep n) ((tCmlt 44) 7 L st M) := rfl
theorem rs_X6_isDeep_10 (n : Nat) (L : AL) (st : List AV) (M : List AC) : rx_X6_isDeep (n + 1) 10 L st M = am_j (rx_X6_isDeep n) ((tAld 0 1) 10 L st M) := rfl
theorem rs_X6_isDeep_11 (n : Nat) (L : AL) (st : List AV) (M : List AC) : rx_X6_isDeep (n + 1) 11 L st M = am_j (rx_X6_isDeep n) ((tGf 6 8) 11 L st M) := rfl
theorem rs_X6_isDeep_14 (n : Nat) (L : AL) (st : List AV) (M : List AC) : rx_X6_isDeep (n + 1) 14 L st M = am_j (rx_X6_isDeep n) ((tIc 1 1) 14 L st M) := rfl
theorem rs_X6_isDeep_15 (n : Nat) (L : AL) (st : List AV) (M : List AC) : rx_X6_isDeep (n + 1) 15 L st M = am_j (rx_X6_isDeep n) (tIal 15 L st M) := rfl
theorem rs_X6_isDeep_16 (n : Nat) (L : AL) (st : List AV) (M : List AC) : rx_X6_isDeep (n + 1) 16 L st M = am_j (rx_X6_isDeep n) ((tIld 1 1) 16 L st M) := rfl
theorem rs_X6_isDeep_17 (n : Nat) (L : AL) (st : List AV) (M : List AC) : rx_X6_isDeep (n + 1) 17 L st M = am_j (rx_X6_isDeep n) ((tCmlt 44) 17 L st M) := rfl
theorem rs_X6_isDeep_20 (n : Nat) (L : AL) (st : List AV) (M : List AC) : rx_X6_isDeep (n + 1) 20 L st M = am_j (rx_X6_isDeep n) ((tAld 0 1) 20 L st M) := rfl
theorem rs_X6_isDeep_21 (n : Nat) (L : AL) (st : List AV) (M : List AC) : rx_X6_isDeep (n + 1) 21 L st M = am_j (rx_X6_isDeep n) ((tGf 6 8) 21 L st M) := rfl
theorem rs_X6_isDeep_24 (n : Nat) (L : AL) (st : List AV) (M : List AC) : rx_X6_isDeep (n + 1) 24 L st M = am_j (rx_X6_isDeep n) ((tIc 2 1) 24 L st M) := rfl
theorem rs_X6_isDeep_25 (n : Nat) (L : AL) (st : List AV) (M : List AC) : rx_X6_isDeep (n + 1) 25 L st M = am_j (rx_X6_isDeep n) (tIal 25 L st M) := rfl
theorem rs_X6_isDeep_26 (n : Nat) (L : AL) (st : List AV) (M : List AC) : rx_X6_isDeep (n + 1) 26 L st M = am_j (rx_X6_isDeep n) ((tIld 1 1) 26 L st M) := rfl
theorem rs_X6_isDeep_27 (n : Nat) (L : AL) (st : List AV) (M : List AC) : rx_X6_isDeep (n + 1) 27 L st M = am_j (rx_X6_isDeep n) ((tCmlt 44) 27 L st M) := rfl
theorem rs_X6_isDeep_30 (n : Nat) (L : AL) (st : List AV) (M : List AC) : rx_X6_isDeep (n + 1) 30 L st M = am_j (rx_X6_isDeep n) ((tAld 0 1) 30 L st M) := rfl
theorem rs_X6_isDeep_31 (n : Nat) (L : AL) (st : List AV) (M : List AC) : rx_X6_isDeep (n + 1) 31 L st M = am_j (rx_X6_isDeep n) ((tGf 6 8) 31 L st M) := rfl
theorem rs_X6_isDeep_34 (n : Nat) (L : AL) (st : List AV) (M : List AC) : rx_X6_isDeep (n + 1) 34 L st M = am_j (rx_X6_isDeep n) ((tIc 3 1) 34 L st M) := rfl
theorem rs_X6_isDeep_35 (n : Nat) (L : AL) (st : List AV) (M : List AC) : rx_X6_isDeep (n + 1) 35 L st M = am_j (rx_X6_isDeep n) (tIal 35 L st M) := rfl
theorem rs_X6_isDeep_36 (n : Nat) (L : AL) (st : List AV) (M : List AC) : rx_X6_isDeep (n + 1) 36 L st M = am_j (rx_X6_isDeep n) ((tIld 1 1) 36 L st M) := rfl
theorem rs_X6_isDeep_37 (n : Nat) (L : AL) (st : List AV) (M : List AC) : rx_X6_isDeep (n + 1) 37 L st M = am_j (rx_X6_isDeep n) ((tCmlt 44) 37 L st M) := rfl
theorem rs_X6_isDeep_40 (n : Nat) (L : AL) (st : List AV) (M : List AC) : rx_X6_isDeep (n + 1) 40 L st M = am_j (rx_X6_isDeep n) ((tIc 1 1) 40 L st M) := rfl
theorem rs_X6_isDeep_41 (n : Nat) (L : AL) (st : List AV) (M : List AC) : rx_X6_isDeep (n + 1) 41 L st M = am_j (rx_X6_isDeep n) ((tGo 45) 41 L st M) := rfl
theorem rs_X6_isDeep_44 (n : Nat) (L : AL) (st : List AV) (M : List AC) : rx_X6_isDeep (n + 1) 44 L st M = am_j (rx_X6_isDeep n) ((tIc 0 1) 44 L st M) := rfl
theorem rs_X6_isDeep_45 (n : Nat) (L : AL) (st : List AV) (M : List AC) : rx_X6_isDeep (n + 1) 45 L st M = am_e rZ st M := rfl
theorem ri_X6_isDeep (c : Prop) [Decidable c] (p q n : Nat) (L : AL) (st : List AV) (M : List AC) : rx_X6_isDeep n (if c then p else q) L st M = if c then rx_X6_isDeep n p L st M else rx_X6_isDeep n q L st M := by split <;> rfl
theorem rm_X6_isDeep {n k pc : Nat} {L : AL} {st : List AV} {M : List AC} {x : Option AV × List AC} (h : rx_X6_isDeep n pc L st M = some x) (hk : n ≤ k) : rx_X6_isDeep k pc L st M = some x := am_r_mono n k h hk
def fn_X6_isDeep : Fn := am_fn rx_X6_isDeep 2
theorem fok_X6_isDeep : Fok mi_X6_isDeep fn_X6_isDeep := fun _ _ _ _ h => am_fok ok_X6_isDeep rk_X6_isDeep rfl h
theorem sp_X6_isDeep {M : List AC} {st lk len ac nx rf lr en lm : Int} {sd : Int64} (h0 : M[26]? = some (mo st lk len ac nx rf lr en lm sd)) {d : F4} (h32 : M[32]? = some (aI (l4 d))) (hd : i4 0 6 d) (m : Int) (hm : 0 ≤ m ∧ m ≤ 6) : fn_X6_isDeep [vR 26, vI m] M = some (some (vI (if m ≤ d.1 ∧ m ≤ d.2.1 ∧ m ≤ d.2.2.1 ∧ m ≤ d.2.2.2 then 1 else 0)), M) := by
  obtain ⟨w0, w1, w2, w3⟩ := i4_wr hd (by decide) (by decide)
  have wm : wr m = m := wr_id (by omega) (by omega)
  (refine am_fnI (tb := tb_X6_isDeep) (n := 60) (Nat.le_of_ble_eq_true rfl) (Nat.le_of_ble_eq_true rfl) ?_; show rx_X6_isDeep 60 0 _ _ _ = _)
  simp [↓ri_X6_isDeep, rs_X6_isDeep_0, rs_X6_isDeep_1, rs_X6_isDeep_4, rs_X6_isDeep_5, rs_X6_isDeep_6, rs_X6_isDeep_7, rs_X6_isDeep_10, rs_X6_isDeep_11, rs_X6_isDeep_14, rs_X6_isDeep_15, rs_X6_isDeep_16, rs_X6_isDeep_17, rs_X6_isDeep_20, rs_X6_isDeep_21, rs_X6_isDeep_24, rs_X6_isDeep_25, rs_X6_isDeep_26, rs_X6_isDeep_27, rs_X6_isDeep_30, rs_X6_isDeep_31, rs_X6_isDeep_34, rs_X6_isDeep_35, rs_X6_isDeep_36, rs_X6_isDeep_37, rs_X6_isDeep_40, rs_X6_isDeep_41, rs_X6_isDeep_44, rs_X6_isDeep_45, -List.getElem?_eq_getElem, am_js, am_e, am_in, am_sl, rI, rZ, rV, rJ, rA, rC, kI, kJ, kR, am_one, am_nl, am_w8, tIc, tLc, tNul, tIld, tLld, tAld, tIst, tLst, tAst, tIinc, tI2, tDv, tL2, tLrem, tLs, tLcmp, tI2l, tL2i, tI2c, tDup, tDup2, tPop, tGo, tIfeq, tIfne, tIflt, tIfge, tIfgt, tIfle, tCmeq, tCmne, tCmlt, tCmge, tCmgt, tCmle, tNu, tTs, tGf, tPf, tGs, tIal, tIas, tBal, tBas, tAln, tSv, tSc, tSb, tSl, tSk, tCv, tCs, tCt, tMx, tMn, wr_10000, wr_100000, wr_1000000, wr_10000000, wr_100000000, wr_2400, wr_9999, wr_0, wr_1, wr_2, wr_3, wr_4, wr_5, wr_6, wr_7, wr_8, wr_9, wr_10, wr_11, wr_12, wr_13, wr_14, wr_15, wr_16, wr_17, wr_18, wr_19, wr_20, wr_21, wr_22, wr_23, wr_24, wr_25, wr_26, wr_27, wr_28, wr_29, wr_30, wr_31, wr_32, wr_33, wr_34, wr_35, wr_36, wr_37, wr_38, wr_39, wr_40, wr_41, wr_42, wr_43, wr_44, wr_45, wr_46, wr_47, wr_48, wr_49, wr_50, wr_51, wr_52, wr_53, wr_54, wr_55, wr_56, wr_57, wr_58, wr_59, wr_60, wr_61, wr_62, wr_63, wr_99, wr_100, wr_192, wr_255, wr_256, wr_343, wr_999, wr_1000, wr_2401, wr_2147483647, wr_65535, wr_m1, wr_m2, wr_m3, wr_m4, wr_m9, ak_1000, ak_1001, ak_1002, ak_0, ak_1, ak_2, ak_3, ak_4, ak_5, ak_6, ak_7, ak_8, ak_9, ak_10, ak_11, ak_12, ak_13, ak_14, ak_15, ak_16, ak_17, ak_18, ak_19, ak_20, ak_21, ak_22, ak_23, ak_24, ak_25, ak_26, ak_27, ak_28, ak_29, ak_30, ak_31, ak_32, ak_33, ak_34, ak_35, ak_36, ak_37, ak_38, ak_39, ak_40, ak_41, ak_42, ak_43, ak_44, ak_45, ak_46, ak_47, h0, mo, h32, w0, w1, w2, w3, wm]
  (repeat' split) <;> first | rfl | omega
abbrev mi_X6_allHold : Mi := (yX6_allHold, cX6_allHold, 1, some .boolean, 6)
theorem mf_X6_allHold : am_mf mi_X6_allHold 0 := ⟨w_co_X6_allHold, w_in_X6, ⟨by decide +kernel, by decide +kernel⟩, by decide +kernel, by decide⟩
def tb_X6_allHold : List (Nat × Tr) := [(0, tAld 0 1), (1, tCv 6 0 fn_X6_firstSlip), (4, tIc (-9) 2), (6, tCmne 13), (9, tIc 1 1), (10, tGo 14), (13, tIc 0 1)]
theorem ok_X6_allHold : Tok mi_X6_allHold tb_X6_allHold :=
  Tc (sd_aload_n dX6_allHold_0) <|
  Tc (sd_cv (T := TX6) fok_X6_firstSlip mf_X6_firstSlip rfl w_ml_X6_109 w_im_X6_firstSlip w_se_X6_firstSlip (by decide) dX6_allHold_1) <|
  Tc (sd_bipush (by decide +kernel) dX6_allHold_4) <|
  Tc (sd_cm_ne (by decide) dX6_allHold_6) <|
  Tc (sd_iconst rfl dX6_allHold_9) <|
  Tc (sd_goto (by decide) dX6_allHold_10) <|
  Tc (sd_iconst rfl dX6_allHold_13) <|
  Tn
theorem rk_X6_allHold : Rok mi_X6_allHold rZ [14] := rk_z dX6_allHold_14 <| rk_n
def rx_X6_allHold : Nat → Nat → AL → List AV → List AC → Option (Option AV × List AC) := am_r tb_X6_allHold rZ [14]
theorem rs_X6_allHold_0 (n : Nat) (L : AL) (st : List AV) (M : List AC) : rx_X6_allHold (n + 1) 0 L st M = am_j (rx_X6_allHold n) ((tAld 0 1) 0 L st M) := rfl
theorem rs_X6_allHold_1 (n : Nat) (L : AL) (st : List AV) (M : List AC) : rx_X6_allHold (n + 1) 1 L st M = am_j (rx_X6_allHold n) ((tCv 6 0 fn_X6_firstSlip) 1 L st M) := rfl
theorem rs_X6_allHold_4 (n : Nat) (L : AL) (st : List AV) (M : List AC) : rx_X6_allHold (n + 1) 4 L st M = am_j (rx_X6_allHold n) ((tIc (-9) 2) 4 L st M) := rfl
theorem rs_X6_allHold_6 (n : Nat) (L : AL) (st : List AV) (M : List AC) : rx_X6_allHold (n + 1) 6 L st M = am_j (rx_X6_allHold n) ((tCmne 13) 6 L st M) := rfl
theorem rs_X6_allHold_9 (n : Nat) (L : AL) (st : List AV) (M : List AC) : rx_X6_allHold (n + 1) 9 L st M = am_j (rx_X6_allHold n) ((tIc 1 1) 9 L st M) := rfl
theorem rs_X6_allHold_10 (n : Nat) (L : AL) (st : List AV) (M : List AC) : rx_X6_allHold (n + 1) 10 L st M = am_j (rx_X6_allHold n) ((tGo 14) 10 L st M) := rfl
theorem rs_X6_allHold_13 (n : Nat) (L : AL) (st : List AV) (M : List AC) : rx_X6_allHold (n + 1) 13 L st M = am_j (rx_X6_allHold n) ((tIc 0 1) 13 L st M) := rfl
theorem rs_X6_allHold_14 (n : Nat) (L : AL) (st : List AV) (M : List AC) : rx_X6_allHold (n + 1) 14 L st M = am_e rZ st M := rfl
theorem ri_X6_allHold (c : Prop) [Decidable c] (p q n : Nat) (L : AL) (st : List AV) (M : List AC) : rx_X6_allHold n (if c then p else q) L st M = if c then rx_X6_allHold n p L st M else rx_X6_allHold n q L st M := by split <;> rfl
theorem rm_X6_allHold {n k pc : Nat} {L : AL} {st : List AV} {M : List AC} {x : Option AV × List AC} (h : rx_X6_allHold n pc L st M = some x) (hk : n ≤ k) : rx_X6_allHold k pc L st M = some x := am_r_mono n k h hk
def fn_X6_allHold : Fn := am_fn rx_X6_allHold 1
theorem fok_X6_allHold : Fok mi_X6_allHold fn_X6_allHold := fun _ _ _ _ h => am_fok ok_X6_allHold rk_X6_allHold rfl h
theorem sp_X6_allHold {M : List AC} {st : Int} {g s d b : F4} (hs : HD M st g s d b) (hr : SR st g s d b) : fn_X6_allHold [vR 26] M = some (some (vI (if fs st g s d b = -9 then 1 else 0)), M) := by
  obtain ⟨⟨lk, len, ac, nx, rf, lr, en, lm, sd, h0⟩, -⟩ := id hs
  have hfs := sp_X6_firstSlip hs hr
  have wf : wr (fs st g s d b) = fs st g s d b := by
    by_cases h : fs st g s d b = -9
    · rw [h]; exact wr_m9
    · have := fs_rng st g s d b h
      exact wr_id (by omega) (by omega)
  generalize fs st g s d b = c at hfs wf ⊢
  (refine am_fnI (tb := tb_X6_allHold) (n := 60) (Nat.le_of_ble_eq_true rfl) (Nat.le_of_ble_eq_true rfl) ?_; show rx_X6_allHold 60 0 _ _ _ = _)
  by_cases h : c = -9 <;> simp [↓ri_X6_allHold, rs_X6_allHold_0, rs_X6_allHold_1, rs_X6_allHold_4, rs_X6_allHold_6, rs_X6_allHold_9, rs_X6_allHold_10, rs_X6_allHold_13, rs_X6_allHold_14, -List.getElem?_eq_getElem, am_js, am_e, am_in, am_sl, rI, rZ, rV, rJ, rA, rC, kI, kJ, kR, am_one, am_nl, am_w8, tIc, tLc, tNul, tIld, tLld, tAld, tIst, tLst, tAst, tIinc, tI2, tDv, tL2, tLrem, tLs, tLcmp, tI2l, tL2i, tI2c, tDup, tDup2, tPop, tGo, tIfeq, tIfne, tIflt, tIfge, tIfgt, tIfle, tCmeq, tCmne, tCmlt, tCmge, tCmgt, tCmle, tNu, tTs, tGf, tPf, tGs, tIal, tIas, tBal, tBas, tAln, tSv, tSc, tSb, tSl, tSk, tCv, tCs, tCt, tMx, tMn, wr_10000, wr_100000, wr_1000000, wr_10000000, wr_100000000, wr_2400, wr_9999, wr_0, wr_1, wr_2, wr_3, wr_4, wr_5, wr_6, wr_7, wr_8, wr_9, wr_10, wr_11, wr_12, wr_13, wr_14, wr_15, wr_16, wr_17, wr_18, wr_19, wr_20, wr_21, wr_22, wr_23, wr_24, wr_25, wr_26, wr_27, wr_28, wr_29, wr_30, wr_31, wr_32, wr_33, wr_34, wr_35, wr_36, wr_37, wr_38, wr_39, wr_40, wr_41, wr_42, wr_43, wr_44, wr_45, wr_46, wr_47, wr_48, wr_49, wr_50, wr_51, wr_52, wr_53, wr_54, wr_55, wr_56, wr_57, wr_58, wr_59, wr_60, wr_61, wr_62, wr_63, wr_99, wr_100, wr_192, wr_255, wr_256, wr_343, wr_999, wr_1000, wr_2401, wr_2147483647, wr_65535, wr_m1, wr_m2, wr_m3, wr_m4, wr_m9, ak_1000, ak_1001, ak_1002, ak_0, ak_1, ak_2, ak_3, ak_4, ak_5, ak_6, ak_7, ak_8, ak_9, ak_10, ak_11, ak_12, ak_13, ak_14, ak_15, ak_16, ak_17, ak_18, ak_19, ak_20, ak_21, ak_22, ak_23, ak_24, ak_25, ak_26, ak_27, ak_28, ak_29, ak_30, ak_31, ak_32, ak_33, ak_34, ak_35, ak_36, ak_37, ak_38, ak_39, ak_40, ak_41, ak_42, ak_43, ak_44, ak_45, ak_46, ak_47, h0, mo, hfs, wf, h]
abbrev mi_X6_on : Mi := (yX6_on, cX6_on, 3, some .int, 1)
theorem mf_X6_on : am_mf mi_X6_on 0 := ⟨w_co_X6_on, w_in_X6, ⟨by decide +kernel, by decide +kernel⟩, by decide +kernel, by decide⟩
def tb_X6_on : List (Nat × Tr) := [(0, tIc 0 1), (1, tIst 1 1), (2, tIc 0 1), (3, tIst 2 1), (4, tIld 2 1), (5, tIc 4 1), (6, tCmge 34), (9, tIld 1 1), (10, tAld 0 1), (11, tGf 6 2), (14, tIld 2 1), (15, tIal), (16, tIfle 25), (19, tIc 1 1), (20, tIld 2 1), (21, tI2 oShl), (22, tGo 26), (25, tIc 0 1), (26, tI2 oOr), (27, tIst 1 1), (28, tIinc 2 1), (31, tGo 4), (34, tIld 1 1)]
theorem ok_X6_on : Tok mi_X6_on tb_X6_on :=
  Tc (sd_iconst rfl dX6_on_0) <|
  Tc (sd_istore_n dX6_on_1) <|
  Tc (sd_iconst rfl dX6_on_2) <|
  Tc (sd_istore_n dX6_on_3) <|
  Tc (sd_iload_n dX6_on_4) <|
  Tc (sd_iconst rfl dX6_on_5) <|
  Tc (sd_cm_ge (by decide) dX6_on_6) <|
  Tc (sd_iload_n dX6_on_9) <|
  Tc (sd_aload_n dX6_on_10) <|
  Tc (sd_getf (T := TX6) rfl giX6 (by decide) w_fl_X6_13 dX6_on_11) <|
  Tc (sd_iload_n dX6_on_14) <|
  Tc (sd_ial dX6_on_15) <|
  Tc (sd_if_le (by decide) dX6_on_16) <|
  Tc (sd_iconst rfl dX6_on_19) <|
  Tc (sd_iload_n dX6_on_20) <|
  Tc (sd_ishl dX6_on_21) <|
  Tc (sd_goto (by decide) dX6_on_22) <|
  Tc (sd_iconst rfl dX6_on_25) <|
  Tc (sd_ior dX6_on_26) <|
  Tc (sd_istore_n dX6_on_27) <|
  Tc (sd_iinc dX6_on_28) <|
  Tc (sd_goto (by decide) dX6_on_31) <|
  Tc (sd_iload_n dX6_on_34) <|
  Tn
theorem rk_X6_on : Rok mi_X6_on rI [35] := rk_i dX6_on_35 <| rk_n
def rx_X6_on : Nat → Nat → AL → List AV → List AC → Option (Option AV × List AC) := am_r tb_X6_on rI [35]
theorem rs_X6_on_0 (n : Nat) (L : AL) (st : List AV) (M : List AC) : rx_X6_on (n + 1) 0 L st M = am_j (rx_X6_on n) ((tIc 0 1) 0 L st M) := rfl
theorem rs_X6_on_1 (n : Nat) (L : AL) (st : List AV) (M : List AC) : rx_X6_on (n + 1) 1 L st M = am_j (rx_X6_on n) ((tIst 1 1) 1 L st M) := rfl
theorem rs_X6_on_2 (n : Nat) (L : AL) (st : List AV) (M : List AC) : rx_X6_on (n + 1) 2 L st M = am_j (rx_X6_on n) ((tIc 0 1) 2 L st M) := rfl
theorem rs_X6_on_3 (n : Nat) (L : AL) (st : List AV) (M : List AC) : rx_X6_on (n + 1) 3 L st M = am_j (rx_X6_on n) ((tIst 2 1) 3 L st M) := rfl
theorem rs_X6_on_4 (n : Nat) (L : AL) (st : List AV) (M : List AC) : rx_X6_on (n + 1) 4 L st M = am_j (rx_X6_on n) ((tIld 2 1) 4 L st M) := rfl
theorem rs_X6_on_5 (n : Nat) (L : AL) (st : List AV) (M : List AC) : rx_X6_on (n + 1) 5 L st M = am_j (rx_X6_on n) ((tIc 4 1) 5 L st M) := rfl
theorem rs_X6_on_6 (n : Nat) (L : AL) (st : List AV) (M : List AC) : rx_X6_on (n + 1) 6 L st M = am_j (rx_X6_on n) ((tCmge 34) 6 L st M) := rfl
theorem rs_X6_on_9 (n : Nat) (L : AL) (st : List AV) (M : List AC) : rx_X6_on (n + 1) 9 L st M = am_j (rx_X6_on n) ((tIld 1 1) 9 L st M) := rfl
theorem rs_X6_on_10 (n : Nat) (L : AL) (st : List AV) (M : List AC) : rx_X6_on (n + 1) 10 L st M = am_j (rx_X6_on n) ((tAld 0 1) 10 L st M) := rfl
theorem rs_X6_on_11 (n : Nat) (L : AL) (st : List AV) (M : List AC) : rx_X6_on (n + 1) 11 L st M = am_j (rx_X6_on n) ((tGf 6 2) 11 L st M) := rfl
theorem rs_X6_on_14 (n : Nat) (L : AL) (st : List AV) (M : List AC) : rx_X6_on (n + 1) 14 L st M = am_j (rx_X6_on n) ((tIld 2 1) 14 L st M) := rfl
theorem rs_X6_on_15 (n : Nat) (L : AL) (st : List AV) (M : List AC) : rx_X6_on (n + 1) 15 L st M = am_j (rx_X6_on n) (tIal 15 L st M) := rfl
theorem rs_X6_on_16 (n : Nat) (L : AL) (st : List AV) (M : List AC) : rx_X6_on (n + 1) 16 L st M = am_j (rx_X6_on n) ((tIfle 25) 16 L st M) := rfl
theorem rs_X6_on_19 (n : Nat) (L : AL) (st : List AV) (M : List AC) : rx_X6_on (n + 1) 19 L st M = am_j (rx_X6_on n) ((tIc 1 1) 19 L st M) := rfl
theorem rs_X6_on_20 (n : Nat) (L : AL) (st : List AV) (M : List AC) : rx_X6_on (n + 1) 20 L st M = am_j (rx_X6_on n) ((tIld 2 1) 20 L st M) := rfl
theorem rs_X6_on_21 (n : Nat) (L : AL) (st : List AV) (M : List AC) : rx_X6_on (n + 1) 21 L st M = am_j (rx_X6_on n) ((tI2 oShl) 21 L st M) := rfl
theorem rs_X6_on_22 (n : Nat) (L : AL) (st : List AV) (M : List AC) : rx_X6_on (n + 1) 22 L st M = am_j (rx_X6_on n) ((tGo 26) 22 L st M) := rfl
theorem rs_X6_on_25 (n : Nat) (L : AL) (st : List AV) (M : List AC) : rx_X6_on (n + 1) 25 L st M = am_j (rx_X6_on n) ((tIc 0 1) 25 L st M) := rfl
theorem rs_X6_on_26 (n : Nat) (L : AL) (st : List AV) (M : List AC) : rx_X6_on (n + 1) 26 L st M = am_j (rx_X6_on n) ((tI2 oOr) 26 L st M) := rfl
theorem rs_X6_on_27 (n : Nat) (L : AL) (st : List AV) (M : List AC) : rx_X6_on (n + 1) 27 L st M = am_j (rx_X6_on n) ((tIst 1 1) 27 L st M) := rfl
theorem rs_X6_on_28 (n : Nat) (L : AL) (st : List AV) (M : List AC) : rx_X6_on (n + 1) 28 L st M = am_j (rx_X6_on n) ((tIinc 2 1) 28 L st M) := rfl
theorem rs_X6_on_31 (n : Nat) (L : AL) (st : List AV) (M : List AC) : rx_X6_on (n + 1) 31 L st M = am_j (rx_X6_on n) ((tGo 4) 31 L st M) := rfl
theorem rs_X6_on_34 (n : Nat) (L : AL) (st : List AV) (M : List AC) : rx_X6_on (n + 1) 34 L st M = am_j (rx_X6_on n) ((tIld 1 1) 34 L st M) := rfl
theorem rs_X6_on_35 (n : Nat) (L : AL) (st : List AV) (M : List AC) : rx_X6_on (n + 1) 35 L st M = am_e rI st M := rfl
theorem ri_X6_on (c : Prop) [Decidable c] (p q n : Nat) (L : AL) (st : List AV) (M : List AC) : rx_X6_on n (if c then p else q) L st M = if c then rx_X6_on n p L st M else rx_X6_on n q L st M := by split <;> rfl
theorem rm_X6_on {n k pc : Nat} {L : AL} {st : List AV} {M : List AC} {x : Option AV × List AC} (h : rx_X6_on n pc L st M = some x) (hk : n ≤ k) : rx_X6_on k pc L st M = some x := am_r_mono n k h hk
def fn_X6_on : Fn := am_fn rx_X6_on 3
theorem fok_X6_on : Fok mi_X6_on fn_X6_on := fun _ _ _ _ h => am_fok ok_X6_on rk_X6_on rfl h
theorem sp_X6_on {M : List AC} {st lk len ac nx rf lr en lm : Int} {sd : Int64} (h0 : M[26]? = some (mo st lk len ac nx rf lr en lm sd)) {d b s : F4} (h28 : M[28]? = some (aI (nw d b s))) (hr : i4 0 6 d) : fn_X6_on [vR 26] M = some (some (vI (onb d)), M) := by
  obtain ⟨wd0, wd1, wd2, wd3⟩ := i4_wr hr (by decide) (by decide)
  rw [← onb_or]
  unfold on1
  (refine am_fnI (tb := tb_X6_on) (n := 150) (Nat.le_of_ble_eq_true rfl) (Nat.le_of_ble_eq_true rfl) ?_; show rx_X6_on 150 0 _ _ _ = _)
  rcases ps d.1 with ⟨a0, b0⟩ | ⟨a0, b0⟩ <;> rcases ps d.2.1 with ⟨a1, b1⟩ | ⟨a1, b1⟩ <;> rcases ps d.2.2.1 with ⟨a2, b2⟩ | ⟨a2, b2⟩ <;> rcases ps d.2.2.2 with ⟨a3, b3⟩ | ⟨a3, b3⟩ <;>
  simp [↓ri_X6_on, rs_X6_on_0, rs_X6_on_1, rs_X6_on_2, rs_X6_on_3, rs_X6_on_4, rs_X6_on_5, rs_X6_on_6, rs_X6_on_9, rs_X6_on_10, rs_X6_on_11, rs_X6_on_14, rs_X6_on_15, rs_X6_on_16, rs_X6_on_19, rs_X6_on_20, rs_X6_on_21, rs_X6_on_22, rs_X6_on_25, rs_X6_on_26, rs_X6_on_27, rs_X6_on_28, rs_X6_on_31, rs_X6_on_34, rs_X6_on_35, -List.getElem?_eq_getElem, am_js, am_e, am_in, am_sl, rI, rZ, rV, rJ, rA, rC, kI, kJ, kR, am_one, am_nl, am_w8, tIc, tLc, tNul, tIld, tLld, tAld, tIst, tLst, tAst, tIinc, tI2, tDv, tL2, tLrem, tLs, tLcmp, tI2l, tL2i, tI2c, tDup, tDup2, tPop, tGo, tIfeq, tIfne, tIflt, tIfge, tIfgt, tIfle, tCmeq, tCmne, tCmlt, tCmge, tCmgt, tCmle, tNu, tTs, tGf, tPf, tGs, tIal, tIas, tBal, tBas, tAln, tSv, tSc, tSb, tSl, tSk, tCv, tCs, tCt, tMx, tMn, wr_10000, wr_100000, wr_1000000, wr_10000000, wr_100000000, wr_2400, wr_9999, wr_0, wr_1, wr_2, wr_3, wr_4, wr_5, wr_6, wr_7, wr_8, wr_9, wr_10, wr_11, wr_12, wr_13, wr_14, wr_15, wr_16, wr_17, wr_18, wr_19, wr_20, wr_21, wr_22, wr_23, wr_24, wr_25, wr_26, wr_27, wr_28, wr_29, wr_30, wr_31, wr_32, wr_33, wr_34, wr_35, wr_36, wr_37, wr_38, wr_39, wr_40, wr_41, wr_42, wr_43, wr_44, wr_45, wr_46, wr_47, wr_48, wr_49, wr_50, wr_51, wr_52, wr_53, wr_54, wr_55, wr_56, wr_57, wr_58, wr_59, wr_60, wr_61, wr_62, wr_63, wr_99, wr_100, wr_192, wr_255, wr_256, wr_343, wr_999, wr_1000, wr_2401, wr_2147483647, wr_65535, wr_m1, wr_m2, wr_m3, wr_m4, wr_m9, ak_1000, ak_1001, ak_1002, ak_0, ak_1, ak_2, ak_3, ak_4, ak_5, ak_6, ak_7, ak_8, ak_9, ak_10, ak_11, ak_12, ak_13, ak_14, ak_15, ak_16, ak_17, ak_18, ak_19, ak_20, ak_21, ak_22, ak_23, ak_24, ak_25, ak_26, ak_27, ak_28, ak_29, ak_30, ak_31, ak_32, ak_33, ak_34, ak_35, ak_36, ak_37, ak_38, ak_39, ak_40, ak_41, ak_42, ak_43, ak_44, ak_45, ak_46, ak_47, h0, mo, h28, wd0, wd1, wd2, wd3, a0, a1, a2, a3, b0, b1, b2, b3, shl_0, shl_1, shl_2, shl_3]
abbrev mi_X6_many : Mi := (yX6_many, cX6_many, 3, some .int, 1)
theorem mf_X6_many : am_mf mi_X6_many 0 := ⟨w_co_X6_many, w_in_X6, ⟨by decide +kernel, by decide +kernel⟩, by decide +kernel, by decide⟩
def tb_X6_many : List (Nat × Tr) := [(0, tIc 0 1), (1, tIst 1 1), (2, tIc 0 1), (3, tIst 2 1), (4, tIld 2 1), (5, tIc 4 1), (6, tCmge 32), (9, tIld 1 1), (10, tAld 0 1), (11, tGf 6 2), (14, tIld 2 1), (15, tIal), (16, tIfle 23), (19, tIc 1 1), (20, tGo 24), (23, tIc 0 1), (24, tI2 (fun a b => a + b)), (25, tIst 1 1), (26, tIinc 2 1), (29, tGo 4), (32, tIld 1 1)]
theorem ok_X6_many : Tok mi_X6_many tb_X6_many :=
  Tc (sd_iconst rfl dX6_many_0) <|
  Tc (sd_istore_n dX6_many_1) <|
  Tc (sd_iconst rfl dX6_many_2) <|
  Tc (sd_istore_n dX6_many_3) <|
  Tc (sd_iload_n dX6_many_4) <|
  Tc (sd_iconst rfl dX6_many_5) <|
  Tc (sd_cm_ge (by decide) dX6_many_6) <|
  Tc (sd_iload_n dX6_many_9) <|
  Tc (sd_aload_n dX6_many_10) <|
  Tc (sd_getf (T := TX6) rfl giX6 (by decide) w_fl_X6_13 dX6_many_11) <|
  Tc (sd_iload_n dX6_many_14) <|
  Tc (sd_ial dX6_many_15) <|
  Tc (sd_if_le (by decide) dX6_many_16) <|
  Tc (sd_iconst rfl dX6_many_19) <|
  Tc (sd_goto (by decide) dX6_many_20) <|
  Tc (sd_iconst rfl dX6_many_23) <|
  Tc (sd_iadd dX6_many_24) <|
  Tc (sd_istore_n dX6_many_25) <|
  Tc (sd_iinc dX6_many_26) <|
  Tc (sd_goto (by decide) dX6_many_29) <|
  Tc (sd_iload_n dX6_many_32) <|
  Tn
theorem rk_X6_many : Rok mi_X6_many rI [33] := rk_i dX6_many_33 <| rk_n
def rx_X6_many : Nat → Nat → AL → List AV → List AC → Option (Option AV × List AC) := am_r tb_X6_many rI [33]
theorem rs_X6_many_0 (n : Nat) (L : AL) (st : List AV) (M : List AC) : rx_X6_many (n + 1) 0 L st M = am_j (rx_X6_many n) ((tIc 0 1) 0 L st M) := rfl
theorem rs_X6_many_1 (n : Nat) (L : AL) (st : List AV) (M : List AC) : rx_X6_many (n + 1) 1 L st M = am_j (rx_X6_many n) ((tIst 1 1) 1 L st M) := rfl
theorem rs_X6_many_2 (n : Nat) (L : AL) (st : List AV) (M : List AC) : rx_X6_many (n + 1) 2 L st M = am_j (rx_X6_many n) ((tIc 0 1) 2 L st M) := rfl
theorem rs_X6_many_3 (n : Nat) (L : AL) (st : List AV) (M : List AC) : rx_X6_many (n + 1) 3 L st M = am_j (rx_X6_many n) ((tIst 2 1) 3 L st M) := rfl
theorem rs_X6_many_4 (n : Nat) (L : AL) (st : List AV) (M : List AC) : rx_X6_many (n + 1) 4 L st M = am_j (rx_X6_many n) ((tIld 2 1) 4 L st M) := rfl
theorem rs_X6_many_5 (n : Nat) (L : AL) (st : List AV) (M : List AC) : rx_X6_many (n + 1) 5 L st M = am_j (rx_X6_many n) ((tIc 4 1) 5 L st M) := rfl
theorem rs_X6_many_6 (n : Nat) (L : AL) (st : List AV) (M : List AC) : rx_X6_many (n + 1) 6 L st M = am_j (rx_X6_many n) ((tCmge 32) 6 L st M) := rfl
theorem rs_X6_many_9 (n : Nat) (L : AL) (st : List AV) (M : List AC) : rx_X6_many (n + 1) 9 L st M = am_j (rx_X6_many n) ((tIld 1 1) 9 L st M) := rfl
theorem rs_X6_many_10 (n : Nat) (L : AL) (st : List AV) (M : List AC) : rx_X6_many (n + 1) 10 L st M = am_j (rx_X6_many n) ((tAld 0 1) 10 L st M) := rfl
theorem rs_X6_many_11 (n : Nat) (L : AL) (st : List AV) (M : List AC) : rx_X6_many (n + 1) 11 L st M = am_j (rx_X6_many n) ((tGf 6 2) 11 L st M) := rfl
theorem rs_X6_many_14 (n : Nat) (L : AL) (st : List AV) (M : List AC) : rx_X6_many (n + 1) 14 L st M = am_j (rx_X6_many n) ((tIld 2 1) 14 L st M) := rfl
theorem rs_X6_many_15 (n : Nat) (L : AL) (st : List AV) (M : List AC) : rx_X6_many (n + 1) 15 L st M = am_j (rx_X6_many n) (tIal 15 L st M) := rfl
theorem rs_X6_many_16 (n : Nat) (L : AL) (st : List AV) (M : List AC) : rx_X6_many (n + 1) 16 L st M = am_j (rx_X6_many n) ((tIfle 23) 16 L st M) := rfl
theorem rs_X6_many_19 (n : Nat) (L : AL) (st : List AV) (M : List AC) : rx_X6_many (n + 1) 19 L st M = am_j (rx_X6_many n) ((tIc 1 1) 19 L st M) := rfl
theorem rs_X6_many_20 (n : Nat) (L : AL) (st : List AV) (M : List AC) : rx_X6_many (n + 1) 20 L st M = am_j (rx_X6_many n) ((tGo 24) 20 L st M) := rfl
theorem rs_X6_many_23 (n : Nat) (L : AL) (st : List AV) (M : List AC) : rx_X6_many (n + 1) 23 L st M = am_j (rx_X6_many n) ((tIc 0 1) 23 L st M) := rfl
theorem rs_X6_many_24 (n : Nat) (L : AL) (st : List AV) (M : List AC) : rx_X6_many (n + 1) 24 L st M = am_j (rx_X6_many n) ((tI2 (fun a b => a + b)) 24 L st M) := rfl
theorem rs_X6_many_25 (n : Nat) (L : AL) (st : List AV) (M : List AC) : rx_X6_many (n + 1) 25 L st M = am_j (rx_X6_many n) ((tIst 1 1) 25 L st M) := rfl
theorem rs_X6_many_26 (n : Nat) (L : AL) (st : List AV) (M : List AC) : rx_X6_many (n + 1) 26 L st M = am_j (rx_X6_many n) ((tIinc 2 1) 26 L st M) := rfl
theorem rs_X6_many_29 (n : Nat) (L : AL) (st : List AV) (M : List AC) : rx_X6_many (n + 1) 29 L st M = am_j (rx_X6_many n) ((tGo 4) 29 L st M) := rfl
theorem rs_X6_many_32 (n : Nat) (L : AL) (st : List AV) (M : List AC) : rx_X6_many (n + 1) 32 L st M = am_j (rx_X6_many n) ((tIld 1 1) 32 L st M) := rfl
theorem rs_X6_many_33 (n : Nat) (L : AL) (st : List AV) (M : List AC) : rx_X6_many (n + 1) 33 L st M = am_e rI st M := rfl
theorem ri_X6_many (c : Prop) [Decidable c] (p q n : Nat) (L : AL) (st : List AV) (M : List AC) : rx_X6_many n (if c then p else q) L st M = if c then rx_X6_many n p L st M else rx_X6_many n q L st M := by split <;> rfl
theorem rm_X6_many {n k pc : Nat} {L : AL} {st : List AV} {M : List AC} {x : Option AV × List AC} (h : rx_X6_many n pc L st M = some x) (hk : n ≤ k) : rx_X6_many k pc L st M = some x := am_r_mono n k h hk
def fn_X6_many : Fn := am_fn rx_X6_many 3
theorem fok_X6_many : Fok mi_X6_many fn_X6_many := fun _ _ _ _ h => am_fok ok_X6_many rk_X6_many rfl h
theorem sp_X6_many {M : List AC} {st lk len ac nx rf lr en lm : Int} {sd : Int64} (h0 : M[26]? = some (mo st lk len ac nx rf lr en lm sd)) {d b s : F4} (h28 : M[28]? = some (aI (nw d b s))) (hr : i4 0 6 d) : fn_X6_many [vR 26] M = some (some (vI (onc d)), M) := by
  obtain ⟨wd0, wd1, wd2, wd3⟩ := i4_wr hr (by decide) (by decide)
  unfold onc on1
  (refine am_fnI (tb := tb_X6_many) (n := 150) (Nat.le_of_ble_eq_true rfl) (Nat.le_of_ble_eq_true rfl) ?_; show rx_X6_many 150 0 _ _ _ = _)
  rcases ps d.1 with ⟨a0, b0⟩ | ⟨a0, b0⟩ <;> rcases ps d.2.1 with ⟨a1, b1⟩ | ⟨a1, b1⟩ <;> rcases ps d.2.2.1 with ⟨a2, b2⟩ | ⟨a2, b2⟩ <;> rcases ps d.2.2.2 with ⟨a3, b3⟩ | ⟨a3, b3⟩ <;>
  simp [↓ri_X6_many, rs_X6_many_0, rs_X6_many_1, rs_X6_many_2, rs_X6_many_3, rs_X6_many_4, rs_X6_many_5, rs_X6_many_6, rs_X6_many_9, rs_X6_many_10, rs_X6_many_11, rs_X6_many_14, rs_X6_many_15, rs_X6_many_16, rs_X6_many_19, rs_X6_many_20, rs_X6_many_23, rs_X6_many_24, rs_X6_many_25, rs_X6_many_26, rs_X6_many_29, rs_X6_many_32, rs_X6_many_33, -List.getElem?_eq_getElem, am_js, am_e, am_in, am_sl, rI, rZ, rV, rJ, rA, rC, kI, kJ, kR, am_one, am_nl, am_w8, tIc, tLc, tNul, tIld, tLld, tAld, tIst, tLst, tAst, tIinc, tI2, tDv, tL2, tLrem, tLs, tLcmp, tI2l, tL2i, tI2c, tDup, tDup2, tPop, tGo, tIfeq, tIfne, tIflt, tIfge, tIfgt, tIfle, tCmeq, tCmne, tCmlt, tCmge, tCmgt, tCmle, tNu, tTs, tGf, tPf, tGs, tIal, tIas, tBal, tBas, tAln, tSv, tSc, tSb, tSl, tSk, tCv, tCs, tCt, tMx, tMn, wr_10000, wr_100000, wr_1000000, wr_10000000, wr_100000000, wr_2400, wr_9999, wr_0, wr_1, wr_2, wr_3, wr_4, wr_5, wr_6, wr_7, wr_8, wr_9, wr_10, wr_11, wr_12, wr_13, wr_14, wr_15, wr_16, wr_17, wr_18, wr_19, wr_20, wr_21, wr_22, wr_23, wr_24, wr_25, wr_26, wr_27, wr_28, wr_29, wr_30, wr_31, wr_32, wr_33, wr_34, wr_35, wr_36, wr_37, wr_38, wr_39, wr_40, wr_41, wr_42, wr_43, wr_44, wr_45, wr_46, wr_47, wr_48, wr_49, wr_50, wr_51, wr_52, wr_53, wr_54, wr_55, wr_56, wr_57, wr_58, wr_59, wr_60, wr_61, wr_62, wr_63, wr_99, wr_100, wr_192, wr_255, wr_256, wr_343, wr_999, wr_1000, wr_2401, wr_2147483647, wr_65535, wr_m1, wr_m2, wr_m3, wr_m4, wr_m9, ak_1000, ak_1001, ak_1002, ak_0, ak_1, ak_2, ak_3, ak_4, ak_5, ak_6, ak_7, ak_8, ak_9, ak_10, ak_11, ak_12, ak_13, ak_14, ak_15, ak_16, ak_17, ak_18, ak_19, ak_20, ak_21, ak_22, ak_23, ak_24, ak_25, ak_26, ak_27, ak_28, ak_29, ak_30, ak_31, ak_32, ak_33, ak_34, ak_35, ak_36, ak_37, ak_38, ak_39, ak_40, ak_41, ak_42, ak_43, ak_44, ak_45, ak_46, ak_47, h0, mo, h28, wd0, wd1, wd2, wd3, a0, a1, a2, a3, b0, b1, b2, b3]
abbrev mi_X6_tenTo : Mi := (yX6_tenTo, cX6_tenTo, 3, some .int, 1)
theorem mf_X6_tenTo : am_mf mi_X6_tenTo 1 := ⟨w_co_X6_tenTo, w_in_X6, ⟨by decide +kernel, by decide +kernel⟩, by decide +kernel, by decide⟩
def tb_X6_tenTo : List (Nat × Tr) := [(0, tIc 1 1), (1, tIst 1 1), (2, tIc 0 1), (3, tIst 2 1), (4, tIld 2 1), (5, tIld 0 1), (6, tCmge 20), (9, tIld 1 1), (10, tIc 10 2), (12, tI2 (fun a b => a * b)), (13, tIst 1 1), (14, tIinc 2 1), (17, tGo 4), (20, tIld 1 1)]
theorem ok_X6_tenTo : Tok mi_X6_tenTo tb_X6_tenTo :=
  Tc (sd_iconst rfl dX6_tenTo_0) <|
  Tc (sd_istore_n dX6_tenTo_1) <|
  Tc (sd_iconst rfl dX6_tenTo_2) <|
  Tc (sd_istore_n dX6_tenTo_3) <|
  Tc (sd_iload_n dX6_tenTo_4) <|
  Tc (sd_iload_n dX6_tenTo_5) <|
  Tc (sd_cm_ge (by decide) dX6_tenTo_6) <|
  Tc (sd_iload_n dX6_tenTo_9) <|
  Tc (sd_bipush (by decide +kernel) dX6_tenTo_10) <|
  Tc (sd_imul dX6_tenTo_12) <|
  Tc (sd_istore_n dX6_tenTo_13) <|
  Tc (sd_iinc dX6_tenTo_14) <|
  Tc (sd_goto (by decide) dX6_tenTo_17) <|
  Tc (sd_iload_n dX6_tenTo_20) <|
  Tn
theorem rk_X6_tenTo : Rok mi_X6_tenTo rI [21] := rk_i dX6_tenTo_21 <| rk_n
def rx_X6_tenTo : Nat → Nat → AL → List AV → List AC → Option (Option AV × List AC) := am_r tb_X6_tenTo rI [21]
theorem rs_X6_tenTo_0 (n : Nat) (L : AL) (st : List AV) (M : List AC) : rx_X6_tenTo (n + 1) 0 L st M = am_j (rx_X6_tenTo n) ((tIc 1 1) 0 L st M) := rfl
theorem rs_X6_tenTo_1 (n : Nat) (L : AL) (st : List AV) (M : List AC) : rx_X6_tenTo (n + 1) 1 L st M = am_j (rx_X6_tenTo n) ((tIst 1 1) 1 L st M) := rfl
theorem rs_X6_tenTo_2 (n : Nat) (L : AL) (st : List AV) (M : List AC) : rx_X6_tenTo (n + 1) 2 L st M = am_j (rx_X6_tenTo n) ((tIc 0 1) 2 L st M) := rfl
theorem rs_X6_tenTo_3 (n : Nat) (L : AL) (st : List AV) (M : List AC) : rx_X6_tenTo (n + 1) 3 L st M = am_j (rx_X6_tenTo n) ((tIst 2 1) 3 L st M) := rfl
theorem rs_X6_tenTo_4 (n : Nat) (L : AL) (st : List AV) (M : List AC) : rx_X6_tenTo (n + 1) 4 L st M = am_j (rx_X6_tenTo n) ((tIld 2 1) 4 L st M) := rfl
theorem rs_X6_tenTo_5 (n : Nat) (L : AL) (st : List AV) (M : List AC) : rx_X6_tenTo (n + 1) 5 L st M = am_j (rx_X6_tenTo n) ((tIld 0 1) 5 L st M) := rfl
theorem rs_X6_tenTo_6 (n : Nat) (L : AL) (st : List AV) (M : List AC) : rx_X6_tenTo (n + 1) 6 L st M = am_j (rx_X6_tenTo n) ((tCmge 20) 6 L st M) := rfl
theorem rs_X6_tenTo_9 (n : Nat) (L : AL) (st : List AV) (M : List AC) : rx_X6_tenTo (n + 1) 9 L st M = am_j (rx_X6_tenTo n) ((tIld 1 1) 9 L st M) := rfl
theorem rs_X6_tenTo_10 (n : Nat) (L : AL) (st : List AV) (M : List AC) : rx_X6_tenTo (n + 1) 10 L st M = am_j (rx_X6_tenTo n) ((tIc 10 2) 10 L st M) := rfl
theorem rs_X6_tenTo_12 (n : Nat) (L : AL) (st : List AV) (M : List AC) : rx_X6_tenTo (n + 1) 12 L st M = am_j (rx_X6_tenTo n) ((tI2 (fun a b => a * b)) 12 L st M) := rfl
theorem rs_X6_tenTo_13 (n : Nat) (L : AL) (st : List AV) (M : List AC) : rx_X6_tenTo (n + 1) 13 L st M = am_j (rx_X6_tenTo n) ((tIst 1 1) 13 L st M) := rfl
theorem rs_X6_tenTo_14 (n : Nat) (L : AL) (st : List AV) (M : List AC) : rx_X6_tenTo (n + 1) 14 L st M = am_j (rx_X6_tenTo n) ((tIinc 2 1) 14 L st M) := rfl
theorem rs_X6_tenTo_17 (n : Nat) (L : AL) (st : List AV) (M : List AC) : rx_X6_tenTo (n + 1) 17 L st M = am_j (rx_X6_tenTo n) ((tGo 4) 17 L st M) := rfl
theorem rs_X6_tenTo_20 (n : Nat) (L : AL) (st : List AV) (M : List AC) : rx_X6_tenTo (n + 1) 20 L st M = am_j (rx_X6_tenTo n) ((tIld 1 1) 20 L st M) := rfl
theorem rs_X6_tenTo_21 (n : Nat) (L : AL) (st : List AV) (M : List AC) : rx_X6_tenTo (n + 1) 21 L st M = am_e rI st M := rfl
theorem ri_X6_tenTo (c : Prop) [Decidable c] (p q n : Nat) (L : AL) (st : List AV) (M : List AC) : rx_X6_tenTo n (if c then p else q) L st M = if c then rx_X6_tenTo n p L st M else rx_X6_tenTo n q L st M := by split <;> rfl
theorem rm_X6_tenTo {n k pc : Nat} {L : AL} {st : List AV} {M : List AC} {x : Option AV × List AC} (h : rx_X6_tenTo n pc L st M = some x) (hk : n ≤ k) : rx_X6_tenTo k pc L st M = some x := am_r_mono n k h hk
def fn_X6_tenTo : Fn := am_fn rx_X6_tenTo 3
theorem fok_X6_tenTo : Fok mi_X6_tenTo fn_X6_tenTo := fun _ _ _ _ h => am_fok ok_X6_tenTo rk_X6_tenTo rfl h
theorem sp_X6_tenTo (M : List AC) : fn_X6_tenTo [vI 0] M = some (some (vI 1), M) ∧ fn_X6_tenTo [vI 1] M = some (some (vI 10), M) ∧ fn_X6_tenTo [vI 2] M = some (some (vI 100), M) ∧ fn_X6_tenTo [vI 3] M = some (some (vI 1000), M) ∧ fn_X6_tenTo [vI 4] M = some (some (vI 10000), M) ∧ fn_X6_tenTo [vI 5] M = some (some (vI 100000), M) ∧ fn_X6_tenTo [vI 6] M = some (some (vI 1000000), M) ∧ fn_X6_tenTo [vI 7] M = some (some (vI 10000000), M) ∧ fn_X6_tenTo [vI 8] M = some (some (vI 100000000), M) := by
  refine ⟨?_, ?_, ?_, ?_, ?_, ?_, ?_, ?_, ?_⟩ <;>
  ((refine am_fnI (tb := tb_X6_tenTo) (n := 150) (Nat.le_of_ble_eq_true rfl) (Nat.le_of_ble_eq_true rfl) ?_; show rx_X6_tenTo 150 0 _ _ _ = _)
   simp [↓ri_X6_tenTo, rs_X6_tenTo_0, rs_X6_tenTo_1, rs_X6_tenTo_2, rs_X6_tenTo_3, rs_X6_tenTo_4, rs_X6_tenTo_5, rs_X6_tenTo_6, rs_X6_tenTo_9, rs_X6_tenTo_10, rs_X6_tenTo_12, rs_X6_tenTo_13, rs_X6_tenTo_14, rs_X6_tenTo_17, rs_X6_tenTo_20, rs_X6_tenTo_21, -List.getElem?_eq_getElem, am_js, am_e, am_in, am_sl, rI, rZ, rV, rJ, rA, rC, kI, kJ, kR, am_one, am_nl, am_w8, tIc, tLc, tNul, tIld, tLld, tAld, tIst, tLst, tAst, tIinc, tI2, tDv, tL2, tLrem, tLs, tLcmp, tI2l, tL2i, tI2c, tDup, tDup2, tPop, tGo, tIfeq, tIfne, tIflt, tIfge, tIfgt, tIfle, tCmeq, tCmne, tCmlt, tCmge, tCmgt, tCmle, tNu, tTs, tGf, tPf, tGs, tIal, tIas, tBal, tBas, tAln, tSv, tSc, tSb, tSl, tSk, tCv, tCs, tCt, tMx, tMn, wr_10000, wr_100000, wr_1000000, wr_10000000, wr_100000000, wr_2400, wr_9999, wr_0, wr_1, wr_2, wr_3, wr_4, wr_5, wr_6, wr_7, wr_8, wr_9, wr_10, wr_11, wr_12, wr_13, wr_14, wr_15, wr_16, wr_17, wr_18, wr_19, wr_20, wr_21, wr_22, wr_23, wr_24, wr_25, wr_26, wr_27, wr_28, wr_29, wr_30, wr_31, wr_32, wr_33, wr_34, wr_35, wr_36, wr_37, wr_38, wr_39, wr_40, wr_41, wr_42, wr_43, wr_44, wr_45, wr_46, wr_47, wr_48, wr_49, wr_50, wr_51, wr_52, wr_53, wr_54, wr_55, wr_56, wr_57, wr_58, wr_59, wr_60, wr_61, wr_62, wr_63, wr_99, wr_100, wr_192, wr_255, wr_256, wr_343, wr_999, wr_1000, wr_2401, wr_2147483647, wr_65535, wr_m1, wr_m2, wr_m3, wr_m4, wr_m9, ak_1000, ak_1001, ak_1002, ak_0, ak_1, ak_2, ak_3, ak_4, ak_5, ak_6, ak_7, ak_8, ak_9, ak_10, ak_11, ak_12, ak_13, ak_14, ak_15, ak_16, ak_17, ak_18, ak_19, ak_20, ak_21, ak_22, ak_23, ak_24, ak_25, ak_26, ak_27, ak_28, ak_29, ak_30, ak_31, ak_32, ak_33, ak_34, ak_35, ak_36, ak_37, ak_38, ak_39, ak_40, ak_41, ak_42, ak_43, ak_44, ak_45, ak_46, ak_47])
abbrev mi_X6_isRow : Mi := (yX6_isRow, cX6_isRow, 4, some .boolean, 2)
theorem mf_X6_isRow : am_mf mi_X6_isRow 2 := ⟨w_co_X6_isRow, w_in_X6, ⟨by decide +kernel, by decide +kernel⟩, by decide +kernel, by decide⟩
def tb_X6_isRow : List (Nat × Tr) := [(0, tIld 0 1), (1, tI2l), (2, tLc 0 1), (3, tLc 9999 3), (6, tCs 3 fn_X6_in), (9, tIst 2 1), (10, tIc 0 1), (11, tIst 3 1), (12, tIld 3 1), (13, tIc 4 1), (14, tCmge 56), (17, tIld 2 1), (18, tIfeq 48), (21, tIld 0 1), (22, tIc 3 1), (23, tIld 3 1), (24, tI2 (fun a b => a - b)), (25, tCs 1 fn_X6_tenTo), (28, tDv Int.tdiv), (29, tIc 10 2), (31, tDv Int.tmod), (32, tI2l), (33, tIld 1 1), (34, tI2l), (35, tLc 6 3), (38, tCs 3 fn_X6_in), (41, tIfeq 48), (44, tIc 1 1), (45, tGo 49), (48, tIc 0 1), (49, tIst 2 1), (50, tIinc 3 1), (53, tGo 12), (56, tIld 2 1)]
theorem ok_X6_isRow : Tok mi_X6_isRow tb_X6_isRow :=
  Tc (sd_iload_n dX6_isRow_0) <|
  Tc (sd_i2l dX6_isRow_1) <|
  Tc (sd_lconst rfl dX6_isRow_2) <|
  Tc (sd_ldc2 w_cl_X6_118 dX6_isRow_3) <|
  Tc (sd_cs fok_X6_in mf_X6_in w_ml_X6_65 w_st_X6_in (by decide) dX6_isRow_6) <|
  Tc (sd_istore_n dX6_isRow_9) <|
  Tc (sd_iconst rfl dX6_isRow_10) <|
  Tc (sd_istore_n dX6_isRow_11) <|
  Tc (sd_iload_n dX6_isRow_12) <|
  Tc (sd_iconst rfl dX6_isRow_13) <|
  Tc (sd_cm_ge (by decide) dX6_isRow_14) <|
  Tc (sd_iload_n dX6_isRow_17) <|
  Tc (sd_if_eq (by decide) dX6_isRow_18) <|
  Tc (sd_iload_n dX6_isRow_21) <|
  Tc (sd_iconst rfl dX6_isRow_22) <|
  Tc (sd_iload_n dX6_isRow_23) <|
  Tc (sd_isub dX6_isRow_24) <|
  Tc (sd_cs fok_X6_tenTo mf_X6_tenTo w_ml_X6_120 w_st_X6_tenTo (by decide) dX6_isRow_25) <|
  Tc (sd_idiv dX6_isRow_28) <|
  Tc (sd_bipush (by decide +kernel) dX6_isRow_29) <|
  Tc (sd_irem dX6_isRow_31) <|
  Tc (sd_i2l dX6_isRow_32) <|
  Tc (sd_iload_n dX6_isRow_33) <|
  Tc (sd_i2l dX6_isRow_34) <|
  Tc (sd_ldc2 w_cl_X6_123 dX6_isRow_35) <|
  Tc (sd_cs fok_X6_in mf_X6_in w_ml_X6_65 w_st_X6_in (by decide) dX6_isRow_38) <|
  Tc (sd_if_eq (by decide) dX6_isRow_41) <|
  Tc (sd_iconst rfl dX6_isRow_44) <|
  Tc (sd_goto (by decide) dX6_isRow_45) <|
  Tc (sd_iconst rfl dX6_isRow_48) <|
  Tc (sd_istore_n dX6_isRow_49) <|
  Tc (sd_iinc dX6_isRow_50) <|
  Tc (sd_goto (by decide) dX6_isRow_53) <|
  Tc (sd_iload_n dX6_isRow_56) <|
  Tn
theorem rk_X6_isRow : Rok mi_X6_isRow rZ [57] := rk_z dX6_isRow_57 <| rk_n
def rx_X6_isRow : Nat → Nat → AL → List AV → List AC → Option (Option AV × List AC) := am_r tb_X6_isRow rZ [57]
theorem rs_X6_isRow_0 (n : Nat) (L : AL) (st : List AV) (M : List AC) : rx_X6_isRow (n + 1) 0 L st M = am_j (rx_X6_isRow n) ((tIld 0 1) 0 L st M) := rfl
theorem rs_X6_isRow_1 (n : Nat) (L : AL) (st : List AV) (M : List AC) : rx_X6_isRow (n + 1) 1 L st M = am_j (rx_X6_isRow n) (tI2l 1 L st M) := rfl
theorem rs_X6_isRow_2 (n : Nat) (L : AL) (st : List AV) (M : List AC) : rx_X6_isRow (n + 1) 2 L st M = am_j (rx_X6_isRow n) ((tLc 0 1) 2 L st M) := rfl
theorem rs_X6_isRow_3 (n : Nat) (L : AL) (st : List AV) (M : List AC) : rx_X6_isRow (n + 1) 3 L st M = am_j (rx_X6_isRow n) ((tLc 9999 3) 3 L st M) := rfl
theorem rs_X6_isRow_6 (n : Nat) (L : AL) (st : List AV) (M : List AC) : rx_X6_isRow (n + 1) 6 L st M = am_j (rx_X6_isRow n) ((tCs 3 fn_X6_in) 6 L st M) := rfl
theorem rs_X6_isRow_9 (n : Nat) (L : AL) (st : List AV) (M : List AC) : rx_X6_isRow (n + 1) 9 L st M = am_j (rx_X6_isRow n) ((tIst 2 1) 9 L st M) := rfl
theorem rs_X6_isRow_10 (n : Nat) (L : AL) (st : List AV) (M : List AC) : rx_X6_isRow (n + 1) 10 L st M = am_j (rx_X6_isRow n) ((tIc 0 1) 10 L st M) := rfl
theorem rs_X6_isRow_11 (n : Nat) (L : AL) (st : List AV) (M : List AC) : rx_X6_isRow (n + 1) 11 L st M = am_j (rx_X6_isRow n) ((tIst 3 1) 11 L st M) := rfl
theorem rs_X6_isRow_12 (n : Nat) (L : AL) (st : List AV) (M : List AC) : rx_X6_isRow (n + 1) 12 L st M = am_j (rx_X6_isRow n) ((tIld 3 1) 12 L st M) := rfl
theorem rs_X6_isRow_13 (n : Nat) (L : AL) (st : List AV) (M : List AC) : rx_X6_isRow (n + 1) 13 L st M = am_j (rx_X6_isRow n) ((tIc 4 1) 13 L st M) := rfl
theorem rs_X6_isRow_14 (n : Nat) (L : AL) (st : List AV) (M : List AC) : rx_X6_isRow (n + 1) 14 L st M = am_j (rx_X6_isRow n) ((tCmge 56) 14 L st M) := rfl
theorem rs_X6_isRow_17 (n : Nat) (L : AL) (st : List AV) (M : List AC) : rx_X6_isRow (n + 1) 17 L st M = am_j (rx_X6_isRow n) ((tIld 2 1) 17 L st M) := rfl
theorem rs_X6_isRow_18 (n : Nat) (L : AL) (st : List AV) (M : List AC) : rx_X6_isRow (n + 1) 18 L st M = am_j (rx_X6_isRow n) ((tIfeq 48) 18 L st M) := rfl
theorem rs_X6_isRow_21 (n : Nat) (L : AL) (st : List AV) (M : List AC) : rx_X6_isRow (n + 1) 21 L st M = am_j (rx_X6_isRow n) ((tIld 0 1) 21 L st M) := rfl
theorem rs_X6_isRow_22 (n : Nat) (L : AL) (st : List AV) (M : List AC) : rx_X6_isRow (n + 1) 22 L st M = am_j (rx_X6_isRow n) ((tIc 3 1) 22 L st M) := rfl
theorem rs_X6_isRow_23 (n : Nat) (L : AL) (st : List AV) (M : List AC) : rx_X6_isRow (n + 1) 23 L st M = am_j (rx_X6_isRow n) ((tIld 3 1) 23 L st M) := rfl
theorem rs_X6_isRow_24 (n : Nat) (L : AL) (st : List AV) (M : List AC) : rx_X6_isRow (n + 1) 24 L st M = am_j (rx_X6_isRow n) ((tI2 (fun a b => a - b)) 24 L st M) := rfl
theorem rs_X6_isRow_25 (n : Nat) (L : AL) (st : List AV) (M : List AC) : rx_X6_isRow (n + 1) 25 L st M = am_j (rx_X6_isRow n) ((tCs 1 fn_X6_tenTo) 25 L st M) := rfl
theorem rs_X6_isRow_28 (n : Nat) (L : AL) (st : List AV) (M : List AC) : rx_X6_isRow (n + 1) 28 L st M = am_j (rx_X6_isRow n) ((tDv Int.tdiv) 28 L st M) := rfl
theorem rs_X6_isRow_29 (n : Nat) (L : AL) (st : List AV) (M : List AC) : rx_X6_isRow (n + 1) 29 L st M = am_j (rx_X6_isRow n) ((tIc 10 2) 29 L st M) := rfl
theorem rs_X6_isRow_31 (n : Nat) (L : AL) (st : List AV) (M : List AC) : rx_X6_isRow (n + 1) 31 L st M = am_j (rx_X6_isRow n) ((tDv Int.tmod) 31 L st M) := rfl
theorem rs_X6_isRow_32 (n : Nat) (L : AL) (st : List AV) (M : List AC) : rx_X6_isRow (n + 1) 32 L st M = am_j (rx_X6_isRow n) (tI2l 32 L st M) := rfl
theorem rs_X6_isRow_33 (n : Nat) (L : AL) (st : List AV) (M : List AC) : rx_X6_isRow (n + 1) 33 L st M = am_j (rx_X6_isRow n) ((tIld 1 1) 33 L st M) := rfl
theorem rs_X6_isRow_34 (n : Nat) (L : AL) (st : List AV) (M : List AC) : rx_X6_isRow (n + 1) 34 L st M = am_j (rx_X6_isRow n) (tI2l 34 L st M) := rfl
theorem rs_X6_isRow_35 (n : Nat) (L : AL) (st : List AV) (M : List AC) : rx_X6_isRow (n + 1) 35 L st M = am_j (rx_X6_isRow n) ((tLc 6 3) 35 L st M) := rfl
theorem rs_X6_isRow_38 (n : Nat) (L : AL) (st : List AV) (M : List AC) : rx_X6_isRow (n + 1) 38 L st M = am_j (rx_X6_isRow n) ((tCs 3 fn_X6_in) 38 L st M) := rfl
theorem rs_X6_isRow_41 (n : Nat) (L : AL) (st : List AV) (M : List AC) : rx_X6_isRow (n + 1) 41 L st M = am_j (rx_X6_isRow n) ((tIfeq 48) 41 L st M) := rfl
theorem rs_X6_isRow_44 (n : Nat) (L : AL) (st : List AV) (M : List AC) : rx_X6_isRow (n + 1) 44 L st M = am_j (rx_X6_isRow n) ((tIc 1 1) 44 L st M) := rfl
theorem rs_X6_isRow_45 (n : Nat) (L : AL) (st : List AV) (M : List AC) : rx_X6_isRow (n + 1) 45 L st M = am_j (rx_X6_isRow n) ((tGo 49) 45 L st M) := rfl
theorem rs_X6_isRow_48 (n : Nat) (L : AL) (st : List AV) (M : List AC) : rx_X6_isRow (n + 1) 48 L st M = am_j (rx_X6_isRow n) ((tIc 0 1) 48 L st M) := rfl
theorem rs_X6_isRow_49 (n : Nat) (L : AL) (st : List AV) (M : List AC) : rx_X6_isRow (n + 1) 49 L st M = am_j (rx_X6_isRow n) ((tIst 2 1) 49 L st M) := rfl
theorem rs_X6_isRow_50 (n : Nat) (L : AL) (st : List AV) (M : List AC) : rx_X6_isRow (n + 1) 50 L st M = am_j (rx_X6_isRow n) ((tIinc 3 1) 50 L st M) := rfl
theorem rs_X6_isRow_53 (n : Nat) (L : AL) (st : List AV) (M : List AC) : rx_X6_isRow (n + 1) 53 L st M = am_j (rx_X6_isRow n) ((tGo 12) 53 L st M) := rfl
theorem rs_X6_isRow_56 (n : Nat) (L : AL) (st : List AV) (M : List AC) : rx_X6_isRow (n + 1) 56 L st M = am_j (rx_X6_isRow n) ((tIld 2 1) 56 L st M) := rfl
theorem rs_X6_isRow_57 (n : Nat) (L : AL) (st : List AV) (M : List AC) : rx_X6_isRow (n + 1) 57 L st M = am_e rZ st M := rfl
theorem ri_X6_isRow (c : Prop) [Decidable c] (p q n : Nat) (L : AL) (st : List AV) (M : List AC) : rx_X6_isRow n (if c then p else q) L st M = if c then rx_X6_isRow n p L st M else rx_X6_isRow n q L st M := by split <;> rfl
theorem rm_X6_isRow {n k pc : Nat} {L : AL} {st : List AV} {M : List AC} {x : Option AV × List AC} (h : rx_X6_isRow n pc L st M = some x) (hk : n ≤ k) : rx_X6_isRow k pc L st M = some x := am_r_mono n k h hk
def fn_X6_isRow : Fn := am_fn rx_X6_isRow 4
theorem fok_X6_isRow : Fok mi_X6_isRow fn_X6_isRow := fun _ _ _ _ h => am_fok ok_X6_isRow rk_X6_isRow rfl h
theorem sp_X6_isRow (x t : Int) (M : List AC) (hx : -2147483648 ≤ x ∧ x < 2147483648) (ht : t = 0 ∨ t = 1) : fn_X6_isRow [vI x, vI t] M = some (some (vI (if 0 ≤ x ∧ x < 10000 ∧ i4 t 6 (uf x) then 1 else 0)), M) := by
  have ex : wr x = x := wr_id (by omega) (by omega)
  have et : wr t = t := wr_id (by omega) (by omega)
  obtain ⟨p0, p1, p2, p3, -⟩ := sp_X6_tenTo M
  by_cases h0 : 0 ≤ x ∧ x ≤ 9999
  · have d0 : 0 ≤ x / 1000 % 10 ∧ x / 1000 % 10 < 10 := by omega
    have d1 : 0 ≤ x / 100 % 10 ∧ x / 100 % 10 < 10 := by omega
    have d2 : 0 ≤ x / 10 % 10 ∧ x / 10 % 10 < 10 := by omega
    have d3 : 0 ≤ x % 10 ∧ x % 10 < 10 := by omega
    have e0 : x.tdiv 1000 = x / 1000 := Int.tdiv_eq_ediv_of_nonneg h0.1
    have e1 : x.tdiv 100 = x / 100 := Int.tdiv_eq_ediv_of_nonneg h0.1
    have e2 : x.tdiv 10 = x / 10 := Int.tdiv_eq_ediv_of_nonneg h0.1
    have w0 : wr (x / 1000) = x / 1000 := wr_id (by omega) (by omega)
    have w1 : wr (x / 100) = x / 100 := wr_id (by omega) (by omega)
    have w2 : wr (x / 10) = x / 10 := wr_id (by omega) (by omega)
    have f0 : (x / 1000).tmod 10 = x / 1000 % 10 := Int.tmod_eq_emod_of_nonneg (by omega)
    have f1 : (x / 100).tmod 10 = x / 100 % 10 := Int.tmod_eq_emod_of_nonneg (by omega)
    have f2 : (x / 10).tmod 10 = x / 10 % 10 := Int.tmod_eq_emod_of_nonneg (by omega)
    have f3 : x.tmod 10 = x % 10 := Int.tmod_eq_emod_of_nonneg h0.1
    have hx1 : x < 10000 := by omega
    unfold i4 uf
    dsimp only
    generalize x / 1000 % 10 = a0 at d0 f0 ⊢
    generalize x / 100 % 10 = a1 at d1 f1 ⊢
    generalize x / 10 % 10 = a2 at d2 f2 ⊢
    generalize x % 10 = a3 at d3 f3 ⊢
    have v0 : wr a0 = a0 := wr_id (by omega) (by omega)
    have v1 : wr a1 = a1 := wr_id (by omega) (by omega)
    have v2 : wr a2 = a2 := wr_id (by omega) (by omega)
    have v3 : wr a3 = a3 := wr_id (by omega) (by omega)
    by_cases k0 : t ≤ a0 ∧ a0 ≤ 6 <;> by_cases k1 : t ≤ a1 ∧ a1 ≤ 6 <;> by_cases k2 : t ≤ a2 ∧ a2 ≤ 6 <;> by_cases k3 : t ≤ a3 ∧ a3 ≤ 6 <;>
    ((refine am_fnI (tb := tb_X6_isRow) (n := 250) (Nat.le_of_ble_eq_true rfl) (Nat.le_of_ble_eq_true rfl) ?_; show rx_X6_isRow 250 0 _ _ _ = _)
     simp [↓ri_X6_isRow, rs_X6_isRow_0, rs_X6_isRow_1, rs_X6_isRow_2, rs_X6_isRow_3, rs_X6_isRow_6, rs_X6_isRow_9, rs_X6_isRow_10, rs_X6_isRow_11, rs_X6_isRow_12, rs_X6_isRow_13, rs_X6_isRow_14, rs_X6_isRow_17, rs_X6_isRow_18, rs_X6_isRow_21, rs_X6_isRow_22, rs_X6_isRow_23, rs_X6_isRow_24, rs_X6_isRow_25, rs_X6_isRow_28, rs_X6_isRow_29, rs_X6_isRow_31, rs_X6_isRow_32, rs_X6_isRow_33, rs_X6_isRow_34, rs_X6_isRow_35, rs_X6_isRow_38, rs_X6_isRow_41, rs_X6_isRow_44, rs_X6_isRow_45, rs_X6_isRow_48, rs_X6_isRow_49, rs_X6_isRow_50, rs_X6_isRow_53, rs_X6_isRow_56, rs_X6_isRow_57, -List.getElem?_eq_getElem, am_js, am_e, am_in, am_sl, rI, rZ, rV, rJ, rA, rC, kI, kJ, kR, am_one, am_nl, am_w8, tIc, tLc, tNul, tIld, tLld, tAld, tIst, tLst, tAst, tIinc, tI2, tDv, tL2, tLrem, tLs, tLcmp, tI2l, tL2i, tI2c, tDup, tDup2, tPop, tGo, tIfeq, tIfne, tIflt, tIfge, tIfgt, tIfle, tCmeq, tCmne, tCmlt, tCmge, tCmgt, tCmle, tNu, tTs, tGf, tPf, tGs, tIal, tIas, tBal, tBas, tAln, tSv, tSc, tSb, tSl, tSk, tCv, tCs, tCt, tMx, tMn, wr_10000, wr_100000, wr_1000000, wr_10000000, wr_100000000, wr_2400, wr_9999, wr_0, wr_1, wr_2, wr_3, wr_4, wr_5, wr_6, wr_7, wr_8, wr_9, wr_10, wr_11, wr_12, wr_13, wr_14, wr_15, wr_16, wr_17, wr_18, wr_19, wr_20, wr_21, wr_22, wr_23, wr_24, wr_25, wr_26, wr_27, wr_28, wr_29, wr_30, wr_31, wr_32, wr_33, wr_34, wr_35, wr_36, wr_37, wr_38, wr_39, wr_40, wr_41, wr_42, wr_43, wr_44, wr_45, wr_46, wr_47, wr_48, wr_49, wr_50, wr_51, wr_52, wr_53, wr_54, wr_55, wr_56, wr_57, wr_58, wr_59, wr_60, wr_61, wr_62, wr_63, wr_99, wr_100, wr_192, wr_255, wr_256, wr_343, wr_999, wr_1000, wr_2401, wr_2147483647, wr_65535, wr_m1, wr_m2, wr_m3, wr_m4, wr_m9, ak_1000, ak_1001, ak_1002, ak_0, ak_1, ak_2, ak_3, ak_4, ak_5, ak_6, ak_7, ak_8, ak_9, ak_10, ak_11, ak_12, ak_13, ak_14, ak_15, ak_16, ak_17, ak_18, ak_19, ak_20, ak_21, ak_22, ak_23, ak_24, ak_25, ak_26, ak_27, ak_28, ak_29, ak_30, ak_31, ak_32, ak_33, ak_34, ak_35, ak_36, ak_37, ak_38, ak_39, ak_40, ak_41, ak_42, ak_43, ak_44, ak_45, ak_46, ak_47, sp_X6_in, -Int32.toInt_ofInt, -not_and, wr_eq, jt_0, jt_1, jt_2, jt_3, jt_4, jt_5, jt_6, jt_8, jt_12, jt_30, jt_48, jt_49, jt_51, jt_57, jt_255, jt_9999, ex, et, h0, hx1, p0, p1, p2, p3, e0, e1, e2, w0, w1, w2, f0, f1, f2, f3, v0, v1, v2, v3, k0, k1, k2, k3])
  · have h1 : ¬ (0 ≤ x ∧ x < 10000 ∧ i4 t 6 (uf x)) := by omega
    rw [if_neg h1]
    (refine am_fnI (tb := tb_X6_isRow) (n := 250) (Nat.le_of_ble_eq_true rfl) (Nat.le_of_ble_eq_true rfl) ?_; show rx_X6_isRow 250 0 _ _ _ = _)
    simp [↓ri_X6_isRow, rs_X6_isRow_0, rs_X6_isRow_1, rs_X6_isRow_2, rs_X6_isRow_3, rs_X6_isRow_6, rs_X6_isRow_9, rs_X6_isRow_10, rs_X6_isRow_11, rs_X6_isRow_12, rs_X6_isRow_13, rs_X6_isRow_14, rs_X6_isRow_17, rs_X6_isRow_18, rs_X6_isRow_21, rs_X6_isRow_22, rs_X6_isRow_23, rs_X6_isRow_24, rs_X6_isRow_25, rs_X6_isRow_28, rs_X6_isRow_29, rs_X6_isRow_31, rs_X6_isRow_32, rs_X6_isRow_33, rs_X6_isRow_34, rs_X6_isRow_35, rs_X6_isRow_38, rs_X6_isRow_41, rs_X6_isRow_44, rs_X6_isRow_45, rs_X6_isRow_48, rs_X6_isRow_49, rs_X6_isRow_50, rs_X6_isRow_53, rs_X6_isRow_56, rs_X6_isRow_57, -List.getElem?_eq_getElem, am_js, am_e, am_in, am_sl, rI, rZ, rV, rJ, rA, rC, kI, kJ, kR, am_one, am_nl, am_w8, tIc, tLc, tNul, tIld, tLld, tAld, tIst, tLst, tAst, tIinc, tI2, tDv, tL2, tLrem, tLs, tLcmp, tI2l, tL2i, tI2c, tDup, tDup2, tPop, tGo, tIfeq, tIfne, tIflt, tIfge, tIfgt, tIfle, tCmeq, tCmne, tCmlt, tCmge, tCmgt, tCmle, tNu, tTs, tGf, tPf, tGs, tIal, tIas, tBal, tBas, tAln, tSv, tSc, tSb, tSl, tSk, tCv, tCs, tCt, tMx, tMn, wr_10000, wr_100000, wr_1000000, wr_10000000, wr_100000000, wr_2400, wr_9999, wr_0, wr_1, wr_2, wr_3, wr_4, wr_5, wr_6, wr_7, wr_8, wr_9, wr_10, wr_11, wr_12, wr_13, wr_14, wr_15, wr_16, wr_17, wr_18, wr_19, wr_20, wr_21, wr_22, wr_23, wr_24, wr_25, wr_26, wr_27, wr_28, wr_29, wr_30, wr_31, wr_32, wr_33, wr_34, wr_35, wr_36, wr_37, wr_38, wr_39, wr_40, wr_41, wr_42, wr_43, wr_44, wr_45, wr_46, wr_47, wr_48, wr_49, wr_50, wr_51, wr_52, wr_53, wr_54, wr_55, wr_56, wr_57, wr_58, wr_59, wr_60, wr_61, wr_62, wr_63, wr_99, wr_100, wr_192, wr_255, wr_256, wr_343, wr_999, wr_1000, wr_2401, wr_2147483647, wr_65535, wr_m1, wr_m2, wr_m3, wr_m4, wr_m9, ak_1000, ak_1001, ak_1002, ak_0, ak_1, ak_2, ak_3, ak_4, ak_5, ak_6, ak_7, ak_8, ak_9, ak_10, ak_11, ak_12, ak_13, ak_14, ak_15, ak_16, ak_17, ak_18, ak_19, ak_20, ak_21, ak_22, ak_23, ak_24, ak_25, ak_26, ak_27, ak_28, ak_29, ak_30, ak_31, ak_32, ak_33, ak_34, ak_35, ak_36, ak_37, ak_38, ak_39, ak_40, ak_41, ak_42, ak_43, ak_44, ak_45, ak_46, ak_47, sp_X6_in, -Int32.toInt_ofInt, -not_and, wr_eq, jt_0, jt_1, jt_2, jt_3, jt_4, jt_5, jt_6, jt_8, jt_12, jt_30, jt_48, jt_49, jt_51, jt_57, jt_255, jt_9999, ex, et, h0]
abbrev mi_X6_layRow : Mi := (yX6_layRow, cX6_layRow, 3, none, 2)
theorem mf_X6_layRow : am_mf mi_X6_layRow 1 := ⟨w_co_X6_layRow, w_in_X6, ⟨by decide +kernel, by decide +kernel⟩, by decide +kernel, by decide⟩
def tb_X6_layRow : List (Nat × Tr) := [(0, tIc 0 1), (1, tIst 2 1), (2, tIld 2 1), (3, tIc 4 1), (4, tCmge 30), (7, tAld 0 1), (8, tGf 6 8), (11, tIld 2 1), (12, tIld 1 1), (13, tIc 3 1), (14, tIld 2 1), (15, tI2 (fun a b => a - b)), (16, tCs 1 fn_X6_tenTo), (19, tDv Int.tdiv), (20, tIc 10 2), (22, tDv Int.tmod), (23, tIas), (24, tIinc 2 1), (27, tGo 2)]
theorem ok_X6_layRow : Tok mi_X6_layRow tb_X6_layRow :=
  Tc (sd_iconst rfl dX6_layRow_0) <|
  Tc (sd_istore_n dX6_layRow_1) <|
  Tc (sd_iload_n dX6_layRow_2) <|
  Tc (sd_iconst rfl dX6_layRow_3) <|
  Tc (sd_cm_ge (by decide) dX6_layRow_4) <|
  Tc (sd_aload_n dX6_layRow_7) <|
  Tc (sd_getf (T := TX6) rfl giX6 (by decide) w_fl_X6_25 dX6_layRow_8) <|
  Tc (sd_iload_n dX6_layRow_11) <|
  Tc (sd_iload_n dX6_layRow_12) <|
  Tc (sd_iconst rfl dX6_layRow_13) <|
  Tc (sd_iload_n dX6_layRow_14) <|
  Tc (sd_isub dX6_layRow_15) <|
  Tc (sd_cs fok_X6_tenTo mf_X6_tenTo w_ml_X6_120 w_st_X6_tenTo (by decide) dX6_layRow_16) <|
  Tc (sd_idiv dX6_layRow_19) <|
  Tc (sd_bipush (by decide +kernel) dX6_layRow_20) <|
  Tc (sd_irem dX6_layRow_22) <|
  Tc (sd_ias dX6_layRow_23) <|
  Tc (sd_iinc dX6_layRow_24) <|
  Tc (sd_goto (by decide) dX6_layRow_27) <|
  Tn
theorem rk_X6_layRow : Rok mi_X6_layRow rV [30] := rk_v dX6_layRow_30 <| rk_n
def rx_X6_layRow : Nat → Nat → AL → List AV → List AC → Option (Option AV × List AC) := am_r tb_X6_layRow rV [30]
theorem rs_X6_layRow_0 (n : Nat) (L : AL) (st : List AV) (M : List AC) : rx_X6_layRow (n + 1) 0 L st M = am_j (rx_X6_layRow n) ((tIc 0 1) 0 L st M) := rfl
theorem rs_X6_layRow_1 (n : Nat) (L : AL) (st : List AV) (M : List AC) : rx_X6_layRow (n + 1) 1 L st M = am_j (rx_X6_layRow n) ((tIst 2 1) 1 L st M) := rfl
theorem rs_X6_layRow_2 (n : Nat) (L : AL) (st : List AV) (M : List AC) : rx_X6_layRow (n + 1) 2 L st M = am_j (rx_X6_layRow n) ((tIld 2 1) 2 L st M) := rfl
theorem rs_X6_layRow_3 (n : Nat) (L : AL) (st : List AV) (M : List AC) : rx_X6_layRow (n + 1) 3 L st M = am_j (rx_X6_layRow n) ((tIc 4 1) 3 L st M) := rfl
theorem rs_X6_layRow_4 (n : Nat) (L : AL) (st : List AV) (M : List AC) : rx_X6_layRow (n + 1) 4 L st M = am_j (rx_X6_layRow n) ((tCmge 30) 4 L st M) := rfl
theorem rs_X6_layRow_7 (n : Nat) (L : AL) (st : List AV) (M : List AC) : rx_X6_layRow (n + 1) 7 L st M = am_j (rx_X6_layRow n) ((tAld 0 1) 7 L st M) := rfl
theorem rs_X6_layRow_8 (n : Nat) (L : AL) (st : List AV) (M : List AC) : rx_X6_layRow (n + 1) 8 L st M = am_j (rx_X6_layRow n) ((tGf 6 8) 8 L st M) := rfl
theorem rs_X6_layRow_11 (n : Nat) (L : AL) (st : List AV) (M : List AC) : rx_X6_layRow (n + 1) 11 L st M = am_j (rx_X6_layRow n) ((tIld 2 1) 11 L st M) := rfl
theorem rs_X6_layRow_12 (n : Nat) (L : AL) (st : List AV) (M : List AC) : rx_X6_layRow (n + 1) 12 L st M = am_j (rx_X6_layRow n) ((tIld 1 1) 12 L st M) := rfl
theorem rs_X6_layRow_13 (n : Nat) (L : AL) (st : List AV) (M : List AC) : rx_X6_layRow (n + 1) 13 L st M = am_j (rx_X6_layRow n) ((tIc 3 1) 13 L st M) := rfl
theorem rs_X6_layRow_14 (n : Nat) (L : AL) (st : List AV) (M : List AC) : rx_X6_layRow (n + 1) 14 L st M = am_j (rx_X6_layRow n) ((tIld 2 1) 14 L st M) := rfl
theorem rs_X6_layRow_15 (n : Nat) (L : AL) (st : List AV) (M : List AC) : rx_X6_layRow (n + 1) 15 L st M = am_j (rx_X6_layRow n) ((tI2 (fun a b => a - b)) 15 L st M) := rfl
theorem rs_X6_layRow_16 (n : Nat) (L : AL) (st : List AV) (M : List AC) : rx_X6_layRow (n + 1) 16 L st M = am_j (rx_X6_layRow n) ((tCs 1 fn_X6_tenTo) 16 L st M) := rfl
theorem rs_X6_layRow_19 (n : Nat) (L : AL) (st : List AV) (M : List AC) : rx_X6_layRow (n + 1) 19 L st M = am_j (rx_X6_layRow n) ((tDv Int.tdiv) 19 L st M) := rfl
theorem rs_X6_layRow_20 (n : Nat) (L : AL) (st : List AV) (M : List AC) : rx_X6_layRow (n + 1) 20 L st M = am_j (rx_X6_layRow n) ((tIc 10 2) 20 L st M) := rfl
theorem rs_X6_layRow_22 (n : Nat) (L : AL) (st : List AV) (M : List AC) : rx_X6_layRow (n + 1) 22 L st M = am_j (rx_X6_layRow n) ((tDv Int.tmod) 22 L st M) := rfl
theorem rs_X6_layRow_23 (n : Nat) (L : AL) (st : List AV) (M : List AC) : rx_X6_layRow (n + 1) 23 L st M = am_j (rx_X6_layRow n) (tIas 23 L st M) := rfl
theorem rs_X6_layRow_24 (n : Nat) (L : AL) (st : List AV) (M : List AC) : rx_X6_layRow (n + 1) 24 L st M = am_j (rx_X6_layRow n) ((tIinc 2 1) 24 L st M) := rfl
theorem rs_X6_layRow_27 (n : Nat) (L : AL) (st : List AV) (M : List AC) : rx_X6_layRow (n + 1) 27 L st M = am_j (rx_X6_layRow n) ((tGo 2) 27 L st M) := rfl
theorem rs_X6_layRow_30 (n : Nat) (L : AL) (st : List AV) (M : List AC) : rx_X6_layRow (n + 1) 30 L st M = am_e rV st M := rfl
theorem ri_X6_layRow (c : Prop) [Decidable c] (p q n : Nat) (L : AL) (st : List AV) (M : List AC) : rx_X6_layRow n (if c then p else q) L st M = if c then rx_X6_layRow n p L st M else rx_X6_layRow n q L st M := by split <;> rfl
theorem rm_X6_layRow {n k pc : Nat} {L : AL} {st : List AV} {M : List AC} {x : Option AV × List AC} (h : rx_X6_layRow n pc L st M = some x) (hk : n ≤ k) : rx_X6_layRow k pc L st M = some x := am_r_mono n k h hk
def fn_X6_layRow : Fn := am_fn rx_X6_layRow 3
theorem fok_X6_layRow : Fok mi_X6_layRow fn_X6_layRow := fun _ _ _ _ h => am_fok ok_X6_layRow rk_X6_layRow rfl h
theorem sp_X6_layRow {M : List AC} {st lk len ac nx rf lr en lm : Int} {sd : Int64} (h0 : M[26]? = some (mo st lk len ac nx rf lr en lm sd)) {d : F4} (h32 : M[32]? = some (aI (l4 d))) (x : Int) (hx : 0 ≤ x ∧ x < 10000) : fn_X6_layRow [vR 26, vI x] M = some (none, M.set 32 (aI (l4 (uf x)))) := by
  have ex : wr x = x := wr_id (by omega) (by omega)
  have p : ∀ N : List AC, _ := fun N => sp_X6_tenTo N
  have e0 : x.tdiv 1000 = x / 1000 := Int.tdiv_eq_ediv_of_nonneg hx.1
  have e1 : x.tdiv 100 = x / 100 := Int.tdiv_eq_ediv_of_nonneg hx.1
  have e2 : x.tdiv 10 = x / 10 := Int.tdiv_eq_ediv_of_nonneg hx.1
  have w0 : wr (x / 1000) = x / 1000 := wr_id (by omega) (by omega)
  have w1 : wr (x / 100) = x / 100 := wr_id (by omega) (by omega)
  have w2 : wr (x / 10) = x / 10 := wr_id (by omega) (by omega)
  have f0 : (x / 1000).tmod 10 = x / 1000 % 10 := Int.tmod_eq_emod_of_nonneg (by omega)
  have f1 : (x / 100).tmod 10 = x / 100 % 10 := Int.tmod_eq_emod_of_nonneg (by omega)
  have f2 : (x / 10).tmod 10 = x / 10 % 10 := Int.tmod_eq_emod_of_nonneg (by omega)
  have f3 : x.tmod 10 = x % 10 := Int.tmod_eq_emod_of_nonneg hx.1
  have p0 : ∀ N, fn_X6_tenTo [vI 0] N = some (some (vI 1), N) := fun N => (p N).1
  have p1 : ∀ N, fn_X6_tenTo [vI 1] N = some (some (vI 10), N) := fun N => (p N).2.1
  have p2 : ∀ N, fn_X6_tenTo [vI 2] N = some (some (vI 100), N) := fun N => (p N).2.2.1
  have p3 : ∀ N, fn_X6_tenTo [vI 3] N = some (some (vI 1000), N) := fun N => (p N).2.2.2.1
  (refine am_fnI (tb := tb_X6_layRow) (n := 150) (Nat.le_of_ble_eq_true rfl) (Nat.le_of_ble_eq_true rfl) ?_; show rx_X6_layRow 150 0 _ _ _ = _)
  simp [↓ri_X6_layRow, rs_X6_layRow_0, rs_X6_layRow_1, rs_X6_layRow_2, rs_X6_layRow_3, rs_X6_layRow_4, rs_X6_layRow_7, rs_X6_layRow_8, rs_X6_layRow_11, rs_X6_layRow_12, rs_X6_layRow_13, rs_X6_layRow_14, rs_X6_layRow_15, rs_X6_layRow_16, rs_X6_layRow_19, rs_X6_layRow_20, rs_X6_layRow_22, rs_X6_layRow_23, rs_X6_layRow_24, rs_X6_layRow_27, rs_X6_layRow_30, -List.getElem?_eq_getElem, am_js, am_e, am_in, am_sl, rI, rZ, rV, rJ, rA, rC, kI, kJ, kR, am_one, am_nl, am_w8, tIc, tLc, tNul, tIld, tLld, tAld, tIst, tLst, tAst, tIinc, tI2, tDv, tL2, tLrem, tLs, tLcmp, tI2l, tL2i, tI2c, tDup, tDup2, tPop, tGo, tIfeq, tIfne, tIflt, tIfge, tIfgt, tIfle, tCmeq, tCmne, tCmlt, tCmge, tCmgt, tCmle, tNu, tTs, tGf, tPf, tGs, tIal, tIas, tBal, tBas, tAln, tSv, tSc, tSb, tSl, tSk, tCv, tCs, tCt, tMx, tMn, wr_10000, wr_100000, wr_1000000, wr_10000000, wr_100000000, wr_2400, wr_9999, wr_0, wr_1, wr_2, wr_3, wr_4, wr_5, wr_6, wr_7, wr_8, wr_9, wr_10, wr_11, wr_12, wr_13, wr_14, wr_15, wr_16, wr_17, wr_18, wr_19, wr_20, wr_21, wr_22, wr_23, wr_24, wr_25, wr_26, wr_27, wr_28, wr_29, wr_30, wr_31, wr_32, wr_33, wr_34, wr_35, wr_36, wr_37, wr_38, wr_39, wr_40, wr_41, wr_42, wr_43, wr_44, wr_45, wr_46, wr_47, wr_48, wr_49, wr_50, wr_51, wr_52, wr_53, wr_54, wr_55, wr_56, wr_57, wr_58, wr_59, wr_60, wr_61, wr_62, wr_63, wr_99, wr_100, wr_192, wr_255, wr_256, wr_343, wr_999, wr_1000, wr_2401, wr_2147483647, wr_65535, wr_m1, wr_m2, wr_m3, wr_m4, wr_m9, ak_1000, ak_1001, ak_1002, ak_0, ak_1, ak_2, ak_3, ak_4, ak_5, ak_6, ak_7, ak_8, ak_9, ak_10, ak_11, ak_12, ak_13, ak_14, ak_15, ak_16, ak_17, ak_18, ak_19, ak_20, ak_21, ak_22, ak_23, ak_24, ak_25, ak_26, ak_27, ak_28, ak_29, ak_30, ak_31, ak_32, ak_33, ak_34, ak_35, ak_36, ak_37, ak_38, ak_39, ak_40, ak_41, ak_42, ak_43, ak_44, ak_45, ak_46, ak_47, h0, mo, h32, gs h32, ex, p0, p1, p2, p3, e0, e1, e2, w0, w1, w2, f0, f1, f2, f3, uf]
end
