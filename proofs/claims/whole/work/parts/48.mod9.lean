noncomputable section
abbrev mi_X6_corner : Mi := (yX6_corner, cX6_corner, 3, some .int, 5)
theorem mf_X6_corner : am_mf mi_X6_corner 2 := ⟨w_co_X6_corner, w_in_X6, ⟨by decide +kernel, by decide +kernel⟩, by decide +kernel, by decide⟩
def tb_X6_corner : List (Nat × Tr) := [(0, tIld 1 1), (1, tCs 1 fn_X6_isCorner), (4, tIfne 9), (7, tIc (-1) 1), (9, tAld 0 1), (10, tCv 6 0 fn_X6_layNow), (13, tIld 2 1), (14, tTs 0 [52, 59, 66, 73, 79, 93] 99), (52, tAld 0 1), (53, tGf 6 8), (56, tIld 1 1), (57, tIal), (59, tAld 0 1), (60, tGf 6 9), (63, tIld 1 1), (64, tIal), (66, tAld 0 1), (67, tGf 6 1), (70, tIld 1 1), (71, tIal), (73, tAld 0 1), (74, tIld 1 1), (75, tCv 6 1 fn_X6_pullAt), (79, tAld 0 1), (80, tIld 1 1), (81, tCv 6 1 fn_X6_excess), (84, tIfle 91), (87, tIc 0 1), (88, tGo 92), (91, tIc 1 1), (93, tAld 0 1), (94, tIld 1 1), (95, tCv 6 1 fn_X6_counts), (99, tIc (-2) 2)]
theorem ok_X6_corner : Tok mi_X6_corner tb_X6_corner :=
  Tc (sd_iload_n dX6_corner_0) <|
  Tc (sd_cs fok_X6_isCorner mf_X6_isCorner w_ml_X6_112 w_st_X6_isCorner (by decide) dX6_corner_1) <|
  Tc (sd_if_ne (by decide) dX6_corner_4) <|
  Tc (sd_iconst rfl dX6_corner_7) <|
  Tc (sd_aload_n dX6_corner_9) <|
  Tc (sd_cv (T := TX6) fok_X6_layNow mf_X6_layNow rfl w_ml_X6_115 w_im_X6_layNow w_se_X6_layNow (by decide) dX6_corner_10) <|
  Tc (sd_iload_n dX6_corner_13) <|
  Tc (sd_tsw (by decide) (by decide) (sw_ok _ _ _ _ (by decide)) dX6_corner_14) <|
  Tc (sd_aload_n dX6_corner_52) <|
  Tc (sd_getf (T := TX6) rfl giX6 (by decide) w_fl_X6_25 dX6_corner_53) <|
  Tc (sd_iload_n dX6_corner_56) <|
  Tc (sd_ial dX6_corner_57) <|
  Tc (sd_aload_n dX6_corner_59) <|
  Tc (sd_getf (T := TX6) rfl giX6 (by decide) w_fl_X6_28 dX6_corner_60) <|
  Tc (sd_iload_n dX6_corner_63) <|
  Tc (sd_ial dX6_corner_64) <|
  Tc (sd_aload_n dX6_corner_66) <|
  Tc (sd_getf (T := TX6) rfl giX6 (by decide) w_fl_X6_7 dX6_corner_67) <|
  Tc (sd_iload_n dX6_corner_70) <|
  Tc (sd_ial dX6_corner_71) <|
  Tc (sd_aload_n dX6_corner_73) <|
  Tc (sd_iload_n dX6_corner_74) <|
  Tc (sd_cv (T := TX6) fok_X6_pullAt mf_X6_pullAt rfl w_ml_X6_103 w_im_X6_pullAt w_se_X6_pullAt (by decide) dX6_corner_75) <|
  Tc (sd_aload_n dX6_corner_79) <|
  Tc (sd_iload_n dX6_corner_80) <|
  Tc (sd_cv (T := TX6) fok_X6_excess mf_X6_excess rfl w_ml_X6_106 w_im_X6_excess w_se_X6_excess (by decide) dX6_corner_81) <|
  Tc (sd_if_le (by decide) dX6_corner_84) <|
  Tc (sd_iconst rfl dX6_corner_87) <|
  Tc (sd_goto (by decide) dX6_corner_88) <|
  Tc (sd_iconst rfl dX6_corner_91) <|
  Tc (sd_aload_n dX6_corner_93) <|
  Tc (sd_iload_n dX6_corner_94) <|
  Tc (sd_cv (T := TX6) fok_X6_counts mf_X6_counts rfl w_ml_X6_96 w_im_X6_counts w_se_X6_counts (by decide) dX6_corner_95) <|
  Tc (sd_bipush (by decide +kernel) dX6_corner_99) <|
  Tn
theorem rk_X6_corner : Rok mi_X6_corner rI [8, 58, 65, 72, 78, 92, 98, 101] := rk_i dX6_corner_8 <| rk_i dX6_corner_58 <| rk_i dX6_corner_65 <| rk_i dX6_corner_72 <| rk_i dX6_corner_78 <| rk_i dX6_corner_92 <| rk_i dX6_corner_98 <| rk_i dX6_corner_101 <| rk_n
def rx_X6_corner : Nat → Nat → AL → List AV → List AC → Option (Option AV × List AC) := am_r tb_X6_corner rI [8, 58, 65, 72, 78, 92, 98, 101]
theorem rs_X6_corner_0 (n : Nat) (L : AL) (st : List AV) (M : List AC) : rx_X6_corner (n + 1) 0 L st M = am_j (rx_X6_corner n) ((tIld 1 1) 0 L st M) := rfl
theorem rs_X6_corner_1 (n : Nat) (L : AL) (st : List AV) (M : List AC) : rx_X6_corner (n + 1) 1 L st M = am_j (rx_X6_corner n) ((tCs 1 fn_X6_isCorner) 1 L st M) := rfl
theorem rs_X6_corner_4 (n : Nat) (L : AL) (st : List AV) (M : List AC) : rx_X6_corner (n + 1) 4 L st M = am_j (rx_X6_corner n) ((tIfne 9) 4 L st M) := rfl
theorem rs_X6_corner_7 (n : Nat) (L : AL) (st : List AV) (M : List AC) : rx_X6_corner (n + 1) 7 L st M = am_j (rx_X6_corner n) ((tIc (-1) 1) 7 L st M) := rfl
theorem rs_X6_corner_9 (n : Nat) (L : AL) (st : List AV) (M : List AC) : rx_X6_corner (n + 1) 9 L st M = am_j (rx_X6_corner n) ((tAld 0 1) 9 L st M) := rfl
theorem rs_X6_corner_10 (n : Nat) (L : AL) (st : List AV) (M : List AC) : rx_X6_corner (n + 1) 10 L st M = am_j (rx_X6_corner n) ((tCv 6 0 fn_X6_layNow) 10 L st M) := rfl
theorem rs_X6_corner_13 (n : Nat) (L : AL) (st : List AV) (M : List AC) : rx_X6_corner (n + 1) 13 L st M = am_j (rx_X6_corner n) ((tIld 2 1) 13 L st M) := rfl
theorem rs_X6_corner_14 (n : Nat) (L : AL) (st : List AV) (M : List AC) : rx_X6_corner (n + 1) 14 L st M = am_j (rx_X6_corner n) ((tTs 0 [52, 59, 66, 73, 79, 93] 99) 14 L st M) := rfl
theorem rs_X6_corner_52 (n : Nat) (L : AL) (st : List AV) (M : List AC) : rx_X6_corner (n + 1) 52 L st M = am_j (rx_X6_corner n) ((tAld 0 1) 52 L st M) := rfl
theorem rs_X6_corner_53 (n : Nat) (L : AL) (st : List AV) (M : List AC) : rx_X6_corner (n + 1) 53 L st M = am_j (rx_X6_corner n) ((tGf 6 8) 53 L st M) := rfl
theorem rs_X6_corner_56 (n : Nat) (L : AL) (st : List AV) (M : List AC) : rx_X6_corner (n + 1) 56 L st M = am_j (rx_X6_corner n) ((tIld 1 1) 56 L st M) := rfl
theorem rs_X6_corner_57 (n : Nat) (L : AL) (st : List AV) (M : List AC) : rx_X6_corner (n + 1) 57 L st M = am_j (rx_X6_corner n) (tIal 57 L st M) := rfl
theorem rs_X6_corner_59 (n : Nat) (L : AL) (st : List AV) (M : List AC) : rx_X6_corner (n + 1) 59 L st M = am_j (rx_X6_corner n) ((tAld 0 1) 59 L st M) := rfl
theorem rs_X6_corner_60 (n : Nat) (L : AL) (st : List AV) (M : List AC) : rx_X6_corner (n + 1) 60 L st M = am_j (rx_X6_corner n) ((tGf 6 9) 60 L st M) := rfl
theorem rs_X6_corner_63 (n : Nat) (L : AL) (st : List AV) (M : List AC) : rx_X6_corner (n + 1) 63 L st M = am_j (rx_X6_corner n) ((tIld 1 1) 63 L st M) := rfl
theorem rs_X6_corner_64 (n : Nat) (L : AL) (st : List AV) (M : List AC) : rx_X6_corner (n + 1) 64 L st M = am_j (rx_X6_corner n) (tIal 64 L st M) := rfl
theorem rs_X6_corner_66 (n : Nat) (L : AL) (st : List AV) (M : List AC) : rx_X6_corner (n + 1) 66 L st M = am_j (rx_X6_corner n) ((tAld 0 1) 66 L st M) := rfl
theorem rs_X6_corner_67 (n : Nat) (L : AL) (st : List AV) (M : List AC) : rx_X6_corner (n + 1) 67 L st M = am_j (rx_X6_corner n) ((tGf 6 1) 67 L st M) := rfl
theorem rs_X6_corner_70 (n : Nat) (L : AL) (st : List AV) (M : List AC) : rx_X6_corner (n + 1) 70 L st M = am_j (rx_X6_corner n) ((tIld 1 1) 70 L st M) := rfl
theorem rs_X6_corner_71 (n : Nat) (L : AL) (st : List AV) (M : List AC) : rx_X6_corner (n + 1) 71 L st M = am_j (rx_X6_corner n) (tIal 71 L st M) := rfl
theorem rs_X6_corner_73 (n : Nat) (L : AL) (st : List AV) (M : List AC) : rx_X6_corner (n + 1) 73 L st M = am_j (rx_X6_corner n) ((tAld 0 1) 73 L st M) := rfl
theorem rs_X6_corner_74 (n : Nat) (L : AL) (st : List AV) (M : List AC) : rx_X6_corner (n + 1) 74 L st M = am_j (rx_X6_corner n) ((tIld 1 1) 74 L st M) := rfl
theorem rs_X6_corner_75 (n : Nat) (L : AL) (st : List AV) (M : List AC) : rx_X6_corner (n + 1) 75 L st M = am_j (rx_X6_corner n) ((tCv 6 1 fn_X6_pullAt) 75 L st M) := rfl
theorem rs_X6_corner_79 (n : Nat) (L : AL) (st : List AV) (M : List AC) : rx_X6_corner (n + 1) 79 L st M = am_j (rx_X6_corner n) ((tAld 0 1) 79 L st M) := rfl
theorem rs_X6_corner_80 (n : Nat) (L : AL) (st : List AV) (M : List AC) : rx_X6_corner (n + 1) 80 L st M = am_j (rx_X6_corner n) ((tIld 1 1) 80 L st M) := rfl
theorem rs_X6_corner_81 (n : Nat) (L : AL) (st : List AV) (M : List AC) : rx_X6_corner (n + 1) 81 L st M = am_j (rx_X6_corner n) ((tCv 6 1 fn_X6_excess) 81 L st M) := rfl
theorem rs_X6_corner_84 (n : Nat) (L : AL) (st : List AV) (M : List AC) : rx_X6_corner (n + 1) 84 L st M = am_j (rx_X6_corner n) ((tIfle 91) 84 L st M) := rfl
theorem rs_X6_corner_87 (n : Nat) (L : AL) (st : List AV) (M : List AC) : rx_X6_corner (n + 1) 87 L st M = am_j (rx_X6_corner n) ((tIc 0 1) 87 L st M) := rfl
theorem rs_X6_corner_88 (n : Nat) (L : AL) (st : List AV) (M : List AC) : rx_X6_corner (n + 1) 88 L st M = am_j (rx_X6_corner n) ((tGo 92) 88 L st M) := rfl
theorem rs_X6_corner_91 (n : Nat) (L : AL) (st : List AV) (M : List AC) : rx_X6_corner (n + 1) 91 L st M = am_j (rx_X6_corner n) ((tIc 1 1) 91 L st M) := rfl
theorem rs_X6_corner_93 (n : Nat) (L : AL) (st : List AV) (M : List AC) : rx_X6_corner (n + 1) 93 L st M = am_j (rx_X6_corner n) ((tAld 0 1) 93 L st M) := rfl
theorem rs_X6_corner_94 (n : Nat) (L : AL) (st : List AV) (M : List AC) : rx_X6_corner (n + 1) 94 L st M = am_j (rx_X6_corner n) ((tIld 1 1) 94 L st M) := rfl
theorem rs_X6_corner_95 (n : Nat) (L : AL) (st : List AV) (M : List AC) : rx_X6_corner (n + 1) 95 L st M = am_j (rx_X6_corner n) ((tCv 6 1 fn_X6_counts) 95 L st M) := rfl
theorem rs_X6_corner_99 (n : Nat) (L : AL) (st : List AV) (M : List AC) : rx_X6_corner (n + 1) 99 L st M = am_j (rx_X6_corner n) ((tIc (-2) 2) 99 L st M) := rfl
theorem rs_X6_corner_8 (n : Nat) (L : AL) (st : List AV) (M : List AC) : rx_X6_corner (n + 1) 8 L st M = am_e rI st M := rfl
theorem rs_X6_corner_58 (n : Nat) (L : AL) (st : List AV) (M : List AC) : rx_X6_corner (n + 1) 58 L st M = am_e rI st M := rfl
theorem rs_X6_corner_65 (n : Nat) (L : AL) (st : List AV) (M : List AC) : rx_X6_corner (n + 1) 65 L st M = am_e rI st M := rfl
theorem rs_X6_corner_72 (n : Nat) (L : AL) (st : List AV) (M : List AC) : rx_X6_corner (n + 1) 72 L st M = am_e rI st M := rfl
theorem rs_X6_corner_78 (n : Nat) (L : AL) (st : List AV) (M : List AC) : rx_X6_corner (n + 1) 78 L st M = am_e rI st M := rfl
theorem rs_X6_corner_92 (n : Nat) (L : AL) (st : List AV) (M : List AC) : rx_X6_corner (n + 1) 92 L st M = am_e rI st M := rfl
theorem rs_X6_corner_98 (n : Nat) (L : AL) (st : List AV) (M : List AC) : rx_X6_corner (n + 1) 98 L st M = am_e rI st M := rfl
theorem rs_X6_corner_101 (n : Nat) (L : AL) (st : List AV) (M : List AC) : rx_X6_corner (n + 1) 101 L st M = am_e rI st M := rfl
theorem ri_X6_corner (c : Prop) [Decidable c] (p q n : Nat) (L : AL) (st : List AV) (M : List AC) : rx_X6_corner n (if c then p else q) L st M = if c then rx_X6_corner n p L st M else rx_X6_corner n q L st M := by split <;> rfl
theorem rm_X6_corner {n k pc : Nat} {L : AL} {st : List AV} {M : List AC} {x : Option AV × List AC} (h : rx_X6_corner n pc L st M = some x) (hk : n ≤ k) : rx_X6_corner k pc L st M = some x := am_r_mono n k h hk
def fn_X6_corner : Fn := am_fn rx_X6_corner 3
theorem fok_X6_corner : Fok mi_X6_corner fn_X6_corner := fun _ _ _ _ h => am_fok ok_X6_corner rk_X6_corner rfl h
def crv (st : Int) (g s d b : F4) (c : Nat) (w : Int) : Int := if w = 0 then g4 d c else if w = 1 then g4 b c else if w = 2 then g4 g c else if w = 3 then pa st s d b c else if w = 4 then (if ex st g s d b c ≤ 0 then 1 else 0) else if w = 5 then cn (g4 d c) (g4 b c) else -2
theorem sw6 {w : Int} (h : ¬ w = 0) (h1 : ¬ w = 1) (h2 : ¬ w = 2) (h3 : ¬ w = 3) (h4 : ¬ w = 4) (h5 : ¬ w = 5) (ts : List Nat) (ht : ts.length = 6) (df : Nat) : (if w < 0 then df else (ts[w.toNat]?).getD df) = df := by
  by_cases hn : w < 0
  · rw [if_pos hn]
  · rw [if_neg hn, List.getElem?_eq_none (by omega)]
    rfl
theorem sp_X6_corner {M : List AC} {st lk len ac nx rf lr en lm : Int} {sd : Int64} (h0 : M[26]? = some (mo st lk len ac nx rf lr en lm sd)) {g d b s d' b' s' : F4} (h27 : M[27]? = some (aI (l4 g))) (h28 : M[28]? = some (aI (nw d b s))) (h32 : M[32]? = some (aI (l4 d'))) (h33 : M[33]? = some (aI (l4 b'))) (h34 : M[34]? = some (aI (l4 s'))) (hr : SR st g s d b) (c w : Int) (hc : -2147483648 ≤ c ∧ c < 2147483648) (hw : -2147483648 ≤ w ∧ w < 2147483648) : fn_X6_corner [vR 26, vI c, vI w] M = if 0 ≤ c ∧ c < 4 then some (some (vI (crv st g s d b c.toNat w)), ((M.set 32 (aI (l4 d))).set 33 (aI (l4 b))).set 34 (aI (l4 s))) else some (some (vI (-1)), M) := by
  have wc : wr c = c := wr_id (by omega) (by omega)
  have ww : wr w = w := wr_id (by omega) (by omega)
  by_cases h : 0 ≤ c ∧ c < 4
  · rw [if_pos h]
    have q1 := sp_X6_layNow h0 h28 h32 h33 h34
    have hs := lay_HD h0 h27 h28 h32 h33 h34
    have q2 := sp_X6_pullAt hs hr c h
    have q3 := sp_X6_excess hs hr c h
    have q4 := sp_X6_counts hs hr c h
    have x0 := ex_rng hr c.toNat
    have z0 : wr (ex st g s d b c.toNat) = ex st g s d b c.toNat := wr_id (by omega) (by omega)
    unfold crv
    by_cases c0 : w = 0
    · subst c0
      (refine am_fnI (tb := tb_X6_corner) (n := 60) (Nat.le_of_ble_eq_true rfl) (Nat.le_of_ble_eq_true rfl) ?_; show rx_X6_corner 60 0 _ _ _ = _)
      rcases c4 h with rfl | rfl | rfl | rfl <;>
      simp [↓ri_X6_corner, rs_X6_corner_0, rs_X6_corner_1, rs_X6_corner_4, rs_X6_corner_7, rs_X6_corner_9, rs_X6_corner_10, rs_X6_corner_13, rs_X6_corner_14, rs_X6_corner_52, rs_X6_corner_53, rs_X6_corner_56, rs_X6_corner_57, rs_X6_corner_59, rs_X6_corner_60, rs_X6_corner_63, rs_X6_corner_64, rs_X6_corner_66, rs_X6_corner_67, rs_X6_corner_70, rs_X6_corner_71, rs_X6_corner_73, rs_X6_corner_74, rs_X6_corner_75, rs_X6_corner_79, rs_X6_corner_80, rs_X6_corner_81, rs_X6_corner_84, rs_X6_corner_87, rs_X6_corner_88, rs_X6_corner_91, rs_X6_corner_93, rs_X6_corner_94, rs_X6_corner_95, rs_X6_corner_99, rs_X6_corner_8, rs_X6_corner_58, rs_X6_corner_65, rs_X6_corner_72, rs_X6_corner_78, rs_X6_corner_92, rs_X6_corner_98, rs_X6_corner_101, -List.getElem?_eq_getElem, am_js, am_e, am_in, am_sl, rI, rZ, rV, rJ, rA, rC, kI, kJ, kR, am_one, am_nl, am_w8, tIc, tLc, tNul, tIld, tLld, tAld, tIst, tLst, tAst, tIinc, tI2, tDv, tL2, tLrem, tLs, tLcmp, tI2l, tL2i, tI2c, tDup, tDup2, tPop, tGo, tIfeq, tIfne, tIflt, tIfge, tIfgt, tIfle, tCmeq, tCmne, tCmlt, tCmge, tCmgt, tCmle, tNu, tTs, tGf, tPf, tGs, tIal, tIas, tBal, tBas, tAln, tSv, tSc, tSb, tSl, tSk, tCv, tCs, tCt, tMx, tMn, wr_10000, wr_100000, wr_1000000, wr_10000000, wr_100000000, wr_2400, wr_9999, wr_0, wr_1, wr_2, wr_3, wr_4, wr_5, wr_6, wr_7, wr_8, wr_9, wr_10, wr_11, wr_12, wr_13, wr_14, wr_15, wr_16, wr_17, wr_18, wr_19, wr_20, wr_21, wr_22, wr_23, wr_24, wr_25, wr_26, wr_27, wr_28, wr_29, wr_30, wr_31, wr_32, wr_33, wr_34, wr_35, wr_36, wr_37, wr_38, wr_39, wr_40, wr_41, wr_42, wr_43, wr_44, wr_45, wr_46, wr_47, wr_48, wr_49, wr_50, wr_51, wr_52, wr_53, wr_54, wr_55, wr_56, wr_57, wr_58, wr_59, wr_60, wr_61, wr_62, wr_63, wr_99, wr_100, wr_192, wr_255, wr_256, wr_343, wr_999, wr_1000, wr_2401, wr_2147483647, wr_65535, wr_m1, wr_m2, wr_m3, wr_m4, wr_m9, ak_1000, ak_1001, ak_1002, ak_0, ak_1, ak_2, ak_3, ak_4, ak_5, ak_6, ak_7, ak_8, ak_9, ak_10, ak_11, ak_12, ak_13, ak_14, ak_15, ak_16, ak_17, ak_18, ak_19, ak_20, ak_21, ak_22, ak_23, ak_24, ak_25, ak_26, ak_27, ak_28, ak_29, ak_30, ak_31, ak_32, ak_33, ak_34, ak_35, ak_36, ak_37, ak_38, ak_39, ak_40, ak_41, ak_42, ak_43, ak_44, ak_45, ak_46, ak_47, sp_X6_isCorner, h0, mo, q1, gs h32, g4]
    by_cases c1 : w = 1
    · subst c1
      (refine am_fnI (tb := tb_X6_corner) (n := 60) (Nat.le_of_ble_eq_true rfl) (Nat.le_of_ble_eq_true rfl) ?_; show rx_X6_corner 60 0 _ _ _ = _)
      rcases c4 h with rfl | rfl | rfl | rfl <;>
      simp [↓ri_X6_corner, rs_X6_corner_0, rs_X6_corner_1, rs_X6_corner_4, rs_X6_corner_7, rs_X6_corner_9, rs_X6_corner_10, rs_X6_corner_13, rs_X6_corner_14, rs_X6_corner_52, rs_X6_corner_53, rs_X6_corner_56, rs_X6_corner_57, rs_X6_corner_59, rs_X6_corner_60, rs_X6_corner_63, rs_X6_corner_64, rs_X6_corner_66, rs_X6_corner_67, rs_X6_corner_70, rs_X6_corner_71, rs_X6_corner_73, rs_X6_corner_74, rs_X6_corner_75, rs_X6_corner_79, rs_X6_corner_80, rs_X6_corner_81, rs_X6_corner_84, rs_X6_corner_87, rs_X6_corner_88, rs_X6_corner_91, rs_X6_corner_93, rs_X6_corner_94, rs_X6_corner_95, rs_X6_corner_99, rs_X6_corner_8, rs_X6_corner_58, rs_X6_corner_65, rs_X6_corner_72, rs_X6_corner_78, rs_X6_corner_92, rs_X6_corner_98, rs_X6_corner_101, -List.getElem?_eq_getElem, am_js, am_e, am_in, am_sl, rI, rZ, rV, rJ, rA, rC, kI, kJ, kR, am_one, am_nl, am_w8, tIc, tLc, tNul, tIld, tLld, tAld, tIst, tLst, tAst, tIinc, tI2, tDv, tL2, tLrem, tLs, tLcmp, tI2l, tL2i, tI2c, tDup, tDup2, tPop, tGo, tIfeq, tIfne, tIflt, tIfge, tIfgt, tIfle, tCmeq, tCmne, tCmlt, tCmge, tCmgt, tCmle, tNu, tTs, tGf, tPf, tGs, tIal, tIas, tBal, tBas, tAln, tSv, tSc, tSb, tSl, tSk, tCv, tCs, tCt, tMx, tMn, wr_10000, wr_100000, wr_1000000, wr_10000000, wr_100000000, wr_2400, wr_9999, wr_0, wr_1, wr_2, wr_3, wr_4, wr_5, wr_6, wr_7, wr_8, wr_9, wr_10, wr_11, wr_12, wr_13, wr_14, wr_15, wr_16, wr_17, wr_18, wr_19, wr_20, wr_21, wr_22, wr_23, wr_24, wr_25, wr_26, wr_27, wr_28, wr_29, wr_30, wr_31, wr_32, wr_33, wr_34, wr_35, wr_36, wr_37, wr_38, wr_39, wr_40, wr_41, wr_42, wr_43, wr_44, wr_45, wr_46, wr_47, wr_48, wr_49, wr_50, wr_51, wr_52, wr_53, wr_54, wr_55, wr_56, wr_57, wr_58, wr_59, wr_60, wr_61, wr_62, wr_63, wr_99, wr_100, wr_192, wr_255, wr_256, wr_343, wr_999, wr_1000, wr_2401, wr_2147483647, wr_65535, wr_m1, wr_m2, wr_m3, wr_m4, wr_m9, ak_1000, ak_1001, ak_1002, ak_0, ak_1, ak_2, ak_3, ak_4, ak_5, ak_6, ak_7, ak_8, ak_9, ak_10, ak_11, ak_12, ak_13, ak_14, ak_15, ak_16, ak_17, ak_18, ak_19, ak_20, ak_21, ak_22, ak_23, ak_24, ak_25, ak_26, ak_27, ak_28, ak_29, ak_30, ak_31, ak_32, ak_33, ak_34, ak_35, ak_36, ak_37, ak_38, ak_39, ak_40, ak_41, ak_42, ak_43, ak_44, ak_45, ak_46, ak_47, sp_X6_isCorner, h0, mo, q1, gs h33, g4]
    by_cases c2 : w = 2
    · subst c2
      (refine am_fnI (tb := tb_X6_corner) (n := 60) (Nat.le_of_ble_eq_true rfl) (Nat.le_of_ble_eq_true rfl) ?_; show rx_X6_corner 60 0 _ _ _ = _)
      rcases c4 h with rfl | rfl | rfl | rfl <;>
      simp [↓ri_X6_corner, rs_X6_corner_0, rs_X6_corner_1, rs_X6_corner_4, rs_X6_corner_7, rs_X6_corner_9, rs_X6_corner_10, rs_X6_corner_13, rs_X6_corner_14, rs_X6_corner_52, rs_X6_corner_53, rs_X6_corner_56, rs_X6_corner_57, rs_X6_corner_59, rs_X6_corner_60, rs_X6_corner_63, rs_X6_corner_64, rs_X6_corner_66, rs_X6_corner_67, rs_X6_corner_70, rs_X6_corner_71, rs_X6_corner_73, rs_X6_corner_74, rs_X6_corner_75, rs_X6_corner_79, rs_X6_corner_80, rs_X6_corner_81, rs_X6_corner_84, rs_X6_corner_87, rs_X6_corner_88, rs_X6_corner_91, rs_X6_corner_93, rs_X6_corner_94, rs_X6_corner_95, rs_X6_corner_99, rs_X6_corner_8, rs_X6_corner_58, rs_X6_corner_65, rs_X6_corner_72, rs_X6_corner_78, rs_X6_corner_92, rs_X6_corner_98, rs_X6_corner_101, -List.getElem?_eq_getElem, am_js, am_e, am_in, am_sl, rI, rZ, rV, rJ, rA, rC, kI, kJ, kR, am_one, am_nl, am_w8, tIc, tLc, tNul, tIld, tLld, tAld, tIst, tLst, tAst, tIinc, tI2, tDv, tL2, tLrem, tLs, tLcmp, tI2l, tL2i, tI2c, tDup, tDup2, tPop, tGo, tIfeq, tIfne, tIflt, tIfge, tIfgt, tIfle, tCmeq, tCmne, tCmlt, tCmge, tCmgt, tCmle, tNu, tTs, tGf, tPf, tGs, tIal, tIas, tBal, tBas, tAln, tSv, tSc, tSb, tSl, tSk, tCv, tCs, tCt, tMx, tMn, wr_10000, wr_100000, wr_1000000, wr_10000000, wr_100000000, wr_2400, wr_9999, wr_0, wr_1, wr_2, wr_3, wr_4, wr_5, wr_6, wr_7, wr_8, wr_9, wr_10, wr_11, wr_12, wr_13, wr_14, wr_15, wr_16, wr_17, wr_18, wr_19, wr_20, wr_21, wr_22, wr_23, wr_24, wr_25, wr_26, wr_27, wr_28, wr_29, wr_30, wr_31, wr_32, wr_33, wr_34, wr_35, wr_36, wr_37, wr_38, wr_39, wr_40, wr_41, wr_42, wr_43, wr_44, wr_45, wr_46, wr_47, wr_48, wr_49, wr_50, wr_51, wr_52, wr_53, wr_54, wr_55, wr_56, wr_57, wr_58, wr_59, wr_60, wr_61, wr_62, wr_63, wr_99, wr_100, wr_192, wr_255, wr_256, wr_343, wr_999, wr_1000, wr_2401, wr_2147483647, wr_65535, wr_m1, wr_m2, wr_m3, wr_m4, wr_m9, ak_1000, ak_1001, ak_1002, ak_0, ak_1, ak_2, ak_3, ak_4, ak_5, ak_6, ak_7, ak_8, ak_9, ak_10, ak_11, ak_12, ak_13, ak_14, ak_15, ak_16, ak_17, ak_18, ak_19, ak_20, ak_21, ak_22, ak_23, ak_24, ak_25, ak_26, ak_27, ak_28, ak_29, ak_30, ak_31, ak_32, ak_33, ak_34, ak_35, ak_36, ak_37, ak_38, ak_39, ak_40, ak_41, ak_42, ak_43, ak_44, ak_45, ak_46, ak_47, sp_X6_isCorner, h0, mo, q1, h27, g4]
    by_cases c3 : w = 3
    · subst c3
      (refine am_fnI (tb := tb_X6_corner) (n := 60) (Nat.le_of_ble_eq_true rfl) (Nat.le_of_ble_eq_true rfl) ?_; show rx_X6_corner 60 0 _ _ _ = _)
      rcases c4 h with rfl | rfl | rfl | rfl <;> simp at q2 <;>
      simp [↓ri_X6_corner, rs_X6_corner_0, rs_X6_corner_1, rs_X6_corner_4, rs_X6_corner_7, rs_X6_corner_9, rs_X6_corner_10, rs_X6_corner_13, rs_X6_corner_14, rs_X6_corner_52, rs_X6_corner_53, rs_X6_corner_56, rs_X6_corner_57, rs_X6_corner_59, rs_X6_corner_60, rs_X6_corner_63, rs_X6_corner_64, rs_X6_corner_66, rs_X6_corner_67, rs_X6_corner_70, rs_X6_corner_71, rs_X6_corner_73, rs_X6_corner_74, rs_X6_corner_75, rs_X6_corner_79, rs_X6_corner_80, rs_X6_corner_81, rs_X6_corner_84, rs_X6_corner_87, rs_X6_corner_88, rs_X6_corner_91, rs_X6_corner_93, rs_X6_corner_94, rs_X6_corner_95, rs_X6_corner_99, rs_X6_corner_8, rs_X6_corner_58, rs_X6_corner_65, rs_X6_corner_72, rs_X6_corner_78, rs_X6_corner_92, rs_X6_corner_98, rs_X6_corner_101, -List.getElem?_eq_getElem, am_js, am_e, am_in, am_sl, rI, rZ, rV, rJ, rA, rC, kI, kJ, kR, am_one, am_nl, am_w8, tIc, tLc, tNul, tIld, tLld, tAld, tIst, tLst, tAst, tIinc, tI2, tDv, tL2, tLrem, tLs, tLcmp, tI2l, tL2i, tI2c, tDup, tDup2, tPop, tGo, tIfeq, tIfne, tIflt, tIfge, tIfgt, tIfle, tCmeq, tCmne, tCmlt, tCmge, tCmgt, tCmle, tNu, tTs, tGf, tPf, tGs, tIal, tIas, tBal, tBas, tAln, tSv, tSc, tSb, tSl, tSk, tCv, tCs, tCt, tMx, tMn, wr_10000, wr_100000, wr_1000000, wr_10000000, wr_100000000, wr_2400, wr_9999, wr_0, wr_1, wr_2, wr_3, wr_4, wr_5, wr_6, wr_7, wr_8, wr_9, wr_10, wr_11, wr_12, wr_13, wr_14, wr_15, wr_16, wr_17, wr_18, wr_19, wr_20, wr_21, wr_22, wr_23, wr_24, wr_25, wr_26, wr_27, wr_28, wr_29, wr_30, wr_31, wr_32, wr_33, wr_34, wr_35, wr_36, wr_37, wr_38, wr_39, wr_40, wr_41, wr_42, wr_43, wr_44, wr_45, wr_46, wr_47, wr_48, wr_49, wr_50, wr_51, wr_52, wr_53, wr_54, wr_55, wr_56, wr_57, wr_58, wr_59, wr_60, wr_61, wr_62, wr_63, wr_99, wr_100, wr_192, wr_255, wr_256, wr_343, wr_999, wr_1000, wr_2401, wr_2147483647, wr_65535, wr_m1, wr_m2, wr_m3, wr_m4, wr_m9, ak_1000, ak_1001, ak_1002, ak_0, ak_1, ak_2, ak_3, ak_4, ak_5, ak_6, ak_7, ak_8, ak_9, ak_10, ak_11, ak_12, ak_13, ak_14, ak_15, ak_16, ak_17, ak_18, ak_19, ak_20, ak_21, ak_22, ak_23, ak_24, ak_25, ak_26, ak_27, ak_28, ak_29, ak_30, ak_31, ak_32, ak_33, ak_34, ak_35, ak_36, ak_37, ak_38, ak_39, ak_40, ak_41, ak_42, ak_43, ak_44, ak_45, ak_46, ak_47, sp_X6_isCorner, h0, mo, q1, q2]
    by_cases c4' : w = 4
    · subst c4'
      generalize ex st g s d b c.toNat = e at q3 z0 ⊢
      (refine am_fnI (tb := tb_X6_corner) (n := 60) (Nat.le_of_ble_eq_true rfl) (Nat.le_of_ble_eq_true rfl) ?_; show rx_X6_corner 60 0 _ _ _ = _)
      by_cases he : e ≤ 0 <;>
      rcases c4 h with rfl | rfl | rfl | rfl <;>
      simp [↓ri_X6_corner, rs_X6_corner_0, rs_X6_corner_1, rs_X6_corner_4, rs_X6_corner_7, rs_X6_corner_9, rs_X6_corner_10, rs_X6_corner_13, rs_X6_corner_14, rs_X6_corner_52, rs_X6_corner_53, rs_X6_corner_56, rs_X6_corner_57, rs_X6_corner_59, rs_X6_corner_60, rs_X6_corner_63, rs_X6_corner_64, rs_X6_corner_66, rs_X6_corner_67, rs_X6_corner_70, rs_X6_corner_71, rs_X6_corner_73, rs_X6_corner_74, rs_X6_corner_75, rs_X6_corner_79, rs_X6_corner_80, rs_X6_corner_81, rs_X6_corner_84, rs_X6_corner_87, rs_X6_corner_88, rs_X6_corner_91, rs_X6_corner_93, rs_X6_corner_94, rs_X6_corner_95, rs_X6_corner_99, rs_X6_corner_8, rs_X6_corner_58, rs_X6_corner_65, rs_X6_corner_72, rs_X6_corner_78, rs_X6_corner_92, rs_X6_corner_98, rs_X6_corner_101, -List.getElem?_eq_getElem, am_js, am_e, am_in, am_sl, rI, rZ, rV, rJ, rA, rC, kI, kJ, kR, am_one, am_nl, am_w8, tIc, tLc, tNul, tIld, tLld, tAld, tIst, tLst, tAst, tIinc, tI2, tDv, tL2, tLrem, tLs, tLcmp, tI2l, tL2i, tI2c, tDup, tDup2, tPop, tGo, tIfeq, tIfne, tIflt, tIfge, tIfgt, tIfle, tCmeq, tCmne, tCmlt, tCmge, tCmgt, tCmle, tNu, tTs, tGf, tPf, tGs, tIal, tIas, tBal, tBas, tAln, tSv, tSc, tSb, tSl, tSk, tCv, tCs, tCt, tMx, tMn, wr_10000, wr_100000, wr_1000000, wr_10000000, wr_100000000, wr_2400, wr_9999, wr_0, wr_1, wr_2, wr_3, wr_4, wr_5, wr_6, wr_7, wr_8, wr_9, wr_10, wr_11, wr_12, wr_13, wr_14, wr_15, wr_16, wr_17, wr_18, wr_19, wr_20, wr_21, wr_22, wr_23, wr_24, wr_25, wr_26, wr_27, wr_28, wr_29, wr_30, wr_31, wr_32, wr_33, wr_34, wr_35, wr_36, wr_37, wr_38, wr_39, wr_40, wr_41, wr_42, wr_43, wr_44, wr_45, wr_46, wr_47, wr_48, wr_49, wr_50, wr_51, wr_52, wr_53, wr_54, wr_55, wr_56, wr_57, wr_58, wr_59, wr_60, wr_61, wr_62, wr_63, wr_99, wr_100, wr_192, wr_255, wr_256, wr_343, wr_999, wr_1000, wr_2401, wr_2147483647, wr_65535, wr_m1, wr_m2, wr_m3, wr_m4, wr_m9, ak_1000, ak_1001, ak_1002, ak_0, ak_1, ak_2, ak_3, ak_4, ak_5, ak_6, ak_7, ak_8, ak_9, ak_10, ak_11, ak_12, ak_13, ak_14, ak_15, ak_16, ak_17, ak_18, ak_19, ak_20, ak_21, ak_22, ak_23, ak_24, ak_25, ak_26, ak_27, ak_28, ak_29, ak_30, ak_31, ak_32, ak_33, ak_34, ak_35, ak_36, ak_37, ak_38, ak_39, ak_40, ak_41, ak_42, ak_43, ak_44, ak_45, ak_46, ak_47, sp_X6_isCorner, h0, mo, q1, q3, z0, he]
    by_cases c5 : w = 5
    · subst c5
      generalize cn (g4 d c.toNat) (g4 b c.toNat) = e at q4 ⊢
      (refine am_fnI (tb := tb_X6_corner) (n := 60) (Nat.le_of_ble_eq_true rfl) (Nat.le_of_ble_eq_true rfl) ?_; show rx_X6_corner 60 0 _ _ _ = _)
      rcases c4 h with rfl | rfl | rfl | rfl <;>
      simp [↓ri_X6_corner, rs_X6_corner_0, rs_X6_corner_1, rs_X6_corner_4, rs_X6_corner_7, rs_X6_corner_9, rs_X6_corner_10, rs_X6_corner_13, rs_X6_corner_14, rs_X6_corner_52, rs_X6_corner_53, rs_X6_corner_56, rs_X6_corner_57, rs_X6_corner_59, rs_X6_corner_60, rs_X6_corner_63, rs_X6_corner_64, rs_X6_corner_66, rs_X6_corner_67, rs_X6_corner_70, rs_X6_corner_71, rs_X6_corner_73, rs_X6_corner_74, rs_X6_corner_75, rs_X6_corner_79, rs_X6_corner_80, rs_X6_corner_81, rs_X6_corner_84, rs_X6_corner_87, rs_X6_corner_88, rs_X6_corner_91, rs_X6_corner_93, rs_X6_corner_94, rs_X6_corner_95, rs_X6_corner_99, rs_X6_corner_8, rs_X6_corner_58, rs_X6_corner_65, rs_X6_corner_72, rs_X6_corner_78, rs_X6_corner_92, rs_X6_corner_98, rs_X6_corner_101, -List.getElem?_eq_getElem, am_js, am_e, am_in, am_sl, rI, rZ, rV, rJ, rA, rC, kI, kJ, kR, am_one, am_nl, am_w8, tIc, tLc, tNul, tIld, tLld, tAld, tIst, tLst, tAst, tIinc, tI2, tDv, tL2, tLrem, tLs, tLcmp, tI2l, tL2i, tI2c, tDup, tDup2, tPop, tGo, tIfeq, tIfne, tIflt, tIfge, tIfgt, tIfle, tCmeq, tCmne, tCmlt, tCmge, tCmgt, tCmle, tNu, tTs, tGf, tPf, tGs, tIal, tIas, tBal, tBas, tAln, tSv, tSc, tSb, tSl, tSk, tCv, tCs, tCt, tMx, tMn, wr_10000, wr_100000, wr_1000000, wr_10000000, wr_100000000, wr_2400, wr_9999, wr_0, wr_1, wr_2, wr_3, wr_4, wr_5, wr_6, wr_7, wr_8, wr_9, wr_10, wr_11, wr_12, wr_13, wr_14, wr_15, wr_16, wr_17, wr_18, wr_19, wr_20, wr_21, wr_22, wr_23, wr_24, wr_25, wr_26, wr_27, wr_28, wr_29, wr_30, wr_31, wr_32, wr_33, wr_34, wr_35, wr_36, wr_37, wr_38, wr_39, wr_40, wr_41, wr_42, wr_43, wr_44, wr_45, wr_46, wr_47, wr_48, wr_49, wr_50, wr_51, wr_52, wr_53, wr_54, wr_55, wr_56, wr_57, wr_58, wr_59, wr_60, wr_61, wr_62, wr_63, wr_99, wr_100, wr_192, wr_255, wr_256, wr_343, wr_999, wr_1000, wr_2401, wr_2147483647, wr_65535, wr_m1, wr_m2, wr_m3, wr_m4, wr_m9, ak_1000, ak_1001, ak_1002, ak_0, ak_1, ak_2, ak_3, ak_4, ak_5, ak_6, ak_7, ak_8, ak_9, ak_10, ak_11, ak_12, ak_13, ak_14, ak_15, ak_16, ak_17, ak_18, ak_19, ak_20, ak_21, ak_22, ak_23, ak_24, ak_25, ak_26, ak_27, ak_28, ak_29, ak_30, ak_31, ak_32, ak_33, ak_34, ak_35, ak_36, ak_37, ak_38, ak_39, ak_40, ak_41, ak_42, ak_43, ak_44, ak_45, ak_46, ak_47, sp_X6_isCorner, h0, mo, q1, q4]
    · have e := sw6 c0 c1 c2 c3 c4' c5 [52, 59, 66, 73, 79, 93] rfl 99
      (refine am_fnI (tb := tb_X6_corner) (n := 60) (Nat.le_of_ble_eq_true rfl) (Nat.le_of_ble_eq_true rfl) ?_; show rx_X6_corner 60 0 _ _ _ = _)
      rcases c4 h with rfl | rfl | rfl | rfl <;>
      simp [↓ri_X6_corner, rs_X6_corner_0, rs_X6_corner_1, rs_X6_corner_4, rs_X6_corner_7, rs_X6_corner_9, rs_X6_corner_10, rs_X6_corner_13, rs_X6_corner_14, rs_X6_corner_52, rs_X6_corner_53, rs_X6_corner_56, rs_X6_corner_57, rs_X6_corner_59, rs_X6_corner_60, rs_X6_corner_63, rs_X6_corner_64, rs_X6_corner_66, rs_X6_corner_67, rs_X6_corner_70, rs_X6_corner_71, rs_X6_corner_73, rs_X6_corner_74, rs_X6_corner_75, rs_X6_corner_79, rs_X6_corner_80, rs_X6_corner_81, rs_X6_corner_84, rs_X6_corner_87, rs_X6_corner_88, rs_X6_corner_91, rs_X6_corner_93, rs_X6_corner_94, rs_X6_corner_95, rs_X6_corner_99, rs_X6_corner_8, rs_X6_corner_58, rs_X6_corner_65, rs_X6_corner_72, rs_X6_corner_78, rs_X6_corner_92, rs_X6_corner_98, rs_X6_corner_101, -List.getElem?_eq_getElem, am_js, am_e, am_in, am_sl, rI, rZ, rV, rJ, rA, rC, kI, kJ, kR, am_one, am_nl, am_w8, tIc, tLc, tNul, tIld, tLld, tAld, tIst, tLst, tAst, tIinc, tI2, tDv, tL2, tLrem, tLs, tLcmp, tI2l, tL2i, tI2c, tDup, tDup2, tPop, tGo, tIfeq, tIfne, tIflt, tIfge, tIfgt, tIfle, tCmeq, tCmne, tCmlt, tCmge, tCmgt, tCmle, tNu, tTs, tGf, tPf, tGs, tIal, tIas, tBal, tBas, tAln, tSv, tSc, tSb, tSl, tSk, tCv, tCs, tCt, tMx, tMn, wr_10000, wr_100000, wr_1000000, wr_10000000, wr_100000000, wr_2400, wr_9999, wr_0, wr_1, wr_2, wr_3, wr_4, wr_5, wr_6, wr_7, wr_8, wr_9, wr_10, wr_11, wr_12, wr_13, wr_14, wr_15, wr_16, wr_17, wr_18, wr_19, wr_20, wr_21, wr_22, wr_23, wr_24, wr_25, wr_26, wr_27, wr_28, wr_29, wr_30, wr_31, wr_32, wr_33, wr_34, wr_35, wr_36, wr_37, wr_38, wr_39, wr_40, wr_41, wr_42, wr_43, wr_44, wr_45, wr_46, wr_47, wr_48, wr_49, wr_50, wr_51, wr_52, wr_53, wr_54, wr_55, wr_56, wr_57, wr_58, wr_59, wr_60, wr_61, wr_62, wr_63, wr_99, wr_100, wr_192, wr_255, wr_256, wr_343, wr_999, wr_1000, wr_2401, wr_2147483647, wr_65535, wr_m1, wr_m2, wr_m3, wr_m4, wr_m9, ak_1000, ak_1001, ak_1002, ak_0, ak_1, ak_2, ak_3, ak_4, ak_5, ak_6, ak_7, ak_8, ak_9, ak_10, ak_11, ak_12, ak_13, ak_14, ak_15, ak_16, ak_17, ak_18, ak_19, ak_20, ak_21, ak_22, ak_23, ak_24, ak_25, ak_26, ak_27, ak_28, ak_29, ak_30, ak_31, ak_32, ak_33, ak_34, ak_35, ak_36, ak_37, ak_38, ak_39, ak_40, ak_41, ak_42, ak_43, ak_44, ak_45, ak_46, ak_47, -List.getElem?_cons, sp_X6_isCorner, h0, mo, q1, ww, e, c0, c1, c2, c3, c4', c5]
  · rw [if_neg h]
    have h' : ¬ (0 ≤ c ∧ c ≤ 3) := by omega
    (refine am_fnI (tb := tb_X6_corner) (n := 60) (Nat.le_of_ble_eq_true rfl) (Nat.le_of_ble_eq_true rfl) ?_; show rx_X6_corner 60 0 _ _ _ = _)
    simp [↓ri_X6_corner, rs_X6_corner_0, rs_X6_corner_1, rs_X6_corner_4, rs_X6_corner_7, rs_X6_corner_9, rs_X6_corner_10, rs_X6_corner_13, rs_X6_corner_14, rs_X6_corner_52, rs_X6_corner_53, rs_X6_corner_56, rs_X6_corner_57, rs_X6_corner_59, rs_X6_corner_60, rs_X6_corner_63, rs_X6_corner_64, rs_X6_corner_66, rs_X6_corner_67, rs_X6_corner_70, rs_X6_corner_71, rs_X6_corner_73, rs_X6_corner_74, rs_X6_corner_75, rs_X6_corner_79, rs_X6_corner_80, rs_X6_corner_81, rs_X6_corner_84, rs_X6_corner_87, rs_X6_corner_88, rs_X6_corner_91, rs_X6_corner_93, rs_X6_corner_94, rs_X6_corner_95, rs_X6_corner_99, rs_X6_corner_8, rs_X6_corner_58, rs_X6_corner_65, rs_X6_corner_72, rs_X6_corner_78, rs_X6_corner_92, rs_X6_corner_98, rs_X6_corner_101, -List.getElem?_eq_getElem, am_js, am_e, am_in, am_sl, rI, rZ, rV, rJ, rA, rC, kI, kJ, kR, am_one, am_nl, am_w8, tIc, tLc, tNul, tIld, tLld, tAld, tIst, tLst, tAst, tIinc, tI2, tDv, tL2, tLrem, tLs, tLcmp, tI2l, tL2i, tI2c, tDup, tDup2, tPop, tGo, tIfeq, tIfne, tIflt, tIfge, tIfgt, tIfle, tCmeq, tCmne, tCmlt, tCmge, tCmgt, tCmle, tNu, tTs, tGf, tPf, tGs, tIal, tIas, tBal, tBas, tAln, tSv, tSc, tSb, tSl, tSk, tCv, tCs, tCt, tMx, tMn, wr_10000, wr_100000, wr_1000000, wr_10000000, wr_100000000, wr_2400, wr_9999, wr_0, wr_1, wr_2, wr_3, wr_4, wr_5, wr_6, wr_7, wr_8, wr_9, wr_10, wr_11, wr_12, wr_13, wr_14, wr_15, wr_16, wr_17, wr_18, wr_19, wr_20, wr_21, wr_22, wr_23, wr_24, wr_25, wr_26, wr_27, wr_28, wr_29, wr_30, wr_31, wr_32, wr_33, wr_34, wr_35, wr_36, wr_37, wr_38, wr_39, wr_40, wr_41, wr_42, wr_43, wr_44, wr_45, wr_46, wr_47, wr_48, wr_49, wr_50, wr_51, wr_52, wr_53, wr_54, wr_55, wr_56, wr_57, wr_58, wr_59, wr_60, wr_61, wr_62, wr_63, wr_99, wr_100, wr_192, wr_255, wr_256, wr_343, wr_999, wr_1000, wr_2401, wr_2147483647, wr_65535, wr_m1, wr_m2, wr_m3, wr_m4, wr_m9, ak_1000, ak_1001, ak_1002, ak_0, ak_1, ak_2, ak_3, ak_4, ak_5, ak_6, ak_7, ak_8, ak_9, ak_10, ak_11, ak_12, ak_13, ak_14, ak_15, ak_16, ak_17, ak_18, ak_19, ak_20, ak_21, ak_22, ak_23, ak_24, ak_25, ak_26, ak_27, ak_28, ak_29, ak_30, ak_31, ak_32, ak_33, ak_34, ak_35, ak_36, ak_37, ak_38, ak_39, ak_40, ak_41, ak_42, ak_43, ak_44, ak_45, ak_46, ak_47, -not_and, sp_X6_isCorner, wc, h']
abbrev mi_X6_would : Mi := (yX6_would, cX6_would, 5, some .int, 7)
theorem mf_X6_would : am_mf mi_X6_would 2 := ⟨w_co_X6_would, w_in_X6, ⟨by decide +kernel, by decide +kernel⟩, by decide +kernel, by decide⟩
def tb_X6_would : List (Nat × Tr) := [(0, tIld 1 1), (1, tIc 0 1), (2, tCs 2 fn_X6_isRow), (5, tIfeq 20), (8, tIld 2 1), (9, tI2l), (10, tLc 0 1), (11, tLc 2 3), (14, tCs 3 fn_X6_in), (17, tIfne 23), (20, tIc (-2) 2), (23, tAld 0 1), (24, tCv 6 0 fn_X6_layNow), (27, tAld 0 1), (28, tIld 1 1), (29, tCv 6 1 fn_X6_layRow), (32, tIld 2 1), (33, tIfne 75), (36, tIc 0 1), (37, tIst 3 1), (38, tIc 0 1), (39, tIst 4 2), (41, tIld 4 2), (43, tIc 4 1), (44, tCmge 73), (47, tIld 3 1), (48, tAld 0 1), (49, tIld 4 2), (51, tCv 6 1 fn_X6_excess), (54, tIfle 64), (57, tIc 1 1), (58, tIld 4 2), (60, tI2 oShl), (61, tGo 65), (64, tIc 0 1), (65, tI2 oOr), (66, tIst 3 1), (67, tIinc 4 1), (70, tGo 41), (73, tIld 3 1), (75, tIld 2 1), (76, tIc 1 1), (77, tCmne 85), (80, tAld 0 1), (81, tCv 6 0 fn_X6_firstSlip), (85, tAld 0 1), (86, tCv 6 0 fn_X6_slips), (89, tPop), (90, tAld 0 1), (91, tCv 6 0 fn_X6_told)]
theorem ok_X6_would : Tok mi_X6_would tb_X6_would :=
  Tc (sd_iload_n dX6_would_0) <|
  Tc (sd_iconst rfl dX6_would_1) <|
  Tc (sd_cs fok_X6_isRow mf_X6_isRow w_ml_X6_125 w_st_X6_isRow (by decide) dX6_would_2) <|
  Tc (sd_if_eq (by decide) dX6_would_5) <|
  Tc (sd_iload_n dX6_would_8) <|
  Tc (sd_i2l dX6_would_9) <|
  Tc (sd_lconst rfl dX6_would_10) <|
  Tc (sd_ldc2 w_cl_X6_129 dX6_would_11) <|
  Tc (sd_cs fok_X6_in mf_X6_in w_ml_X6_65 w_st_X6_in (by decide) dX6_would_14) <|
  Tc (sd_if_ne (by decide) dX6_would_17) <|
  Tc (sd_bipush (by decide +kernel) dX6_would_20) <|
  Tc (sd_aload_n dX6_would_23) <|
  Tc (sd_cv (T := TX6) fok_X6_layNow mf_X6_layNow rfl w_ml_X6_115 w_im_X6_layNow w_se_X6_layNow (by decide) dX6_would_24) <|
  Tc (sd_aload_n dX6_would_27) <|
  Tc (sd_iload_n dX6_would_28) <|
  Tc (sd_cv (T := TX6) fok_X6_layRow mf_X6_layRow rfl w_ml_X6_131 w_im_X6_layRow w_se_X6_layRow (by decide) dX6_would_29) <|
  Tc (sd_iload_n dX6_would_32) <|
  Tc (sd_if_ne (by decide) dX6_would_33) <|
  Tc (sd_iconst rfl dX6_would_36) <|
  Tc (sd_istore_n dX6_would_37) <|
  Tc (sd_iconst rfl dX6_would_38) <|
  Tc (sd_istore dX6_would_39) <|
  Tc (sd_iload dX6_would_41) <|
  Tc (sd_iconst rfl dX6_would_43) <|
  Tc (sd_cm_ge (by decide) dX6_would_44) <|
  Tc (sd_iload_n dX6_would_47) <|
  Tc (sd_aload_n dX6_would_48) <|
  Tc (sd_iload dX6_would_49) <|
  Tc (sd_cv (T := TX6) fok_X6_excess mf_X6_excess rfl w_ml_X6_106 w_im_X6_excess w_se_X6_excess (by decide) dX6_would_51) <|
  Tc (sd_if_le (by decide) dX6_would_54) <|
  Tc (sd_iconst rfl dX6_would_57) <|
  Tc (sd_iload dX6_would_58) <|
  Tc (sd_ishl dX6_would_60) <|
  Tc (sd_goto (by decide) dX6_would_61) <|
  Tc (sd_iconst rfl dX6_would_64) <|
  Tc (sd_ior dX6_would_65) <|
  Tc (sd_istore_n dX6_would_66) <|
  Tc (sd_iinc dX6_would_67) <|
  Tc (sd_goto (by decide) dX6_would_70) <|
  Tc (sd_iload_n dX6_would_73) <|
  Tc (sd_iload_n dX6_would_75) <|
  Tc (sd_iconst rfl dX6_would_76) <|
  Tc (sd_cm_ne (by decide) dX6_would_77) <|
  Tc (sd_aload_n dX6_would_80) <|
  Tc (sd_cv (T := TX6) fok_X6_firstSlip mf_X6_firstSlip rfl w_ml_X6_109 w_im_X6_firstSlip w_se_X6_firstSlip (by decide) dX6_would_81) <|
  Tc (sd_aload_n dX6_would_85) <|
  Tc (sd_cv (T := TX6) fok_X6_slips mf_X6_slips rfl w_ml_X6_135 w_im_X6_slips w_se_X6_slips (by decide) dX6_would_86) <|
  Tc (sd_pop dX6_would_89) <|
  Tc (sd_aload_n dX6_would_90) <|
  Tc (sd_cv (T := TX6) fok_X6_told mf_X6_told rfl w_ml_X6_138 w_im_X6_told w_se_X6_told (by decide) dX6_would_91) <|
  Tn
theorem rk_X6_would : Rok mi_X6_would rI [22, 74, 84, 94] := rk_i dX6_would_22 <| rk_i dX6_would_74 <| rk_i dX6_would_84 <| rk_i dX6_would_94 <| rk_n
def rx_X6_would : Nat → Nat → AL → List AV → List AC → Option (Option AV × List AC) := am_r tb_X6_would rI [22, 74, 84, 94]
theorem rs_X6_would_0 (n : Nat) (L : AL) (st : List AV) (M : List AC) : rx_X6_would (n + 1) 0 L st M = am_j (rx_X6_would n) ((tIld 1 1) 0 L st M) := rfl
theorem rs_X6_would_1 (n : Nat) (L : AL) (st : List AV) (M : List AC) : rx_X6_would (n + 1) 1 L st M = am_j (rx_X6_would n) ((tIc 0 1) 1 L st M) := rfl
theorem rs_X6_would_2 (n : Nat) (L : AL) (st : List AV) (M : List AC) : rx_X6_would (n + 1) 2 L st M = am_j (rx_X6_would n) ((tCs 2 fn_X6_isRow) 2 L st M) := rfl
theorem rs_X6_would_5 (n : Nat) (L : AL) (st : List AV) (M : List AC) : rx_X6_would (n + 1) 5 L st M = am_j (rx_X6_would n) ((tIfeq 20) 5 L st M) := rfl
theorem rs_X6_would_8 (n : Nat) (L : AL) (st : List AV) (M : List AC) : rx_X6_would (n + 1) 8 L st M = am_j (rx_X6_would n) ((tIld 2 1) 8 L st M) := rfl
theorem rs_X6_would_9 (n : Nat) (L : AL) (st : List AV) (M : List AC) : rx_X6_would (n + 1) 9 L st M = am_j (rx_X6_would n) (tI2l 9 L st M) := rfl
theorem rs_X6_would_10 (n : Nat) (L : AL) (st : List AV) (M : List AC) : rx_X6_would (n + 1) 10 L st M = am_j (rx_X6_would n) ((tLc 0 1) 10 L st M) := rfl
theorem rs_X6_would_11 (n : Nat) (L : AL) (st : List AV) (M : List AC) : rx_X6_would (n + 1) 11 L st M = am_j (rx_X6_would n) ((tLc 2 3) 11 L st M) := rfl
theorem rs_X6_would_14 (n : Nat) (L : AL) (st : List AV) (M : List AC) : rx_X6_would (n + 1) 14 L st M = am_j (rx_X6_would n) ((tCs 3 fn_X6_in) 14 L st M) := rfl
theorem rs_X6_would_17 (n : Nat) (L : AL) (st : List AV) (M : List AC) : rx_X6_would (n + 1) 17 L st M = am_j (rx_X6_would n) ((tIfne 23) 17 L st M) := rfl
theorem rs_X6_would_20 (n : Nat) (L : AL) (st : List AV) (M : List AC) : rx_X6_would (n + 1) 20 L st M = am_j (rx_X6_would n) ((tIc (-2) 2) 20 L st M) := rfl
theorem rs_X6_would_23 (n : Nat) (L : AL) (st : List AV) (M : List AC) : rx_X6_would (n + 1) 23 L st M = am_j (rx_X6_would n) ((tAld 0 1) 23 L st M) := rfl
theorem rs_X6_would_24 (n : Nat) (L : AL) (st : List AV) (M : List AC) : rx_X6_would (n + 1) 24 L st M = am_j (rx_X6_would n) ((tCv 6 0 fn_X6_layNow) 24 L st M) := rfl
theorem rs_X6_would_27 (n : Nat) (L : AL) (st : List AV) (M : List AC) : rx_X6_would (n + 1) 27 L st M = am_j (rx_X6_would n) ((tAld 0 1) 27 L st M) := rfl
theorem rs_X6_would_28 (n : Nat) (L : AL) (st : List AV) (M : List AC) : rx_X6_would (n + 1) 28 L st M = am_j (rx_X6_would n) ((tIld 1 1) 28 L st M) := rfl
theorem rs_X6_would_29 (n : Nat) (L : AL) (st : List AV) (M : List AC) : rx_X6_would (n + 1) 29 L st M = am_j (rx_X6_would n) ((tCv 6 1 fn_X6_layRow) 29 L st M) := rfl
theorem rs_X6_would_32 (n : Nat) (L : AL) (st : List AV) (M : List AC) : rx_X6_would (n + 1) 32 L st M = am_j (rx_X6_would n) ((tIld 2 1) 32 L st M) := rfl
theorem rs_X6_would_33 (n : Nat) (L : AL) (st : List AV) (M : List AC) : rx_X6_would (n + 1) 33 L st M = am_j (rx_X6_would n) ((tIfne 75) 33 L st M) := rfl
theorem rs_X6_would_36 (n : Nat) (L : AL) (st : List AV) (M : List AC) : rx_X6_would (n + 1) 36 L st M = am_j (rx_X6_would n) ((tIc 0 1) 36 L st M) := rfl
theorem rs_X6_would_37 (n : Nat) (L : AL) (st : List AV) (M : List AC) : rx_X6_would (n + 1) 37 L st M = am_j (rx_X6_would n) ((tIst 3 1) 37 L st M) := rfl
theorem rs_X6_would_38 (n : Nat) (L : AL) (st : List AV) (M : List AC) : rx_X6_would (n + 1) 38 L st M = am_j (rx_X6_would n) ((tIc 0 1) 38 L st M) := rfl
theorem rs_X6_would_39 (n : Nat) (L : AL) (st : List AV) (M : List AC) : rx_X6_would (n + 1) 39 L st M = am_j (rx_X6_would n) ((tIst 4 2) 39 L st M) := rfl
theorem rs_X6_would_41 (n : Nat) (L : AL) (st : List AV) (M : List AC) : rx_X6_would (n + 1) 41 L st M = am_j (rx_X6_would n) ((tIld 4 2) 41 L st M) := rfl
theorem rs_X6_would_43 (n : Nat) (L : AL) (st : List AV) (M : List AC) : rx_X6_would (n + 1) 43 L st M = am_j (rx_X6_would n) ((tIc 4 1) 43 L st M) := rfl
theorem rs_X6_would_44 (n : Nat) (L : AL) (st : List AV) (M : List AC) : rx_X6_would (n + 1) 44 L st M = am_j (rx_X6_would n) ((tCmge 73) 44 L st M) := rfl
theorem rs_X6_would_47 (n : Nat) (L : AL) (st : List AV) (M : List AC) : rx_X6_would (n + 1) 47 L st M = am_j (rx_X6_would n) ((tIld 3 1) 47 L st M) := rfl
theorem rs_X6_would_48 (n : Nat) (L : AL) (st : List AV) (M : List AC) : rx_X6_would (n + 1) 48 L st M = am_j (rx_X6_would n) ((tAld 0 1) 48 L st M) := rfl
theorem rs_X6_would_49 (n : Nat) (L : AL) (st : List AV) (M : List AC) : rx_X6_would (n + 1) 49 L st M = am_j (rx_X6_would n) ((tIld 4 2) 49 L st M) := rfl
theorem rs_X6_would_51 (n : Nat) (L : AL) (st : List AV) (M : List AC) : rx_X6_would (n + 1) 51 L st M = am_j (rx_X6_would n) ((tCv 6 1 fn_X6_excess) 51 L st M) := rfl
theorem rs_X6_would_54 (n : Nat) (L : AL) (st : List AV) (M : List AC) : rx_X6_would (n + 1) 54 L st M = am_j (rx_X6_would n) ((tIfle 64) 54 L st M) := rfl
theorem rs_X6_would_57 (n : Nat) (L : AL) (st : List AV) (M : List AC) : rx_X6_would (n + 1) 57 L st M = am_j (rx_X6_would n) ((tIc 1 1) 57 L st M) := rfl
theorem rs_X6_would_58 (n : Nat) (L : AL) (st : List AV) (M : List AC) : rx_X6_would (n + 1) 58 L st M = am_j (rx_X6_would n) ((tIld 4 2) 58 L st M) := rfl
theorem rs_X6_would_60 (n : Nat) (L : AL) (st : List AV) (M : List AC) : rx_X6_would (n + 1) 60 L st M = am_j (rx_X6_would n) ((tI2 oShl) 60 L st M) := rfl
theorem rs_X6_would_61 (n : Nat) (L : AL) (st : List AV) (M : List AC) : rx_X6_would (n + 1) 61 L st M = am_j (rx_X6_would n) ((tGo 65) 61 L st M) := rfl
theorem rs_X6_would_64 (n : Nat) (L : AL) (st : List AV) (M : List AC) : rx_X6_would (n + 1) 64 L st M = am_j (rx_X6_would n) ((tIc 0 1) 64 L st M) := rfl
theorem rs_X6_would_65 (n : Nat) (L : AL) (st : List AV) (M : List AC) : rx_X6_would (n + 1) 65 L st M = am_j (rx_X6_would n) ((tI2 oOr) 65 L st M) := rfl
theorem rs_X6_would_66 (n : Nat) (L : AL) (st : List AV) (M : List AC) : rx_X6_would (n + 1) 66 L st M = am_j (rx_X6_would n) ((tIst 3 1) 66 L st M) := rfl
theorem rs_X6_would_67 (n : Nat) (L : AL) (st : List AV) (M : List AC) : rx_X6_would (n + 1) 67 L st M = am_j (rx_X6_would n) ((tIinc 4 1) 67 L st M) := rfl
theorem rs_X6_would_70 (n : Nat) (L : AL) (st : List AV) (M : List AC) : rx_X6_would (n + 1) 70 L st M = am_j (rx_X6_would n) ((tGo 41) 70 L st M) := rfl
theorem rs_X6_would_73 (n : Nat) (L : AL) (st : List AV) (M : List AC) : rx_X6_would (n + 1) 73 L st M = am_j (rx_X6_would n) ((tIld 3 1) 73 L st M) := rfl
theorem rs_X6_would_75 (n : Nat) (L : AL) (st : List AV) (M : List AC) : rx_X6_would (n + 1) 75 L st M = am_j (rx_X6_would n) ((tIld 2 1) 75 L st M) := rfl
theorem rs_X6_would_76 (n : Nat) (L : AL) (st : List AV) (M : List AC) : rx_X6_would (n + 1) 76 L st M = am_j (rx_X6_would n) ((tIc 1 1) 76 L st M) := rfl
theorem rs_X6_would_77 (n : Nat) (L : AL) (st : List AV) (M : List AC) : rx_X6_would (n + 1) 77 L st M = am_j (rx_X6_would n) ((tCmne 85) 77 L st M) := rfl
theorem rs_X6_would_80 (n : Nat) (L : AL) (st : List AV) (M : List AC) : rx_X6_would (n + 1) 80 L st M = am_j (rx_X6_would n) ((tAld 0 1) 80 L st M) := rfl
theorem rs_X6_would_81 (n : Nat) (L : AL) (st : List AV) (M : List AC) : rx_X6_would (n + 1) 81 L st M = am_j (rx_X6_would n) ((tCv 6 0 fn_X6_firstSlip) 81 L st M) := rfl
theorem rs_X6_would_85 (n : Nat) (L : AL) (st : List AV) (M : List AC) : rx_X6_would (n + 1) 85 L st M = am_j (rx_X6_would n) ((tAld 0 1) 85 L st M) := rfl
theorem rs_X6_would_86 (n : Nat) (L : AL) (st : List AV) (M : List AC) : rx_X6_would (n + 1) 86 L st M = am_j (rx_X6_would n) ((tCv 6 0 fn_X6_slips) 86 L st M) := rfl
theorem rs_X6_would_89 (n : Nat) (L : AL) (st : List AV) (M : List AC) : rx_X6_would (n + 1) 89 L st M = am_j (rx_X6_would n) (tPop 89 L st M) := rfl
theorem rs_X6_would_90 (n : Nat) (L : AL) (st : List AV) (M : List AC) : rx_X6_would (n + 1) 90 L st M = am_j (rx_X6_would n) ((tAld 0 1) 90 L st M) := rfl
theorem rs_X6_would_91 (n : Nat) (L : AL) (st : List AV) (M : List AC) : rx_X6_would (n + 1) 91 L st M = am_j (rx_X6_would n) ((tCv 6 0 fn_X6_told) 91 L st M) := rfl
theorem rs_X6_would_22 (n : Nat) (L : AL) (st : List AV) (M : List AC) : rx_X6_would (n + 1) 22 L st M = am_e rI st M := rfl
theorem rs_X6_would_74 (n : Nat) (L : AL) (st : List AV) (M : List AC) : rx_X6_would (n + 1) 74 L st M = am_e rI st M := rfl
theorem rs_X6_would_84 (n : Nat) (L : AL) (st : List AV) (M : List AC) : rx_X6_would (n + 1) 84 L st M = am_e rI st M := rfl
theorem rs_X6_would_94 (n : Nat) (L : AL) (st : List AV) (M : List AC) : rx_X6_would (n + 1) 94 L st M = am_e rI st M := rfl
theorem ri_X6_would (c : Prop) [Decidable c] (p q n : Nat) (L : AL) (st : List AV) (M : List AC) : rx_X6_would n (if c then p else q) L st M = if c then rx_X6_would n p L st M else rx_X6_would n q L st M := by split <;> rfl
theorem rm_X6_would {n k pc : Nat} {L : AL} {st : List AV} {M : List AC} {x : Option AV × List AC} (h : rx_X6_would n pc L st M = some x) (hk : n ≤ k) : rx_X6_would k pc L st M = some x := am_r_mono n k h hk
def fn_X6_would : Fn := am_fn rx_X6_would 5
theorem fok_X6_would : Fok mi_X6_would fn_X6_would := fun _ _ _ _ h => am_fok ok_X6_would rk_X6_would rfl h
theorem sp_X6_would {M : List AC} {st lk len ac nx rf lr en lm : Int} {sd : Int64} (h0 : M[26]? = some (mo st lk len ac nx rf lr en lm sd)) {g d b s d' b' s' : F4} (h27 : M[27]? = some (aI (l4 g))) (h28 : M[28]? = some (aI (nw d b s))) (h32 : M[32]? = some (aI (l4 d'))) (h33 : M[33]? = some (aI (l4 b'))) (h34 : M[34]? = some (aI (l4 s'))) (hr : SR st g s d b) (x w : Int) (hx : -2147483648 ≤ x ∧ x < 2147483648) (hw : -2147483648 ≤ w ∧ w < 2147483648) : fn_X6_would [vR 26, vI x, vI w] M = if (0 ≤ x ∧ x < 10000 ∧ i4 0 6 (uf x)) ∧ (0 ≤ w ∧ w ≤ 2) then (if w = 0 then some (some (vI (lob st g s (uf x) b)), ((M.set 32 (aI (l4 (uf x)))).set 33 (aI (l4 b))).set 34 (aI (l4 s))) else if w = 1 then some (some (vI (fs st g s (uf x) b)), ((M.set 32 (aI (l4 (uf x)))).set 33 (aI (l4 b))).set 34 (aI (l4 s))) else some (some (vI (fg (sl st g s b 4 (uf x) 0).1)), ((M.set 32 (aI (l4 (sl st g s b 4 (uf x) 0).1))).set 33 (aI (l4 b))).set 34 (aI (l4 s)))) else some (some (vI (-2)), M) := by
  have ww : wr w = w := wr_id (by omega) (by omega)
  have p1 := sp_X6_isRow x 0 M hx (Or.inl rfl)
  by_cases hR : 0 ≤ x ∧ x < 10000 ∧ i4 0 6 (uf x)
  · rw [if_pos hR] at p1
    by_cases hW : 0 ≤ w ∧ w ≤ 2
    · rw [if_pos ⟨hR, hW⟩]
      have q1 := sp_X6_layNow h0 h28 h32 h33 h34
      have i0 : (((M.set 32 (aI (l4 d))).set 33 (aI (l4 b))).set 34 (aI (l4 s)))[26]? = some (mo st lk len ac nx rf lr en lm sd) := by simp [-List.getElem?_eq_getElem, h0]
      have i32 : (((M.set 32 (aI (l4 d))).set 33 (aI (l4 b))).set 34 (aI (l4 s)))[32]? = some (aI (l4 d)) := by simp [-List.getElem?_eq_getElem, gs h32]
      have q2 := sp_X6_layRow i0 i32 x ⟨hR.1, hR.2.1⟩
      have hs : HD (((M.set 32 (aI (l4 (uf x)))).set 33 (aI (l4 b))).set 34 (aI (l4 s))) st g s (uf x) b := by
        refine ⟨⟨lk, len, ac, nx, rf, lr, en, lm, sd, ?_⟩, ?_, ?_, ?_, ?_⟩
        · simp [-List.getElem?_eq_getElem, h0]
        · simp [-List.getElem?_eq_getElem, h27]
        · simp [-List.getElem?_eq_getElem, gs h32]
        · simp [-List.getElem?_eq_getElem, gs h33]
        · simp [-List.getElem?_eq_getElem, gs h34]
      have hr' : SR st g s (uf x) b := ⟨hr.1, hr.2.1, hr.2.2.1, hR.2.2, hr.2.2.2.2⟩
      have q3 := sp_X6_firstSlip hs hr'
      have q4 := sp_X6_slips hs hr'
      have q5 := sp_X6_told (M := (((M.set 32 (aI (l4 (uf x)))).set 33 (aI (l4 b))).set 34 (aI (l4 s))).set 32 (aI (l4 (sl st g s b 4 (uf x) 0).1))) (st := st) (lk := lk) (len := len) (ac := ac) (nx := nx) (rf := rf) (lr := lr) (en := en) (lm := lm) (sd := sd) (d := (sl st g s b 4 (uf x) 0).1) (by simp [-List.getElem?_eq_getElem, h0]) (by simp [-List.getElem?_eq_getElem, gs h32])
      have z0 := sp_X6_excess hs hr' 0 (by omega)
      have z1 := sp_X6_excess hs hr' 1 (by omega)
      have z2 := sp_X6_excess hs hr' 2 (by omega)
      have z3 := sp_X6_excess hs hr' 3 (by omega)
      have x0 := ex_rng hr' 0
      have x1 := ex_rng hr' 1
      have x2 := ex_rng hr' 2
      have x3 := ex_rng hr' 3
      have y0 : wr (ex st g s (uf x) b 0) = ex st g s (uf x) b 0 := wr_id (by omega) (by omega)
      have y1 : wr (ex st g s (uf x) b 1) = ex st g s (uf x) b 1 := wr_id (by omega) (by omega)
      have y2 : wr (ex st g s (uf x) b 2) = ex st g s (uf x) b 2 := wr_id (by omega) (by omega)
      have y3 : wr (ex st g s (uf x) b 3) = ex st g s (uf x) b 3 := wr_id (by omega) (by omega)
      clear x0 x1 x2 x3 hr' hs i0 i32
      by_cases e0 : w = 0
      · rw [if_pos e0]
        unfold lob
        simp only [Int.toNat_zero, Int.toNat_one, show Int.toNat 2 = 2 from rfl, show Int.toNat 3 = 3 from rfl] at z0 z1 z2 z3
        generalize ex st g s (uf x) b 0 = a0 at z0 y0 ⊢
        generalize ex st g s (uf x) b 1 = a1 at z1 y1 ⊢
        generalize ex st g s (uf x) b 2 = a2 at z2 y2 ⊢
        generalize ex st g s (uf x) b 3 = a3 at z3 y3 ⊢
        clear q3 q4 q5
        simp [ss (i := 32) (j := 33) (by decide), ss (i := 32) (j := 34) (by decide), ss (i := 33) (j := 34) (by decide)] at q2
        subst e0
        generalize uf x = u at *
        (refine am_fnI (tb := tb_X6_would) (n := 300) (Nat.le_of_ble_eq_true rfl) (Nat.le_of_ble_eq_true rfl) ?_; show rx_X6_would 300 0 _ _ _ = _)
        by_cases k0 : a0 ≤ 0 <;> by_cases k1 : a1 ≤ 0 <;> by_cases k2 : a2 ≤ 0 <;> by_cases k3 : a3 ≤ 0 <;>
        simp [↓ri_X6_would, rs_X6_would_0, rs_X6_would_1, rs_X6_would_2, rs_X6_would_5, rs_X6_would_8, rs_X6_would_9, rs_X6_would_10, rs_X6_would_11, rs_X6_would_14, rs_X6_would_17, rs_X6_would_20, rs_X6_would_23, rs_X6_would_24, rs_X6_would_27, rs_X6_would_28, rs_X6_would_29, rs_X6_would_32, rs_X6_would_33, rs_X6_would_36, rs_X6_would_37, rs_X6_would_38, rs_X6_would_39, rs_X6_would_41, rs_X6_would_43, rs_X6_would_44, rs_X6_would_47, rs_X6_would_48, rs_X6_would_49, rs_X6_would_51, rs_X6_would_54, rs_X6_would_57, rs_X6_would_58, rs_X6_would_60, rs_X6_would_61, rs_X6_would_64, rs_X6_would_65, rs_X6_would_66, rs_X6_would_67, rs_X6_would_70, rs_X6_would_73, rs_X6_would_75, rs_X6_would_76, rs_X6_would_77, rs_X6_would_80, rs_X6_would_81, rs_X6_would_85, rs_X6_would_86, rs_X6_would_89, rs_X6_would_90, rs_X6_would_91, rs_X6_would_22, rs_X6_would_74, rs_X6_would_84, rs_X6_would_94, -List.getElem?_eq_getElem, am_js, am_e, am_in, am_sl, rI, rZ, rV, rJ, rA, rC, kI, kJ, kR, am_one, am_nl, am_w8, tIc, tLc, tNul, tIld, tLld, tAld, tIst, tLst, tAst, tIinc, tI2, tDv, tL2, tLrem, tLs, tLcmp, tI2l, tL2i, tI2c, tDup, tDup2, tPop, tGo, tIfeq, tIfne, tIflt, tIfge, tIfgt, tIfle, tCmeq, tCmne, tCmlt, tCmge, tCmgt, tCmle, tNu, tTs, tGf, tPf, tGs, tIal, tIas, tBal, tBas, tAln, tSv, tSc, tSb, tSl, tSk, tCv, tCs, tCt, tMx, tMn, wr_10000, wr_100000, wr_1000000, wr_10000000, wr_100000000, wr_2400, wr_9999, wr_0, wr_1, wr_2, wr_3, wr_4, wr_5, wr_6, wr_7, wr_8, wr_9, wr_10, wr_11, wr_12, wr_13, wr_14, wr_15, wr_16, wr_17, wr_18, wr_19, wr_20, wr_21, wr_22, wr_23, wr_24, wr_25, wr_26, wr_27, wr_28, wr_29, wr_30, wr_31, wr_32, wr_33, wr_34, wr_35, wr_36, wr_37, wr_38, wr_39, wr_40, wr_41, wr_42, wr_43, wr_44, wr_45, wr_46, wr_47, wr_48, wr_49, wr_50, wr_51, wr_52, wr_53, wr_54, wr_55, wr_56, wr_57, wr_58, wr_59, wr_60, wr_61, wr_62, wr_63, wr_99, wr_100, wr_192, wr_255, wr_256, wr_343, wr_999, wr_1000, wr_2401, wr_2147483647, wr_65535, wr_m1, wr_m2, wr_m3, wr_m4, wr_m9, ak_1000, ak_1001, ak_1002, ak_0, ak_1, ak_2, ak_3, ak_4, ak_5, ak_6, ak_7, ak_8, ak_9, ak_10, ak_11, ak_12, ak_13, ak_14, ak_15, ak_16, ak_17, ak_18, ak_19, ak_20, ak_21, ak_22, ak_23, ak_24, ak_25, ak_26, ak_27, ak_28, ak_29, ak_30, ak_31, ak_32, ak_33, ak_34, ak_35, ak_36, ak_37, ak_38, ak_39, ak_40, ak_41, ak_42, ak_43, ak_44, ak_45, ak_46, ak_47, sp_X6_in, -Int32.toInt_ofInt, -not_and, wr_eq, jt_0, jt_1, jt_2, jt_3, jt_4, jt_5, jt_6, jt_8, jt_12, jt_30, jt_48, jt_49, jt_51, jt_57, jt_255, jt_9999, p1, h0, mo, q1, q2, z0, z1, z2, z3, y0, y1, y2, y3, k0, k1, k2, k3, ss (i := 32) (j := 33) (by decide), ss (i := 32) (j := 34) (by decide), ss (i := 33) (j := 34) (by decide)]
      · rw [if_neg e0]
        clear z0 z1 z2 z3 y0 y1 y2 y3
        simp [ss (i := 32) (j := 33) (by decide), ss (i := 32) (j := 34) (by decide), ss (i := 33) (j := 34) (by decide)] at q2
        by_cases e1 : w = 1
        · rw [if_pos e1]
          clear q4 q5
          subst e1
          generalize fs st g s (uf x) b = f at q3 ⊢
          generalize uf x = u at *
          (refine am_fnI (tb := tb_X6_would) (n := 300) (Nat.le_of_ble_eq_true rfl) (Nat.le_of_ble_eq_true rfl) ?_; show rx_X6_would 300 0 _ _ _ = _)
          simp [↓ri_X6_would, rs_X6_would_0, rs_X6_would_1, rs_X6_would_2, rs_X6_would_5, rs_X6_would_8, rs_X6_would_9, rs_X6_would_10, rs_X6_would_11, rs_X6_would_14, rs_X6_would_17, rs_X6_would_20, rs_X6_would_23, rs_X6_would_24, rs_X6_would_27, rs_X6_would_28, rs_X6_would_29, rs_X6_would_32, rs_X6_would_33, rs_X6_would_36, rs_X6_would_37, rs_X6_would_38, rs_X6_would_39, rs_X6_would_41, rs_X6_would_43, rs_X6_would_44, rs_X6_would_47, rs_X6_would_48, rs_X6_would_49, rs_X6_would_51, rs_X6_would_54, rs_X6_would_57, rs_X6_would_58, rs_X6_would_60, rs_X6_would_61, rs_X6_would_64, rs_X6_would_65, rs_X6_would_66, rs_X6_would_67, rs_X6_would_70, rs_X6_would_73, rs_X6_would_75, rs_X6_would_76, rs_X6_would_77, rs_X6_would_80, rs_X6_would_81, rs_X6_would_85, rs_X6_would_86, rs_X6_would_89, rs_X6_would_90, rs_X6_would_91, rs_X6_would_22, rs_X6_would_74, rs_X6_would_84, rs_X6_would_94, -List.getElem?_eq_getElem, am_js, am_e, am_in, am_sl, rI, rZ, rV, rJ, rA, rC, kI, kJ, kR, am_one, am_nl, am_w8, tIc, tLc, tNul, tIld, tLld, tAld, tIst, tLst, tAst, tIinc, tI2, tDv, tL2, tLrem, tLs, tLcmp, tI2l, tL2i, tI2c, tDup, tDup2, tPop, tGo, tIfeq, tIfne, tIflt, tIfge, tIfgt, tIfle, tCmeq, tCmne, tCmlt, tCmge, tCmgt, tCmle, tNu, tTs, tGf, tPf, tGs, tIal, tIas, tBal, tBas, tAln, tSv, tSc, tSb, tSl, tSk, tCv, tCs, tCt, tMx, tMn, wr_10000, wr_100000, wr_1000000, wr_10000000, wr_100000000, wr_2400, wr_9999, wr_0, wr_1, wr_2, wr_3, wr_4, wr_5, wr_6, wr_7, wr_8, wr_9, wr_10, wr_11, wr_12, wr_13, wr_14, wr_15, wr_16, wr_17, wr_18, wr_19, wr_20, wr_21, wr_22, wr_23, wr_24, wr_25, wr_26, wr_27, wr_28, wr_29, wr_30, wr_31, wr_32, wr_33, wr_34, wr_35, wr_36, wr_37, wr_38, wr_39, wr_40, wr_41, wr_42, wr_43, wr_44, wr_45, wr_46, wr_47, wr_48, wr_49, wr_50, wr_51, wr_52, wr_53, wr_54, wr_55, wr_56, wr_57, wr_58, wr_59, wr_60, wr_61, wr_62, wr_63, wr_99, wr_100, wr_192, wr_255, wr_256, wr_343, wr_999, wr_1000, wr_2401, wr_2147483647, wr_65535, wr_m1, wr_m2, wr_m3, wr_m4, wr_m9, ak_1000, ak_1001, ak_1002, ak_0, ak_1, ak_2, ak_3, ak_4, ak_5, ak_6, ak_7, ak_8, ak_9, ak_10, ak_11, ak_12, ak_13, ak_14, ak_15, ak_16, ak_17, ak_18, ak_19, ak_20, ak_21, ak_22, ak_23, ak_24, ak_25, ak_26, ak_27, ak_28, ak_29, ak_30, ak_31, ak_32, ak_33, ak_34, ak_35, ak_36, ak_37, ak_38, ak_39, ak_40, ak_41, ak_42, ak_43, ak_44, ak_45, ak_46, ak_47, sp_X6_in, -Int32.toInt_ofInt, -not_and, wr_eq, jt_0, jt_1, jt_2, jt_3, jt_4, jt_5, jt_6, jt_8, jt_12, jt_30, jt_48, jt_49, jt_51, jt_57, jt_255, jt_9999, p1, h0, mo, q1, q2, q3, ss (i := 32) (j := 33) (by decide), ss (i := 32) (j := 34) (by decide), ss (i := 33) (j := 34) (by decide)]
        · rw [if_neg e1]
          have e2 : w = 2 := by omega
          clear q3
          subst e2
          simp [ss (i := 32) (j := 33) (by decide), ss (i := 32) (j := 34) (by decide), ss (i := 33) (j := 34) (by decide)] at q4 q5
          generalize sl st g s b 4 (uf x) 0 = q at q4 q5 ⊢
          generalize uf x = u at *
          (refine am_fnI (tb := tb_X6_would) (n := 300) (Nat.le_of_ble_eq_true rfl) (Nat.le_of_ble_eq_true rfl) ?_; show rx_X6_would 300 0 _ _ _ = _)
          simp [↓ri_X6_would, rs_X6_would_0, rs_X6_would_1, rs_X6_would_2, rs_X6_would_5, rs_X6_would_8, rs_X6_would_9, rs_X6_would_10, rs_X6_would_11, rs_X6_would_14, rs_X6_would_17, rs_X6_would_20, rs_X6_would_23, rs_X6_would_24, rs_X6_would_27, rs_X6_would_28, rs_X6_would_29, rs_X6_would_32, rs_X6_would_33, rs_X6_would_36, rs_X6_would_37, rs_X6_would_38, rs_X6_would_39, rs_X6_would_41, rs_X6_would_43, rs_X6_would_44, rs_X6_would_47, rs_X6_would_48, rs_X6_would_49, rs_X6_would_51, rs_X6_would_54, rs_X6_would_57, rs_X6_would_58, rs_X6_would_60, rs_X6_would_61, rs_X6_would_64, rs_X6_would_65, rs_X6_would_66, rs_X6_would_67, rs_X6_would_70, rs_X6_would_73, rs_X6_would_75, rs_X6_would_76, rs_X6_would_77, rs_X6_would_80, rs_X6_would_81, rs_X6_would_85, rs_X6_would_86, rs_X6_would_89, rs_X6_would_90, rs_X6_would_91, rs_X6_would_22, rs_X6_would_74, rs_X6_would_84, rs_X6_would_94, -List.getElem?_eq_getElem, am_js, am_e, am_in, am_sl, rI, rZ, rV, rJ, rA, rC, kI, kJ, kR, am_one, am_nl, am_w8, tIc, tLc, tNul, tIld, tLld, tAld, tIst, tLst, tAst, tIinc, tI2, tDv, tL2, tLrem, tLs, tLcmp, tI2l, tL2i, tI2c, tDup, tDup2, tPop, tGo, tIfeq, tIfne, tIflt, tIfge, tIfgt, tIfle, tCmeq, tCmne, tCmlt, tCmge, tCmgt, tCmle, tNu, tTs, tGf, tPf, tGs, tIal, tIas, tBal, tBas, tAln, tSv, tSc, tSb, tSl, tSk, tCv, tCs, tCt, tMx, tMn, wr_10000, wr_100000, wr_1000000, wr_10000000, wr_100000000, wr_2400, wr_9999, wr_0, wr_1, wr_2, wr_3, wr_4, wr_5, wr_6, wr_7, wr_8, wr_9, wr_10, wr_11, wr_12, wr_13, wr_14, wr_15, wr_16, wr_17, wr_18, wr_19, wr_20, wr_21, wr_22, wr_23, wr_24, wr_25, wr_26, wr_27, wr_28, wr_29, wr_30, wr_31, wr_32, wr_33, wr_34, wr_35, wr_36, wr_37, wr_38, wr_39, wr_40, wr_41, wr_42, wr_43, wr_44, wr_45, wr_46, wr_47, wr_48, wr_49, wr_50, wr_51, wr_52, wr_53, wr_54, wr_55, wr_56, wr_57, wr_58, wr_59, wr_60, wr_61, wr_62, wr_63, wr_99, wr_100, wr_192, wr_255, wr_256, wr_343, wr_999, wr_1000, wr_2401, wr_2147483647, wr_65535, wr_m1, wr_m2, wr_m3, wr_m4, wr_m9, ak_1000, ak_1001, ak_1002, ak_0, ak_1, ak_2, ak_3, ak_4, ak_5, ak_6, ak_7, ak_8, ak_9, ak_10, ak_11, ak_12, ak_13, ak_14, ak_15, ak_16, ak_17, ak_18, ak_19, ak_20, ak_21, ak_22, ak_23, ak_24, ak_25, ak_26, ak_27, ak_28, ak_29, ak_30, ak_31, ak_32, ak_33, ak_34, ak_35, ak_36, ak_37, ak_38, ak_39, ak_40, ak_41, ak_42, ak_43, ak_44, ak_45, ak_46, ak_47, sp_X6_in, -Int32.toInt_ofInt, -not_and, wr_eq, jt_0, jt_1, jt_2, jt_3, jt_4, jt_5, jt_6, jt_8, jt_12, jt_30, jt_48, jt_49, jt_51, jt_57, jt_255, jt_9999, p1, h0, mo, q1, q2, q4, q5, ss (i := 32) (j := 33) (by decide), ss (i := 32) (j := 34) (by decide), ss (i := 33) (j := 34) (by decide)]
    · rw [if_neg (fun z => hW z.2)]
      (refine am_fnI (tb := tb_X6_would) (n := 300) (Nat.le_of_ble_eq_true rfl) (Nat.le_of_ble_eq_true rfl) ?_; show rx_X6_would 300 0 _ _ _ = _)
      simp [↓ri_X6_would, rs_X6_would_0, rs_X6_would_1, rs_X6_would_2, rs_X6_would_5, rs_X6_would_8, rs_X6_would_9, rs_X6_would_10, rs_X6_would_11, rs_X6_would_14, rs_X6_would_17, rs_X6_would_20, rs_X6_would_23, rs_X6_would_24, rs_X6_would_27, rs_X6_would_28, rs_X6_would_29, rs_X6_would_32, rs_X6_would_33, rs_X6_would_36, rs_X6_would_37, rs_X6_would_38, rs_X6_would_39, rs_X6_would_41, rs_X6_would_43, rs_X6_would_44, rs_X6_would_47, rs_X6_would_48, rs_X6_would_49, rs_X6_would_51, rs_X6_would_54, rs_X6_would_57, rs_X6_would_58, rs_X6_would_60, rs_X6_would_61, rs_X6_would_64, rs_X6_would_65, rs_X6_would_66, rs_X6_would_67, rs_X6_would_70, rs_X6_would_73, rs_X6_would_75, rs_X6_would_76, rs_X6_would_77, rs_X6_would_80, rs_X6_would_81, rs_X6_would_85, rs_X6_would_86, rs_X6_would_89, rs_X6_would_90, rs_X6_would_91, rs_X6_would_22, rs_X6_would_74, rs_X6_would_84, rs_X6_would_94, -List.getElem?_eq_getElem, am_js, am_e, am_in, am_sl, rI, rZ, rV, rJ, rA, rC, kI, kJ, kR, am_one, am_nl, am_w8, tIc, tLc, tNul, tIld, tLld, tAld, tIst, tLst, tAst, tIinc, tI2, tDv, tL2, tLrem, tLs, tLcmp, tI2l, tL2i, tI2c, tDup, tDup2, tPop, tGo, tIfeq, tIfne, tIflt, tIfge, tIfgt, tIfle, tCmeq, tCmne, tCmlt, tCmge, tCmgt, tCmle, tNu, tTs, tGf, tPf, tGs, tIal, tIas, tBal, tBas, tAln, tSv, tSc, tSb, tSl, tSk, tCv, tCs, tCt, tMx, tMn, wr_10000, wr_100000, wr_1000000, wr_10000000, wr_100000000, wr_2400, wr_9999, wr_0, wr_1, wr_2, wr_3, wr_4, wr_5, wr_6, wr_7, wr_8, wr_9, wr_10, wr_11, wr_12, wr_13, wr_14, wr_15, wr_16, wr_17, wr_18, wr_19, wr_20, wr_21, wr_22, wr_23, wr_24, wr_25, wr_26, wr_27, wr_28, wr_29, wr_30, wr_31, wr_32, wr_33, wr_34, wr_35, wr_36, wr_37, wr_38, wr_39, wr_40, wr_41, wr_42, wr_43, wr_44, wr_45, wr_46, wr_47, wr_48, wr_49, wr_50, wr_51, wr_52, wr_53, wr_54, wr_55, wr_56, wr_57, wr_58, wr_59, wr_60, wr_61, wr_62, wr_63, wr_99, wr_100, wr_192, wr_255, wr_256, wr_343, wr_999, wr_1000, wr_2401, wr_2147483647, wr_65535, wr_m1, wr_m2, wr_m3, wr_m4, wr_m9, ak_1000, ak_1001, ak_1002, ak_0, ak_1, ak_2, ak_3, ak_4, ak_5, ak_6, ak_7, ak_8, ak_9, ak_10, ak_11, ak_12, ak_13, ak_14, ak_15, ak_16, ak_17, ak_18, ak_19, ak_20, ak_21, ak_22, ak_23, ak_24, ak_25, ak_26, ak_27, ak_28, ak_29, ak_30, ak_31, ak_32, ak_33, ak_34, ak_35, ak_36, ak_37, ak_38, ak_39, ak_40, ak_41, ak_42, ak_43, ak_44, ak_45, ak_46, ak_47, sp_X6_in, -Int32.toInt_ofInt, -not_and, wr_eq, jt_0, jt_1, jt_2, jt_3, jt_4, jt_5, jt_6, jt_8, jt_12, jt_30, jt_48, jt_49, jt_51, jt_57, jt_255, jt_9999, p1, ww, hW]
  · rw [if_neg hR] at p1
    rw [if_neg (fun z => hR z.1)]
    (refine am_fnI (tb := tb_X6_would) (n := 300) (Nat.le_of_ble_eq_true rfl) (Nat.le_of_ble_eq_true rfl) ?_; show rx_X6_would 300 0 _ _ _ = _)
    simp [↓ri_X6_would, rs_X6_would_0, rs_X6_would_1, rs_X6_would_2, rs_X6_would_5, rs_X6_would_8, rs_X6_would_9, rs_X6_would_10, rs_X6_would_11, rs_X6_would_14, rs_X6_would_17, rs_X6_would_20, rs_X6_would_23, rs_X6_would_24, rs_X6_would_27, rs_X6_would_28, rs_X6_would_29, rs_X6_would_32, rs_X6_would_33, rs_X6_would_36, rs_X6_would_37, rs_X6_would_38, rs_X6_would_39, rs_X6_would_41, rs_X6_would_43, rs_X6_would_44, rs_X6_would_47, rs_X6_would_48, rs_X6_would_49, rs_X6_would_51, rs_X6_would_54, rs_X6_would_57, rs_X6_would_58, rs_X6_would_60, rs_X6_would_61, rs_X6_would_64, rs_X6_would_65, rs_X6_would_66, rs_X6_would_67, rs_X6_would_70, rs_X6_would_73, rs_X6_would_75, rs_X6_would_76, rs_X6_would_77, rs_X6_would_80, rs_X6_would_81, rs_X6_would_85, rs_X6_would_86, rs_X6_would_89, rs_X6_would_90, rs_X6_would_91, rs_X6_would_22, rs_X6_would_74, rs_X6_would_84, rs_X6_would_94, -List.getElem?_eq_getElem, am_js, am_e, am_in, am_sl, rI, rZ, rV, rJ, rA, rC, kI, kJ, kR, am_one, am_nl, am_w8, tIc, tLc, tNul, tIld, tLld, tAld, tIst, tLst, tAst, tIinc, tI2, tDv, tL2, tLrem, tLs, tLcmp, tI2l, tL2i, tI2c, tDup, tDup2, tPop, tGo, tIfeq, tIfne, tIflt, tIfge, tIfgt, tIfle, tCmeq, tCmne, tCmlt, tCmge, tCmgt, tCmle, tNu, tTs, tGf, tPf, tGs, tIal, tIas, tBal, tBas, tAln, tSv, tSc, tSb, tSl, tSk, tCv, tCs, tCt, tMx, tMn, wr_10000, wr_100000, wr_1000000, wr_10000000, wr_100000000, wr_2400, wr_9999, wr_0, wr_1, wr_2, wr_3, wr_4, wr_5, wr_6, wr_7, wr_8, wr_9, wr_10, wr_11, wr_12, wr_13, wr_14, wr_15, wr_16, wr_17, wr_18, wr_19, wr_20, wr_21, wr_22, wr_23, wr_24, wr_25, wr_26, wr_27, wr_28, wr_29, wr_30, wr_31, wr_32, wr_33, wr_34, wr_35, wr_36, wr_37, wr_38, wr_39, wr_40, wr_41, wr_42, wr_43, wr_44, wr_45, wr_46, wr_47, wr_48, wr_49, wr_50, wr_51, wr_52, wr_53, wr_54, wr_55, wr_56, wr_57, wr_58, wr_59, wr_60, wr_61, wr_62, wr_63, wr_99, wr_100, wr_192, wr_255, wr_256, wr_343, wr_999, wr_1000, wr_2401, wr_2147483647, wr_65535, wr_m1, wr_m2, wr_m3, wr_m4, wr_m9, ak_1000, ak_1001, ak_1002, ak_0, ak_1, ak_2, ak_3, ak_4, ak_5, ak_6, ak_7, ak_8, ak_9, ak_10, ak_11, ak_12, ak_13, ak_14, ak_15, ak_16, ak_17, ak_18, ak_19, ak_20, ak_21, ak_22, ak_23, ak_24, ak_25, ak_26, ak_27, ak_28, ak_29, ak_30, ak_31, ak_32, ak_33, ak_34, ak_35, ak_36, ak_37, ak_38, ak_39, ak_40, ak_41, ak_42, ak_43, ak_44, ak_45, ak_46, ak_47, sp_X6_in, -Int32.toInt_ofInt, -not_and, wr_eq, jt_0, jt_1, jt_2, jt_3, jt_4, jt_5, jt_6, jt_8, jt_12, jt_30, jt_48, jt_49, jt_51, jt_57, jt_255, jt_9999, p1]
end
