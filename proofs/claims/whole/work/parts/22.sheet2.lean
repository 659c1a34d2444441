noncomputable section
abbrev mi_X4_settle : Mi := (yX4_settle, cX4_settle, 4, some .int, 4)
theorem mf_X4_settle : am_mf mi_X4_settle 0 := ⟨w_co_X4_settle, w_in_X4, ⟨by decide +kernel, by decide +kernel⟩, by decide +kernel, by decide⟩
def tb_X4_settle : List (Nat × Tr) := [(0, tIc 0 1), (1, tIst 1 1), (2, tIc 0 1), (3, tIst 2 1), (4, tIld 2 1), (5, tIc 4 1), (6, tCmge 42), (9, tAld 0 1), (10, tCv 4 0 fn_X4_firstToSlip), (13, tIst 3 1), (14, tIld 3 1), (15, tIc (-9) 2), (17, tCmne 23), (20, tGo 42), (23, tAld 0 1), (24, tGf 4 3), (27, tIld 3 1), (28, tIc 0 1), (29, tIas), (30, tIld 1 1), (31, tIc 1 1), (32, tIld 3 1), (33, tI2 oShl), (34, tI2 oOr), (35, tIst 1 1), (36, tIinc 2 1), (39, tGo 4), (42, tIld 1 1)]
theorem ok_X4_settle : Tok mi_X4_settle tb_X4_settle :=
  Tc (sd_iconst rfl dX4_settle_0) <|
  Tc (sd_istore_n dX4_settle_1) <|
  Tc (sd_iconst rfl dX4_settle_2) <|
  Tc (sd_istore_n dX4_settle_3) <|
  Tc (sd_iload_n dX4_settle_4) <|
  Tc (sd_iconst rfl dX4_settle_5) <|
  Tc (sd_cm_ge (by decide) dX4_settle_6) <|
  Tc (sd_aload_n dX4_settle_9) <|
  Tc (sd_cv (T := TX4) fok_X4_firstToSlip mf_X4_firstToSlip rfl w_ml_X4_42 w_im_X4_firstToSlip w_se_X4_firstToSlip (by decide) dX4_settle_10) <|
  Tc (sd_istore_n dX4_settle_13) <|
  Tc (sd_iload_n dX4_settle_14) <|
  Tc (sd_bipush (by decide +kernel) dX4_settle_15) <|
  Tc (sd_cm_ne (by decide) dX4_settle_17) <|
  Tc (sd_goto (by decide) dX4_settle_20) <|
  Tc (sd_aload_n dX4_settle_23) <|
  Tc (sd_getf (T := TX4) rfl giX4 (by decide) w_fl_X4_22 dX4_settle_24) <|
  Tc (sd_iload_n dX4_settle_27) <|
  Tc (sd_iconst rfl dX4_settle_28) <|
  Tc (sd_ias dX4_settle_29) <|
  Tc (sd_iload_n dX4_settle_30) <|
  Tc (sd_iconst rfl dX4_settle_31) <|
  Tc (sd_iload_n dX4_settle_32) <|
  Tc (sd_ishl dX4_settle_33) <|
  Tc (sd_ior dX4_settle_34) <|
  Tc (sd_istore_n dX4_settle_35) <|
  Tc (sd_iinc dX4_settle_36) <|
  Tc (sd_goto (by decide) dX4_settle_39) <|
  Tc (sd_iload_n dX4_settle_42) <|
  Tn
theorem rk_X4_settle : Rok mi_X4_settle rI [43] := rk_i dX4_settle_43 <| rk_n
def rx_X4_settle : Nat → Nat → AL → List AV → List AC → Option (Option AV × List AC) := am_r tb_X4_settle rI [43]
theorem rs_X4_settle_0 (n : Nat) (L : AL) (st : List AV) (M : List AC) : rx_X4_settle (n + 1) 0 L st M = am_j (rx_X4_settle n) ((tIc 0 1) 0 L st M) := rfl
theorem rs_X4_settle_1 (n : Nat) (L : AL) (st : List AV) (M : List AC) : rx_X4_settle (n + 1) 1 L st M = am_j (rx_X4_settle n) ((tIst 1 1) 1 L st M) := rfl
theorem rs_X4_settle_2 (n : Nat) (L : AL) (st : List AV) (M : List AC) : rx_X4_settle (n + 1) 2 L st M = am_j (rx_X4_settle n) ((tIc 0 1) 2 L st M) := rfl
theorem rs_X4_settle_3 (n : Nat) (L : AL) (st : List AV) (M : List AC) : rx_X4_settle (n + 1) 3 L st M = am_j (rx_X4_settle n) ((tIst 2 1) 3 L st M) := rfl
theorem rs_X4_settle_4 (n : Nat) (L : AL) (st : List AV) (M : List AC) : rx_X4_settle (n + 1) 4 L st M = am_j (rx_X4_settle n) ((tIld 2 1) 4 L st M) := rfl
theorem rs_X4_settle_5 (n : Nat) (L : AL) (st : List AV) (M : List AC) : rx_X4_settle (n + 1) 5 L st M = am_j (rx_X4_settle n) ((tIc 4 1) 5 L st M) := rfl
theorem rs_X4_settle_6 (n : Nat) (L : AL) (st : List AV) (M : List AC) : rx_X4_settle (n + 1) 6 L st M = am_j (rx_X4_settle n) ((tCmge 42) 6 L st M) := rfl
theorem rs_X4_settle_9 (n : Nat) (L : AL) (st : List AV) (M : List AC) : rx_X4_settle (n + 1) 9 L st M = am_j (rx_X4_settle n) ((tAld 0 1) 9 L st M) := rfl
theorem rs_X4_settle_10 (n : Nat) (L : AL) (st : List AV) (M : List AC) : rx_X4_settle (n + 1) 10 L st M = am_j (rx_X4_settle n) ((tCv 4 0 fn_X4_firstToSlip) 10 L st M) := rfl
theorem rs_X4_settle_13 (n : Nat) (L : AL) (st : List AV) (M : List AC) : rx_X4_settle (n + 1) 13 L st M = am_j (rx_X4_settle n) ((tIst 3 1) 13 L st M) := rfl
theorem rs_X4_settle_14 (n : Nat) (L : AL) (st : List AV) (M : List AC) : rx_X4_settle (n + 1) 14 L st M = am_j (rx_X4_settle n) ((tIld 3 1) 14 L st M) := rfl
theorem rs_X4_settle_15 (n : Nat) (L : AL) (st : List AV) (M : List AC) : rx_X4_settle (n + 1) 15 L st M = am_j (rx_X4_settle n) ((tIc (-9) 2) 15 L st M) := rfl
theorem rs_X4_settle_17 (n : Nat) (L : AL) (st : List AV) (M : List AC) : rx_X4_settle (n + 1) 17 L st M = am_j (rx_X4_settle n) ((tCmne 23) 17 L st M) := rfl
theorem rs_X4_settle_20 (n : Nat) (L : AL) (st : List AV) (M : List AC) : rx_X4_settle (n + 1) 20 L st M = am_j (rx_X4_settle n) ((tGo 42) 20 L st M) := rfl
theorem rs_X4_settle_23 (n : Nat) (L : AL) (st : List AV) (M : List AC) : rx_X4_settle (n + 1) 23 L st M = am_j (rx_X4_settle n) ((tAld 0 1) 23 L st M) := rfl
theorem rs_X4_settle_24 (n : Nat) (L : AL) (st : List AV) (M : List AC) : rx_X4_settle (n + 1) 24 L st M = am_j (rx_X4_settle n) ((tGf 4 3) 24 L st M) := rfl
theorem rs_X4_settle_27 (n : Nat) (L : AL) (st : List AV) (M : List AC) : rx_X4_settle (n + 1) 27 L st M = am_j (rx_X4_settle n) ((tIld 3 1) 27 L st M) := rfl
theorem rs_X4_settle_28 (n : Nat) (L : AL) (st : List AV) (M : List AC) : rx_X4_settle (n + 1) 28 L st M = am_j (rx_X4_settle n) ((tIc 0 1) 28 L st M) := rfl
theorem rs_X4_settle_29 (n : Nat) (L : AL) (st : List AV) (M : List AC) : rx_X4_settle (n + 1) 29 L st M = am_j (rx_X4_settle n) (tIas 29 L st M) := rfl
theorem rs_X4_settle_30 (n : Nat) (L : AL) (st : List AV) (M : List AC) : rx_X4_settle (n + 1) 30 L st M = am_j (rx_X4_settle n) ((tIld 1 1) 30 L st M) := rfl
theorem rs_X4_settle_31 (n : Nat) (L : AL) (st : List AV) (M : List AC) : rx_X4_settle (n + 1) 31 L st M = am_j (rx_X4_settle n) ((tIc 1 1) 31 L st M) := rfl
theorem rs_X4_settle_32 (n : Nat) (L : AL) (st : List AV) (M : List AC) : rx_X4_settle (n + 1) 32 L st M = am_j (rx_X4_settle n) ((tIld 3 1) 32 L st M) := rfl
theorem rs_X4_settle_33 (n : Nat) (L : AL) (st : List AV) (M : List AC) : rx_X4_settle (n + 1) 33 L st M = am_j (rx_X4_settle n) ((tI2 oShl) 33 L st M) := rfl
theorem rs_X4_settle_34 (n : Nat) (L : AL) (st : List AV) (M : List AC) : rx_X4_settle (n + 1) 34 L st M = am_j (rx_X4_settle n) ((tI2 oOr) 34 L st M) := rfl
theorem rs_X4_settle_35 (n : Nat) (L : AL) (st : List AV) (M : List AC) : rx_X4_settle (n + 1) 35 L st M = am_j (rx_X4_settle n) ((tIst 1 1) 35 L st M) := rfl
theorem rs_X4_settle_36 (n : Nat) (L : AL) (st : List AV) (M : List AC) : rx_X4_settle (n + 1) 36 L st M = am_j (rx_X4_settle n) ((tIinc 2 1) 36 L st M) := rfl
theorem rs_X4_settle_39 (n : Nat) (L : AL) (st : List AV) (M : List AC) : rx_X4_settle (n + 1) 39 L st M = am_j (rx_X4_settle n) ((tGo 4) 39 L st M) := rfl
theorem rs_X4_settle_42 (n : Nat) (L : AL) (st : List AV) (M : List AC) : rx_X4_settle (n + 1) 42 L st M = am_j (rx_X4_settle n) ((tIld 1 1) 42 L st M) := rfl
theorem rs_X4_settle_43 (n : Nat) (L : AL) (st : List AV) (M : List AC) : rx_X4_settle (n + 1) 43 L st M = am_e rI st M := rfl
theorem ri_X4_settle (c : Prop) [Decidable c] (p q n : Nat) (L : AL) (st : List AV) (M : List AC) : rx_X4_settle n (if c then p else q) L st M = if c then rx_X4_settle n p L st M else rx_X4_settle n q L st M := by split <;> rfl
theorem rm_X4_settle {n k pc : Nat} {L : AL} {st : List AV} {M : List AC} {x : Option AV × List AC} (h : rx_X4_settle n pc L st M = some x) (hk : n ≤ k) : rx_X4_settle k pc L st M = some x := am_r_mono n k h hk
def fn_X4_settle : Fn := am_fn rx_X4_settle 4
theorem fok_X4_settle : Fok mi_X4_settle fn_X4_settle := fun _ _ _ _ h => am_fok ok_X4_settle rk_X4_settle rfl h
theorem lp_X4_settle {k : Nat} {st : Int} {g s b : F4} : ∀ (n : Nat) (d : F4) (M : List AC) (z j : Int) (x3 : Option AV), HS M k st g s d b → SR st g s d b → j + n = 4 → 0 ≤ j → am_nl [some (vR k), some (vI z), some (vI j), x3] 3 = true → Ru rx_X4_settle (40 * n + 10) 4 [some (vR k), some (vI z), some (vI j), x3] [] M (some (vI (sl st g s b n d z).2), M.set (k + 3) (aI (l4 (sl st g s b n d z).1)))
  | 0, d, M, z, j, x3, hs, hr, hj, h0, hn => by
    have e : j = 4 := by omega
    subst e
    have hm := set_same hs.2.2.2.2.1
    refine ⟨10, by omega, ?_⟩
    simp [↓ri_X4_settle, rs_X4_settle_0, rs_X4_settle_1, rs_X4_settle_2, rs_X4_settle_3, rs_X4_settle_4, rs_X4_settle_5, rs_X4_settle_6, rs_X4_settle_9, rs_X4_settle_10, rs_X4_settle_13, rs_X4_settle_14, rs_X4_settle_15, rs_X4_settle_17, rs_X4_settle_20, rs_X4_settle_23, rs_X4_settle_24, rs_X4_settle_27, rs_X4_settle_28, rs_X4_settle_29, rs_X4_settle_30, rs_X4_settle_31, rs_X4_settle_32, rs_X4_settle_33, rs_X4_settle_34, rs_X4_settle_35, rs_X4_settle_36, rs_X4_settle_39, rs_X4_settle_42, rs_X4_settle_43, -List.getElem?_eq_getElem, am_js, am_e, am_in, am_sl, rI, rZ, rV, rJ, rA, rC, kI, kJ, kR, am_one, am_nl, am_w8, tIc, tLc, tNul, tIld, tLld, tAld, tIst, tLst, tAst, tIinc, tI2, tDv, tL2, tLrem, tLs, tLcmp, tI2l, tL2i, tI2c, tDup, tDup2, tPop, tGo, tIfeq, tIfne, tIflt, tIfge, tIfgt, tIfle, tCmeq, tCmne, tCmlt, tCmge, tCmgt, tCmle, tNu, tTs, tGf, tPf, tGs, tIal, tIas, tBal, tBas, tAln, tSv, tSc, tSb, tSl, tSk, tCv, tCs, tCt, tMx, tMn, wr_10000, wr_100000, wr_1000000, wr_10000000, wr_100000000, wr_2400, wr_9999, wr_0, wr_1, wr_2, wr_3, wr_4, wr_5, wr_6, wr_7, wr_8, wr_9, wr_10, wr_11, wr_12, wr_13, wr_14, wr_15, wr_16, wr_17, wr_18, wr_19, wr_20, wr_21, wr_22, wr_23, wr_24, wr_25, wr_26, wr_27, wr_28, wr_29, wr_30, wr_31, wr_32, wr_33, wr_34, wr_35, wr_36, wr_37, wr_38, wr_39, wr_40, wr_41, wr_42, wr_43, wr_44, wr_45, wr_46, wr_47, wr_48, wr_49, wr_50, wr_51, wr_52, wr_53, wr_54, wr_55, wr_56, wr_57, wr_58, wr_59, wr_60, wr_61, wr_62, wr_63, wr_99, wr_100, wr_192, wr_255, wr_256, wr_343, wr_999, wr_1000, wr_2401, wr_2147483647, wr_65535, wr_m1, wr_m2, wr_m3, wr_m4, wr_m9, ak_1000, ak_1001, ak_1002, ak_0, ak_1, ak_2, ak_3, ak_4, ak_5, ak_6, ak_7, ak_8, ak_9, ak_10, ak_11, ak_12, ak_13, ak_14, ak_15, ak_16, ak_17, ak_18, ak_19, ak_20, ak_21, ak_22, ak_23, ak_24, ak_25, ak_26, ak_27, ak_28, ak_29, ak_30, ak_31, ak_32, ak_33, ak_34, ak_35, ak_36, ak_37, ak_38, ak_39, ak_40, ak_41, ak_42, ak_43, ak_44, ak_45, ak_46, ak_47, sl, hm]
  | n + 1, d, M, z, j, x3, hs, hr, hj, h0, hn => by
    have wj : wr j = j := wr_id (by omega) (by omega)
    have nj : ¬ 4 ≤ j := by omega
    obtain ⟨hk, h0', h1, h2, h3, h4⟩ := id hs
    obtain ⟨n1, n2, n3, n4⟩ := hs.nk
    by_cases hf : fs st g s d b = -9
    · have hm := set_same hs.2.2.2.2.1
      refine ⟨40, by omega, ?_⟩
      rcases x3 with _ | x3 <;>
      simp [↓ri_X4_settle, rs_X4_settle_0, rs_X4_settle_1, rs_X4_settle_2, rs_X4_settle_3, rs_X4_settle_4, rs_X4_settle_5, rs_X4_settle_6, rs_X4_settle_9, rs_X4_settle_10, rs_X4_settle_13, rs_X4_settle_14, rs_X4_settle_15, rs_X4_settle_17, rs_X4_settle_20, rs_X4_settle_23, rs_X4_settle_24, rs_X4_settle_27, rs_X4_settle_28, rs_X4_settle_29, rs_X4_settle_30, rs_X4_settle_31, rs_X4_settle_32, rs_X4_settle_33, rs_X4_settle_34, rs_X4_settle_35, rs_X4_settle_36, rs_X4_settle_39, rs_X4_settle_42, rs_X4_settle_43, -List.getElem?_eq_getElem, am_js, am_e, am_in, am_sl, rI, rZ, rV, rJ, rA, rC, kI, kJ, kR, am_one, am_nl, am_w8, tIc, tLc, tNul, tIld, tLld, tAld, tIst, tLst, tAst, tIinc, tI2, tDv, tL2, tLrem, tLs, tLcmp, tI2l, tL2i, tI2c, tDup, tDup2, tPop, tGo, tIfeq, tIfne, tIflt, tIfge, tIfgt, tIfle, tCmeq, tCmne, tCmlt, tCmge, tCmgt, tCmle, tNu, tTs, tGf, tPf, tGs, tIal, tIas, tBal, tBas, tAln, tSv, tSc, tSb, tSl, tSk, tCv, tCs, tCt, tMx, tMn, wr_10000, wr_100000, wr_1000000, wr_10000000, wr_100000000, wr_2400, wr_9999, wr_0, wr_1, wr_2, wr_3, wr_4, wr_5, wr_6, wr_7, wr_8, wr_9, wr_10, wr_11, wr_12, wr_13, wr_14, wr_15, wr_16, wr_17, wr_18, wr_19, wr_20, wr_21, wr_22, wr_23, wr_24, wr_25, wr_26, wr_27, wr_28, wr_29, wr_30, wr_31, wr_32, wr_33, wr_34, wr_35, wr_36, wr_37, wr_38, wr_39, wr_40, wr_41, wr_42, wr_43, wr_44, wr_45, wr_46, wr_47, wr_48, wr_49, wr_50, wr_51, wr_52, wr_53, wr_54, wr_55, wr_56, wr_57, wr_58, wr_59, wr_60, wr_61, wr_62, wr_63, wr_99, wr_100, wr_192, wr_255, wr_256, wr_343, wr_999, wr_1000, wr_2401, wr_2147483647, wr_65535, wr_m1, wr_m2, wr_m3, wr_m4, wr_m9, ak_1000, ak_1001, ak_1002, ak_0, ak_1, ak_2, ak_3, ak_4, ak_5, ak_6, ak_7, ak_8, ak_9, ak_10, ak_11, ak_12, ak_13, ak_14, ak_15, ak_16, ak_17, ak_18, ak_19, ak_20, ak_21, ak_22, ak_23, ak_24, ak_25, ak_26, ak_27, ak_28, ak_29, ak_30, ak_31, ak_32, ak_33, ak_34, ak_35, ak_36, ak_37, ak_38, ak_39, ak_40, ak_41, ak_42, ak_43, ak_44, ak_45, ak_46, ak_47, sl, hm, wj, nj, sp_X4_firstToSlip hs hr, hf, h0']
    · have hf2 : 0 ≤ fs st g s d b ∧ fs st g s d b < 4 := by
        rcases fm_rng (ex st g s d b 0) (ex st g s d b 1) (ex st g s d b 2) (ex st g s d b 3) with h | h
        · exact absurd h hf
        · exact h
      have hs' := hs.setD (s4 d (fs st g s d b).toNat 0)
      have hr' := hr.setD (fs st g s d b).toNat (v := 0) (by omega) (by omega)
      have ih := lp_X4_settle n _ _ (oOr z (oShl 1 (fs st g s d b))) (j + 1) (some (vI (fs st g s d b))) hs' hr' (by omega) (by omega) rfl
      have e : sl st g s b (n + 1) d z = sl st g s b n (s4 d (fs st g s d b).toNat 0) (oOr z (oShl 1 (fs st g s d b))) := by rw [sl, if_neg hf]
      rw [e]
      rw [List.set_set] at ih
      generalize sl st g s b n (s4 d (fs st g s d b).toNat 0) (oOr z (oShl 1 (fs st g s d b))) = q at ih ⊢
      obtain ⟨m, hm, h⟩ := ih
      refine ⟨m + 39 + 1, by omega, ?_⟩
      rw [rs_X4_settle_4]
      have hfs := sp_X4_firstToSlip hs hr
      generalize fs st g s d b = c at hf hf2 hfs h ⊢
      rcases x3 with _ | x3 <;> rcases c4 hf2 with rfl | rfl | rfl | rfl <;>
      simp [↓ri_X4_settle, rs_X4_settle_0, rs_X4_settle_1, rs_X4_settle_2, rs_X4_settle_3, rs_X4_settle_5, rs_X4_settle_6, rs_X4_settle_9, rs_X4_settle_10, rs_X4_settle_13, rs_X4_settle_14, rs_X4_settle_15, rs_X4_settle_17, rs_X4_settle_20, rs_X4_settle_23, rs_X4_settle_24, rs_X4_settle_27, rs_X4_settle_28, rs_X4_settle_29, rs_X4_settle_30, rs_X4_settle_31, rs_X4_settle_32, rs_X4_settle_33, rs_X4_settle_34, rs_X4_settle_35, rs_X4_settle_36, rs_X4_settle_39, rs_X4_settle_42, rs_X4_settle_43, -List.getElem?_eq_getElem, am_js, am_e, am_in, am_sl, rI, rZ, rV, rJ, rA, rC, kI, kJ, kR, am_one, am_nl, am_w8, tIc, tLc, tNul, tIld, tLld, tAld, tIst, tLst, tAst, tIinc, tI2, tDv, tL2, tLrem, tLs, tLcmp, tI2l, tL2i, tI2c, tDup, tDup2, tPop, tGo, tIfeq, tIfne, tIflt, tIfge, tIfgt, tIfle, tCmeq, tCmne, tCmlt, tCmge, tCmgt, tCmle, tNu, tTs, tGf, tPf, tGs, tIal, tIas, tBal, tBas, tAln, tSv, tSc, tSb, tSl, tSk, tCv, tCs, tCt, tMx, tMn, wr_10000, wr_100000, wr_1000000, wr_10000000, wr_100000000, wr_2400, wr_9999, wr_0, wr_1, wr_2, wr_3, wr_4, wr_5, wr_6, wr_7, wr_8, wr_9, wr_10, wr_11, wr_12, wr_13, wr_14, wr_15, wr_16, wr_17, wr_18, wr_19, wr_20, wr_21, wr_22, wr_23, wr_24, wr_25, wr_26, wr_27, wr_28, wr_29, wr_30, wr_31, wr_32, wr_33, wr_34, wr_35, wr_36, wr_37, wr_38, wr_39, wr_40, wr_41, wr_42, wr_43, wr_44, wr_45, wr_46, wr_47, wr_48, wr_49, wr_50, wr_51, wr_52, wr_53, wr_54, wr_55, wr_56, wr_57, wr_58, wr_59, wr_60, wr_61, wr_62, wr_63, wr_99, wr_100, wr_192, wr_255, wr_256, wr_343, wr_999, wr_1000, wr_2401, wr_2147483647, wr_65535, wr_m1, wr_m2, wr_m3, wr_m4, wr_m9, ak_1000, ak_1001, ak_1002, ak_0, ak_1, ak_2, ak_3, ak_4, ak_5, ak_6, ak_7, ak_8, ak_9, ak_10, ak_11, ak_12, ak_13, ak_14, ak_15, ak_16, ak_17, ak_18, ak_19, ak_20, ak_21, ak_22, ak_23, ak_24, ak_25, ak_26, ak_27, ak_28, ak_29, ak_30, ak_31, ak_32, ak_33, ak_34, ak_35, ak_36, ak_37, ak_38, ak_39, ak_40, ak_41, ak_42, ak_43, ak_44, ak_45, ak_46, ak_47, wj, nj, hfs, h0', h3, n3] <;>
      exact rm_X4_settle h (by omega)
theorem sp_X4_settle {M : List AC} {k : Nat} {st : Int} {g s d b : F4} (hs : HS M k st g s d b) (hr : SR st g s d b) : fn_X4_settle [vR k] M = some (some (vI (sl st g s b 4 d 0).2), M.set (k + 3) (aI (l4 (sl st g s b 4 d 0).1))) := by
  obtain ⟨n, hn, h⟩ := lp_X4_settle 4 d M 0 0 none hs hr (by omega) (by omega) rfl
  (refine am_fnR (tb := tb_X4_settle) (N := 400) (Nat.le_of_ble_eq_true rfl) (Nat.le_of_ble_eq_true rfl) ?_; show Ru rx_X4_settle 400 0 _ _ _ _)
  refine ⟨n + 4, by omega, ?_⟩
  simp [↓ri_X4_settle, rs_X4_settle_0, rs_X4_settle_1, rs_X4_settle_2, rs_X4_settle_3, rs_X4_settle_5, rs_X4_settle_6, rs_X4_settle_9, rs_X4_settle_10, rs_X4_settle_13, rs_X4_settle_14, rs_X4_settle_15, rs_X4_settle_17, rs_X4_settle_20, rs_X4_settle_23, rs_X4_settle_24, rs_X4_settle_27, rs_X4_settle_28, rs_X4_settle_29, rs_X4_settle_30, rs_X4_settle_31, rs_X4_settle_32, rs_X4_settle_33, rs_X4_settle_34, rs_X4_settle_35, rs_X4_settle_36, rs_X4_settle_39, rs_X4_settle_42, rs_X4_settle_43, -List.getElem?_eq_getElem, am_js, am_e, am_in, am_sl, rI, rZ, rV, rJ, rA, rC, kI, kJ, kR, am_one, am_nl, am_w8, tIc, tLc, tNul, tIld, tLld, tAld, tIst, tLst, tAst, tIinc, tI2, tDv, tL2, tLrem, tLs, tLcmp, tI2l, tL2i, tI2c, tDup, tDup2, tPop, tGo, tIfeq, tIfne, tIflt, tIfge, tIfgt, tIfle, tCmeq, tCmne, tCmlt, tCmge, tCmgt, tCmle, tNu, tTs, tGf, tPf, tGs, tIal, tIas, tBal, tBas, tAln, tSv, tSc, tSb, tSl, tSk, tCv, tCs, tCt, tMx, tMn, wr_10000, wr_100000, wr_1000000, wr_10000000, wr_100000000, wr_2400, wr_9999, wr_0, wr_1, wr_2, wr_3, wr_4, wr_5, wr_6, wr_7, wr_8, wr_9, wr_10, wr_11, wr_12, wr_13, wr_14, wr_15, wr_16, wr_17, wr_18, wr_19, wr_20, wr_21, wr_22, wr_23, wr_24, wr_25, wr_26, wr_27, wr_28, wr_29, wr_30, wr_31, wr_32, wr_33, wr_34, wr_35, wr_36, wr_37, wr_38, wr_39, wr_40, wr_41, wr_42, wr_43, wr_44, wr_45, wr_46, wr_47, wr_48, wr_49, wr_50, wr_51, wr_52, wr_53, wr_54, wr_55, wr_56, wr_57, wr_58, wr_59, wr_60, wr_61, wr_62, wr_63, wr_99, wr_100, wr_192, wr_255, wr_256, wr_343, wr_999, wr_1000, wr_2401, wr_2147483647, wr_65535, wr_m1, wr_m2, wr_m3, wr_m4, wr_m9, ak_1000, ak_1001, ak_1002, ak_0, ak_1, ak_2, ak_3, ak_4, ak_5, ak_6, ak_7, ak_8, ak_9, ak_10, ak_11, ak_12, ak_13, ak_14, ak_15, ak_16, ak_17, ak_18, ak_19, ak_20, ak_21, ak_22, ak_23, ak_24, ak_25, ak_26, ak_27, ak_28, ak_29, ak_30, ak_31, ak_32, ak_33, ak_34, ak_35, ak_36, ak_37, ak_38, ak_39, ak_40, ak_41, ak_42, ak_43, ak_44, ak_45, ak_46, ak_47]
  exact h
abbrev mi_X4_riseToRow : Mi := (yX4_riseToRow, cX4_riseToRow, 4, some .boolean, 4)
theorem mf_X4_riseToRow : am_mf mi_X4_riseToRow 1 := ⟨w_co_X4_riseToRow, w_in_X4, ⟨by decide +kernel, by decide +kernel⟩, by decide +kernel, by decide⟩
def tb_X4_riseToRow : List (Nat × Tr) := [(0, tIc 0 1), (1, tIst 2 1), (2, tIld 2 1), (3, tIc 4 1), (4, tCmge 20), (7, tAld 0 1), (8, tGf 4 3), (11, tIld 2 1), (12, tIld 1 1), (13, tIas), (14, tIinc 2 1), (17, tGo 2), (20, tIc 0 1), (21, tIst 2 1), (22, tIld 2 1), (23, tIc 24 2), (25, tCmgt 70), (28, tAld 0 1), (29, tCv 4 0 fn_X4_firstToSlip), (32, tIst 3 1), (33, tIld 3 1), (34, tIc (-9) 2), (36, tCmne 41), (39, tIc 1 1), (41, tAld 0 1), (42, tGf 4 3), (45, tIld 3 1), (46, tIal), (47, tIc 6 2), (49, tCmlt 54), (52, tIc 0 1), (54, tAld 0 1), (55, tGf 4 3), (58, tIld 3 1), (59, tDup2), (60, tIal), (61, tIc 1 1), (62, tI2 (fun a b => a + b)), (63, tIas), (64, tIinc 2 1), (67, tGo 22), (70, tIc 0 1)]
theorem ok_X4_riseToRow : Tok mi_X4_riseToRow tb_X4_riseToRow :=
  Tc (sd_iconst rfl dX4_riseToRow_0) <|
  Tc (sd_istore_n dX4_riseToRow_1) <|
  Tc (sd_iload_n dX4_riseToRow_2) <|
  Tc (sd_iconst rfl dX4_riseToRow_3) <|
  Tc (sd_cm_ge (by decide) dX4_riseToRow_4) <|
  Tc (sd_aload_n dX4_riseToRow_7) <|
  Tc (sd_getf (T := TX4) rfl giX4 (by decide) w_fl_X4_22 dX4_riseToRow_8) <|
  Tc (sd_iload_n dX4_riseToRow_11) <|
  Tc (sd_iload_n dX4_riseToRow_12) <|
  Tc (sd_ias dX4_riseToRow_13) <|
  Tc (sd_iinc dX4_riseToRow_14) <|
  Tc (sd_goto (by decide) dX4_riseToRow_17) <|
  Tc (sd_iconst rfl dX4_riseToRow_20) <|
  Tc (sd_istore_n dX4_riseToRow_21) <|
  Tc (sd_iload_n dX4_riseToRow_22) <|
  Tc (sd_bipush (by decide +kernel) dX4_riseToRow_23) <|
  Tc (sd_cm_gt (by decide) dX4_riseToRow_25) <|
  Tc (sd_aload_n dX4_riseToRow_28) <|
  Tc (sd_cv (T := TX4) fok_X4_firstToSlip mf_X4_firstToSlip rfl w_ml_X4_42 w_im_X4_firstToSlip w_se_X4_firstToSlip (by decide) dX4_riseToRow_29) <|
  Tc (sd_istore_n dX4_riseToRow_32) <|
  Tc (sd_iload_n dX4_riseToRow_33) <|
  Tc (sd_bipush (by decide +kernel) dX4_riseToRow_34) <|
  Tc (sd_cm_ne (by decide) dX4_riseToRow_36) <|
  Tc (sd_iconst rfl dX4_riseToRow_39) <|
  Tc (sd_aload_n dX4_riseToRow_41) <|
  Tc (sd_getf (T := TX4) rfl giX4 (by decide) w_fl_X4_22 dX4_riseToRow_42) <|
  Tc (sd_iload_n dX4_riseToRow_45) <|
  Tc (sd_ial dX4_riseToRow_46) <|
  Tc (sd_bipush (by decide +kernel) dX4_riseToRow_47) <|
  Tc (sd_cm_lt (by decide) dX4_riseToRow_49) <|
  Tc (sd_iconst rfl dX4_riseToRow_52) <|
  Tc (sd_aload_n dX4_riseToRow_54) <|
  Tc (sd_getf (T := TX4) rfl giX4 (by decide) w_fl_X4_22 dX4_riseToRow_55) <|
  Tc (sd_iload_n dX4_riseToRow_58) <|
  Tc (sd_dup2 dX4_riseToRow_59) <|
  Tc (sd_ial dX4_riseToRow_60) <|
  Tc (sd_iconst rfl dX4_riseToRow_61) <|
  Tc (sd_iadd dX4_riseToRow_62) <|
  Tc (sd_ias dX4_riseToRow_63) <|
  Tc (sd_iinc dX4_riseToRow_64) <|
  Tc (sd_goto (by decide) dX4_riseToRow_67) <|
  Tc (sd_iconst rfl dX4_riseToRow_70) <|
  Tn
theorem rk_X4_riseToRow : Rok mi_X4_riseToRow rZ [40, 53, 71] := rk_z dX4_riseToRow_40 <| rk_z dX4_riseToRow_53 <| rk_z dX4_riseToRow_71 <| rk_n
def rx_X4_riseToRow : Nat → Nat → AL → List AV → List AC → Option (Option AV × List AC) := am_r tb_X4_riseToRow rZ [40, 53, 71]
theorem rs_X4_riseToRow_0 (n : Nat) (L : AL) (st : List AV) (M : List AC) : rx_X4_riseToRow (n + 1) 0 L st M = am_j (rx_X4_riseToRow n) ((tIc 0 1) 0 L st M) := rfl
theorem rs_X4_riseToRow_1 (n : Nat) (L : AL) (st : List AV) (M : List AC) : rx_X4_riseToRow (n + 1) 1 L st M = am_j (rx_X4_riseToRow n) ((tIst 2 1) 1 L st M) := rfl
theorem rs_X4_riseToRow_2 (n : Nat) (L : AL) (st : List AV) (M : List AC) : rx_X4_riseToRow (n + 1) 2 L st M = am_j (rx_X4_riseToRow n) ((tIld 2 1) 2 L st M) := rfl
theorem rs_X4_riseToRow_3 (n : Nat) (L : AL) (st : List AV) (M : List AC) : rx_X4_riseToRow (n + 1) 3 L st M = am_j (rx_X4_riseToRow n) ((tIc 4 1) 3 L st M) := rfl
theorem rs_X4_riseToRow_4 (n : Nat) (L : AL) (st : List AV) (M : List AC) : rx_X4_riseToRow (n + 1) 4 L st M = am_j (rx_X4_riseToRow n) ((tCmge 20) 4 L st M) := rfl
theorem rs_X4_riseToRow_7 (n : Nat) (L : AL) (st : List AV) (M : List AC) : rx_X4_riseToRow (n + 1) 7 L st M = am_j (rx_X4_riseToRow n) ((tAld 0 1) 7 L st M) := rfl
theorem rs_X4_riseToRow_8 (n : Nat) (L : AL) (st : List AV) (M : List AC) : rx_X4_riseToRow (n + 1) 8 L st M = am_j (rx_X4_riseToRow n) ((tGf 4 3) 8 L st M) := rfl
theorem rs_X4_riseToRow_11 (n : Nat) (L : AL) (st : List AV) (M : List AC) : rx_X4_riseToRow (n + 1) 11 L st M = am_j (rx_X4_riseToRow n) ((tIld 2 1) 11 L st M) := rfl
theorem rs_X4_riseToRow_12 (n : Nat) (L : AL) (st : List AV) (M : List AC) : rx_X4_riseToRow (n + 1) 12 L st M = am_j (rx_X4_riseToRow n) ((tIld 1 1) 12 L st M) := rfl
theorem rs_X4_riseToRow_13 (n : Nat) (L : AL) (st : List AV) (M : List AC) : rx_X4_riseToRow (n + 1) 13 L st M = am_j (rx_X4_riseToRow n) (tIas 13 L st M) := rfl
theorem rs_X4_riseToRow_14 (n : Nat) (L : AL) (st : List AV) (M : List AC) : rx_X4_riseToRow (n + 1) 14 L st M = am_j (rx_X4_riseToRow n) ((tIinc 2 1) 14 L st M) := rfl
theorem rs_X4_riseToRow_17 (n : Nat) (L : AL) (st : List AV) (M : List AC) : rx_X4_riseToRow (n + 1) 17 L st M = am_j (rx_X4_riseToRow n) ((tGo 2) 17 L st M) := rfl
theorem rs_X4_riseToRow_20 (n : Nat) (L : AL) (st : List AV) (M : List AC) : rx_X4_riseToRow (n + 1) 20 L st M = am_j (rx_X4_riseToRow n) ((tIc 0 1) 20 L st M) := rfl
theorem rs_X4_riseToRow_21 (n : Nat) (L : AL) (st : List AV) (M : List AC) : rx_X4_riseToRow (n + 1) 21 L st M = am_j (rx_X4_riseToRow n) ((tIst 2 1) 21 L st M) := rfl
theorem rs_X4_riseToRow_22 (n : Nat) (L : AL) (st : List AV) (M : List AC) : rx_X4_riseToRow (n + 1) 22 L st M = am_j (rx_X4_riseToRow n) ((tIld 2 1) 22 L st M) := rfl
theorem rs_X4_riseToRow_23 (n : Nat) (L : AL) (st : List AV) (M : List AC) : rx_X4_riseToRow (n + 1) 23 L st M = am_j (rx_X4_riseToRow n) ((tIc 24 2) 23 L st M) := rfl
theorem rs_X4_riseToRow_25 (n : Nat) (L : AL) (st : List AV) (M : List AC) : rx_X4_riseToRow (n + 1) 25 L st M = am_j (rx_X4_riseToRow n) ((tCmgt 70) 25 L st M) := rfl
theorem rs_X4_riseToRow_28 (n : Nat) (L : AL) (st : List AV) (M : List AC) : rx_X4_riseToRow (n + 1) 28 L st M = am_j (rx_X4_riseToRow n) ((tAld 0 1) 28 L st M) := rfl
theorem rs_X4_riseToRow_29 (n : Nat) (L : AL) (st : List AV) (M : List AC) : rx_X4_riseToRow (n + 1) 29 L st M = am_j (rx_X4_riseToRow n) ((tCv 4 0 fn_X4_firstToSlip) 29 L st M) := rfl
theorem rs_X4_riseToRow_32 (n : Nat) (L : AL) (st : List AV) (M : List AC) : rx_X4_riseToRow (n + 1) 32 L st M = am_j (rx_X4_riseToRow n) ((tIst 3 1) 32 L st M) := rfl
theorem rs_X4_riseToRow_33 (n : Nat) (L : AL) (st : List AV) (M : List AC) : rx_X4_riseToRow (n + 1) 33 L st M = am_j (rx_X4_riseToRow n) ((tIld 3 1) 33 L st M) := rfl
theorem rs_X4_riseToRow_34 (n : Nat) (L : AL) (st : List AV) (M : List AC) : rx_X4_riseToRow (n + 1) 34 L st M = am_j (rx_X4_riseToRow n) ((tIc (-9) 2) 34 L st M) := rfl
theorem rs_X4_riseToRow_36 (n : Nat) (L : AL) (st : List AV) (M : List AC) : rx_X4_riseToRow (n + 1) 36 L st M = am_j (rx_X4_riseToRow n) ((tCmne 41) 36 L st M) := rfl
theorem rs_X4_riseToRow_39 (n : Nat) (L : AL) (st : List AV) (M : List AC) : rx_X4_riseToRow (n + 1) 39 L st M = am_j (rx_X4_riseToRow n) ((tIc 1 1) 39 L st M) := rfl
theorem rs_X4_riseToRow_41 (n : Nat) (L : AL) (st : List AV) (M : List AC) : rx_X4_riseToRow (n + 1) 41 L st M = am_j (rx_X4_riseToRow n) ((tAld 0 1) 41 L st M) := rfl
theorem rs_X4_riseToRow_42 (n : Nat) (L : AL) (st : List AV) (M : List AC) : rx_X4_riseToRow (n + 1) 42 L st M = am_j (rx_X4_riseToRow n) ((tGf 4 3) 42 L st M) := rfl
theorem rs_X4_riseToRow_45 (n : Nat) (L : AL) (st : List AV) (M : List AC) : rx_X4_riseToRow (n + 1) 45 L st M = am_j (rx_X4_riseToRow n) ((tIld 3 1) 45 L st M) := rfl
theorem rs_X4_riseToRow_46 (n : Nat) (L : AL) (st : List AV) (M : List AC) : rx_X4_riseToRow (n + 1) 46 L st M = am_j (rx_X4_riseToRow n) (tIal 46 L st M) := rfl
theorem rs_X4_riseToRow_47 (n : Nat) (L : AL) (st : List AV) (M : List AC) : rx_X4_riseToRow (n + 1) 47 L st M = am_j (rx_X4_riseToRow n) ((tIc 6 2) 47 L st M) := rfl
theorem rs_X4_riseToRow_49 (n : Nat) (L : AL) (st : List AV) (M : List AC) : rx_X4_riseToRow (n + 1) 49 L st M = am_j (rx_X4_riseToRow n) ((tCmlt 54) 49 L st M) := rfl
theorem rs_X4_riseToRow_52 (n : Nat) (L : AL) (st : List AV) (M : List AC) : rx_X4_riseToRow (n + 1) 52 L st M = am_j (rx_X4_riseToRow n) ((tIc 0 1) 52 L st M) := rfl
theorem rs_X4_riseToRow_54 (n : Nat) (L : AL) (st : List AV) (M : List AC) : rx_X4_riseToRow (n + 1) 54 L st M = am_j (rx_X4_riseToRow n) ((tAld 0 1) 54 L st M) := rfl
theorem rs_X4_riseToRow_55 (n : Nat) (L : AL) (st : List AV) (M : List AC) : rx_X4_riseToRow (n + 1) 55 L st M = am_j (rx_X4_riseToRow n) ((tGf 4 3) 55 L st M) := rfl
theorem rs_X4_riseToRow_58 (n : Nat) (L : AL) (st : List AV) (M : List AC) : rx_X4_riseToRow (n + 1) 58 L st M = am_j (rx_X4_riseToRow n) ((tIld 3 1) 58 L st M) := rfl
theorem rs_X4_riseToRow_59 (n : Nat) (L : AL) (st : List AV) (M : List AC) : rx_X4_riseToRow (n + 1) 59 L st M = am_j (rx_X4_riseToRow n) (tDup2 59 L st M) := rfl
theorem rs_X4_riseToRow_60 (n : Nat) (L : AL) (st : List AV) (M : List AC) : rx_X4_riseToRow (n + 1) 60 L st M = am_j (rx_X4_riseToRow n) (tIal 60 L st M) := rfl
theorem rs_X4_riseToRow_61 (n : Nat) (L : AL) (st : List AV) (M : List AC) : rx_X4_riseToRow (n + 1) 61 L st M = am_j (rx_X4_riseToRow n) ((tIc 1 1) 61 L st M) := rfl
theorem rs_X4_riseToRow_62 (n : Nat) (L : AL) (st : List AV) (M : List AC) : rx_X4_riseToRow (n + 1) 62 L st M = am_j (rx_X4_riseToRow n) ((tI2 (fun a b => a + b)) 62 L st M) := rfl
theorem rs_X4_riseToRow_63 (n : Nat) (L : AL) (st : List AV) (M : List AC) : rx_X4_riseToRow (n + 1) 63 L st M = am_j (rx_X4_riseToRow n) (tIas 63 L st M) := rfl
theorem rs_X4_riseToRow_64 (n : Nat) (L : AL) (st : List AV) (M : List AC) : rx_X4_riseToRow (n + 1) 64 L st M = am_j (rx_X4_riseToRow n) ((tIinc 2 1) 64 L st M) := rfl
theorem rs_X4_riseToRow_67 (n : Nat) (L : AL) (st : List AV) (M : List AC) : rx_X4_riseToRow (n + 1) 67 L st M = am_j (rx_X4_riseToRow n) ((tGo 22) 67 L st M) := rfl
theorem rs_X4_riseToRow_70 (n : Nat) (L : AL) (st : List AV) (M : List AC) : rx_X4_riseToRow (n + 1) 70 L st M = am_j (rx_X4_riseToRow n) ((tIc 0 1) 70 L st M) := rfl
theorem rs_X4_riseToRow_40 (n : Nat) (L : AL) (st : List AV) (M : List AC) : rx_X4_riseToRow (n + 1) 40 L st M = am_e rZ st M := rfl
theorem rs_X4_riseToRow_53 (n : Nat) (L : AL) (st : List AV) (M : List AC) : rx_X4_riseToRow (n + 1) 53 L st M = am_e rZ st M := rfl
theorem rs_X4_riseToRow_71 (n : Nat) (L : AL) (st : List AV) (M : List AC) : rx_X4_riseToRow (n + 1) 71 L st M = am_e rZ st M := rfl
theorem ri_X4_riseToRow (c : Prop) [Decidable c] (p q n : Nat) (L : AL) (st : List AV) (M : List AC) : rx_X4_riseToRow n (if c then p else q) L st M = if c then rx_X4_riseToRow n p L st M else rx_X4_riseToRow n q L st M := by split <;> rfl
theorem rm_X4_riseToRow {n k pc : Nat} {L : AL} {st : List AV} {M : List AC} {x : Option AV × List AC} (h : rx_X4_riseToRow n pc L st M = some x) (hk : n ≤ k) : rx_X4_riseToRow k pc L st M = some x := am_r_mono n k h hk
def fn_X4_riseToRow : Fn := am_fn rx_X4_riseToRow 4
theorem fok_X4_riseToRow : Fok mi_X4_riseToRow fn_X4_riseToRow := fun _ _ _ _ h => am_fok ok_X4_riseToRow rk_X4_riseToRow rfl h
theorem lp_X4_riseToRow {k : Nat} {st m : Int} {g s b : F4} : ∀ (n : Nat) (d : F4) (M : List AC) (j : Int) (x3 : Option AV), HS M k st g s d b → SR st g s d b → j + n = 25 → 0 ≤ j → am_nl [some (vR k), some (vI m), some (vI j), x3] 3 = true → Ru rx_X4_riseToRow (40 * n + 10) 22 [some (vR k), some (vI m), some (vI j), x3] [] M (some (vI (ri st g s b n d).2), M.set (k + 3) (aI (l4 (ri st g s b n d).1)))
  | 0, d, M, j, x3, hs, hr, hj, h0, hn => by
    have e : j = 25 := by omega
    subst e
    have hm := set_same hs.2.2.2.2.1
    refine ⟨10, by omega, ?_⟩
    simp [↓ri_X4_riseToRow, rs_X4_riseToRow_0, rs_X4_riseToRow_1, rs_X4_riseToRow_2, rs_X4_riseToRow_3, rs_X4_riseToRow_4, rs_X4_riseToRow_7, rs_X4_riseToRow_8, rs_X4_riseToRow_11, rs_X4_riseToRow_12, rs_X4_riseToRow_13, rs_X4_riseToRow_14, rs_X4_riseToRow_17, rs_X4_riseToRow_20, rs_X4_riseToRow_21, rs_X4_riseToRow_22, rs_X4_riseToRow_23, rs_X4_riseToRow_25, rs_X4_riseToRow_28, rs_X4_riseToRow_29, rs_X4_riseToRow_32, rs_X4_riseToRow_33, rs_X4_riseToRow_34, rs_X4_riseToRow_36, rs_X4_riseToRow_39, rs_X4_riseToRow_41, rs_X4_riseToRow_42, rs_X4_riseToRow_45, rs_X4_riseToRow_46, rs_X4_riseToRow_47, rs_X4_riseToRow_49, rs_X4_riseToRow_52, rs_X4_riseToRow_54, rs_X4_riseToRow_55, rs_X4_riseToRow_58, rs_X4_riseToRow_59, rs_X4_riseToRow_60, rs_X4_riseToRow_61, rs_X4_riseToRow_62, rs_X4_riseToRow_63, rs_X4_riseToRow_64, rs_X4_riseToRow_67, rs_X4_riseToRow_70, rs_X4_riseToRow_40, rs_X4_riseToRow_53, rs_X4_riseToRow_71, -List.getElem?_eq_getElem, am_js, am_e, am_in, am_sl, rI, rZ, rV, rJ, rA, rC, kI, kJ, kR, am_one, am_nl, am_w8, tIc, tLc, tNul, tIld, tLld, tAld, tIst, tLst, tAst, tIinc, tI2, tDv, tL2, tLrem, tLs, tLcmp, tI2l, tL2i, tI2c, tDup, tDup2, tPop, tGo, tIfeq, tIfne, tIflt, tIfge, tIfgt, tIfle, tCmeq, tCmne, tCmlt, tCmge, tCmgt, tCmle, tNu, tTs, tGf, tPf, tGs, tIal, tIas, tBal, tBas, tAln, tSv, tSc, tSb, tSl, tSk, tCv, tCs, tCt, tMx, tMn, wr_10000, wr_100000, wr_1000000, wr_10000000, wr_100000000, wr_2400, wr_9999, wr_0, wr_1, wr_2, wr_3, wr_4, wr_5, wr_6, wr_7, wr_8, wr_9, wr_10, wr_11, wr_12, wr_13, wr_14, wr_15, wr_16, wr_17, wr_18, wr_19, wr_20, wr_21, wr_22, wr_23, wr_24, wr_25, wr_26, wr_27, wr_28, wr_29, wr_30, wr_31, wr_32, wr_33, wr_34, wr_35, wr_36, wr_37, wr_38, wr_39, wr_40, wr_41, wr_42, wr_43, wr_44, wr_45, wr_46, wr_47, wr_48, wr_49, wr_50, wr_51, wr_52, wr_53, wr_54, wr_55, wr_56, wr_57, wr_58, wr_59, wr_60, wr_61, wr_62, wr_63, wr_99, wr_100, wr_192, wr_255, wr_256, wr_343, wr_999, wr_1000, wr_2401, wr_2147483647, wr_65535, wr_m1, wr_m2, wr_m3, wr_m4, wr_m9, ak_1000, ak_1001, ak_1002, ak_0, ak_1, ak_2, ak_3, ak_4, ak_5, ak_6, ak_7, ak_8, ak_9, ak_10, ak_11, ak_12, ak_13, ak_14, ak_15, ak_16, ak_17, ak_18, ak_19, ak_20, ak_21, ak_22, ak_23, ak_24, ak_25, ak_26, ak_27, ak_28, ak_29, ak_30, ak_31, ak_32, ak_33, ak_34, ak_35, ak_36, ak_37, ak_38, ak_39, ak_40, ak_41, ak_42, ak_43, ak_44, ak_45, ak_46, ak_47, ri, hm]
  | n + 1, d, M, j, x3, hs, hr, hj, h0, hn => by
    have wj : wr j = j := wr_id (by omega) (by omega)
    have nj : ¬ 24 < j := by omega
    obtain ⟨hk, h0', h1, h2, h3, h4⟩ := id hs
    obtain ⟨n1, n2, n3, n4⟩ := hs.nk
    obtain ⟨-, -, -, ⟨wd0, wd1, wd2, wd3⟩, -⟩ := hr.wr
    by_cases hf : fs st g s d b = -9
    · have hm := set_same hs.2.2.2.2.1
      refine ⟨40, by omega, ?_⟩
      rcases x3 with _ | x3 <;>
      simp [↓ri_X4_riseToRow, rs_X4_riseToRow_0, rs_X4_riseToRow_1, rs_X4_riseToRow_2, rs_X4_riseToRow_3, rs_X4_riseToRow_4, rs_X4_riseToRow_7, rs_X4_riseToRow_8, rs_X4_riseToRow_11, rs_X4_riseToRow_12, rs_X4_riseToRow_13, rs_X4_riseToRow_14, rs_X4_riseToRow_17, rs_X4_riseToRow_20, rs_X4_riseToRow_21, rs_X4_riseToRow_22, rs_X4_riseToRow_23, rs_X4_riseToRow_25, rs_X4_riseToRow_28, rs_X4_riseToRow_29, rs_X4_riseToRow_32, rs_X4_riseToRow_33, rs_X4_riseToRow_34, rs_X4_riseToRow_36, rs_X4_riseToRow_39, rs_X4_riseToRow_41, rs_X4_riseToRow_42, rs_X4_riseToRow_45, rs_X4_riseToRow_46, rs_X4_riseToRow_47, rs_X4_riseToRow_49, rs_X4_riseToRow_52, rs_X4_riseToRow_54, rs_X4_riseToRow_55, rs_X4_riseToRow_58, rs_X4_riseToRow_59, rs_X4_riseToRow_60, rs_X4_riseToRow_61, rs_X4_riseToRow_62, rs_X4_riseToRow_63, rs_X4_riseToRow_64, rs_X4_riseToRow_67, rs_X4_riseToRow_70, rs_X4_riseToRow_40, rs_X4_riseToRow_53, rs_X4_riseToRow_71, -List.getElem?_eq_getElem, am_js, am_e, am_in, am_sl, rI, rZ, rV, rJ, rA, rC, kI, kJ, kR, am_one, am_nl, am_w8, tIc, tLc, tNul, tIld, tLld, tAld, tIst, tLst, tAst, tIinc, tI2, tDv, tL2, tLrem, tLs, tLcmp, tI2l, tL2i, tI2c, tDup, tDup2, tPop, tGo, tIfeq, tIfne, tIflt, tIfge, tIfgt, tIfle, tCmeq, tCmne, tCmlt, tCmge, tCmgt, tCmle, tNu, tTs, tGf, tPf, tGs, tIal, tIas, tBal, tBas, tAln, tSv, tSc, tSb, tSl, tSk, tCv, tCs, tCt, tMx, tMn, wr_10000, wr_100000, wr_1000000, wr_10000000, wr_100000000, wr_2400, wr_9999, wr_0, wr_1, wr_2, wr_3, wr_4, wr_5, wr_6, wr_7, wr_8, wr_9, wr_10, wr_11, wr_12, wr_13, wr_14, wr_15, wr_16, wr_17, wr_18, wr_19, wr_20, wr_21, wr_22, wr_23, wr_24, wr_25, wr_26, wr_27, wr_28, wr_29, wr_30, wr_31, wr_32, wr_33, wr_34, wr_35, wr_36, wr_37, wr_38, wr_39, wr_40, wr_41, wr_42, wr_43, wr_44, wr_45, wr_46, wr_47, wr_48, wr_49, wr_50, wr_51, wr_52, wr_53, wr_54, wr_55, wr_56, wr_57, wr_58, wr_59, wr_60, wr_61, wr_62, wr_63, wr_99, wr_100, wr_192, wr_255, wr_256, wr_343, wr_999, wr_1000, wr_2401, wr_2147483647, wr_65535, wr_m1, wr_m2, wr_m3, wr_m4, wr_m9, ak_1000, ak_1001, ak_1002, ak_0, ak_1, ak_2, ak_3, ak_4, ak_5, ak_6, ak_7, ak_8, ak_9, ak_10, ak_11, ak_12, ak_13, ak_14, ak_15, ak_16, ak_17, ak_18, ak_19, ak_20, ak_21, ak_22, ak_23, ak_24, ak_25, ak_26, ak_27, ak_28, ak_29, ak_30, ak_31, ak_32, ak_33, ak_34, ak_35, ak_36, ak_37, ak_38, ak_39, ak_40, ak_41, ak_42, ak_43, ak_44, ak_45, ak_46, ak_47, ri, hm, wj, nj, sp_X4_firstToSlip hs hr, hf, h0']
    · have hf2 : 0 ≤ fs st g s d b ∧ fs st g s d b < 4 := by
        rcases fm_rng (ex st g s d b 0) (ex st g s d b 1) (ex st g s d b 2) (ex st g s d b 3) with h | h
        · exact absurd h hf
        · exact h
      have hfs := sp_X4_firstToSlip hs hr
      by_cases h6 : 6 ≤ g4 d (fs st g s d b).toNat
      · have hm := set_same hs.2.2.2.2.1
        have e : ri st g s b (n + 1) d = (d, 0) := by rw [ri, if_neg hf, if_pos h6]
        rw [e]
        refine ⟨40, by omega, ?_⟩
        generalize fs st g s d b = c at hf hf2 hfs h6 ⊢
        rcases x3 with _ | x3 <;> rcases c4 hf2 with rfl | rfl | rfl | rfl <;> simp [g4] at h6 <;>
        simp [↓ri_X4_riseToRow, rs_X4_riseToRow_0, rs_X4_riseToRow_1, rs_X4_riseToRow_2, rs_X4_riseToRow_3, rs_X4_riseToRow_4, rs_X4_riseToRow_7, rs_X4_riseToRow_8, rs_X4_riseToRow_11, rs_X4_riseToRow_12, rs_X4_riseToRow_13, rs_X4_riseToRow_14, rs_X4_riseToRow_17, rs_X4_riseToRow_20, rs_X4_riseToRow_21, rs_X4_riseToRow_22, rs_X4_riseToRow_23, rs_X4_riseToRow_25, rs_X4_riseToRow_28, rs_X4_riseToRow_29, rs_X4_riseToRow_32, rs_X4_riseToRow_33, rs_X4_riseToRow_34, rs_X4_riseToRow_36, rs_X4_riseToRow_39, rs_X4_riseToRow_41, rs_X4_riseToRow_42, rs_X4_riseToRow_45, rs_X4_riseToRow_46, rs_X4_riseToRow_47, rs_X4_riseToRow_49, rs_X4_riseToRow_52, rs_X4_riseToRow_54, rs_X4_riseToRow_55, rs_X4_riseToRow_58, rs_X4_riseToRow_59, rs_X4_riseToRow_60, rs_X4_riseToRow_61, rs_X4_riseToRow_62, rs_X4_riseToRow_63, rs_X4_riseToRow_64, rs_X4_riseToRow_67, rs_X4_riseToRow_70, rs_X4_riseToRow_40, rs_X4_riseToRow_53, rs_X4_riseToRow_71, -List.getElem?_eq_getElem, am_js, am_e, am_in, am_sl, rI, rZ, rV, rJ, rA, rC, kI, kJ, kR, am_one, am_nl, am_w8, tIc, tLc, tNul, tIld, tLld, tAld, tIst, tLst, tAst, tIinc, tI2, tDv, tL2, tLrem, tLs, tLcmp, tI2l, tL2i, tI2c, tDup, tDup2, tPop, tGo, tIfeq, tIfne, tIflt, tIfge, tIfgt, tIfle, tCmeq, tCmne, tCmlt, tCmge, tCmgt, tCmle, tNu, tTs, tGf, tPf, tGs, tIal, tIas, tBal, tBas, tAln, tSv, tSc, tSb, tSl, tSk, tCv, tCs, tCt, tMx, tMn, wr_10000, wr_100000, wr_1000000, wr_10000000, wr_100000000, wr_2400, wr_9999, wr_0, wr_1, wr_2, wr_3, wr_4, wr_5, wr_6, wr_7, wr_8, wr_9, wr_10, wr_11, wr_12, wr_13, wr_14, wr_15, wr_16, wr_17, wr_18, wr_19, wr_20, wr_21, wr_22, wr_23, wr_24, wr_25, wr_26, wr_27, wr_28, wr_29, wr_30, wr_31, wr_32, wr_33, wr_34, wr_35, wr_36, wr_37, wr_38, wr_39, wr_40, wr_41, wr_42, wr_43, wr_44, wr_45, wr_46, wr_47, wr_48, wr_49, wr_50, wr_51, wr_52, wr_53, wr_54, wr_55, wr_56, wr_57, wr_58, wr_59, wr_60, wr_61, wr_62, wr_63, wr_99, wr_100, wr_192, wr_255, wr_256, wr_343, wr_999, wr_1000, wr_2401, wr_2147483647, wr_65535, wr_m1, wr_m2, wr_m3, wr_m4, wr_m9, ak_1000, ak_1001, ak_1002, ak_0, ak_1, ak_2, ak_3, ak_4, ak_5, ak_6, ak_7, ak_8, ak_9, ak_10, ak_11, ak_12, ak_13, ak_14, ak_15, ak_16, ak_17, ak_18, ak_19, ak_20, ak_21, ak_22, ak_23, ak_24, ak_25, ak_26, ak_27, ak_28, ak_29, ak_30, ak_31, ak_32, ak_33, ak_34, ak_35, ak_36, ak_37, ak_38, ak_39, ak_40, ak_41, ak_42, ak_43, ak_44, ak_45, ak_46, ak_47, wj, nj, hfs, h0', h3, n3, wd0, wd1, wd2, wd3, hm] <;> omega
      · have hb := i4_g hr.2.2.2.1 (fs st g s d b).toNat
        have hs' := hs.setD (s4 d (fs st g s d b).toNat (g4 d (fs st g s d b).toNat + 1))
        have hr' := hr.setD (fs st g s d b).toNat (v := g4 d (fs st g s d b).toNat + 1) (by omega) (by omega)
        have ih := lp_X4_riseToRow (m := m) n _ _ (j + 1) (some (vI (fs st g s d b))) hs' hr' (by omega) (by omega) rfl
        have e : ri st g s b (n + 1) d = ri st g s b n (s4 d (fs st g s d b).toNat (g4 d (fs st g s d b).toNat + 1)) := by rw [ri, if_neg hf, if_neg h6]
        rw [e]
        rw [List.set_set] at ih
        generalize ri st g s b n (s4 d (fs st g s d b).toNat (g4 d (fs st g s d b).toNat + 1)) = q at ih ⊢
        obtain ⟨m', hm, h⟩ := ih
        refine ⟨m' + 39 + 1, by omega, ?_⟩
        rw [rs_X4_riseToRow_22]
        generalize fs st g s d b = c at hf hf2 hfs h h6 ⊢
        rcases x3 with _ | x3 <;> rcases c4 hf2 with rfl | rfl | rfl | rfl <;> simp [g4] at h6 <;>
        simp [↓ri_X4_riseToRow, rs_X4_riseToRow_0, rs_X4_riseToRow_1, rs_X4_riseToRow_2, rs_X4_riseToRow_3, rs_X4_riseToRow_4, rs_X4_riseToRow_7, rs_X4_riseToRow_8, rs_X4_riseToRow_11, rs_X4_riseToRow_12, rs_X4_riseToRow_13, rs_X4_riseToRow_14, rs_X4_riseToRow_17, rs_X4_riseToRow_20, rs_X4_riseToRow_21, rs_X4_riseToRow_23, rs_X4_riseToRow_25, rs_X4_riseToRow_28, rs_X4_riseToRow_29, rs_X4_riseToRow_32, rs_X4_riseToRow_33, rs_X4_riseToRow_34, rs_X4_riseToRow_36, rs_X4_riseToRow_39, rs_X4_riseToRow_41, rs_X4_riseToRow_42, rs_X4_riseToRow_45, rs_X4_riseToRow_46, rs_X4_riseToRow_47, rs_X4_riseToRow_49, rs_X4_riseToRow_52, rs_X4_riseToRow_54, rs_X4_riseToRow_55, rs_X4_riseToRow_58, rs_X4_riseToRow_59, rs_X4_riseToRow_60, rs_X4_riseToRow_61, rs_X4_riseToRow_62, rs_X4_riseToRow_63, rs_X4_riseToRow_64, rs_X4_riseToRow_67, rs_X4_riseToRow_70, rs_X4_riseToRow_40, rs_X4_riseToRow_53, rs_X4_riseToRow_71, -List.getElem?_eq_getElem, am_js, am_e, am_in, am_sl, rI, rZ, rV, rJ, rA, rC, kI, kJ, kR, am_one, am_nl, am_w8, tIc, tLc, tNul, tIld, tLld, tAld, tIst, tLst, tAst, tIinc, tI2, tDv, tL2, tLrem, tLs, tLcmp, tI2l, tL2i, tI2c, tDup, tDup2, tPop, tGo, tIfeq, tIfne, tIflt, tIfge, tIfgt, tIfle, tCmeq, tCmne, tCmlt, tCmge, tCmgt, tCmle, tNu, tTs, tGf, tPf, tGs, tIal, tIas, tBal, tBas, tAln, tSv, tSc, tSb, tSl, tSk, tCv, tCs, tCt, tMx, tMn, wr_10000, wr_100000, wr_1000000, wr_10000000, wr_100000000, wr_2400, wr_9999, wr_0, wr_1, wr_2, wr_3, wr_4, wr_5, wr_6, wr_7, wr_8, wr_9, wr_10, wr_11, wr_12, wr_13, wr_14, wr_15, wr_16, wr_17, wr_18, wr_19, wr_20, wr_21, wr_22, wr_23, wr_24, wr_25, wr_26, wr_27, wr_28, wr_29, wr_30, wr_31, wr_32, wr_33, wr_34, wr_35, wr_36, wr_37, wr_38, wr_39, wr_40, wr_41, wr_42, wr_43, wr_44, wr_45, wr_46, wr_47, wr_48, wr_49, wr_50, wr_51, wr_52, wr_53, wr_54, wr_55, wr_56, wr_57, wr_58, wr_59, wr_60, wr_61, wr_62, wr_63, wr_99, wr_100, wr_192, wr_255, wr_256, wr_343, wr_999, wr_1000, wr_2401, wr_2147483647, wr_65535, wr_m1, wr_m2, wr_m3, wr_m4, wr_m9, ak_1000, ak_1001, ak_1002, ak_0, ak_1, ak_2, ak_3, ak_4, ak_5, ak_6, ak_7, ak_8, ak_9, ak_10, ak_11, ak_12, ak_13, ak_14, ak_15, ak_16, ak_17, ak_18, ak_19, ak_20, ak_21, ak_22, ak_23, ak_24, ak_25, ak_26, ak_27, ak_28, ak_29, ak_30, ak_31, ak_32, ak_33, ak_34, ak_35, ak_36, ak_37, ak_38, ak_39, ak_40, ak_41, ak_42, ak_43, ak_44, ak_45, ak_46, ak_47, wj, nj, hfs, h0', h3, n3, wd0, wd1, wd2, wd3, h6] <;>
        exact rm_X4_riseToRow h (by omega)
theorem sp_X4_riseToRow {M : List AC} {k : Nat} {st : Int} {g s d b : F4} (hs : HS M k st g s d b) (hr : SR st g s d b) (m : Int) (hm : 0 ≤ m ∧ m ≤ 6) : fn_X4_riseToRow [vR k, vI m] M = some (some (vI (ri st g s b 25 (m, m, m, m)).2), M.set (k + 3) (aI (l4 (ri st g s b 25 (m, m, m, m)).1))) := by
  obtain ⟨hk, h0', h1, h2, h3, h4⟩ := id hs
  obtain ⟨n1, n2, n3, n4⟩ := hs.nk
  have hl : ∀ c : AC, (M.set (k + 3) c)[k + 3]? = some c := fun c => List.getElem?_set_self (len_of h3)
  have hr' : SR st g s (m, m, m, m) b := ⟨hr.1, hr.2.1, hr.2.2.1, ⟨hm, hm, hm, hm⟩, hr.2.2.2.2⟩
  obtain ⟨n, hn, h⟩ := lp_X4_riseToRow (m := m) 25 (m, m, m, m) _ 0 none (hs.setD (m, m, m, m)) hr' (by omega) (by omega) rfl
  rw [List.set_set] at h
  (refine am_fnR (tb := tb_X4_riseToRow) (N := 2000) (Nat.le_of_ble_eq_true rfl) (Nat.le_of_ble_eq_true rfl) ?_; show Ru rx_X4_riseToRow 2000 0 _ _ _ _)
  refine ⟨n + 80, by omega, ?_⟩
  simp [↓ri_X4_riseToRow, rs_X4_riseToRow_0, rs_X4_riseToRow_1, rs_X4_riseToRow_2, rs_X4_riseToRow_3, rs_X4_riseToRow_4, rs_X4_riseToRow_7, rs_X4_riseToRow_8, rs_X4_riseToRow_11, rs_X4_riseToRow_12, rs_X4_riseToRow_13, rs_X4_riseToRow_14, rs_X4_riseToRow_17, rs_X4_riseToRow_20, rs_X4_riseToRow_21, rs_X4_riseToRow_23, rs_X4_riseToRow_25, rs_X4_riseToRow_28, rs_X4_riseToRow_29, rs_X4_riseToRow_32, rs_X4_riseToRow_33, rs_X4_riseToRow_34, rs_X4_riseToRow_36, rs_X4_riseToRow_39, rs_X4_riseToRow_41, rs_X4_riseToRow_42, rs_X4_riseToRow_45, rs_X4_riseToRow_46, rs_X4_riseToRow_47, rs_X4_riseToRow_49, rs_X4_riseToRow_52, rs_X4_riseToRow_54, rs_X4_riseToRow_55, rs_X4_riseToRow_58, rs_X4_riseToRow_59, rs_X4_riseToRow_60, rs_X4_riseToRow_61, rs_X4_riseToRow_62, rs_X4_riseToRow_63, rs_X4_riseToRow_64, rs_X4_riseToRow_67, rs_X4_riseToRow_70, rs_X4_riseToRow_40, rs_X4_riseToRow_53, rs_X4_riseToRow_71, -List.getElem?_eq_getElem, am_js, am_e, am_in, am_sl, rI, rZ, rV, rJ, rA, rC, kI, kJ, kR, am_one, am_nl, am_w8, tIc, tLc, tNul, tIld, tLld, tAld, tIst, tLst, tAst, tIinc, tI2, tDv, tL2, tLrem, tLs, tLcmp, tI2l, tL2i, tI2c, tDup, tDup2, tPop, tGo, tIfeq, tIfne, tIflt, tIfge, tIfgt, tIfle, tCmeq, tCmne, tCmlt, tCmge, tCmgt, tCmle, tNu, tTs, tGf, tPf, tGs, tIal, tIas, tBal, tBas, tAln, tSv, tSc, tSb, tSl, tSk, tCv, tCs, tCt, tMx, tMn, wr_10000, wr_100000, wr_1000000, wr_10000000, wr_100000000, wr_2400, wr_9999, wr_0, wr_1, wr_2, wr_3, wr_4, wr_5, wr_6, wr_7, wr_8, wr_9, wr_10, wr_11, wr_12, wr_13, wr_14, wr_15, wr_16, wr_17, wr_18, wr_19, wr_20, wr_21, wr_22, wr_23, wr_24, wr_25, wr_26, wr_27, wr_28, wr_29, wr_30, wr_31, wr_32, wr_33, wr_34, wr_35, wr_36, wr_37, wr_38, wr_39, wr_40, wr_41, wr_42, wr_43, wr_44, wr_45, wr_46, wr_47, wr_48, wr_49, wr_50, wr_51, wr_52, wr_53, wr_54, wr_55, wr_56, wr_57, wr_58, wr_59, wr_60, wr_61, wr_62, wr_63, wr_99, wr_100, wr_192, wr_255, wr_256, wr_343, wr_999, wr_1000, wr_2401, wr_2147483647, wr_65535, wr_m1, wr_m2, wr_m3, wr_m4, wr_m9, ak_1000, ak_1001, ak_1002, ak_0, ak_1, ak_2, ak_3, ak_4, ak_5, ak_6, ak_7, ak_8, ak_9, ak_10, ak_11, ak_12, ak_13, ak_14, ak_15, ak_16, ak_17, ak_18, ak_19, ak_20, ak_21, ak_22, ak_23, ak_24, ak_25, ak_26, ak_27, ak_28, ak_29, ak_30, ak_31, ak_32, ak_33, ak_34, ak_35, ak_36, ak_37, ak_38, ak_39, ak_40, ak_41, ak_42, ak_43, ak_44, ak_45, ak_46, ak_47, h0', h3, n3, hl]
  exact rm_X4_riseToRow h (by omega)
end
