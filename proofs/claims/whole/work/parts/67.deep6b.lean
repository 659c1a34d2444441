noncomputable section
abbrev mi_X6_deepest : Mi := (yX6_deepest, cX6_deepest, 2, some .int, 8)
theorem mf_X6_deepest : am_mf mi_X6_deepest 0 := ⟨w_co_X6_deepest, w_in_X6, ⟨by decide +kernel, by decide +kernel⟩, by decide +kernel, by decide⟩
def tb_X6_deepest : List (Nat × Tr) := [(0, tAld 0 1), (1, tCv 6 0 fn_X6_layNow), (4, tIc 6 2), (6, tIst 1 1), (7, tIld 1 1), (8, tIfle 31), (11, tAld 0 1), (12, tIld 1 1), (13, tCv 6 1 fn_X6_findRows), (16, tAld 0 1), (17, tGf 6 14), (20, tIfle 25), (23, tIld 1 1), (25, tIinc 1 (-1)), (28, tGo 7), (31, tIc 0 1)]
theorem ok_X6_deepest : Tok mi_X6_deepest tb_X6_deepest :=
  Tc (sd_aload_n dX6_deepest_0) <|
  Tc (sd_cv (T := TX6) fok_X6_layNow mf_X6_layNow rfl w_ml_X6_115 w_im_X6_layNow w_se_X6_layNow (by decide) dX6_deepest_1) <|
  Tc (sd_bipush (by decide +kernel) dX6_deepest_4) <|
  Tc (sd_istore_n dX6_deepest_6) <|
  Tc (sd_iload_n dX6_deepest_7) <|
  Tc (sd_if_le (by decide) dX6_deepest_8) <|
  Tc (sd_aload_n dX6_deepest_11) <|
  Tc (sd_iload_n dX6_deepest_12) <|
  Tc (sd_cv (T := TX6) fok_X6_findRows mf_X6_findRows rfl w_ml_X6_171 w_im_X6_findRows w_se_X6_findRows (by decide) dX6_deepest_13) <|
  Tc (sd_aload_n dX6_deepest_16) <|
  Tc (sd_getf (T := TX6) rfl giX6 (by decide) w_fl_X6_155 dX6_deepest_17) <|
  Tc (sd_if_le (by decide) dX6_deepest_20) <|
  Tc (sd_iload_n dX6_deepest_23) <|
  Tc (sd_iinc dX6_deepest_25) <|
  Tc (sd_goto (by decide) dX6_deepest_28) <|
  Tc (sd_iconst rfl dX6_deepest_31) <|
  Tn
theorem rk_X6_deepest : Rok mi_X6_deepest rI [24, 32] := rk_i dX6_deepest_24 <| rk_i dX6_deepest_32 <| rk_n
def rx_X6_deepest : Nat → Nat → AL → List AV → List AC → Option (Option AV × List AC) := am_r tb_X6_deepest rI [24, 32]
theorem rs_X6_deepest_0 (n : Nat) (L : AL) (st : List AV) (M : List AC) : rx_X6_deepest (n + 1) 0 L st M = am_j (rx_X6_deepest n) ((tAld 0 1) 0 L st M) := rfl
theorem rs_X6_deepest_1 (n : Nat) (L : AL) (st : List AV) (M : List AC) : rx_X6_deepest (n + 1) 1 L st M = am_j (rx_X6_deepest n) ((tCv 6 0 fn_X6_layNow) 1 L st M) := rfl
theorem rs_X6_deepest_4 (n : Nat) (L : AL) (st : List AV) (M : List AC) : rx_X6_deepest (n + 1) 4 L st M = am_j (rx_X6_deepest n) ((tIc 6 2) 4 L st M) := rfl
theorem rs_X6_deepest_6 (n : Nat) (L : AL) (st : List AV) (M : List AC) : rx_X6_deepest (n + 1) 6 L st M = am_j (rx_X6_deepest n) ((tIst 1 1) 6 L st M) := rfl
theorem rs_X6_deepest_7 (n : Nat) (L : AL) (st : List AV) (M : List AC) : rx_X6_deepest (n + 1) 7 L st M = am_j (rx_X6_deepest n) ((tIld 1 1) 7 L st M) := rfl
theorem rs_X6_deepest_8 (n : Nat) (L : AL) (st : List AV) (M : List AC) : rx_X6_deepest (n + 1) 8 L st M = am_j (rx_X6_deepest n) ((tIfle 31) 8 L st M) := rfl
theorem rs_X6_deepest_11 (n : Nat) (L : AL) (st : List AV) (M : List AC) : rx_X6_deepest (n + 1) 11 L st M = am_j (rx_X6_deepest n) ((tAld 0 1) 11 L st M) := rfl
theorem rs_X6_deepest_12 (n : Nat) (L : AL) (st : List AV) (M : List AC) : rx_X6_deepest (n + 1) 12 L st M = am_j (rx_X6_deepest n) ((tIld 1 1) 12 L st M) := rfl
theorem rs_X6_deepest_13 (n : Nat) (L : AL) (st : List AV) (M : List AC) : rx_X6_deepest (n + 1) 13 L st M = am_j (rx_X6_deepest n) ((tCv 6 1 fn_X6_findRows) 13 L st M) := rfl
theorem rs_X6_deepest_16 (n : Nat) (L : AL) (st : List AV) (M : List AC) : rx_X6_deepest (n + 1) 16 L st M = am_j (rx_X6_deepest n) ((tAld 0 1) 16 L st M) := rfl
theorem rs_X6_deepest_17 (n : Nat) (L : AL) (st : List AV) (M : List AC) : rx_X6_deepest (n + 1) 17 L st M = am_j (rx_X6_deepest n) ((tGf 6 14) 17 L st M) := rfl
theorem rs_X6_deepest_20 (n : Nat) (L : AL) (st : List AV) (M : List AC) : rx_X6_deepest (n + 1) 20 L st M = am_j (rx_X6_deepest n) ((tIfle 25) 20 L st M) := rfl
theorem rs_X6_deepest_23 (n : Nat) (L : AL) (st : List AV) (M : List AC) : rx_X6_deepest (n + 1) 23 L st M = am_j (rx_X6_deepest n) ((tIld 1 1) 23 L st M) := rfl
theorem rs_X6_deepest_25 (n : Nat) (L : AL) (st : List AV) (M : List AC) : rx_X6_deepest (n + 1) 25 L st M = am_j (rx_X6_deepest n) ((tIinc 1 (-1)) 25 L st M) := rfl
theorem rs_X6_deepest_28 (n : Nat) (L : AL) (st : List AV) (M : List AC) : rx_X6_deepest (n + 1) 28 L st M = am_j (rx_X6_deepest n) ((tGo 7) 28 L st M) := rfl
theorem rs_X6_deepest_31 (n : Nat) (L : AL) (st : List AV) (M : List AC) : rx_X6_deepest (n + 1) 31 L st M = am_j (rx_X6_deepest n) ((tIc 0 1) 31 L st M) := rfl
theorem rs_X6_deepest_24 (n : Nat) (L : AL) (st : List AV) (M : List AC) : rx_X6_deepest (n + 1) 24 L st M = am_e rI st M := rfl
theorem rs_X6_deepest_32 (n : Nat) (L : AL) (st : List AV) (M : List AC) : rx_X6_deepest (n + 1) 32 L st M = am_e rI st M := rfl
theorem ri_X6_deepest (c : Prop) [Decidable c] (p q n : Nat) (L : AL) (st : List AV) (M : List AC) : rx_X6_deepest n (if c then p else q) L st M = if c then rx_X6_deepest n p L st M else rx_X6_deepest n q L st M := by split <;> rfl
theorem rm_X6_deepest {n k pc : Nat} {L : AL} {st : List AV} {M : List AC} {x : Option AV × List AC} (h : rx_X6_deepest n pc L st M = some x) (hk : n ≤ k) : rx_X6_deepest k pc L st M = some x := am_r_mono n k h hk
def fn_X6_deepest : Fn := am_fn rx_X6_deepest 2
theorem fok_X6_deepest : Fok mi_X6_deepest fn_X6_deepest := fun _ _ _ _ h => am_fok ok_X6_deepest rk_X6_deepest rfl h
theorem lp_X6_deepest {st lk len ac nx en lm : Int} {sd : Int64} {g s b : F4} (hst : 1 ≤ st ∧ st ≤ 3) (hg : i4 1 9 g) (hs9 : i4 0 9 s) (hb : i4 0 3 b) : ∀ (n : Nat) (rf lr : Int) (d : F4) (M : List AC), n ≤ 6 → M[26]? = some (mo st lk len ac nx rf lr en lm sd) → M[27]? = some (aI (l4 g)) → M[32]? = some (aI (l4 d)) → M[33]? = some (aI (l4 b)) → M[34]? = some (aI (l4 s)) →
    Ru rx_X6_deepest (40 * n + 10) 7 [some (vR 26), some (vI n)] [] M (some (vI (dpt st g s b n (rf, lr)).1), (M.set 26 (mo st lk len ac nx (dpt st g s b n (rf, lr)).2.1 (dpt st g s b n (rf, lr)).2.2 en lm sd)).set 32 (aI (l4 (if n = 0 then d else (6, 6, 6, 6)))))
  | 0, rf, lr, d, M, hn, h0, h27, h32, h33, h34 => by
    have e1 : (M.set 26 (mo st lk len ac nx rf lr en lm sd)) = M := set_same h0
    refine ⟨9 + 1, by omega, ?_⟩
    rw [rs_X6_deepest_7]
    simp only [dpt, if_true]
    rw [e1, set_same h32]
    simp [↓ri_X6_deepest, rs_X6_deepest_0, rs_X6_deepest_1, rs_X6_deepest_4, rs_X6_deepest_6, rs_X6_deepest_8, rs_X6_deepest_11, rs_X6_deepest_12, rs_X6_deepest_13, rs_X6_deepest_16, rs_X6_deepest_17, rs_X6_deepest_20, rs_X6_deepest_23, rs_X6_deepest_25, rs_X6_deepest_28, rs_X6_deepest_31, rs_X6_deepest_24, rs_X6_deepest_32, -List.getElem?_eq_getElem, am_js, am_e, am_in, am_sl, rI, rZ, rV, rJ, rA, rC, kI, kJ, kR, am_one, am_nl, am_w8, tIc, tLc, tNul, tIld, tLld, tAld, tIst, tLst, tAst, tIinc, tI2, tDv, tL2, tLrem, tLs, tLcmp, tI2l, tL2i, tI2c, tDup, tDup2, tPop, tGo, tIfeq, tIfne, tIflt, tIfge, tIfgt, tIfle, tCmeq, tCmne, tCmlt, tCmge, tCmgt, tCmle, tNu, tTs, tGf, tPf, tGs, tIal, tIas, tBal, tBas, tAln, tSv, tSc, tSb, tSl, tSk, tCv, tCs, tCt, tMx, tMn, wr_10000, wr_100000, wr_1000000, wr_10000000, wr_100000000, wr_2400, wr_9999, wr_0, wr_1, wr_2, wr_3, wr_4, wr_5, wr_6, wr_7, wr_8, wr_9, wr_10, wr_11, wr_12, wr_13, wr_14, wr_15, wr_16, wr_17, wr_18, wr_19, wr_20, wr_21, wr_22, wr_23, wr_24, wr_25, wr_26, wr_27, wr_28, wr_29, wr_30, wr_31, wr_32, wr_33, wr_34, wr_35, wr_36, wr_37, wr_38, wr_39, wr_40, wr_41, wr_42, wr_43, wr_44, wr_45, wr_46, wr_47, wr_48, wr_49, wr_50, wr_51, wr_52, wr_53, wr_54, wr_55, wr_56, wr_57, wr_58, wr_59, wr_60, wr_61, wr_62, wr_63, wr_99, wr_100, wr_192, wr_255, wr_256, wr_343, wr_999, wr_1000, wr_2401, wr_2147483647, wr_65535, wr_m1, wr_m2, wr_m3, wr_m4, wr_m9, ak_1000, ak_1001, ak_1002, ak_0, ak_1, ak_2, ak_3, ak_4, ak_5, ak_6, ak_7, ak_8, ak_9, ak_10, ak_11, ak_12, ak_13, ak_14, ak_15, ak_16, ak_17, ak_18, ak_19, ak_20, ak_21, ak_22, ak_23, ak_24, ak_25, ak_26, ak_27, ak_28, ak_29, ak_30, ak_31, ak_32, ak_33, ak_34, ak_35, ak_36, ak_37, ak_38, ak_39, ak_40, ak_41, ak_42, ak_43, ak_44, ak_45, ak_46, ak_47]
  | n + 1, rf, lr, d, M, hn, h0, h27, h32, h33, h34 => by
    have en1 : ((n + 1 : Nat) : Int) = (n : Int) + 1 := by omega
    rw [en1, if_neg (by omega)]
    have wn : wr ((n : Int) + 1) = (n : Int) + 1 := wr_id (by omega) (by omega)
    have nn : ¬ (n : Int) + 1 ≤ 0 := by omega
    have q2 := sp_X6_findRows h0 h27 h32 h33 h34 hst hg hs9 hb ((n : Int) + 1) (by omega)
    have r2 := fr0_rng st g s b ((n : Int) + 1)
    have ih := lp_X6_deepest (lk := lk) (len := len) (ac := ac) (nx := nx) (en := en) (lm := lm) (sd := sd) hst hg hs9 hb n (fr0 st g s b ((n : Int) + 1)).1 (fr0 st g s b ((n : Int) + 1)).2 (6, 6, 6, 6) ((M.set 26 (mo st lk len ac nx (fr0 st g s b ((n : Int) + 1)).1 (fr0 st g s b ((n : Int) + 1)).2 en lm sd)).set 32 (aI (l4 (6, 6, 6, 6)))) (by omega) (by simp [-List.getElem?_eq_getElem, gs h0]) (by simp [-List.getElem?_eq_getElem, h27]) (by simp [-List.getElem?_eq_getElem, gs h32]) (by simp [-List.getElem?_eq_getElem, h33]) (by simp [-List.getElem?_eq_getElem, h34])
    rw [ite_self] at ih
    rw [dpt]
    generalize fr0 st g s b ((n : Int) + 1) = q at q2 r2 ih ⊢
    have wq : wr q.1 = q.1 := wr_id (by omega) (by omega)
    generalize (n : Int) + 1 = m at wn nn q2 en1 ⊢
    by_cases hz : 0 < q.1
    · rw [if_pos hz]
      have hz' : ¬ q.1 ≤ 0 := by omega
      refine ⟨39 + 1, by omega, ?_⟩
      rw [rs_X6_deepest_7]
      simp only [mo] at q2 ⊢
      simp [↓ri_X6_deepest, rs_X6_deepest_0, rs_X6_deepest_1, rs_X6_deepest_4, rs_X6_deepest_6, rs_X6_deepest_8, rs_X6_deepest_11, rs_X6_deepest_12, rs_X6_deepest_13, rs_X6_deepest_16, rs_X6_deepest_17, rs_X6_deepest_20, rs_X6_deepest_23, rs_X6_deepest_25, rs_X6_deepest_28, rs_X6_deepest_31, rs_X6_deepest_24, rs_X6_deepest_32, -List.getElem?_eq_getElem, am_js, am_e, am_in, am_sl, rI, rZ, rV, rJ, rA, rC, kI, kJ, kR, am_one, am_nl, am_w8, tIc, tLc, tNul, tIld, tLld, tAld, tIst, tLst, tAst, tIinc, tI2, tDv, tL2, tLrem, tLs, tLcmp, tI2l, tL2i, tI2c, tDup, tDup2, tPop, tGo, tIfeq, tIfne, tIflt, tIfge, tIfgt, tIfle, tCmeq, tCmne, tCmlt, tCmge, tCmgt, tCmle, tNu, tTs, tGf, tPf, tGs, tIal, tIas, tBal, tBas, tAln, tSv, tSc, tSb, tSl, tSk, tCv, tCs, tCt, tMx, tMn, wr_10000, wr_100000, wr_1000000, wr_10000000, wr_100000000, wr_2400, wr_9999, wr_0, wr_1, wr_2, wr_3, wr_4, wr_5, wr_6, wr_7, wr_8, wr_9, wr_10, wr_11, wr_12, wr_13, wr_14, wr_15, wr_16, wr_17, wr_18, wr_19, wr_20, wr_21, wr_22, wr_23, wr_24, wr_25, wr_26, wr_27, wr_28, wr_29, wr_30, wr_31, wr_32, wr_33, wr_34, wr_35, wr_36, wr_37, wr_38, wr_39, wr_40, wr_41, wr_42, wr_43, wr_44, wr_45, wr_46, wr_47, wr_48, wr_49, wr_50, wr_51, wr_52, wr_53, wr_54, wr_55, wr_56, wr_57, wr_58, wr_59, wr_60, wr_61, wr_62, wr_63, wr_99, wr_100, wr_192, wr_255, wr_256, wr_343, wr_999, wr_1000, wr_2401, wr_2147483647, wr_65535, wr_m1, wr_m2, wr_m3, wr_m4, wr_m9, ak_1000, ak_1001, ak_1002, ak_0, ak_1, ak_2, ak_3, ak_4, ak_5, ak_6, ak_7, ak_8, ak_9, ak_10, ak_11, ak_12, ak_13, ak_14, ak_15, ak_16, ak_17, ak_18, ak_19, ak_20, ak_21, ak_22, ak_23, ak_24, ak_25, ak_26, ak_27, ak_28, ak_29, ak_30, ak_31, ak_32, ak_33, ak_34, ak_35, ak_36, ak_37, ak_38, ak_39, ak_40, ak_41, ak_42, ak_43, ak_44, ak_45, ak_46, ak_47, h0, mo, wn, nn, q2, gs h0, wq, hz', hz]
    · rw [if_neg hz]
      have hz' : q.1 ≤ 0 := by omega
      have em : m - 1 = (n : Int) := by omega
      have em2 : m + -1 = (n : Int) := by omega
      generalize dpt st g s b n (q.1, q.2) = jj at ih ⊢
      obtain ⟨k, hk, h⟩ := ih
      refine ⟨k + 39 + 1, by omega, ?_⟩
      rw [rs_X6_deepest_7]
      simp [mo, ss (i := 26) (j := 32) (by decide)] at h q2
      simp [↓ri_X6_deepest, rs_X6_deepest_0, rs_X6_deepest_1, rs_X6_deepest_4, rs_X6_deepest_6, rs_X6_deepest_8, rs_X6_deepest_11, rs_X6_deepest_12, rs_X6_deepest_13, rs_X6_deepest_16, rs_X6_deepest_17, rs_X6_deepest_20, rs_X6_deepest_23, rs_X6_deepest_25, rs_X6_deepest_28, rs_X6_deepest_31, rs_X6_deepest_24, rs_X6_deepest_32, -List.getElem?_eq_getElem, am_js, am_e, am_in, am_sl, rI, rZ, rV, rJ, rA, rC, kI, kJ, kR, am_one, am_nl, am_w8, tIc, tLc, tNul, tIld, tLld, tAld, tIst, tLst, tAst, tIinc, tI2, tDv, tL2, tLrem, tLs, tLcmp, tI2l, tL2i, tI2c, tDup, tDup2, tPop, tGo, tIfeq, tIfne, tIflt, tIfge, tIfgt, tIfle, tCmeq, tCmne, tCmlt, tCmge, tCmgt, tCmle, tNu, tTs, tGf, tPf, tGs, tIal, tIas, tBal, tBas, tAln, tSv, tSc, tSb, tSl, tSk, tCv, tCs, tCt, tMx, tMn, wr_10000, wr_100000, wr_1000000, wr_10000000, wr_100000000, wr_2400, wr_9999, wr_0, wr_1, wr_2, wr_3, wr_4, wr_5, wr_6, wr_7, wr_8, wr_9, wr_10, wr_11, wr_12, wr_13, wr_14, wr_15, wr_16, wr_17, wr_18, wr_19, wr_20, wr_21, wr_22, wr_23, wr_24, wr_25, wr_26, wr_27, wr_28, wr_29, wr_30, wr_31, wr_32, wr_33, wr_34, wr_35, wr_36, wr_37, wr_38, wr_39, wr_40, wr_41, wr_42, wr_43, wr_44, wr_45, wr_46, wr_47, wr_48, wr_49, wr_50, wr_51, wr_52, wr_53, wr_54, wr_55, wr_56, wr_57, wr_58, wr_59, wr_60, wr_61, wr_62, wr_63, wr_99, wr_100, wr_192, wr_255, wr_256, wr_343, wr_999, wr_1000, wr_2401, wr_2147483647, wr_65535, wr_m1, wr_m2, wr_m3, wr_m4, wr_m9, ak_1000, ak_1001, ak_1002, ak_0, ak_1, ak_2, ak_3, ak_4, ak_5, ak_6, ak_7, ak_8, ak_9, ak_10, ak_11, ak_12, ak_13, ak_14, ak_15, ak_16, ak_17, ak_18, ak_19, ak_20, ak_21, ak_22, ak_23, ak_24, ak_25, ak_26, ak_27, ak_28, ak_29, ak_30, ak_31, ak_32, ak_33, ak_34, ak_35, ak_36, ak_37, ak_38, ak_39, ak_40, ak_41, ak_42, ak_43, ak_44, ak_45, ak_46, ak_47, h0, mo, wn, nn, q2, gs h0, wq, hz', em, em2, ss (i := 26) (j := 32) (by decide)]
      exact rm_X6_deepest h (by omega)
end
