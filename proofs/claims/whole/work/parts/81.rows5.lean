noncomputable section
/-! the trial sheet: what it becomes -/
def T5 (M : List AC) (st : Int) (g s d b : F4) : List AC := ((((M.set 7 (aO 4 [vI st, vR 8, vR 9, vR 10, vR 11])).set 8 (aI (l4 g))).set 9 (aI (l4 s))).set 10 (aI (l4 d))).set 11 (aI (l4 b))
theorem T5_10 {M : List AC} {st : Int} {g s d b d' : F4} : (T5 M st g s d b).set 10 (aI (l4 d')) = T5 M st g s d' b := by
  simp [T5, ss (i := 7) (j := 8) (by decide), ss (i := 7) (j := 9) (by decide), ss (i := 7) (j := 10) (by decide), ss (i := 7) (j := 11) (by decide), ss (i := 8) (j := 9) (by decide), ss (i := 8) (j := 10) (by decide), ss (i := 8) (j := 11) (by decide), ss (i := 9) (j := 10) (by decide), ss (i := 9) (j := 11) (by decide), ss (i := 10) (j := 11) (by decide)]
theorem T5_9 {M : List AC} {st : Int} {g s d b s' : F4} : (T5 M st g s d b).set 9 (aI (l4 s')) = T5 M st g s' d b := by
  simp [T5, ss (i := 7) (j := 8) (by decide), ss (i := 7) (j := 9) (by decide), ss (i := 7) (j := 10) (by decide), ss (i := 7) (j := 11) (by decide), ss (i := 8) (j := 9) (by decide), ss (i := 8) (j := 10) (by decide), ss (i := 8) (j := 11) (by decide), ss (i := 9) (j := 10) (by decide), ss (i := 9) (j := 11) (by decide), ss (i := 10) (j := 11) (by decide)]
theorem T5_11 {M : List AC} {st : Int} {g s d b b' : F4} : (T5 M st g s d b).set 11 (aI (l4 b')) = T5 M st g s d b' := by
  simp [T5, ss (i := 7) (j := 8) (by decide), ss (i := 7) (j := 9) (by decide), ss (i := 7) (j := 10) (by decide), ss (i := 7) (j := 11) (by decide), ss (i := 8) (j := 9) (by decide), ss (i := 8) (j := 10) (by decide), ss (i := 8) (j := 11) (by decide), ss (i := 9) (j := 10) (by decide), ss (i := 9) (j := 11) (by decide), ss (i := 10) (j := 11) (by decide)]
theorem T5_HS {M : List AC} {st' : Int} {g' s' d' b' : F4} (hs' : HS M 7 st' g' s' d' b') (st : Int) (g s d b : F4) : HS (T5 M st g s d b) 7 st g s d b := by
  obtain ⟨j0, j1, j2, j3, j4⟩ := hs'.seven
  unfold T5
  exact HS.of7 (by simp [-List.getElem?_eq_getElem, j0, gs j0]) (by simp [-List.getElem?_eq_getElem, j1, gs j1]) (by simp [-List.getElem?_eq_getElem, j2, gs j2]) (by simp [-List.getElem?_eq_getElem, j3, gs j3]) (by simp [-List.getElem?_eq_getElem, j4, gs j4])
theorem T5_ne (M : List AC) (st : Int) (g s d b : F4) (i : Nat) (h : i < 7 ∨ 11 < i) : (T5 M st g s d b)[i]? = M[i]? := by
  unfold T5
  rw [List.getElem?_set_ne (by omega), List.getElem?_set_ne (by omega), List.getElem?_set_ne (by omega), List.getElem?_set_ne (by omega), List.getElem?_set_ne (by omega)]
theorem T5_same {M : List AC} {st' : Int} {g' s' d' b' : F4} (hs' : HS M 7 st' g' s' d' b') : T5 M st' g' s' d' b' = M := by
  obtain ⟨j0, j1, j2, j3, j4⟩ := hs'.seven
  unfold T5
  rw [set_same j0, set_same j1, set_same j2, set_same j3, set_same j4]
theorem T5_bec {M : List AC} {st st' : Int} {g s d b g' s' d' b' : F4} (hs : HS M 2 st g s d b) (hs' : HS M 7 st' g' s' d' b') : fn_X4_become [vR 7, vR 2] M = some (none, T5 M st g s d b) := sp_X4_become hs hs'
/-- the least row of m, by rising -/
def rio (st : Int) (g s b : F4) (m : Int) : F4 × Int := ri st g s b 25 (m, m, m, m)
theorem ri_01 (st : Int) (g s b : F4) : ∀ (n : Nat) (d : F4), (ri st g s b n d).2 = 0 ∨ (ri st g s b n d).2 = 1
  | 0, _ => Or.inl rfl
  | n + 1, d => by
    rw [ri]
    split
    · exact Or.inr rfl
    · split
      · exact Or.inl rfl
      · exact ri_01 st g s b n _
theorem rio_01 (st : Int) (g s b : F4) (m : Int) : (rio st g s b m).2 = 0 ∨ (rio st g s b m).2 = 1 := ri_01 st g s b 25 _
theorem T5_rise {M : List AC} {st' : Int} {g' s' d' b' : F4} (hs' : HS M 7 st' g' s' d' b') {st : Int} {g s d b : F4} (hr : SR st g s d b) (m : Int) (hm : 0 ≤ m ∧ m ≤ 6) : fn_X4_riseToRow [vR 7, vI m] (T5 M st g s d b) = some (some (vI (rio st g s b m).2), T5 M st g s (rio st g s b m).1 b) := by
  have q := sp_X4_riseToRow (T5_HS hs' st g s d b) hr m hm
  simp only [Nat.reduceAdd] at q
  rw [T5_10] at q
  exact q
theorem ri_i4 (st : Int) (g s b : F4) : ∀ (n : Nat) (d : F4), i4 0 6 d → i4 0 6 (ri st g s b n d).1
  | 0, _, h => h
  | n + 1, d, h => by
    rw [ri]
    split
    · exact h
    · split
      · exact h
      · next h6 =>
        have := i4_g h (fs st g s d b).toNat
        exact ri_i4 st g s b n _ (i4_s h _ (by omega) (by omega))
theorem rio_i4 (st : Int) (g s b : F4) {m : Int} (hm : 0 ≤ m ∧ m ≤ 6) : i4 0 6 (rio st g s b m).1 := ri_i4 st g s b 25 _ ⟨hm, hm, hm, hm⟩
abbrev mi_X5_rows : Mi := (yX5_rows, cX5_rows, 2, some .int, 5)
theorem mf_X5_rows : am_mf mi_X5_rows 1 := ⟨w_co_X5_rows, w_in_X5, ⟨by decide +kernel, by decide +kernel⟩, by decide +kernel, by decide⟩
def tb_X5_rows : List (Nat × Tr) := [(0, tIld 1 1), (1, tCs 1 fn_X5_isAim), (4, tIfne 10), (7, tIc (-2) 2), (10, tAld 0 1), (11, tGf 5 3), (14, tAld 0 1), (15, tGf 5 2), (18, tCv 4 1 fn_X4_become), (21, tAld 0 1), (22, tGf 5 3), (25, tIld 1 1), (26, tCv 4 1 fn_X4_rowsFrom)]
theorem ok_X5_rows : Tok mi_X5_rows tb_X5_rows :=
  Tc (sd_iload_n dX5_rows_0) <|
  Tc (sd_cs fok_X5_isAim mf_X5_isAim w_ml_X5_165 w_st_X5_isAim (by decide) dX5_rows_1) <|
  Tc (sd_if_ne (by decide) dX5_rows_4) <|
  Tc (sd_bipush (by decide +kernel) dX5_rows_7) <|
  Tc (sd_aload_n dX5_rows_10) <|
  Tc (sd_getf (T := TX5) rfl giX5 (by decide) w_fl_X5_24 dX5_rows_11) <|
  Tc (sd_aload_n dX5_rows_14) <|
  Tc (sd_getf (T := TX5) rfl giX5 (by decide) w_fl_X5_20 dX5_rows_15) <|
  Tc (sd_cv (T := TX4) fok_X4_become mf_X4_become rfl w_ml_X5_124 w_im_X4_become w_se_X4_become (by decide) dX5_rows_18) <|
  Tc (sd_aload_n dX5_rows_21) <|
  Tc (sd_getf (T := TX5) rfl giX5 (by decide) w_fl_X5_24 dX5_rows_22) <|
  Tc (sd_iload_n dX5_rows_25) <|
  Tc (sd_cv (T := TX4) fok_X4_rowsFrom mf_X4_rowsFrom rfl w_ml_X5_168 w_im_X4_rowsFrom w_se_X4_rowsFrom (by decide) dX5_rows_26) <|
  Tn
theorem rk_X5_rows : Rok mi_X5_rows rI [9, 29] := rk_i dX5_rows_9 <| rk_i dX5_rows_29 <| rk_n
def rx_X5_rows : Nat → Nat → AL → List AV → List AC → Option (Option AV × List AC) := am_r tb_X5_rows rI [9, 29]
theorem rs_X5_rows_0 (n : Nat) (L : AL) (st : List AV) (M : List AC) : rx_X5_rows (n + 1) 0 L st M = am_j (rx_X5_rows n) ((tIld 1 1) 0 L st M) := rfl
theorem rs_X5_rows_1 (n : Nat) (L : AL) (st : List AV) (M : List AC) : rx_X5_rows (n + 1) 1 L st M = am_j (rx_X5_rows n) ((tCs 1 fn_X5_isAim) 1 L st M) := rfl
theorem rs_X5_rows_4 (n : Nat) (L : AL) (st : List AV) (M : List AC) : rx_X5_rows (n + 1) 4 L st M = am_j (rx_X5_rows n) ((tIfne 10) 4 L st M) := rfl
theorem rs_X5_rows_7 (n : Nat) (L : AL) (st : List AV) (M : List AC) : rx_X5_rows (n + 1) 7 L st M = am_j (rx_X5_rows n) ((tIc (-2) 2) 7 L st M) := rfl
theorem rs_X5_rows_10 (n : Nat) (L : AL) (st : List AV) (M : List AC) : rx_X5_rows (n + 1) 10 L st M = am_j (rx_X5_rows n) ((tAld 0 1) 10 L st M) := rfl
theorem rs_X5_rows_11 (n : Nat) (L : AL) (st : List AV) (M : List AC) : rx_X5_rows (n + 1) 11 L st M = am_j (rx_X5_rows n) ((tGf 5 3) 11 L st M) := rfl
theorem rs_X5_rows_14 (n : Nat) (L : AL) (st : List AV) (M : List AC) : rx_X5_rows (n + 1) 14 L st M = am_j (rx_X5_rows n) ((tAld 0 1) 14 L st M) := rfl
theorem rs_X5_rows_15 (n : Nat) (L : AL) (st : List AV) (M : List AC) : rx_X5_rows (n + 1) 15 L st M = am_j (rx_X5_rows n) ((tGf 5 2) 15 L st M) := rfl
theorem rs_X5_rows_18 (n : Nat) (L : AL) (st : List AV) (M : List AC) : rx_X5_rows (n + 1) 18 L st M = am_j (rx_X5_rows n) ((tCv 4 1 fn_X4_become) 18 L st M) := rfl
theorem rs_X5_rows_21 (n : Nat) (L : AL) (st : List AV) (M : List AC) : rx_X5_rows (n + 1) 21 L st M = am_j (rx_X5_rows n) ((tAld 0 1) 21 L st M) := rfl
theorem rs_X5_rows_22 (n : Nat) (L : AL) (st : List AV) (M : List AC) : rx_X5_rows (n + 1) 22 L st M = am_j (rx_X5_rows n) ((tGf 5 3) 22 L st M) := rfl
theorem rs_X5_rows_25 (n : Nat) (L : AL) (st : List AV) (M : List AC) : rx_X5_rows (n + 1) 25 L st M = am_j (rx_X5_rows n) ((tIld 1 1) 25 L st M) := rfl
theorem rs_X5_rows_26 (n : Nat) (L : AL) (st : List AV) (M : List AC) : rx_X5_rows (n + 1) 26 L st M = am_j (rx_X5_rows n) ((tCv 4 1 fn_X4_rowsFrom) 26 L st M) := rfl
theorem rs_X5_rows_9 (n : Nat) (L : AL) (st : List AV) (M : List AC) : rx_X5_rows (n + 1) 9 L st M = am_e rI st M := rfl
theorem rs_X5_rows_29 (n : Nat) (L : AL) (st : List AV) (M : List AC) : rx_X5_rows (n + 1) 29 L st M = am_e rI st M := rfl
theorem ri_X5_rows (c : Prop) [Decidable c] (p q n : Nat) (L : AL) (st : List AV) (M : List AC) : rx_X5_rows n (if c then p else q) L st M = if c then rx_X5_rows n p L st M else rx_X5_rows n q L st M := by split <;> rfl
theorem rm_X5_rows {n k pc : Nat} {L : AL} {st : List AV} {M : List AC} {x : Option AV × List AC} (h : rx_X5_rows n pc L st M = some x) (hk : n ≤ k) : rx_X5_rows k pc L st M = some x := am_r_mono n k h hk
def fn_X5_rows : Fn := am_fn rx_X5_rows 2
theorem fok_X5_rows : Fok mi_X5_rows fn_X5_rows := fun _ _ _ _ h => am_fok ok_X5_rows rk_X5_rows rfl h
theorem sp_X5_rows {M : List AC} {len fa ac : Int} {sr : AV} {sd : Int64} (h0 : M[0]? = some (co len fa ac sr sd)) {st : Int} {g s d b : F4} (hs : HS M 2 st g s d b) {st' : Int} {g' s' d' b' : F4} (hs' : HS M 7 st' g' s' d' b') (hr : SR st g s d b) (m : Int) (hm : -2147483648 ≤ m ∧ m < 2147483648) : ∃ (st1 : Int) (g1 s1 d1 b1 : F4), fn_X5_rows [vR 0, vI m] M = some (some (vI (if 1 ≤ m ∧ m ≤ 6 then rw4 st g s b m else -2)), T5 M st1 g1 s1 d1 b1) := by
  have wm : wr m = m := wr_id (by omega) (by omega)
  obtain ⟨j0, -⟩ := hs'.seven
  by_cases hM : 1 ≤ m ∧ m ≤ 6
  · rw [if_pos hM]
    refine ⟨st, g, s, (6, 6, 6, 6), b, ?_⟩
    have q1 := T5_bec hs hs'
    have q2 := sp_X4_rowsFrom (T5_HS hs' st g s d b) hr m hM
    simp only [Nat.reduceAdd] at q2
    rw [T5_10] at q2
    have v0 := (T5_ne M st g s d b 0 (by omega)).trans h0
    have v7 := (T5_HS hs' st g s d b).seven.1
    generalize rw4 st g s b m = W at q2 ⊢
    generalize T5 M st g s d b = V at q1 q2 v0 v7
    simp only [co] at h0 v0
    (refine am_fnI (tb := tb_X5_rows) (n := 60) (Nat.le_of_ble_eq_true rfl) (Nat.le_of_ble_eq_true rfl) ?_; show rx_X5_rows 60 0 _ _ _ = _)
    simp [↓ri_X5_rows, rs_X5_rows_0, rs_X5_rows_1, rs_X5_rows_4, rs_X5_rows_7, rs_X5_rows_10, rs_X5_rows_11, rs_X5_rows_14, rs_X5_rows_15, rs_X5_rows_18, rs_X5_rows_21, rs_X5_rows_22, rs_X5_rows_25, rs_X5_rows_26, rs_X5_rows_9, rs_X5_rows_29, -List.getElem?_eq_getElem, am_js, am_e, am_in, am_sl, rI, rZ, rV, rJ, rA, rC, kI, kJ, kR, am_one, am_nl, am_w8, tIc, tLc, tNul, tIld, tLld, tAld, tIst, tLst, tAst, tIinc, tI2, tDv, tL2, tLrem, tLs, tLcmp, tI2l, tL2i, tI2c, tDup, tDup2, tPop, tGo, tIfeq, tIfne, tIflt, tIfge, tIfgt, tIfle, tCmeq, tCmne, tCmlt, tCmge, tCmgt, tCmle, tNu, tTs, tGf, tPf, tGs, tIal, tIas, tBal, tBas, tAln, tSv, tSc, tSb, tSl, tSk, tCv, tCs, tCt, tMx, tMn, wr_10000, wr_100000, wr_1000000, wr_10000000, wr_100000000, wr_2400, wr_9999, wr_0, wr_1, wr_2, wr_3, wr_4, wr_5, wr_6, wr_7, wr_8, wr_9, wr_10, wr_11, wr_12, wr_13, wr_14, wr_15, wr_16, wr_17, wr_18, wr_19, wr_20, wr_21, wr_22, wr_23, wr_24, wr_25, wr_26, wr_27, wr_28, wr_29, wr_30, wr_31, wr_32, wr_33, wr_34, wr_35, wr_36, wr_37, wr_38, wr_39, wr_40, wr_41, wr_42, wr_43, wr_44, wr_45, wr_46, wr_47, wr_48, wr_49, wr_50, wr_51, wr_52, wr_53, wr_54, wr_55, wr_56, wr_57, wr_58, wr_59, wr_60, wr_61, wr_62, wr_63, wr_99, wr_100, wr_192, wr_255, wr_256, wr_343, wr_999, wr_1000, wr_2401, wr_2147483647, wr_65535, wr_m1, wr_m2, wr_m3, wr_m4, wr_m9, ak_1000, ak_1001, ak_1002, ak_0, ak_1, ak_2, ak_3, ak_4, ak_5, ak_6, ak_7, ak_8, ak_9, ak_10, ak_11, ak_12, ak_13, ak_14, ak_15, ak_16, ak_17, ak_18, ak_19, ak_20, ak_21, ak_22, ak_23, ak_24, ak_25, ak_26, ak_27, ak_28, ak_29, ak_30, ak_31, ak_32, ak_33, ak_34, ak_35, ak_36, ak_37, ak_38, ak_39, ak_40, ak_41, ak_42, ak_43, ak_44, ak_45, ak_46, ak_47, sp_X5_isAim, wm, hM, h0, j0, q1, v0, v7, q2]
  · rw [if_neg hM]
    refine ⟨st', g', s', d', b', ?_⟩
    rw [T5_same hs']
    (refine am_fnI (tb := tb_X5_rows) (n := 60) (Nat.le_of_ble_eq_true rfl) (Nat.le_of_ble_eq_true rfl) ?_; show rx_X5_rows 60 0 _ _ _ = _)
    simp [↓ri_X5_rows, rs_X5_rows_0, rs_X5_rows_1, rs_X5_rows_4, rs_X5_rows_7, rs_X5_rows_10, rs_X5_rows_11, rs_X5_rows_14, rs_X5_rows_15, rs_X5_rows_18, rs_X5_rows_21, rs_X5_rows_22, rs_X5_rows_25, rs_X5_rows_26, rs_X5_rows_9, rs_X5_rows_29, -List.getElem?_eq_getElem, am_js, am_e, am_in, am_sl, rI, rZ, rV, rJ, rA, rC, kI, kJ, kR, am_one, am_nl, am_w8, tIc, tLc, tNul, tIld, tLld, tAld, tIst, tLst, tAst, tIinc, tI2, tDv, tL2, tLrem, tLs, tLcmp, tI2l, tL2i, tI2c, tDup, tDup2, tPop, tGo, tIfeq, tIfne, tIflt, tIfge, tIfgt, tIfle, tCmeq, tCmne, tCmlt, tCmge, tCmgt, tCmle, tNu, tTs, tGf, tPf, tGs, tIal, tIas, tBal, tBas, tAln, tSv, tSc, tSb, tSl, tSk, tCv, tCs, tCt, tMx, tMn, wr_10000, wr_100000, wr_1000000, wr_10000000, wr_100000000, wr_2400, wr_9999, wr_0, wr_1, wr_2, wr_3, wr_4, wr_5, wr_6, wr_7, wr_8, wr_9, wr_10, wr_11, wr_12, wr_13, wr_14, wr_15, wr_16, wr_17, wr_18, wr_19, wr_20, wr_21, wr_22, wr_23, wr_24, wr_25, wr_26, wr_27, wr_28, wr_29, wr_30, wr_31, wr_32, wr_33, wr_34, wr_35, wr_36, wr_37, wr_38, wr_39, wr_40, wr_41, wr_42, wr_43, wr_44, wr_45, wr_46, wr_47, wr_48, wr_49, wr_50, wr_51, wr_52, wr_53, wr_54, wr_55, wr_56, wr_57, wr_58, wr_59, wr_60, wr_61, wr_62, wr_63, wr_99, wr_100, wr_192, wr_255, wr_256, wr_343, wr_999, wr_1000, wr_2401, wr_2147483647, wr_65535, wr_m1, wr_m2, wr_m3, wr_m4, wr_m9, ak_1000, ak_1001, ak_1002, ak_0, ak_1, ak_2, ak_3, ak_4, ak_5, ak_6, ak_7, ak_8, ak_9, ak_10, ak_11, ak_12, ak_13, ak_14, ak_15, ak_16, ak_17, ak_18, ak_19, ak_20, ak_21, ak_22, ak_23, ak_24, ak_25, ak_26, ak_27, ak_28, ak_29, ak_30, ak_31, ak_32, ak_33, ak_34, ak_35, ak_36, ak_37, ak_38, ak_39, ak_40, ak_41, ak_42, ak_43, ak_44, ak_45, ak_46, ak_47, -not_and, sp_X5_isAim, wm, hM]
abbrev mi_X5_rowOf : Mi := (yX5_rowOf, cX5_rowOf, 2, some .int, 5)
theorem mf_X5_rowOf : am_mf mi_X5_rowOf 1 := ⟨w_co_X5_rowOf, w_in_X5, ⟨by decide +kernel, by decide +kernel⟩, by decide +kernel, by decide⟩
def tb_X5_rowOf : List (Nat × Tr) := [(0, tIld 1 1), (1, tCs 1 fn_X5_isAim), (4, tIfne 10), (7, tIc (-2) 2), (10, tAld 0 1), (11, tGf 5 3), (14, tAld 0 1), (15, tGf 5 2), (18, tCv 4 1 fn_X4_become), (21, tAld 0 1), (22, tGf 5 3), (25, tIld 1 1), (26, tCv 4 1 fn_X4_riseToRow), (29, tIfeq 45), (32, tAld 0 1), (33, tGf 5 3), (36, tGf 4 3), (39, tCs 1 fn_X5_asFigures), (42, tGo 47), (45, tIc (-9) 2)]
theorem ok_X5_rowOf : Tok mi_X5_rowOf tb_X5_rowOf :=
  Tc (sd_iload_n dX5_rowOf_0) <|
  Tc (sd_cs fok_X5_isAim mf_X5_isAim w_ml_X5_165 w_st_X5_isAim (by decide) dX5_rowOf_1) <|
  Tc (sd_if_ne (by decide) dX5_rowOf_4) <|
  Tc (sd_bipush (by decide +kernel) dX5_rowOf_7) <|
  Tc (sd_aload_n dX5_rowOf_10) <|
  Tc (sd_getf (T := TX5) rfl giX5 (by decide) w_fl_X5_24 dX5_rowOf_11) <|
  Tc (sd_aload_n dX5_rowOf_14) <|
  Tc (sd_getf (T := TX5) rfl giX5 (by decide) w_fl_X5_20 dX5_rowOf_15) <|
  Tc (sd_cv (T := TX4) fok_X4_become mf_X4_become rfl w_ml_X5_124 w_im_X4_become w_se_X4_become (by decide) dX5_rowOf_18) <|
  Tc (sd_aload_n dX5_rowOf_21) <|
  Tc (sd_getf (T := TX5) rfl giX5 (by decide) w_fl_X5_24 dX5_rowOf_22) <|
  Tc (sd_iload_n dX5_rowOf_25) <|
  Tc (sd_cv (T := TX4) fok_X4_riseToRow mf_X4_riseToRow rfl w_ml_X5_171 w_im_X4_riseToRow w_se_X4_riseToRow (by decide) dX5_rowOf_26) <|
  Tc (sd_if_eq (by decide) dX5_rowOf_29) <|
  Tc (sd_aload_n dX5_rowOf_32) <|
  Tc (sd_getf (T := TX5) rfl giX5 (by decide) w_fl_X5_24 dX5_rowOf_33) <|
  Tc (sd_getf (T := TX4) rfl giX4 (by decide) w_fl_X5_92 dX5_rowOf_36) <|
  Tc (sd_cs fok_X5_asFigures mf_X5_asFigures w_ml_X5_141 w_st_X5_asFigures (by decide) dX5_rowOf_39) <|
  Tc (sd_goto (by decide) dX5_rowOf_42) <|
  Tc (sd_bipush (by decide +kernel) dX5_rowOf_45) <|
  Tn
theorem rk_X5_rowOf : Rok mi_X5_rowOf rI [9, 47] := rk_i dX5_rowOf_9 <| rk_i dX5_rowOf_47 <| rk_n
def rx_X5_rowOf : Nat → Nat → AL → List AV → List AC → Option (Option AV × List AC) := am_r tb_X5_rowOf rI [9, 47]
theorem rs_X5_rowOf_0 (n : Nat) (L : AL) (st : List AV) (M : List AC) : rx_X5_rowOf (n + 1) 0 L st M = am_j (rx_X5_rowOf n) ((tIld 1 1) 0 L st M) := rfl
theorem rs_X5_rowOf_1 (n : Nat) (L : AL) (st : List AV) (M : List AC) : rx_X5_rowOf (n + 1) 1 L st M = am_j (rx_X5_rowOf n) ((tCs 1 fn_X5_isAim) 1 L st M) := rfl
theorem rs_X5_rowOf_4 (n : Nat) (L : AL) (st : List AV) (M : List AC) : rx_X5_rowOf (n + 1) 4 L st M = am_j (rx_X5_rowOf n) ((tIfne 10) 4 L st M) := rfl
theorem rs_X5_rowOf_7 (n : Nat) (L : AL) (st : List AV) (M : List AC) : rx_X5_rowOf (n + 1) 7 L st M = am_j (rx_X5_rowOf n) ((tIc (-2) 2) 7 L st M) := rfl
theorem rs_X5_rowOf_10 (n : Nat) (L : AL) (st : List AV) (M : List AC) : rx_X5_rowOf (n + 1) 10 L st M = am_j (rx_X5_rowOf n) ((tAld 0 1) 10 L st M) := rfl
theorem rs_X5_rowOf_11 (n : Nat) (L : AL) (st : List AV) (M : List AC) : rx_X5_rowOf (n + 1) 11 L st M = am_j (rx_X5_rowOf n) ((tGf 5 3) 11 L st M) := rfl
theorem rs_X5_rowOf_14 (n : Nat) (L : AL) (st : List AV) (M : List AC) : rx_X5_rowOf (n + 1) 14 L st M = am_j (rx_X5_rowOf n) ((tAld 0 1) 14 L st M) := rfl
theorem rs_X5_rowOf_15 (n : Nat) (L : AL) (st : List AV) (M : List AC) : rx_X5_rowOf (n + 1) 15 L st M = am_j (rx_X5_rowOf n) ((tGf 5 2) 15 L st M) := rfl
theorem rs_X5_rowOf_18 (n : Nat) (L : AL) (st : List AV) (M : List AC) : rx_X5_rowOf (n + 1) 18 L st M = am_j (rx_X5_rowOf n) ((tCv 4 1 fn_X4_become) 18 L st M) := rfl
theorem rs_X5_rowOf_21 (n : Nat) (L : AL) (st : List AV) (M : List AC) : rx_X5_rowOf (n + 1) 21 L st M = am_j (rx_X5_rowOf n) ((tAld 0 1) 21 L st M) := rfl
theorem rs_X5_rowOf_22 (n : Nat) (L : AL) (st : List AV) (M : List AC) : rx_X5_rowOf (n + 1) 22 L st M = am_j (rx_X5_rowOf n) ((tGf 5 3) 22 L st M) := rfl
theorem rs_X5_rowOf_25 (n : Nat) (L : AL) (st : List AV) (M : List AC) : rx_X5_rowOf (n + 1) 25 L st M = am_j (rx_X5_rowOf n) ((tIld 1 1) 25 L st M) := rfl
theorem rs_X5_rowOf_26 (n : Nat) (L : AL) (st : List AV) (M : List AC) : rx_X5_rowOf (n + 1) 26 L st M = am_j (rx_X5_rowOf n) ((tCv 4 1 fn_X4_riseToRow) 26 L st M) := rfl
theorem rs_X5_rowOf_29 (n : Nat) (L : AL) (st : List AV) (M : List AC) : rx_X5_rowOf (n + 1) 29 L st M = am_j (rx_X5_rowOf n) ((tIfeq 45) 29 L st M) := rfl
theorem rs_X5_rowOf_32 (n : Nat) (L : AL) (st : List AV) (M : List AC) : rx_X5_rowOf (n + 1) 32 L st M = am_j (rx_X5_rowOf n) ((tAld 0 1) 32 L st M) := rfl
theorem rs_X5_rowOf_33 (n : Nat) (L : AL) (st : List AV) (M : List AC) : rx_X5_rowOf (n + 1) 33 L st M = am_j (rx_X5_rowOf n) ((tGf 5 3) 33 L st M) := rfl
theorem rs_X5_rowOf_36 (n : Nat) (L : AL) (st : List AV) (M : List AC) : rx_X5_rowOf (n + 1) 36 L st M = am_j (rx_X5_rowOf n) ((tGf 4 3) 36 L st M) := rfl
theorem rs_X5_rowOf_39 (n : Nat) (L : AL) (st : List AV) (M : List AC) : rx_X5_rowOf (n + 1) 39 L st M = am_j (rx_X5_rowOf n) ((tCs 1 fn_X5_asFigures) 39 L st M) := rfl
theorem rs_X5_rowOf_42 (n : Nat) (L : AL) (st : List AV) (M : List AC) : rx_X5_rowOf (n + 1) 42 L st M = am_j (rx_X5_rowOf n) ((tGo 47) 42 L st M) := rfl
theorem rs_X5_rowOf_45 (n : Nat) (L : AL) (st : List AV) (M : List AC) : rx_X5_rowOf (n + 1) 45 L st M = am_j (rx_X5_rowOf n) ((tIc (-9) 2) 45 L st M) := rfl
theorem rs_X5_rowOf_9 (n : Nat) (L : AL) (st : List AV) (M : List AC) : rx_X5_rowOf (n + 1) 9 L st M = am_e rI st M := rfl
theorem rs_X5_rowOf_47 (n : Nat) (L : AL) (st : List AV) (M : List AC) : rx_X5_rowOf (n + 1) 47 L st M = am_e rI st M := rfl
theorem ri_X5_rowOf (c : Prop) [Decidable c] (p q n : Nat) (L : AL) (st : List AV) (M : List AC) : rx_X5_rowOf n (if c then p else q) L st M = if c then rx_X5_rowOf n p L st M else rx_X5_rowOf n q L st M := by split <;> rfl
theorem rm_X5_rowOf {n k pc : Nat} {L : AL} {st : List AV} {M : List AC} {x : Option AV × List AC} (h : rx_X5_rowOf n pc L st M = some x) (hk : n ≤ k) : rx_X5_rowOf k pc L st M = some x := am_r_mono n k h hk
def fn_X5_rowOf : Fn := am_fn rx_X5_rowOf 2
theorem fok_X5_rowOf : Fok mi_X5_rowOf fn_X5_rowOf := fun _ _ _ _ h => am_fok ok_X5_rowOf rk_X5_rowOf rfl h
theorem sp_X5_rowOf {M : List AC} {len fa ac : Int} {sr : AV} {sd : Int64} (h0 : M[0]? = some (co len fa ac sr sd)) {st : Int} {g s d b : F4} (hs : HS M 2 st g s d b) {st' : Int} {g' s' d' b' : F4} (hs' : HS M 7 st' g' s' d' b') (hr : SR st g s d b) (m : Int) (hm : -2147483648 ≤ m ∧ m < 2147483648) : ∃ (st1 : Int) (g1 s1 d1 b1 : F4), fn_X5_rowOf [vR 0, vI m] M = some (some (vI (if 1 ≤ m ∧ m ≤ 6 then (if (rio st g s b m).2 = 1 then fg (rio st g s b m).1 else -9) else -2)), T5 M st1 g1 s1 d1 b1) := by
  have wm : wr m = m := wr_id (by omega) (by omega)
  obtain ⟨j0, -⟩ := hs'.seven
  by_cases hM : 1 ≤ m ∧ m ≤ 6
  · rw [if_pos hM]
    refine ⟨st, g, s, (rio st g s b m).1, b, ?_⟩
    have q1 := T5_bec hs hs'
    have q2 := T5_rise hs' hr m (by omega)
    have v0 := (T5_ne M st g s d b 0 (by omega)).trans h0
    have v7 := (T5_HS hs' st g s d b).seven.1
    have u0 := (T5_ne M st g s (rio st g s b m).1 b 0 (by omega)).trans h0
    have u7 := (T5_HS hs' st g s (rio st g s b m).1 b).seven.1
    have q3 := sp_X5_asFigures (M := T5 M st g s (rio st g s b m).1 b) (q := 10) (T5_HS hs' st g s (rio st g s b m).1 b).seven.2.2.2.1 rfl
    have h01 := rio_01 st g s b m
    generalize rio st g s b m = R at q2 u0 u7 q3 h01 ⊢
    generalize T5 M st g s d b = V at q1 q2 v0 v7
    generalize T5 M st g s R.1 b = V2 at q2 u0 u7 q3 ⊢
    simp only [co] at h0 v0 u0
    rcases h01 with e | e <;> simp only [e] at q2 ⊢ <;>
    ((refine am_fnI (tb := tb_X5_rowOf) (n := 60) (Nat.le_of_ble_eq_true rfl) (Nat.le_of_ble_eq_true rfl) ?_; show rx_X5_rowOf 60 0 _ _ _ = _)
     simp [↓ri_X5_rowOf, rs_X5_rowOf_0, rs_X5_rowOf_1, rs_X5_rowOf_4, rs_X5_rowOf_7, rs_X5_rowOf_10, rs_X5_rowOf_11, rs_X5_rowOf_14, rs_X5_rowOf_15, rs_X5_rowOf_18, rs_X5_rowOf_21, rs_X5_rowOf_22, rs_X5_rowOf_25, rs_X5_rowOf_26, rs_X5_rowOf_29, rs_X5_rowOf_32, rs_X5_rowOf_33, rs_X5_rowOf_36, rs_X5_rowOf_39, rs_X5_rowOf_42, rs_X5_rowOf_45, rs_X5_rowOf_9, rs_X5_rowOf_47, -List.getElem?_eq_getElem, am_js, am_e, am_in, am_sl, rI, rZ, rV, rJ, rA, rC, kI, kJ, kR, am_one, am_nl, am_w8, tIc, tLc, tNul, tIld, tLld, tAld, tIst, tLst, tAst, tIinc, tI2, tDv, tL2, tLrem, tLs, tLcmp, tI2l, tL2i, tI2c, tDup, tDup2, tPop, tGo, tIfeq, tIfne, tIflt, tIfge, tIfgt, tIfle, tCmeq, tCmne, tCmlt, tCmge, tCmgt, tCmle, tNu, tTs, tGf, tPf, tGs, tIal, tIas, tBal, tBas, tAln, tSv, tSc, tSb, tSl, tSk, tCv, tCs, tCt, tMx, tMn, wr_10000, wr_100000, wr_1000000, wr_10000000, wr_100000000, wr_2400, wr_9999, wr_0, wr_1, wr_2, wr_3, wr_4, wr_5, wr_6, wr_7, wr_8, wr_9, wr_10, wr_11, wr_12, wr_13, wr_14, wr_15, wr_16, wr_17, wr_18, wr_19, wr_20, wr_21, wr_22, wr_23, wr_24, wr_25, wr_26, wr_27, wr_28, wr_29, wr_30, wr_31, wr_32, wr_33, wr_34, wr_35, wr_36, wr_37, wr_38, wr_39, wr_40, wr_41, wr_42, wr_43, wr_44, wr_45, wr_46, wr_47, wr_48, wr_49, wr_50, wr_51, wr_52, wr_53, wr_54, wr_55, wr_56, wr_57, wr_58, wr_59, wr_60, wr_61, wr_62, wr_63, wr_99, wr_100, wr_192, wr_255, wr_256, wr_343, wr_999, wr_1000, wr_2401, wr_2147483647, wr_65535, wr_m1, wr_m2, wr_m3, wr_m4, wr_m9, ak_1000, ak_1001, ak_1002, ak_0, ak_1, ak_2, ak_3, ak_4, ak_5, ak_6, ak_7, ak_8, ak_9, ak_10, ak_11, ak_12, ak_13, ak_14, ak_15, ak_16, ak_17, ak_18, ak_19, ak_20, ak_21, ak_22, ak_23, ak_24, ak_25, ak_26, ak_27, ak_28, ak_29, ak_30, ak_31, ak_32, ak_33, ak_34, ak_35, ak_36, ak_37, ak_38, ak_39, ak_40, ak_41, ak_42, ak_43, ak_44, ak_45, ak_46, ak_47, sp_X5_isAim, wm, hM, h0, j0, q1, v0, v7, q2, u0, u7, q3])
  · rw [if_neg hM]
    refine ⟨st', g', s', d', b', ?_⟩
    rw [T5_same hs']
    (refine am_fnI (tb := tb_X5_rowOf) (n := 60) (Nat.le_of_ble_eq_true rfl) (Nat.le_of_ble_eq_true rfl) ?_; show rx_X5_rowOf 60 0 _ _ _ = _)
    simp [↓ri_X5_rowOf, rs_X5_rowOf_0, rs_X5_rowOf_1, rs_X5_rowOf_4, rs_X5_rowOf_7, rs_X5_rowOf_10, rs_X5_rowOf_11, rs_X5_rowOf_14, rs_X5_rowOf_15, rs_X5_rowOf_18, rs_X5_rowOf_21, rs_X5_rowOf_22, rs_X5_rowOf_25, rs_X5_rowOf_26, rs_X5_rowOf_29, rs_X5_rowOf_32, rs_X5_rowOf_33, rs_X5_rowOf_36, rs_X5_rowOf_39, rs_X5_rowOf_42, rs_X5_rowOf_45, rs_X5_rowOf_9, rs_X5_rowOf_47, -List.getElem?_eq_getElem, am_js, am_e, am_in, am_sl, rI, rZ, rV, rJ, rA, rC, kI, kJ, kR, am_one, am_nl, am_w8, tIc, tLc, tNul, tIld, tLld, tAld, tIst, tLst, tAst, tIinc, tI2, tDv, tL2, tLrem, tLs, tLcmp, tI2l, tL2i, tI2c, tDup, tDup2, tPop, tGo, tIfeq, tIfne, tIflt, tIfge, tIfgt, tIfle, tCmeq, tCmne, tCmlt, tCmge, tCmgt, tCmle, tNu, tTs, tGf, tPf, tGs, tIal, tIas, tBal, tBas, tAln, tSv, tSc, tSb, tSl, tSk, tCv, tCs, tCt, tMx, tMn, wr_10000, wr_100000, wr_1000000, wr_10000000, wr_100000000, wr_2400, wr_9999, wr_0, wr_1, wr_2, wr_3, wr_4, wr_5, wr_6, wr_7, wr_8, wr_9, wr_10, wr_11, wr_12, wr_13, wr_14, wr_15, wr_16, wr_17, wr_18, wr_19, wr_20, wr_21, wr_22, wr_23, wr_24, wr_25, wr_26, wr_27, wr_28, wr_29, wr_30, wr_31, wr_32, wr_33, wr_34, wr_35, wr_36, wr_37, wr_38, wr_39, wr_40, wr_41, wr_42, wr_43, wr_44, wr_45, wr_46, wr_47, wr_48, wr_49, wr_50, wr_51, wr_52, wr_53, wr_54, wr_55, wr_56, wr_57, wr_58, wr_59, wr_60, wr_61, wr_62, wr_63, wr_99, wr_100, wr_192, wr_255, wr_256, wr_343, wr_999, wr_1000, wr_2401, wr_2147483647, wr_65535, wr_m1, wr_m2, wr_m3, wr_m4, wr_m9, ak_1000, ak_1001, ak_1002, ak_0, ak_1, ak_2, ak_3, ak_4, ak_5, ak_6, ak_7, ak_8, ak_9, ak_10, ak_11, ak_12, ak_13, ak_14, ak_15, ak_16, ak_17, ak_18, ak_19, ak_20, ak_21, ak_22, ak_23, ak_24, ak_25, ak_26, ak_27, ak_28, ak_29, ak_30, ak_31, ak_32, ak_33, ak_34, ak_35, ak_36, ak_37, ak_38, ak_39, ak_40, ak_41, ak_42, ak_43, ak_44, ak_45, ak_46, ak_47, -not_and, sp_X5_isAim, wm, hM]
/-- the deepest m with a row, by rising -/
def dp5 (st : Int) (g s b : F4) : Nat → Int
  | 0 => 0
  | n + 1 => if (rio st g s b ((n : Int) + 1)).2 = 1 then (n : Int) + 1 else dp5 st g s b n
abbrev mi_X5_deepest : Mi := (yX5_deepest, cX5_deepest, 2, some .int, 5)
theorem mf_X5_deepest : am_mf mi_X5_deepest 0 := ⟨w_co_X5_deepest, w_in_X5, ⟨by decide +kernel, by decide +kernel⟩, by decide +kernel, by decide⟩
def tb_X5_deepest : List (Nat × Tr) := [(0, tAld 0 1), (1, tGf 5 3), (4, tAld 0 1), (5, tGf 5 2), (8, tCv 4 1 fn_X4_become), (11, tIc 6 2), (13, tIst 1 1), (14, tIld 1 1), (15, tIfle 37), (18, tAld 0 1), (19, tGf 5 3), (22, tIld 1 1), (23, tCv 4 1 fn_X4_riseToRow), (26, tIfeq 31), (29, tIld 1 1), (31, tIinc 1 (-1)), (34, tGo 14), (37, tIc 0 1)]
theorem ok_X5_deepest : Tok mi_X5_deepest tb_X5_deepest :=
  Tc (sd_aload_n dX5_deepest_0) <|
  Tc (sd_getf (T := TX5) rfl giX5 (by decide) w_fl_X5_24 dX5_deepest_1) <|
  Tc (sd_aload_n dX5_deepest_4) <|
  Tc (sd_getf (T := TX5) rfl giX5 (by decide) w_fl_X5_20 dX5_deepest_5) <|
  Tc (sd_cv (T := TX4) fok_X4_become mf_X4_become rfl w_ml_X5_124 w_im_X4_become w_se_X4_become (by decide) dX5_deepest_8) <|
  Tc (sd_bipush (by decide +kernel) dX5_deepest_11) <|
  Tc (sd_istore_n dX5_deepest_13) <|
  Tc (sd_iload_n dX5_deepest_14) <|
  Tc (sd_if_le (by decide) dX5_deepest_15) <|
  Tc (sd_aload_n dX5_deepest_18) <|
  Tc (sd_getf (T := TX5) rfl giX5 (by decide) w_fl_X5_24 dX5_deepest_19) <|
  Tc (sd_iload_n dX5_deepest_22) <|
  Tc (sd_cv (T := TX4) fok_X4_riseToRow mf_X4_riseToRow rfl w_ml_X5_171 w_im_X4_riseToRow w_se_X4_riseToRow (by decide) dX5_deepest_23) <|
  Tc (sd_if_eq (by decide) dX5_deepest_26) <|
  Tc (sd_iload_n dX5_deepest_29) <|
  Tc (sd_iinc dX5_deepest_31) <|
  Tc (sd_goto (by decide) dX5_deepest_34) <|
  Tc (sd_iconst rfl dX5_deepest_37) <|
  Tn
theorem rk_X5_deepest : Rok mi_X5_deepest rI [30, 38] := rk_i dX5_deepest_30 <| rk_i dX5_deepest_38 <| rk_n
def rx_X5_deepest : Nat → Nat → AL → List AV → List AC → Option (Option AV × List AC) := am_r tb_X5_deepest rI [30, 38]
theorem rs_X5_deepest_0 (n : Nat) (L : AL) (st : List AV) (M : List AC) : rx_X5_deepest (n + 1) 0 L st M = am_j (rx_X5_deepest n) ((tAld 0 1) 0 L st M) := rfl
theorem rs_X5_deepest_1 (n : Nat) (L : AL) (st : List AV) (M : List AC) : rx_X5_deepest (n + 1) 1 L st M = am_j (rx_X5_deepest n) ((tGf 5 3) 1 L st M) := rfl
theorem rs_X5_deepest_4 (n : Nat) (L : AL) (st : List AV) (M : List AC) : rx_X5_deepest (n + 1) 4 L st M = am_j (rx_X5_deepest n) ((tAld 0 1) 4 L st M) := rfl
theorem rs_X5_deepest_5 (n : Nat) (L : AL) (st : List AV) (M : List AC) : rx_X5_deepest (n + 1) 5 L st M = am_j (rx_X5_deepest n) ((tGf 5 2) 5 L st M) := rfl
theorem rs_X5_deepest_8 (n : Nat) (L : AL) (st : List AV) (M : List AC) : rx_X5_deepest (n + 1) 8 L st M = am_j (rx_X5_deepest n) ((tCv 4 1 fn_X4_become) 8 L st M) := rfl
theorem rs_X5_deepest_11 (n : Nat) (L : AL) (st : List AV) (M : List AC) : rx_X5_deepest (n + 1) 11 L st M = am_j (rx_X5_deepest n) ((tIc 6 2) 11 L st M) := rfl
theorem rs_X5_deepest_13 (n : Nat) (L : AL) (st : List AV) (M : List AC) : rx_X5_deepest (n + 1) 13 L st M = am_j (rx_X5_deepest n) ((tIst 1 1) 13 L st M) := rfl
theorem rs_X5_deepest_14 (n : Nat) (L : AL) (st : List AV) (M : List AC) : rx_X5_deepest (n + 1) 14 L st M = am_j (rx_X5_deepest n) ((tIld 1 1) 14 L st M) := rfl
theorem rs_X5_deepest_15 (n : Nat) (L : AL) (st : List AV) (M : List AC) : rx_X5_deepest (n + 1) 15 L st M = am_j (rx_X5_deepest n) ((tIfle 37) 15 L st M) := rfl
theorem rs_X5_deepest_18 (n : Nat) (L : AL) (st : List AV) (M : List AC) : rx_X5_deepest (n + 1) 18 L st M = am_j (rx_X5_deepest n) ((tAld 0 1) 18 L st M) := rfl
theorem rs_X5_deepest_19 (n : Nat) (L : AL) (st : List AV) (M : List AC) : rx_X5_deepest (n + 1) 19 L st M = am_j (rx_X5_deepest n) ((tGf 5 3) 19 L st M) := rfl
theorem rs_X5_deepest_22 (n : Nat) (L : AL) (st : List AV) (M : List AC) : rx_X5_deepest (n + 1) 22 L st M = am_j (rx_X5_deepest n) ((tIld 1 1) 22 L st M) := rfl
theorem rs_X5_deepest_23 (n : Nat) (L : AL) (st : List AV) (M : List AC) : rx_X5_deepest (n + 1) 23 L st M = am_j (rx_X5_deepest n) ((tCv 4 1 fn_X4_riseToRow) 23 L st M) := rfl
theorem rs_X5_deepest_26 (n : Nat) (L : AL) (st : List AV) (M : List AC) : rx_X5_deepest (n + 1) 26 L st M = am_j (rx_X5_deepest n) ((tIfeq 31) 26 L st M) := rfl
theorem rs_X5_deepest_29 (n : Nat) (L : AL) (st : List AV) (M : List AC) : rx_X5_deepest (n + 1) 29 L st M = am_j (rx_X5_deepest n) ((tIld 1 1) 29 L st M) := rfl
theorem rs_X5_deepest_31 (n : Nat) (L : AL) (st : List AV) (M : List AC) : rx_X5_deepest (n + 1) 31 L st M = am_j (rx_X5_deepest n) ((tIinc 1 (-1)) 31 L st M) := rfl
theorem rs_X5_deepest_34 (n : Nat) (L : AL) (st : List AV) (M : List AC) : rx_X5_deepest (n + 1) 34 L st M = am_j (rx_X5_deepest n) ((tGo 14) 34 L st M) := rfl
theorem rs_X5_deepest_37 (n : Nat) (L : AL) (st : List AV) (M : List AC) : rx_X5_deepest (n + 1) 37 L st M = am_j (rx_X5_deepest n) ((tIc 0 1) 37 L st M) := rfl
theorem rs_X5_deepest_30 (n : Nat) (L : AL) (st : List AV) (M : List AC) : rx_X5_deepest (n + 1) 30 L st M = am_e rI st M := rfl
theorem rs_X5_deepest_38 (n : Nat) (L : AL) (st : List AV) (M : List AC) : rx_X5_deepest (n + 1) 38 L st M = am_e rI st M := rfl
theorem ri_X5_deepest (c : Prop) [Decidable c] (p q n : Nat) (L : AL) (st : List AV) (M : List AC) : rx_X5_deepest n (if c then p else q) L st M = if c then rx_X5_deepest n p L st M else rx_X5_deepest n q L st M := by split <;> rfl
theorem rm_X5_deepest {n k pc : Nat} {L : AL} {st : List AV} {M : List AC} {x : Option AV × List AC} (h : rx_X5_deepest n pc L st M = some x) (hk : n ≤ k) : rx_X5_deepest k pc L st M = some x := am_r_mono n k h hk
def fn_X5_deepest : Fn := am_fn rx_X5_deepest 2
theorem fok_X5_deepest : Fok mi_X5_deepest fn_X5_deepest := fun _ _ _ _ h => am_fok ok_X5_deepest rk_X5_deepest rfl h
theorem lp_X5_deepest {M : List AC} {len fa ac : Int} {sr : AV} {sd : Int64} (h0 : M[0]? = some (co len fa ac sr sd)) {st : Int} {g s d b : F4} (hs : HS M 2 st g s d b) {st' : Int} {g' s' d' b' : F4} (hs' : HS M 7 st' g' s' d' b') (hr : SR st g s d b) : ∀ (n : Nat) (d9 : F4), n ≤ 6 → i4 0 6 d9 → ∃ d1 : F4, Ru rx_X5_deepest (40 * n + 10) 14 [some (vR 0), some (vI n)] [] (T5 M st g s d9 b) (some (vI (dp5 st g s b n)), T5 M st g s d1 b)
  | 0, d9, hn, hd9 => by
    refine ⟨d9, 9 + 1, by omega, ?_⟩
    rw [rs_X5_deepest_14, dp5]
    simp [↓ri_X5_deepest, rs_X5_deepest_0, rs_X5_deepest_1, rs_X5_deepest_4, rs_X5_deepest_5, rs_X5_deepest_8, rs_X5_deepest_11, rs_X5_deepest_13, rs_X5_deepest_15, rs_X5_deepest_18, rs_X5_deepest_19, rs_X5_deepest_22, rs_X5_deepest_23, rs_X5_deepest_26, rs_X5_deepest_29, rs_X5_deepest_31, rs_X5_deepest_34, rs_X5_deepest_37, rs_X5_deepest_30, rs_X5_deepest_38, -List.getElem?_eq_getElem, am_js, am_e, am_in, am_sl, rI, rZ, rV, rJ, rA, rC, kI, kJ, kR, am_one, am_nl, am_w8, tIc, tLc, tNul, tIld, tLld, tAld, tIst, tLst, tAst, tIinc, tI2, tDv, tL2, tLrem, tLs, tLcmp, tI2l, tL2i, tI2c, tDup, tDup2, tPop, tGo, tIfeq, tIfne, tIflt, tIfge, tIfgt, tIfle, tCmeq, tCmne, tCmlt, tCmge, tCmgt, tCmle, tNu, tTs, tGf, tPf, tGs, tIal, tIas, tBal, tBas, tAln, tSv, tSc, tSb, tSl, tSk, tCv, tCs, tCt, tMx, tMn, wr_10000, wr_100000, wr_1000000, wr_10000000, wr_100000000, wr_2400, wr_9999, wr_0, wr_1, wr_2, wr_3, wr_4, wr_5, wr_6, wr_7, wr_8, wr_9, wr_10, wr_11, wr_12, wr_13, wr_14, wr_15, wr_16, wr_17, wr_18, wr_19, wr_20, wr_21, wr_22, wr_23, wr_24, wr_25, wr_26, wr_27, wr_28, wr_29, wr_30, wr_31, wr_32, wr_33, wr_34, wr_35, wr_36, wr_37, wr_38, wr_39, wr_40, wr_41, wr_42, wr_43, wr_44, wr_45, wr_46, wr_47, wr_48, wr_49, wr_50, wr_51, wr_52, wr_53, wr_54, wr_55, wr_56, wr_57, wr_58, wr_59, wr_60, wr_61, wr_62, wr_63, wr_99, wr_100, wr_192, wr_255, wr_256, wr_343, wr_999, wr_1000, wr_2401, wr_2147483647, wr_65535, wr_m1, wr_m2, wr_m3, wr_m4, wr_m9, ak_1000, ak_1001, ak_1002, ak_0, ak_1, ak_2, ak_3, ak_4, ak_5, ak_6, ak_7, ak_8, ak_9, ak_10, ak_11, ak_12, ak_13, ak_14, ak_15, ak_16, ak_17, ak_18, ak_19, ak_20, ak_21, ak_22, ak_23, ak_24, ak_25, ak_26, ak_27, ak_28, ak_29, ak_30, ak_31, ak_32, ak_33, ak_34, ak_35, ak_36, ak_37, ak_38, ak_39, ak_40, ak_41, ak_42, ak_43, ak_44, ak_45, ak_46, ak_47]
  | n + 1, d9, hn, hd9 => by
    have en1 : ((n + 1 : Nat) : Int) = (n : Int) + 1 := by omega
    rw [en1]
    have wn : wr ((n : Int) + 1) = (n : Int) + 1 := wr_id (by omega) (by omega)
    have nn : ¬ (n : Int) + 1 ≤ 0 := by omega
    have hr9 : SR st g s d9 b := ⟨hr.1, hr.2.1, hr.2.2.1, hd9, hr.2.2.2.2⟩
    have q2 := T5_rise hs' hr9 ((n : Int) + 1) (by omega)
    have v0 := (T5_ne M st g s d9 b 0 (by omega)).trans h0
    have v7 := (T5_HS hs' st g s d9 b).seven.1
    obtain ⟨d1, ih⟩ := lp_X5_deepest h0 hs hs' hr n (rio st g s b ((n : Int) + 1)).1 (by omega) (rio_i4 st g s b (by omega))
    rw [dp5]
    have h01 := rio_01 st g s b ((n : Int) + 1)
    generalize rio st g s b ((n : Int) + 1) = R at q2 ih h01 ⊢
    generalize (n : Int) + 1 = m at wn nn q2 en1 ⊢
    generalize T5 M st g s d9 b = V at q2 v0 v7 ⊢
    simp only [co] at v0
    rcases h01 with e | e <;> rw [e] at q2
    · rw [if_neg (by rw [e]; decide)]
      have em : m - 1 = (n : Int) := by omega
      have em2 : m + -1 = (n : Int) := by omega
      obtain ⟨k, hk, h⟩ := ih
      refine ⟨d1, k + 39 + 1, by omega, ?_⟩
      rw [rs_X5_deepest_14]
      generalize T5 M st g s R.1 b = V2 at q2 h
      simp [↓ri_X5_deepest, rs_X5_deepest_0, rs_X5_deepest_1, rs_X5_deepest_4, rs_X5_deepest_5, rs_X5_deepest_8, rs_X5_deepest_11, rs_X5_deepest_13, rs_X5_deepest_15, rs_X5_deepest_18, rs_X5_deepest_19, rs_X5_deepest_22, rs_X5_deepest_23, rs_X5_deepest_26, rs_X5_deepest_29, rs_X5_deepest_31, rs_X5_deepest_34, rs_X5_deepest_37, rs_X5_deepest_30, rs_X5_deepest_38, -List.getElem?_eq_getElem, am_js, am_e, am_in, am_sl, rI, rZ, rV, rJ, rA, rC, kI, kJ, kR, am_one, am_nl, am_w8, tIc, tLc, tNul, tIld, tLld, tAld, tIst, tLst, tAst, tIinc, tI2, tDv, tL2, tLrem, tLs, tLcmp, tI2l, tL2i, tI2c, tDup, tDup2, tPop, tGo, tIfeq, tIfne, tIflt, tIfge, tIfgt, tIfle, tCmeq, tCmne, tCmlt, tCmge, tCmgt, tCmle, tNu, tTs, tGf, tPf, tGs, tIal, tIas, tBal, tBas, tAln, tSv, tSc, tSb, tSl, tSk, tCv, tCs, tCt, tMx, tMn, wr_10000, wr_100000, wr_1000000, wr_10000000, wr_100000000, wr_2400, wr_9999, wr_0, wr_1, wr_2, wr_3, wr_4, wr_5, wr_6, wr_7, wr_8, wr_9, wr_10, wr_11, wr_12, wr_13, wr_14, wr_15, wr_16, wr_17, wr_18, wr_19, wr_20, wr_21, wr_22, wr_23, wr_24, wr_25, wr_26, wr_27, wr_28, wr_29, wr_30, wr_31, wr_32, wr_33, wr_34, wr_35, wr_36, wr_37, wr_38, wr_39, wr_40, wr_41, wr_42, wr_43, wr_44, wr_45, wr_46, wr_47, wr_48, wr_49, wr_50, wr_51, wr_52, wr_53, wr_54, wr_55, wr_56, wr_57, wr_58, wr_59, wr_60, wr_61, wr_62, wr_63, wr_99, wr_100, wr_192, wr_255, wr_256, wr_343, wr_999, wr_1000, wr_2401, wr_2147483647, wr_65535, wr_m1, wr_m2, wr_m3, wr_m4, wr_m9, ak_1000, ak_1001, ak_1002, ak_0, ak_1, ak_2, ak_3, ak_4, ak_5, ak_6, ak_7, ak_8, ak_9, ak_10, ak_11, ak_12, ak_13, ak_14, ak_15, ak_16, ak_17, ak_18, ak_19, ak_20, ak_21, ak_22, ak_23, ak_24, ak_25, ak_26, ak_27, ak_28, ak_29, ak_30, ak_31, ak_32, ak_33, ak_34, ak_35, ak_36, ak_37, ak_38, ak_39, ak_40, ak_41, ak_42, ak_43, ak_44, ak_45, ak_46, ak_47, wn, nn, v0, v7, q2, em, em2]
      exact rm_X5_deepest h (by omega)
    · rw [if_pos e]
      refine ⟨R.1, 39 + 1, by omega, ?_⟩
      rw [rs_X5_deepest_14]
      simp [↓ri_X5_deepest, rs_X5_deepest_0, rs_X5_deepest_1, rs_X5_deepest_4, rs_X5_deepest_5, rs_X5_deepest_8, rs_X5_deepest_11, rs_X5_deepest_13, rs_X5_deepest_15, rs_X5_deepest_18, rs_X5_deepest_19, rs_X5_deepest_22, rs_X5_deepest_23, rs_X5_deepest_26, rs_X5_deepest_29, rs_X5_deepest_31, rs_X5_deepest_34, rs_X5_deepest_37, rs_X5_deepest_30, rs_X5_deepest_38, -List.getElem?_eq_getElem, am_js, am_e, am_in, am_sl, rI, rZ, rV, rJ, rA, rC, kI, kJ, kR, am_one, am_nl, am_w8, tIc, tLc, tNul, tIld, tLld, tAld, tIst, tLst, tAst, tIinc, tI2, tDv, tL2, tLrem, tLs, tLcmp, tI2l, tL2i, tI2c, tDup, tDup2, tPop, tGo, tIfeq, tIfne, tIflt, tIfge, tIfgt, tIfle, tCmeq, tCmne, tCmlt, tCmge, tCmgt, tCmle, tNu, tTs, tGf, tPf, tGs, tIal, tIas, tBal, tBas, tAln, tSv, tSc, tSb, tSl, tSk, tCv, tCs, tCt, tMx, tMn, wr_10000, wr_100000, wr_1000000, wr_10000000, wr_100000000, wr_2400, wr_9999, wr_0, wr_1, wr_2, wr_3, wr_4, wr_5, wr_6, wr_7, wr_8, wr_9, wr_10, wr_11, wr_12, wr_13, wr_14, wr_15, wr_16, wr_17, wr_18, wr_19, wr_20, wr_21, wr_22, wr_23, wr_24, wr_25, wr_26, wr_27, wr_28, wr_29, wr_30, wr_31, wr_32, wr_33, wr_34, wr_35, wr_36, wr_37, wr_38, wr_39, wr_40, wr_41, wr_42, wr_43, wr_44, wr_45, wr_46, wr_47, wr_48, wr_49, wr_50, wr_51, wr_52, wr_53, wr_54, wr_55, wr_56, wr_57, wr_58, wr_59, wr_60, wr_61, wr_62, wr_63, wr_99, wr_100, wr_192, wr_255, wr_256, wr_343, wr_999, wr_1000, wr_2401, wr_2147483647, wr_65535, wr_m1, wr_m2, wr_m3, wr_m4, wr_m9, ak_1000, ak_1001, ak_1002, ak_0, ak_1, ak_2, ak_3, ak_4, ak_5, ak_6, ak_7, ak_8, ak_9, ak_10, ak_11, ak_12, ak_13, ak_14, ak_15, ak_16, ak_17, ak_18, ak_19, ak_20, ak_21, ak_22, ak_23, ak_24, ak_25, ak_26, ak_27, ak_28, ak_29, ak_30, ak_31, ak_32, ak_33, ak_34, ak_35, ak_36, ak_37, ak_38, ak_39, ak_40, ak_41, ak_42, ak_43, ak_44, ak_45, ak_46, ak_47, wn, nn, v0, v7, q2]
theorem sp_X5_deepest {M : List AC} {len fa ac : Int} {sr : AV} {sd : Int64} (h0 : M[0]? = some (co len fa ac sr sd)) {st : Int} {g s d b : F4} (hs : HS M 2 st g s d b) {st' : Int} {g' s' d' b' : F4} (hs' : HS M 7 st' g' s' d' b') (hr : SR st g s d b) : ∃ (st1 : Int) (g1 s1 d1 b1 : F4), fn_X5_deepest [vR 0] M = some (some (vI (dp5 st g s b 6)), T5 M st1 g1 s1 d1 b1) := by
  obtain ⟨j0, -⟩ := hs'.seven
  obtain ⟨d1, k, hk, h⟩ := lp_X5_deepest h0 hs hs' hr 6 d (by omega) hr.2.2.2.1
  have q1 := T5_bec hs hs'
  refine ⟨st, g, s, d1, b, ?_⟩
  generalize dp5 st g s b 6 = W at h ⊢
  generalize T5 M st g s d b = V at q1 h
  simp only [co] at h0
  (refine am_fnR (tb := tb_X5_deepest) (N := 2000) (Nat.le_of_ble_eq_true rfl) (Nat.le_of_ble_eq_true rfl) ?_; show Ru rx_X5_deepest 2000 0 _ _ _ _)
  refine ⟨k + 20, by omega, ?_⟩
  simp at h
  simp [↓ri_X5_deepest, rs_X5_deepest_0, rs_X5_deepest_1, rs_X5_deepest_4, rs_X5_deepest_5, rs_X5_deepest_8, rs_X5_deepest_11, rs_X5_deepest_13, rs_X5_deepest_15, rs_X5_deepest_18, rs_X5_deepest_19, rs_X5_deepest_22, rs_X5_deepest_23, rs_X5_deepest_26, rs_X5_deepest_29, rs_X5_deepest_31, rs_X5_deepest_34, rs_X5_deepest_37, rs_X5_deepest_30, rs_X5_deepest_38, -List.getElem?_eq_getElem, am_js, am_e, am_in, am_sl, rI, rZ, rV, rJ, rA, rC, kI, kJ, kR, am_one, am_nl, am_w8, tIc, tLc, tNul, tIld, tLld, tAld, tIst, tLst, tAst, tIinc, tI2, tDv, tL2, tLrem, tLs, tLcmp, tI2l, tL2i, tI2c, tDup, tDup2, tPop, tGo, tIfeq, tIfne, tIflt, tIfge, tIfgt, tIfle, tCmeq, tCmne, tCmlt, tCmge, tCmgt, tCmle, tNu, tTs, tGf, tPf, tGs, tIal, tIas, tBal, tBas, tAln, tSv, tSc, tSb, tSl, tSk, tCv, tCs, tCt, tMx, tMn, wr_10000, wr_100000, wr_1000000, wr_10000000, wr_100000000, wr_2400, wr_9999, wr_0, wr_1, wr_2, wr_3, wr_4, wr_5, wr_6, wr_7, wr_8, wr_9, wr_10, wr_11, wr_12, wr_13, wr_14, wr_15, wr_16, wr_17, wr_18, wr_19, wr_20, wr_21, wr_22, wr_23, wr_24, wr_25, wr_26, wr_27, wr_28, wr_29, wr_30, wr_31, wr_32, wr_33, wr_34, wr_35, wr_36, wr_37, wr_38, wr_39, wr_40, wr_41, wr_42, wr_43, wr_44, wr_45, wr_46, wr_47, wr_48, wr_49, wr_50, wr_51, wr_52, wr_53, wr_54, wr_55, wr_56, wr_57, wr_58, wr_59, wr_60, wr_61, wr_62, wr_63, wr_99, wr_100, wr_192, wr_255, wr_256, wr_343, wr_999, wr_1000, wr_2401, wr_2147483647, wr_65535, wr_m1, wr_m2, wr_m3, wr_m4, wr_m9, ak_1000, ak_1001, ak_1002, ak_0, ak_1, ak_2, ak_3, ak_4, ak_5, ak_6, ak_7, ak_8, ak_9, ak_10, ak_11, ak_12, ak_13, ak_14, ak_15, ak_16, ak_17, ak_18, ak_19, ak_20, ak_21, ak_22, ak_23, ak_24, ak_25, ak_26, ak_27, ak_28, ak_29, ak_30, ak_31, ak_32, ak_33, ak_34, ak_35, ak_36, ak_37, ak_38, ak_39, ak_40, ak_41, ak_42, ak_43, ak_44, ak_45, ak_46, ak_47, h0, j0, q1]
  exact rm_X5_deepest h (by omega)
def ws5 (st : Int) (g b : F4) (m : Int) : Nat → Int → F4 → Int
  | 0, _, _ => -9
  | n + 1, t, s => if (rio st g s b m).2 = 0 then t else ws5 st g b m n (t + 1) (wz4 s)
abbrev mi_X5_washes : Mi := (yX5_washes, cX5_washes, 3, some .int, 5)
theorem mf_X5_washes : am_mf mi_X5_washes 1 := ⟨w_co_X5_washes, w_in_X5, ⟨by decide +kernel, by decide +kernel⟩, by decide +kernel, by decide⟩
def tb_X5_washes : List (Nat × Tr) := [(0, tIld 1 1), (1, tCs 1 fn_X5_isAim), (4, tIfne 10), (7, tIc (-2) 2), (10, tAld 0 1), (11, tGf 5 3), (14, tAld 0 1), (15, tGf 5 2), (18, tCv 4 1 fn_X4_become), (21, tIc 0 1), (22, tIst 2 1), (23, tIld 2 1), (24, tIc 9 2), (26, tCmgt 55), (29, tAld 0 1), (30, tGf 5 3), (33, tIld 1 1), (34, tCv 4 1 fn_X4_riseToRow), (37, tIfne 42), (40, tIld 2 1), (42, tAld 0 1), (43, tGf 5 3), (46, tCv 4 0 fn_X4_shrink), (49, tIinc 2 1), (52, tGo 23), (55, tIc (-9) 2)]
theorem ok_X5_washes : Tok mi_X5_washes tb_X5_washes :=
  Tc (sd_iload_n dX5_washes_0) <|
  Tc (sd_cs fok_X5_isAim mf_X5_isAim w_ml_X5_165 w_st_X5_isAim (by decide) dX5_washes_1) <|
  Tc (sd_if_ne (by decide) dX5_washes_4) <|
  Tc (sd_bipush (by decide +kernel) dX5_washes_7) <|
  Tc (sd_aload_n dX5_washes_10) <|
  Tc (sd_getf (T := TX5) rfl giX5 (by decide) w_fl_X5_24 dX5_washes_11) <|
  Tc (sd_aload_n dX5_washes_14) <|
  Tc (sd_getf (T := TX5) rfl giX5 (by decide) w_fl_X5_20 dX5_washes_15) <|
  Tc (sd_cv (T := TX4) fok_X4_become mf_X4_become rfl w_ml_X5_124 w_im_X4_become w_se_X4_become (by decide) dX5_washes_18) <|
  Tc (sd_iconst rfl dX5_washes_21) <|
  Tc (sd_istore_n dX5_washes_22) <|
  Tc (sd_iload_n dX5_washes_23) <|
  Tc (sd_bipush (by decide +kernel) dX5_washes_24) <|
  Tc (sd_cm_gt (by decide) dX5_washes_26) <|
  Tc (sd_aload_n dX5_washes_29) <|
  Tc (sd_getf (T := TX5) rfl giX5 (by decide) w_fl_X5_24 dX5_washes_30) <|
  Tc (sd_iload_n dX5_washes_33) <|
  Tc (sd_cv (T := TX4) fok_X4_riseToRow mf_X4_riseToRow rfl w_ml_X5_171 w_im_X4_riseToRow w_se_X4_riseToRow (by decide) dX5_washes_34) <|
  Tc (sd_if_ne (by decide) dX5_washes_37) <|
  Tc (sd_iload_n dX5_washes_40) <|
  Tc (sd_aload_n dX5_washes_42) <|
  Tc (sd_getf (T := TX5) rfl giX5 (by decide) w_fl_X5_24 dX5_washes_43) <|
  Tc (sd_cv (T := TX4) fok_X4_shrink mf_X4_shrink rfl w_ml_X5_148 w_im_X4_shrink w_se_X4_shrink (by decide) dX5_washes_46) <|
  Tc (sd_iinc dX5_washes_49) <|
  Tc (sd_goto (by decide) dX5_washes_52) <|
  Tc (sd_bipush (by decide +kernel) dX5_washes_55) <|
  Tn
theorem rk_X5_washes : Rok mi_X5_washes rI [9, 41, 57] := rk_i dX5_washes_9 <| rk_i dX5_washes_41 <| rk_i dX5_washes_57 <| rk_n
def rx_X5_washes : Nat → Nat → AL → List AV → List AC → Option (Option AV × List AC) := am_r tb_X5_washes rI [9, 41, 57]
theorem rs_X5_washes_0 (n : Nat) (L : AL) (st : List AV) (M : List AC) : rx_X5_washes (n + 1) 0 L st M = am_j (rx_X5_washes n) ((tIld 1 1) 0 L st M) := rfl
theorem rs_X5_washes_1 (n : Nat) (L : AL) (st : List AV) (M : List AC) : rx_X5_washes (n + 1) 1 L st M = am_j (rx_X5_washes n) ((tCs 1 fn_X5_isAim) 1 L st M) := rfl
theorem rs_X5_washes_4 (n : Nat) (L : AL) (st : List AV) (M : List AC) : rx_X5_washes (n + 1) 4 L st M = am_j (rx_X5_washes n) ((tIfne 10) 4 L st M) := rfl
theorem rs_X5_washes_7 (n : Nat) (L : AL) (st : List AV) (M : List AC) : rx_X5_washes (n + 1) 7 L st M = am_j (rx_X5_washes n) ((tIc (-2) 2) 7 L st M) := rfl
theorem rs_X5_washes_10 (n : Nat) (L : AL) (st : List AV) (M : List AC) : rx_X5_washes (n + 1) 10 L st M = am_j (rx_X5_washes n) ((tAld 0 1) 10 L st M) := rfl
theorem rs_X5_washes_11 (n : Nat) (L : AL) (st : List AV) (M : List AC) : rx_X5_washes (n + 1) 11 L st M = am_j (rx_X5_washes n) ((tGf 5 3) 11 L st M) := rfl
theorem rs_X5_washes_14 (n : Nat) (L : AL) (st : List AV) (M : List AC) : rx_X5_washes (n + 1) 14 L st M = am_j (rx_X5_washes n) ((tAld 0 1) 14 L st M) := rfl
theorem rs_X5_washes_15 (n : Nat) (L : AL) (st : List AV) (M : List AC) : rx_X5_washes (n + 1) 15 L st M = am_j (rx_X5_washes n) ((tGf 5 2) 15 L st M) := rfl
theorem rs_X5_washes_18 (n : Nat) (L : AL) (st : List AV) (M : List AC) : rx_X5_washes (n + 1) 18 L st M = am_j (rx_X5_washes n) ((tCv 4 1 fn_X4_become) 18 L st M) := rfl
theorem rs_X5_washes_21 (n : Nat) (L : AL) (st : List AV) (M : List AC) : rx_X5_washes (n + 1) 21 L st M = am_j (rx_X5_washes n) ((tIc 0 1) 21 L st M) := rfl
theorem rs_X5_washes_22 (n : Nat) (L : AL) (st : List AV) (M : List AC) : rx_X5_washes (n + 1) 22 L st M = am_j (rx_X5_washes n) ((tIst 2 1) 22 L st M) := rfl
theorem rs_X5_washes_23 (n : Nat) (L : AL) (st : List AV) (M : List AC) : rx_X5_washes (n + 1) 23 L st M = am_j (rx_X5_washes n) ((tIld 2 1) 23 L st M) := rfl
theorem rs_X5_washes_24 (n : Nat) (L : AL) (st : List AV) (M : List AC) : rx_X5_washes (n + 1) 24 L st M = am_j (rx_X5_washes n) ((tIc 9 2) 24 L st M) := rfl
theorem rs_X5_washes_26 (n : Nat) (L : AL) (st : List AV) (M : List AC) : rx_X5_washes (n + 1) 26 L st M = am_j (rx_X5_washes n) ((tCmgt 55) 26 L st M) := rfl
theorem rs_X5_washes_29 (n : Nat) (L : AL) (st : List AV) (M : List AC) : rx_X5_washes (n + 1) 29 L st M = am_j (rx_X5_washes n) ((tAld 0 1) 29 L st M) := rfl
theorem rs_X5_washes_30 (n : Nat) (L : AL) (st : List AV) (M : List AC) : rx_X5_washes (n + 1) 30 L st M = am_j (rx_X5_washes n) ((tGf 5 3) 30 L st M) := rfl
theorem rs_X5_washes_33 (n : Nat) (L : AL) (st : List AV) (M : List AC) : rx_X5_washes (n + 1) 33 L st M = am_j (rx_X5_washes n) ((tIld 1 1) 33 L st M) := rfl
theorem rs_X5_washes_34 (n : Nat) (L : AL) (st : List AV) (M : List AC) : rx_X5_washes (n + 1) 34 L st M = am_j (rx_X5_washes n) ((tCv 4 1 fn_X4_riseToRow) 34 L st M) := rfl
theorem rs_X5_washes_37 (n : Nat) (L : AL) (st : List AV) (M : List AC) : rx_X5_washes (n + 1) 37 L st M = am_j (rx_X5_washes n) ((tIfne 42) 37 L st M) := rfl
theorem rs_X5_washes_40 (n : Nat) (L : AL) (st : List AV) (M : List AC) : rx_X5_washes (n + 1) 40 L st M = am_j (rx_X5_washes n) ((tIld 2 1) 40 L st M) := rfl
theorem rs_X5_washes_42 (n : Nat) (L : AL) (st : List AV) (M : List AC) : rx_X5_washes (n + 1) 42 L st M = am_j (rx_X5_washes n) ((tAld 0 1) 42 L st M) := rfl
theorem rs_X5_washes_43 (n : Nat) (L : AL) (st : List AV) (M : List AC) : rx_X5_washes (n + 1) 43 L st M = am_j (rx_X5_washes n) ((tGf 5 3) 43 L st M) := rfl
theorem rs_X5_washes_46 (n : Nat) (L : AL) (st : List AV) (M : List AC) : rx_X5_washes (n + 1) 46 L st M = am_j (rx_X5_washes n) ((tCv 4 0 fn_X4_shrink) 46 L st M) := rfl
theorem rs_X5_washes_49 (n : Nat) (L : AL) (st : List AV) (M : List AC) : rx_X5_washes (n + 1) 49 L st M = am_j (rx_X5_washes n) ((tIinc 2 1) 49 L st M) := rfl
theorem rs_X5_washes_52 (n : Nat) (L : AL) (st : List AV) (M : List AC) : rx_X5_washes (n + 1) 52 L st M = am_j (rx_X5_washes n) ((tGo 23) 52 L st M) := rfl
theorem rs_X5_washes_55 (n : Nat) (L : AL) (st : List AV) (M : List AC) : rx_X5_washes (n + 1) 55 L st M = am_j (rx_X5_washes n) ((tIc (-9) 2) 55 L st M) := rfl
theorem rs_X5_washes_9 (n : Nat) (L : AL) (st : List AV) (M : List AC) : rx_X5_washes (n + 1) 9 L st M = am_e rI st M := rfl
theorem rs_X5_washes_41 (n : Nat) (L : AL) (st : List AV) (M : List AC) : rx_X5_washes (n + 1) 41 L st M = am_e rI st M := rfl
theorem rs_X5_washes_57 (n : Nat) (L : AL) (st : List AV) (M : List AC) : rx_X5_washes (n + 1) 57 L st M = am_e rI st M := rfl
theorem ri_X5_washes (c : Prop) [Decidable c] (p q n : Nat) (L : AL) (st : List AV) (M : List AC) : rx_X5_washes n (if c then p else q) L st M = if c then rx_X5_washes n p L st M else rx_X5_washes n q L st M := by split <;> rfl
theorem rm_X5_washes {n k pc : Nat} {L : AL} {st : List AV} {M : List AC} {x : Option AV × List AC} (h : rx_X5_washes n pc L st M = some x) (hk : n ≤ k) : rx_X5_washes k pc L st M = some x := am_r_mono n k h hk
def fn_X5_washes : Fn := am_fn rx_X5_washes 3
theorem fok_X5_washes : Fok mi_X5_washes fn_X5_washes := fun _ _ _ _ h => am_fok ok_X5_washes rk_X5_washes rfl h
theorem lp_X5_washes {M : List AC} {len fa ac : Int} {sr : AV} {sd : Int64} (h0 : M[0]? = some (co len fa ac sr sd)) {st' : Int} {g' s' d' b' : F4} (hs' : HS M 7 st' g' s' d' b') {st m : Int} {g b : F4} (hst : 1 ≤ st ∧ st ≤ 3) (hg : i4 1 9 g) (hb : i4 0 3 b) (hm : 1 ≤ m ∧ m ≤ 6) : ∀ (n : Nat) (t : Int) (s d9 : F4), t + n = 10 → 0 ≤ t → i4 0 9 s → i4 0 6 d9 → ∃ s1 d1 : F4, Ru rx_X5_washes (40 * n + 10) 23 [some (vR 0), some (vI m), some (vI t)] [] (T5 M st g s d9 b) (some (vI (ws5 st g b m n t s)), T5 M st g s1 d1 b)
  | 0, t, s, d9, ht, ht0, hs9, hd9 => by
    have e : t = 10 := by omega
    subst e
    refine ⟨s, d9, 9 + 1, by omega, ?_⟩
    rw [rs_X5_washes_23, ws5]
    simp [↓ri_X5_washes, rs_X5_washes_0, rs_X5_washes_1, rs_X5_washes_4, rs_X5_washes_7, rs_X5_washes_10, rs_X5_washes_11, rs_X5_washes_14, rs_X5_washes_15, rs_X5_washes_18, rs_X5_washes_21, rs_X5_washes_22, rs_X5_washes_24, rs_X5_washes_26, rs_X5_washes_29, rs_X5_washes_30, rs_X5_washes_33, rs_X5_washes_34, rs_X5_washes_37, rs_X5_washes_40, rs_X5_washes_42, rs_X5_washes_43, rs_X5_washes_46, rs_X5_washes_49, rs_X5_washes_52, rs_X5_washes_55, rs_X5_washes_9, rs_X5_washes_41, rs_X5_washes_57, -List.getElem?_eq_getElem, am_js, am_e, am_in, am_sl, rI, rZ, rV, rJ, rA, rC, kI, kJ, kR, am_one, am_nl, am_w8, tIc, tLc, tNul, tIld, tLld, tAld, tIst, tLst, tAst, tIinc, tI2, tDv, tL2, tLrem, tLs, tLcmp, tI2l, tL2i, tI2c, tDup, tDup2, tPop, tGo, tIfeq, tIfne, tIflt, tIfge, tIfgt, tIfle, tCmeq, tCmne, tCmlt, tCmge, tCmgt, tCmle, tNu, tTs, tGf, tPf, tGs, tIal, tIas, tBal, tBas, tAln, tSv, tSc, tSb, tSl, tSk, tCv, tCs, tCt, tMx, tMn, wr_10000, wr_100000, wr_1000000, wr_10000000, wr_100000000, wr_2400, wr_9999, wr_0, wr_1, wr_2, wr_3, wr_4, wr_5, wr_6, wr_7, wr_8, wr_9, wr_10, wr_11, wr_12, wr_13, wr_14, wr_15, wr_16, wr_17, wr_18, wr_19, wr_20, wr_21, wr_22, wr_23, wr_24, wr_25, wr_26, wr_27, wr_28, wr_29, wr_30, wr_31, wr_32, wr_33, wr_34, wr_35, wr_36, wr_37, wr_38, wr_39, wr_40, wr_41, wr_42, wr_43, wr_44, wr_45, wr_46, wr_47, wr_48, wr_49, wr_50, wr_51, wr_52, wr_53, wr_54, wr_55, wr_56, wr_57, wr_58, wr_59, wr_60, wr_61, wr_62, wr_63, wr_99, wr_100, wr_192, wr_255, wr_256, wr_343, wr_999, wr_1000, wr_2401, wr_2147483647, wr_65535, wr_m1, wr_m2, wr_m3, wr_m4, wr_m9, ak_1000, ak_1001, ak_1002, ak_0, ak_1, ak_2, ak_3, ak_4, ak_5, ak_6, ak_7, ak_8, ak_9, ak_10, ak_11, ak_12, ak_13, ak_14, ak_15, ak_16, ak_17, ak_18, ak_19, ak_20, ak_21, ak_22, ak_23, ak_24, ak_25, ak_26, ak_27, ak_28, ak_29, ak_30, ak_31, ak_32, ak_33, ak_34, ak_35, ak_36, ak_37, ak_38, ak_39, ak_40, ak_41, ak_42, ak_43, ak_44, ak_45, ak_46, ak_47]
  | n + 1, t, s, d9, ht, ht0, hs9, hd9 => by
    have wt : wr t = t := wr_id (by omega) (by omega)
    have nt : ¬ 9 < t := by omega
    have q2 := T5_rise hs' (⟨hst, hg, hs9, hd9, hb⟩ : SR st g s d9 b) m (by omega)
    have v0 := (T5_ne M st g s d9 b 0 (by omega)).trans h0
    have v7 := (T5_HS hs' st g s d9 b).seven.1
    have u0 := (T5_ne M st g s (rio st g s b m).1 b 0 (by omega)).trans h0
    have u7 := (T5_HS hs' st g s (rio st g s b m).1 b).seven.1
    have q3 := sp_X4_shrink (T5_HS hs' st g s (rio st g s b m).1 b) hs9
    simp only [Nat.reduceAdd] at q3
    rw [T5_9] at q3
    obtain ⟨s1, d1, ih⟩ := lp_X5_washes h0 hs' hst hg hb hm n (t + 1) (wz4 s) (rio st g s b m).1 (by omega) (by omega) (wz4_rng hs9) (rio_i4 st g s b (by omega))
    rw [ws5]
    have h01 := rio_01 st g s b m
    generalize rio st g s b m = R at q2 q3 u0 u7 ih h01 ⊢
    generalize T5 M st g s d9 b = V at q2 v0 v7 ⊢
    simp only [co] at v0 u0
    rcases h01 with e | e <;> rw [e] at q2
    · rw [if_pos e]
      refine ⟨s, R.1, 39 + 1, by omega, ?_⟩
      rw [rs_X5_washes_23]
      simp [↓ri_X5_washes, rs_X5_washes_0, rs_X5_washes_1, rs_X5_washes_4, rs_X5_washes_7, rs_X5_washes_10, rs_X5_washes_11, rs_X5_washes_14, rs_X5_washes_15, rs_X5_washes_18, rs_X5_washes_21, rs_X5_washes_22, rs_X5_washes_24, rs_X5_washes_26, rs_X5_washes_29, rs_X5_washes_30, rs_X5_washes_33, rs_X5_washes_34, rs_X5_washes_37, rs_X5_washes_40, rs_X5_washes_42, rs_X5_washes_43, rs_X5_washes_46, rs_X5_washes_49, rs_X5_washes_52, rs_X5_washes_55, rs_X5_washes_9, rs_X5_washes_41, rs_X5_washes_57, -List.getElem?_eq_getElem, am_js, am_e, am_in, am_sl, rI, rZ, rV, rJ, rA, rC, kI, kJ, kR, am_one, am_nl, am_w8, tIc, tLc, tNul, tIld, tLld, tAld, tIst, tLst, tAst, tIinc, tI2, tDv, tL2, tLrem, tLs, tLcmp, tI2l, tL2i, tI2c, tDup, tDup2, tPop, tGo, tIfeq, tIfne, tIflt, tIfge, tIfgt, tIfle, tCmeq, tCmne, tCmlt, tCmge, tCmgt, tCmle, tNu, tTs, tGf, tPf, tGs, tIal, tIas, tBal, tBas, tAln, tSv, tSc, tSb, tSl, tSk, tCv, tCs, tCt, tMx, tMn, wr_10000, wr_100000, wr_1000000, wr_10000000, wr_100000000, wr_2400, wr_9999, wr_0, wr_1, wr_2, wr_3, wr_4, wr_5, wr_6, wr_7, wr_8, wr_9, wr_10, wr_11, wr_12, wr_13, wr_14, wr_15, wr_16, wr_17, wr_18, wr_19, wr_20, wr_21, wr_22, wr_23, wr_24, wr_25, wr_26, wr_27, wr_28, wr_29, wr_30, wr_31, wr_32, wr_33, wr_34, wr_35, wr_36, wr_37, wr_38, wr_39, wr_40, wr_41, wr_42, wr_43, wr_44, wr_45, wr_46, wr_47, wr_48, wr_49, wr_50, wr_51, wr_52, wr_53, wr_54, wr_55, wr_56, wr_57, wr_58, wr_59, wr_60, wr_61, wr_62, wr_63, wr_99, wr_100, wr_192, wr_255, wr_256, wr_343, wr_999, wr_1000, wr_2401, wr_2147483647, wr_65535, wr_m1, wr_m2, wr_m3, wr_m4, wr_m9, ak_1000, ak_1001, ak_1002, ak_0, ak_1, ak_2, ak_3, ak_4, ak_5, ak_6, ak_7, ak_8, ak_9, ak_10, ak_11, ak_12, ak_13, ak_14, ak_15, ak_16, ak_17, ak_18, ak_19, ak_20, ak_21, ak_22, ak_23, ak_24, ak_25, ak_26, ak_27, ak_28, ak_29, ak_30, ak_31, ak_32, ak_33, ak_34, ak_35, ak_36, ak_37, ak_38, ak_39, ak_40, ak_41, ak_42, ak_43, ak_44, ak_45, ak_46, ak_47, wt, nt, v0, v7, q2]
    · rw [if_neg (by rw [e]; decide)]
      obtain ⟨k, hk, h⟩ := ih
      refine ⟨s1, d1, k + 39 + 1, by omega, ?_⟩
      rw [rs_X5_washes_23]
      generalize T5 M st g (wz4 s) R.1 b = V3 at q3 h
      generalize T5 M st g s R.1 b = V2 at q2 q3 u0 u7
      simp [↓ri_X5_washes, rs_X5_washes_0, rs_X5_washes_1, rs_X5_washes_4, rs_X5_washes_7, rs_X5_washes_10, rs_X5_washes_11, rs_X5_washes_14, rs_X5_washes_15, rs_X5_washes_18, rs_X5_washes_21, rs_X5_washes_22, rs_X5_washes_24, rs_X5_washes_26, rs_X5_washes_29, rs_X5_washes_30, rs_X5_washes_33, rs_X5_washes_34, rs_X5_washes_37, rs_X5_washes_40, rs_X5_washes_42, rs_X5_washes_43, rs_X5_washes_46, rs_X5_washes_49, rs_X5_washes_52, rs_X5_washes_55, rs_X5_washes_9, rs_X5_washes_41, rs_X5_washes_57, -List.getElem?_eq_getElem, am_js, am_e, am_in, am_sl, rI, rZ, rV, rJ, rA, rC, kI, kJ, kR, am_one, am_nl, am_w8, tIc, tLc, tNul, tIld, tLld, tAld, tIst, tLst, tAst, tIinc, tI2, tDv, tL2, tLrem, tLs, tLcmp, tI2l, tL2i, tI2c, tDup, tDup2, tPop, tGo, tIfeq, tIfne, tIflt, tIfge, tIfgt, tIfle, tCmeq, tCmne, tCmlt, tCmge, tCmgt, tCmle, tNu, tTs, tGf, tPf, tGs, tIal, tIas, tBal, tBas, tAln, tSv, tSc, tSb, tSl, tSk, tCv, tCs, tCt, tMx, tMn, wr_10000, wr_100000, wr_1000000, wr_10000000, wr_100000000, wr_2400, wr_9999, wr_0, wr_1, wr_2, wr_3, wr_4, wr_5, wr_6, wr_7, wr_8, wr_9, wr_10, wr_11, wr_12, wr_13, wr_14, wr_15, wr_16, wr_17, wr_18, wr_19, wr_20, wr_21, wr_22, wr_23, wr_24, wr_25, wr_26, wr_27, wr_28, wr_29, wr_30, wr_31, wr_32, wr_33, wr_34, wr_35, wr_36, wr_37, wr_38, wr_39, wr_40, wr_41, wr_42, wr_43, wr_44, wr_45, wr_46, wr_47, wr_48, wr_49, wr_50, wr_51, wr_52, wr_53, wr_54, wr_55, wr_56, wr_57, wr_58, wr_59, wr_60, wr_61, wr_62, wr_63, wr_99, wr_100, wr_192, wr_255, wr_256, wr_343, wr_999, wr_1000, wr_2401, wr_2147483647, wr_65535, wr_m1, wr_m2, wr_m3, wr_m4, wr_m9, ak_1000, ak_1001, ak_1002, ak_0, ak_1, ak_2, ak_3, ak_4, ak_5, ak_6, ak_7, ak_8, ak_9, ak_10, ak_11, ak_12, ak_13, ak_14, ak_15, ak_16, ak_17, ak_18, ak_19, ak_20, ak_21, ak_22, ak_23, ak_24, ak_25, ak_26, ak_27, ak_28, ak_29, ak_30, ak_31, ak_32, ak_33, ak_34, ak_35, ak_36, ak_37, ak_38, ak_39, ak_40, ak_41, ak_42, ak_43, ak_44, ak_45, ak_46, ak_47, wt, nt, v0, v7, q2, u0, u7, q3]
      exact rm_X5_washes h (by omega)
theorem sp_X5_washes {M : List AC} {len fa ac : Int} {sr : AV} {sd : Int64} (h0 : M[0]? = some (co len fa ac sr sd)) {st : Int} {g s d b : F4} (hs : HS M 2 st g s d b) {st' : Int} {g' s' d' b' : F4} (hs' : HS M 7 st' g' s' d' b') (hr : SR st g s d b) (m : Int) (hm : -2147483648 ≤ m ∧ m < 2147483648) : ∃ (st1 : Int) (g1 s1 d1 b1 : F4), fn_X5_washes [vR 0, vI m] M = some (some (vI (if 1 ≤ m ∧ m ≤ 6 then ws5 st g b m 10 0 s else -2)), T5 M st1 g1 s1 d1 b1) := by
  have wm : wr m = m := wr_id (by omega) (by omega)
  obtain ⟨j0, -⟩ := hs'.seven
  by_cases hM : 1 ≤ m ∧ m ≤ 6
  · rw [if_pos hM]
    obtain ⟨s1, d1, k, hk, h⟩ := lp_X5_washes h0 hs' hr.1 hr.2.1 hr.2.2.2.2 hM 10 0 s d (by omega) (by omega) hr.2.2.1 hr.2.2.2.1
    have q1 := T5_bec hs hs'
    refine ⟨st, g, s1, d1, b, ?_⟩
    generalize ws5 st g b m 10 0 s = W at h ⊢
    generalize T5 M st g s d b = V at q1 h
    simp only [co] at h0
    (refine am_fnR (tb := tb_X5_washes) (N := 2000) (Nat.le_of_ble_eq_true rfl) (Nat.le_of_ble_eq_true rfl) ?_; show Ru rx_X5_washes 2000 0 _ _ _ _)
    refine ⟨k + 20, by omega, ?_⟩
    simp [↓ri_X5_washes, rs_X5_washes_0, rs_X5_washes_1, rs_X5_washes_4, rs_X5_washes_7, rs_X5_washes_10, rs_X5_washes_11, rs_X5_washes_14, rs_X5_washes_15, rs_X5_washes_18, rs_X5_washes_21, rs_X5_washes_22, rs_X5_washes_24, rs_X5_washes_26, rs_X5_washes_29, rs_X5_washes_30, rs_X5_washes_33, rs_X5_washes_34, rs_X5_washes_37, rs_X5_washes_40, rs_X5_washes_42, rs_X5_washes_43, rs_X5_washes_46, rs_X5_washes_49, rs_X5_washes_52, rs_X5_washes_55, rs_X5_washes_9, rs_X5_washes_41, rs_X5_washes_57, -List.getElem?_eq_getElem, am_js, am_e, am_in, am_sl, rI, rZ, rV, rJ, rA, rC, kI, kJ, kR, am_one, am_nl, am_w8, tIc, tLc, tNul, tIld, tLld, tAld, tIst, tLst, tAst, tIinc, tI2, tDv, tL2, tLrem, tLs, tLcmp, tI2l, tL2i, tI2c, tDup, tDup2, tPop, tGo, tIfeq, tIfne, tIflt, tIfge, tIfgt, tIfle, tCmeq, tCmne, tCmlt, tCmge, tCmgt, tCmle, tNu, tTs, tGf, tPf, tGs, tIal, tIas, tBal, tBas, tAln, tSv, tSc, tSb, tSl, tSk, tCv, tCs, tCt, tMx, tMn, wr_10000, wr_100000, wr_1000000, wr_10000000, wr_100000000, wr_2400, wr_9999, wr_0, wr_1, wr_2, wr_3, wr_4, wr_5, wr_6, wr_7, wr_8, wr_9, wr_10, wr_11, wr_12, wr_13, wr_14, wr_15, wr_16, wr_17, wr_18, wr_19, wr_20, wr_21, wr_22, wr_23, wr_24, wr_25, wr_26, wr_27, wr_28, wr_29, wr_30, wr_31, wr_32, wr_33, wr_34, wr_35, wr_36, wr_37, wr_38, wr_39, wr_40, wr_41, wr_42, wr_43, wr_44, wr_45, wr_46, wr_47, wr_48, wr_49, wr_50, wr_51, wr_52, wr_53, wr_54, wr_55, wr_56, wr_57, wr_58, wr_59, wr_60, wr_61, wr_62, wr_63, wr_99, wr_100, wr_192, wr_255, wr_256, wr_343, wr_999, wr_1000, wr_2401, wr_2147483647, wr_65535, wr_m1, wr_m2, wr_m3, wr_m4, wr_m9, ak_1000, ak_1001, ak_1002, ak_0, ak_1, ak_2, ak_3, ak_4, ak_5, ak_6, ak_7, ak_8, ak_9, ak_10, ak_11, ak_12, ak_13, ak_14, ak_15, ak_16, ak_17, ak_18, ak_19, ak_20, ak_21, ak_22, ak_23, ak_24, ak_25, ak_26, ak_27, ak_28, ak_29, ak_30, ak_31, ak_32, ak_33, ak_34, ak_35, ak_36, ak_37, ak_38, ak_39, ak_40, ak_41, ak_42, ak_43, ak_44, ak_45, ak_46, ak_47, sp_X5_isAim, wm, hM, h0, j0, q1]
    exact rm_X5_washes h (by omega)
  · rw [if_neg hM]
    refine ⟨st', g', s', d', b', ?_⟩
    rw [T5_same hs']
    (refine am_fnI (tb := tb_X5_washes) (n := 60) (Nat.le_of_ble_eq_true rfl) (Nat.le_of_ble_eq_true rfl) ?_; show rx_X5_washes 60 0 _ _ _ = _)
    simp [↓ri_X5_washes, rs_X5_washes_0, rs_X5_washes_1, rs_X5_washes_4, rs_X5_washes_7, rs_X5_washes_10, rs_X5_washes_11, rs_X5_washes_14, rs_X5_washes_15, rs_X5_washes_18, rs_X5_washes_21, rs_X5_washes_22, rs_X5_washes_23, rs_X5_washes_24, rs_X5_washes_26, rs_X5_washes_29, rs_X5_washes_30, rs_X5_washes_33, rs_X5_washes_34, rs_X5_washes_37, rs_X5_washes_40, rs_X5_washes_42, rs_X5_washes_43, rs_X5_washes_46, rs_X5_washes_49, rs_X5_washes_52, rs_X5_washes_55, rs_X5_washes_9, rs_X5_washes_41, rs_X5_washes_57, -List.getElem?_eq_getElem, am_js, am_e, am_in, am_sl, rI, rZ, rV, rJ, rA, rC, kI, kJ, kR, am_one, am_nl, am_w8, tIc, tLc, tNul, tIld, tLld, tAld, tIst, tLst, tAst, tIinc, tI2, tDv, tL2, tLrem, tLs, tLcmp, tI2l, tL2i, tI2c, tDup, tDup2, tPop, tGo, tIfeq, tIfne, tIflt, tIfge, tIfgt, tIfle, tCmeq, tCmne, tCmlt, tCmge, tCmgt, tCmle, tNu, tTs, tGf, tPf, tGs, tIal, tIas, tBal, tBas, tAln, tSv, tSc, tSb, tSl, tSk, tCv, tCs, tCt, tMx, tMn, wr_10000, wr_100000, wr_1000000, wr_10000000, wr_100000000, wr_2400, wr_9999, wr_0, wr_1, wr_2, wr_3, wr_4, wr_5, wr_6, wr_7, wr_8, wr_9, wr_10, wr_11, wr_12, wr_13, wr_14, wr_15, wr_16, wr_17, wr_18, wr_19, wr_20, wr_21, wr_22, wr_23, wr_24, wr_25, wr_26, wr_27, wr_28, wr_29, wr_30, wr_31, wr_32, wr_33, wr_34, wr_35, wr_36, wr_37, wr_38, wr_39, wr_40, wr_41, wr_42, wr_43, wr_44, wr_45, wr_46, wr_47, wr_48, wr_49, wr_50, wr_51, wr_52, wr_53, wr_54, wr_55, wr_56, wr_57, wr_58, wr_59, wr_60, wr_61, wr_62, wr_63, wr_99, wr_100, wr_192, wr_255, wr_256, wr_343, wr_999, wr_1000, wr_2401, wr_2147483647, wr_65535, wr_m1, wr_m2, wr_m3, wr_m4, wr_m9, ak_1000, ak_1001, ak_1002, ak_0, ak_1, ak_2, ak_3, ak_4, ak_5, ak_6, ak_7, ak_8, ak_9, ak_10, ak_11, ak_12, ak_13, ak_14, ak_15, ak_16, ak_17, ak_18, ak_19, ak_20, ak_21, ak_22, ak_23, ak_24, ak_25, ak_26, ak_27, ak_28, ak_29, ak_30, ak_31, ak_32, ak_33, ak_34, ak_35, ak_36, ak_37, ak_38, ak_39, ak_40, ak_41, ak_42, ak_43, ak_44, ak_45, ak_46, ak_47, -not_and, sp_X5_isAim, wm, hM]
def bd5 (st : Int) (g s : F4) (m : Int) : Nat → Int → Int → Int → Int
  | 0, _, best, _ => best
  | n + 1, o, best, least => if bsm (bo o) < least ∧ (rio st g s (bo o) m).2 = 1 then bd5 st g s m n (o + 1) (fg (bo o)) (bsm (bo o)) else bd5 st g s m n (o + 1) best least
abbrev mi_X5_bending : Mi := (yX5_bending, cX5_bending, 7, some .int, 5)
theorem mf_X5_bending : am_mf mi_X5_bending 1 := ⟨w_co_X5_bending, w_in_X5, ⟨by decide +kernel, by decide +kernel⟩, by decide +kernel, by decide⟩
def tb_X5_bending : List (Nat × Tr) := [(0, tIld 1 1), (1, tCs 1 fn_X5_isAim), (4, tIfne 10), (7, tIc (-2) 2), (10, tAld 0 1), (11, tGf 5 3), (14, tAld 0 1), (15, tGf 5 2), (18, tCv 4 1 fn_X4_become), (21, tIc (-9) 2), (23, tIst 2 1), (24, tIc 13 2), (26, tIst 3 1), (27, tIc 0 1), (28, tIst 4 2), (30, tIld 4 2), (32, tIc 256 3), (35, tCmge 129), (38, tIc 0 1), (39, tIst 5 2), (41, tIc 0 1), (42, tIst 6 2), (44, tIld 6 2), (46, tIc 4 1), (47, tCmge 92), (50, tAld 0 1), (51, tGf 5 3), (54, tGf 4 4), (57, tIld 6 2), (59, tIld 4 2), (61, tIc 2 1), (62, tIc 3 1), (63, tIld 6 2), (65, tI2 (fun a b => a - b)), (66, tI2 (fun a b => a * b)), (67, tI2 oShr), (68, tIc 3 1), (69, tI2 oAnd), (70, tIas), (71, tIld 5 2), (73, tAld 0 1), (74, tGf 5 3), (77, tGf 4 4), (80, tIld 6 2), (82, tIal), (83, tI2 (fun a b => a + b)), (84, tIst 5 2), (86, tIinc 6 1), (89, tGo 44), (92, tIld 5 2), (94, tIld 3 1), (95, tCmge 123), (98, tAld 0 1), (99, tGf 5 3), (102, tIld 1 1), (103, tCv 4 1 fn_X4_riseToRow), (106, tIfeq 123), (109, tIld 5 2), (111, tIst 3 1), (112, tAld 0 1), (113, tGf 5 3), (116, tGf 4 4), (119, tCs 1 fn_X5_asFigures), (122, tIst 2 1), (123, tIinc 4 1), (126, tGo 30), (129, tIld 2 1)]
theorem ok_X5_bending : Tok mi_X5_bending tb_X5_bending :=
  Tc (sd_iload_n dX5_bending_0) <|
  Tc (sd_cs fok_X5_isAim mf_X5_isAim w_ml_X5_165 w_st_X5_isAim (by decide) dX5_bending_1) <|
  Tc (sd_if_ne (by decide) dX5_bending_4) <|
  Tc (sd_bipush (by decide +kernel) dX5_bending_7) <|
  Tc (sd_aload_n dX5_bending_10) <|
  Tc (sd_getf (T := TX5) rfl giX5 (by decide) w_fl_X5_24 dX5_bending_11) <|
  Tc (sd_aload_n dX5_bending_14) <|
  Tc (sd_getf (T := TX5) rfl giX5 (by decide) w_fl_X5_20 dX5_bending_15) <|
  Tc (sd_cv (T := TX4) fok_X4_become mf_X4_become rfl w_ml_X5_124 w_im_X4_become w_se_X4_become (by decide) dX5_bending_18) <|
  Tc (sd_bipush (by decide +kernel) dX5_bending_21) <|
  Tc (sd_istore_n dX5_bending_23) <|
  Tc (sd_bipush (by decide +kernel) dX5_bending_24) <|
  Tc (sd_istore_n dX5_bending_26) <|
  Tc (sd_iconst rfl dX5_bending_27) <|
  Tc (sd_istore dX5_bending_28) <|
  Tc (sd_iload dX5_bending_30) <|
  Tc (sd_sipush (by decide +kernel) dX5_bending_32) <|
  Tc (sd_cm_ge (by decide) dX5_bending_35) <|
  Tc (sd_iconst rfl dX5_bending_38) <|
  Tc (sd_istore dX5_bending_39) <|
  Tc (sd_iconst rfl dX5_bending_41) <|
  Tc (sd_istore dX5_bending_42) <|
  Tc (sd_iload dX5_bending_44) <|
  Tc (sd_iconst rfl dX5_bending_46) <|
  Tc (sd_cm_ge (by decide) dX5_bending_47) <|
  Tc (sd_aload_n dX5_bending_50) <|
  Tc (sd_getf (T := TX5) rfl giX5 (by decide) w_fl_X5_24 dX5_bending_51) <|
  Tc (sd_getf (T := TX4) rfl giX4 (by decide) w_fl_X5_95 dX5_bending_54) <|
  Tc (sd_iload dX5_bending_57) <|
  Tc (sd_iload dX5_bending_59) <|
  Tc (sd_iconst rfl dX5_bending_61) <|
  Tc (sd_iconst rfl dX5_bending_62) <|
  Tc (sd_iload dX5_bending_63) <|
  Tc (sd_isub dX5_bending_65) <|
  Tc (sd_imul dX5_bending_66) <|
  Tc (sd_ishr dX5_bending_67) <|
  Tc (sd_iconst rfl dX5_bending_68) <|
  Tc (sd_iand dX5_bending_69) <|
  Tc (sd_ias dX5_bending_70) <|
  Tc (sd_iload dX5_bending_71) <|
  Tc (sd_aload_n dX5_bending_73) <|
  Tc (sd_getf (T := TX5) rfl giX5 (by decide) w_fl_X5_24 dX5_bending_74) <|
  Tc (sd_getf (T := TX4) rfl giX4 (by decide) w_fl_X5_95 dX5_bending_77) <|
  Tc (sd_iload dX5_bending_80) <|
  Tc (sd_ial dX5_bending_82) <|
  Tc (sd_iadd dX5_bending_83) <|
  Tc (sd_istore dX5_bending_84) <|
  Tc (sd_iinc dX5_bending_86) <|
  Tc (sd_goto (by decide) dX5_bending_89) <|
  Tc (sd_iload dX5_bending_92) <|
  Tc (sd_iload_n dX5_bending_94) <|
  Tc (sd_cm_ge (by decide) dX5_bending_95) <|
  Tc (sd_aload_n dX5_bending_98) <|
  Tc (sd_getf (T := TX5) rfl giX5 (by decide) w_fl_X5_24 dX5_bending_99) <|
  Tc (sd_iload_n dX5_bending_102) <|
  Tc (sd_cv (T := TX4) fok_X4_riseToRow mf_X4_riseToRow rfl w_ml_X5_171 w_im_X4_riseToRow w_se_X4_riseToRow (by decide) dX5_bending_103) <|
  Tc (sd_if_eq (by decide) dX5_bending_106) <|
  Tc (sd_iload dX5_bending_109) <|
  Tc (sd_istore_n dX5_bending_111) <|
  Tc (sd_aload_n dX5_bending_112) <|
  Tc (sd_getf (T := TX5) rfl giX5 (by decide) w_fl_X5_24 dX5_bending_113) <|
  Tc (sd_getf (T := TX4) rfl giX4 (by decide) w_fl_X5_95 dX5_bending_116) <|
  Tc (sd_cs fok_X5_asFigures mf_X5_asFigures w_ml_X5_141 w_st_X5_asFigures (by decide) dX5_bending_119) <|
  Tc (sd_istore_n dX5_bending_122) <|
  Tc (sd_iinc dX5_bending_123) <|
  Tc (sd_goto (by decide) dX5_bending_126) <|
  Tc (sd_iload_n dX5_bending_129) <|
  Tn
theorem rk_X5_bending : Rok mi_X5_bending rI [9, 130] := rk_i dX5_bending_9 <| rk_i dX5_bending_130 <| rk_n
def rx_X5_bending : Nat → Nat → AL → List AV → List AC → Option (Option AV × List AC) := am_r tb_X5_bending rI [9, 130]
theorem rs_X5_bending_0 (n : Nat) (L : AL) (st : List AV) (M : List AC) : rx_X5_bending (n + 1) 0 L st M = am_j (rx_X5_bending n) ((tIld 1 1) 0 L st M) := rfl
theorem rs_X5_bending_1 (n : Nat) (L : AL) (st : List AV) (M : List AC) : rx_X5_bending (n + 1) 1 L st M = am_j (rx_X5_bending n) ((tCs 1 fn_X5_isAim) 1 L st M) := rfl
theorem rs_X5_bending_4 (n : Nat) (L : AL) (st : List AV) (M : List AC) : rx_X5_bending (n + 1) 4 L st M = am_j (rx_X5_bending n) ((tIfne 10) 4 L st M) := rfl
theorem rs_X5_bending_7 (n : Nat) (L : AL) (st : List AV) (M : List AC) : rx_X5_bending (n + 1) 7 L st M = am_j (rx_X5_bending n) ((tIc (-2) 2) 7 L st M) := rfl
theorem rs_X5_bending_10 (n : Nat) (L : AL) (st : List AV) (M : List AC) : rx_X5_bending (n + 1) 10 L st M = am_j (rx_X5_bending n) ((tAld 0 1) 10 L st M) := rfl
theorem rs_X5_bending_11 (n : Nat) (L : AL) (st : List AV) (M : List AC) : rx_X5_bending (n + 1) 11 L st M = am_j (rx_X5_bending n) ((tGf 5 3) 11 L st M) := rfl
theorem rs_X5_bending_14 (n : Nat) (L : AL) (st : List AV) (M : List AC) : rx_X5_bending (n + 1) 14 L st M = am_j (rx_X5_bending n) ((tAld 0 1) 14 L st M) := rfl
theorem rs_X5_bending_15 (n : Nat) (L : AL) (st : List AV) (M : List AC) : rx_X5_bending (n + 1) 15 L st M = am_j (rx_X5_bending n) ((tGf 5 2) 15 L st M) := rfl
theorem rs_X5_bending_18 (n : Nat) (L : AL) (st : List AV) (M : List AC) : rx_X5_bending (n + 1) 18 L st M = am_j (rx_X5_bending n) ((tCv 4 1 fn_X4_become) 18 L st M) := rfl
theorem rs_X5_bending_21 (n : Nat) (L : AL) (st : List AV) (M : List AC) : rx_X5_bending (n + 1) 21 L st M = am_j (rx_X5_bending n) ((tIc (-9) 2) 21 L st M) := rfl
theorem rs_X5_bending_23 (n : Nat) (L : AL) (st : List AV) (M : List AC) : rx_X5_bending (n + 1) 23 L st M = am_j (rx_X5_bending n) ((tIst 2 1) 23 L st M) := rfl
theorem rs_X5_bending_24 (n : Nat) (L : AL) (st : List AV) (M : List AC) : rx_X5_bending (n + 1) 24 L st M = am_j (rx_X5_bending n) ((tIc 13 2) 24 L st M) := rfl
theorem rs_X5_bending_26 (n : Nat) (L : AL) (st : List AV) (M : List AC) : rx_X5_bending (n + 1) 26 L st M = am_j (rx_X5_bending n) ((tIst 3 1) 26 L st M) := rfl
theorem rs_X5_bending_27 (n : Nat) (L : AL) (st : List AV) (M : List AC) : rx_X5_bending (n + 1) 27 L st M = am_j (rx_X5_bending n) ((tIc 0 1) 27 L st M) := rfl
theorem rs_X5_bending_28 (n : Nat) (L : AL) (st : List AV) (M : List AC) : rx_X5_bending (n + 1) 28 L st M = am_j (rx_X5_bending n) ((tIst 4 2) 28 L st M) := rfl
theorem rs_X5_bending_30 (n : Nat) (L : AL) (st : List AV) (M : List AC) : rx_X5_bending (n + 1) 30 L st M = am_j (rx_X5_bending n) ((tIld 4 2) 30 L st M) := rfl
theorem rs_X5_bending_32 (n : Nat) (L : AL) (st : List AV) (M : List AC) : rx_X5_bending (n + 1) 32 L st M = am_j (rx_X5_bending n) ((tIc 256 3) 32 L st M) := rfl
theorem rs_X5_bending_35 (n : Nat) (L : AL) (st : List AV) (M : List AC) : rx_X5_bending (n + 1) 35 L st M = am_j (rx_X5_bending n) ((tCmge 129) 35 L st M) := rfl
theorem rs_X5_bending_38 (n : Nat) (L : AL) (st : List AV) (M : List AC) : rx_X5_bending (n + 1) 38 L st M = am_j (rx_X5_bending n) ((tIc 0 1) 38 L st M) := rfl
theorem rs_X5_bending_39 (n : Nat) (L : AL) (st : List AV) (M : List AC) : rx_X5_bending (n + 1) 39 L st M = am_j (rx_X5_bending n) ((tIst 5 2) 39 L st M) := rfl
theorem rs_X5_bending_41 (n : Nat) (L : AL) (st : List AV) (M : List AC) : rx_X5_bending (n + 1) 41 L st M = am_j (rx_X5_bending n) ((tIc 0 1) 41 L st M) := rfl
theorem rs_X5_bending_42 (n : Nat) (L : AL) (st : List AV) (M : List AC) : rx_X5_bending (n + 1) 42 L st M = am_j (rx_X5_bending n) ((tIst 6 2) 42 L st M) := rfl
theorem rs_X5_bending_44 (n : Nat) (L : AL) (st : List AV) (M : List AC) : rx_X5_bending (n + 1) 44 L st M = am_j (rx_X5_bending n) ((tIld 6 2) 44 L st M) := rfl
theorem rs_X5_bending_46 (n : Nat) (L : AL) (st : List AV) (M : List AC) : rx_X5_bending (n + 1) 46 L st M = am_j (rx_X5_bending n) ((tIc 4 1) 46 L st M) := rfl
theorem rs_X5_bending_47 (n : Nat) (L : AL) (st : List AV) (M : List AC) : rx_X5_bending (n + 1) 47 L st M = am_j (rx_X5_bending n) ((tCmge 92) 47 L st M) := rfl
theorem rs_X5_bending_50 (n : Nat) (L : AL) (st : List AV) (M : List AC) : rx_X5_bending (n + 1) 50 L st M = am_j (rx_X5_bending n) ((tAld 0 1) 50 L st M) := rfl
theorem rs_X5_bending_51 (n : Nat) (L : AL) (st : List AV) (M : List AC) : rx_X5_bending (n + 1) 51 L st M = am_j (rx_X5_bending n) ((tGf 5 3) 51 L st M) := rfl
theorem rs_X5_bending_54 (n : Nat) (L : AL) (st : List AV) (M : List AC) : rx_X5_bending (n + 1) 54 L st M = am_j (rx_X5_bending n) ((tGf 4 4) 54 L st M) := rfl
theorem rs_X5_bending_57 (n : Nat) (L : AL) (st : List AV) (M : List AC) : rx_X5_bending (n + 1) 57 L st M = am_j (rx_X5_bending n) ((tIld 6 2) 57 L st M) := rfl
theorem rs_X5_bending_59 (n : Nat) (L : AL) (st : List AV) (M : List AC) : rx_X5_bending (n + 1) 59 L st M = am_j (rx_X5_bending n) ((tIld 4 2) 59 L st M) := rfl
theorem rs_X5_bending_61 (n : Nat) (L : AL) (st : List AV) (M : List AC) : rx_X5_bending (n + 1) 61 L st M = am_j (rx_X5_bending n) ((tIc 2 1) 61 L st M) := rfl
theorem rs_X5_bending_62 (n : Nat) (L : AL) (st : List AV) (M : List AC) : rx_X5_bending (n + 1) 62 L st M = am_j (rx_X5_bending n) ((tIc 3 1) 62 L st M) := rfl
theorem rs_X5_bending_63 (n : Nat) (L : AL) (st : List AV) (M : List AC) : rx_X5_bending (n + 1) 63 L st M = am_j (rx_X5_bending n) ((tIld 6 2) 63 L st M) := rfl
theorem rs_X5_bending_65 (n : Nat) (L : AL) (st : List AV) (M : List AC) : rx_X5_bending (n + 1) 65 L st M = am_j (rx_X5_bending n) ((tI2 (fun a b => a - b)) 65 L st M) := rfl
theorem rs_X5_bending_66 (n : Nat) (L : AL) (st : List AV) (M : List AC) : rx_X5_bending (n + 1) 66 L st M = am_j (rx_X5_bending n) ((tI2 (fun a b => a * b)) 66 L st M) := rfl
theorem rs_X5_bending_67 (n : Nat) (L : AL) (st : List AV) (M : List AC) : rx_X5_bending (n + 1) 67 L st M = am_j (rx_X5_bending n) ((tI2 oShr) 67 L st M) := rfl
theorem rs_X5_bending_68 (n : Nat) (L : AL) (st : List AV) (M : List AC) : rx_X5_bending (n + 1) 68 L st M = am_j (rx_X5_bending n) ((tIc 3 1) 68 L st M) := rfl
theorem rs_X5_bending_69 (n : Nat) (L : AL) (st : List AV) (M : List AC) : rx_X5_bending (n + 1) 69 L st M = am_j (rx_X5_bending n) ((tI2 oAnd) 69 L st M) := rfl
theorem rs_X5_bending_70 (n : Nat) (L : AL) (st : List AV) (M : List AC) : rx_X5_bending (n + 1) 70 L st M = am_j (rx_X5_bending n) (tIas 70 L st M) := rfl
theorem rs_X5_bending_71 (n : Nat) (L : AL) (st : List AV) (M : List AC) : rx_X5_bending (n + 1) 71 L st M = am_j (rx_X5_bending n) ((tIld 5 2) 71 L st M) := rfl
theorem rs_X5_bending_73 (n : Nat) (L : AL) (st : List AV) (M : List AC) : rx_X5_bending (n + 1) 73 L st M = am_j (rx_X5_bending n) ((tAld 0 1) 73 L st M) := rfl
theorem rs_X5_bending_74 (n : Nat) (L : AL) (st : List AV) (M : List AC) : rx_X5_bending (n + 1) 74 L st M = am_j (rx_X5_bending n) ((tGf 5 3) 74 L st M) := rfl
theorem rs_X5_bending_77 (n : Nat) (L : AL) (st : List AV) (M : List AC) : rx_X5_bending (n + 1) 77 L st M = am_j (rx_X5_bending n) ((tGf 4 4) 77 L st M) := rfl
theorem rs_X5_bending_80 (n : Nat) (L : AL) (st : List AV) (M : List AC) : rx_X5_bending (n + 1) 80 L st M = am_j (rx_X5_bending n) ((tIld 6 2) 80 L st M) := rfl
theorem rs_X5_bending_82 (n : Nat) (L : AL) (st : List AV) (M : List AC) : rx_X5_bending (n + 1) 82 L st M = am_j (rx_X5_bending n) (tIal 82 L st M) := rfl
theorem rs_X5_bending_83 (n : Nat) (L : AL) (st : List AV) (M : List AC) : rx_X5_bending (n + 1) 83 L st M = am_j (rx_X5_bending n) ((tI2 (fun a b => a + b)) 83 L st M) := rfl
theorem rs_X5_bending_84 (n : Nat) (L : AL) (st : List AV) (M : List AC) : rx_X5_bending (n + 1) 84 L st M = am_j (rx_X5_bending n) ((tIst 5 2) 84 L st M) := rfl
theorem rs_X5_bending_86 (n : Nat) (L : AL) (st : List AV) (M : List AC) : rx_X5_bending (n + 1) 86 L st M = am_j (rx_X5_bending n) ((tIinc 6 1) 86 L st M) := rfl
theorem rs_X5_bending_89 (n : Nat) (L : AL) (st : List AV) (M : List AC) : rx_X5_bending (n + 1) 89 L st M = am_j (rx_X5_bending n) ((tGo 44) 89 L st M) := rfl
theorem rs_X5_bending_92 (n : Nat) (L : AL) (st : List AV) (M : List AC) : rx_X5_bending (n + 1) 92 L st M = am_j (rx_X5_bending n) ((tIld 5 2) 92 L st M) := rfl
theorem rs_X5_bending_94 (n : Nat) (L : AL) (st : List AV) (M : List AC) : rx_X5_bending (n + 1) 94 L st M = am_j (rx_X5_bending n) ((tIld 3 1) 94 L st M) := rfl
theorem rs_X5_bending_95 (n : Nat) (L : AL) (st : List AV) (M : List AC) : rx_X5_bending (n + 1) 95 L st M = am_j (rx_X5_bending n) ((tCmge 123) 95 L st M) := rfl
theorem rs_X5_bending_98 (n : Nat) (L : AL) (st : List AV) (M : List AC) : rx_X5_bending (n + 1) 98 L st M = am_j (rx_X5_bending n) ((tAld 0 1) 98 L st M) := rfl
theorem rs_X5_bending_99 (n : Nat) (L : AL) (st : List AV) (M : List AC) : rx_X5_bending (n + 1) 99 L st M = am_j (rx_X5_bending n) ((tGf 5 3) 99 L st M) := rfl
theorem rs_X5_bending_102 (n : Nat) (L : AL) (st : List AV) (M : List AC) : rx_X5_bending (n + 1) 102 L st M = am_j (rx_X5_bending n) ((tIld 1 1) 102 L st M) := rfl
theorem rs_X5_bending_103 (n : Nat) (L : AL) (st : List AV) (M : List AC) : rx_X5_bending (n + 1) 103 L st M = am_j (rx_X5_bending n) ((tCv 4 1 fn_X4_riseToRow) 103 L st M) := rfl
theorem rs_X5_bending_106 (n : Nat) (L : AL) (st : List AV) (M : List AC) : rx_X5_bending (n + 1) 106 L st M = am_j (rx_X5_bending n) ((tIfeq 123) 106 L st M) := rfl
theorem rs_X5_bending_109 (n : Nat) (L : AL) (st : List AV) (M : List AC) : rx_X5_bending (n + 1) 109 L st M = am_j (rx_X5_bending n) ((tIld 5 2) 109 L st M) := rfl
theorem rs_X5_bending_111 (n : Nat) (L : AL) (st : List AV) (M : List AC) : rx_X5_bending (n + 1) 111 L st M = am_j (rx_X5_bending n) ((tIst 3 1) 111 L st M) := rfl
theorem rs_X5_bending_112 (n : Nat) (L : AL) (st : List AV) (M : List AC) : rx_X5_bending (n + 1) 112 L st M = am_j (rx_X5_bending n) ((tAld 0 1) 112 L st M) := rfl
theorem rs_X5_bending_113 (n : Nat) (L : AL) (st : List AV) (M : List AC) : rx_X5_bending (n + 1) 113 L st M = am_j (rx_X5_bending n) ((tGf 5 3) 113 L st M) := rfl
theorem rs_X5_bending_116 (n : Nat) (L : AL) (st : List AV) (M : List AC) : rx_X5_bending (n + 1) 116 L st M = am_j (rx_X5_bending n) ((tGf 4 4) 116 L st M) := rfl
theorem rs_X5_bending_119 (n : Nat) (L : AL) (st : List AV) (M : List AC) : rx_X5_bending (n + 1) 119 L st M = am_j (rx_X5_bending n) ((tCs 1 fn_X5_asFigures) 119 L st M) := rfl
theorem rs_X5_bending_122 (n : Nat) (L : AL) (st : List AV) (M : List AC) : rx_X5_bending (n + 1) 122 L st M = am_j (rx_X5_bending n) ((tIst 2 1) 122 L st M) := rfl
theorem rs_X5_bending_123 (n : Nat) (L : AL) (st : List AV) (M : List AC) : rx_X5_bending (n + 1) 123 L st M = am_j (rx_X5_bending n) ((tIinc 4 1) 123 L st M) := rfl
theorem rs_X5_bending_126 (n : Nat) (L : AL) (st : List AV) (M : List AC) : rx_X5_bending (n + 1) 126 L st M = am_j (rx_X5_bending n) ((tGo 30) 126 L st M) := rfl
theorem rs_X5_bending_129 (n : Nat) (L : AL) (st : List AV) (M : List AC) : rx_X5_bending (n + 1) 129 L st M = am_j (rx_X5_bending n) ((tIld 2 1) 129 L st M) := rfl
theorem rs_X5_bending_9 (n : Nat) (L : AL) (st : List AV) (M : List AC) : rx_X5_bending (n + 1) 9 L st M = am_e rI st M := rfl
theorem rs_X5_bending_130 (n : Nat) (L : AL) (st : List AV) (M : List AC) : rx_X5_bending (n + 1) 130 L st M = am_e rI st M := rfl
theorem ri_X5_bending (c : Prop) [Decidable c] (p q n : Nat) (L : AL) (st : List AV) (M : List AC) : rx_X5_bending n (if c then p else q) L st M = if c then rx_X5_bending n p L st M else rx_X5_bending n q L st M := by split <;> rfl
theorem rm_X5_bending {n k pc : Nat} {L : AL} {st : List AV} {M : List AC} {x : Option AV × List AC} (h : rx_X5_bending n pc L st M = some x) (hk : n ≤ k) : rx_X5_bending k pc L st M = some x := am_r_mono n k h hk
def fn_X5_bending : Fn := am_fn rx_X5_bending 7
theorem fok_X5_bending : Fok mi_X5_bending fn_X5_bending := fun _ _ _ _ h => am_fok ok_X5_bending rk_X5_bending rfl h
theorem lp_X5_bending {M : List AC} {len fa ac : Int} {sr : AV} {sd : Int64} (h0 : M[0]? = some (co len fa ac sr sd)) {st' : Int} {g' s' d' b' : F4} (hs' : HS M 7 st' g' s' d' b') {st m : Int} {g s : F4} (hst : 1 ≤ st ∧ st ≤ 3) (hg : i4 1 9 g) (hs9 : i4 0 9 s) (hm : 1 ≤ m ∧ m ≤ 6) : ∀ (n : Nat) (o best least : Int) (d9 b : F4) (x5 x6 : Option AV), o + n = 256 → 0 ≤ o → 0 ≤ least ∧ least ≤ 99 → i4 0 6 d9 → ∃ d1 b1 : F4, Ru rx_X5_bending (150 * n + 10) 30 [some (vR 0), some (vI m), some (vI best), some (vI least), some (vI o), x5, x6] [] (T5 M st g s d9 b) (some (vI (bd5 st g s m n o best least)), T5 M st g s d1 b1)
  | 0, o, best, least, d9, b, x5, x6, ho, ho0, hl, hd9 => by
    have e : o = 256 := by omega
    subst e
    refine ⟨d9, b, 9 + 1, by omega, ?_⟩
    rw [rs_X5_bending_30, bd5]
    simp [↓ri_X5_bending, rs_X5_bending_0, rs_X5_bending_1, rs_X5_bending_4, rs_X5_bending_7, rs_X5_bending_10, rs_X5_bending_11, rs_X5_bending_14, rs_X5_bending_15, rs_X5_bending_18, rs_X5_bending_21, rs_X5_bending_23, rs_X5_bending_24, rs_X5_bending_26, rs_X5_bending_27, rs_X5_bending_28, rs_X5_bending_32, rs_X5_bending_35, rs_X5_bending_38, rs_X5_bending_39, rs_X5_bending_41, rs_X5_bending_42, rs_X5_bending_44, rs_X5_bending_46, rs_X5_bending_47, rs_X5_bending_50, rs_X5_bending_51, rs_X5_bending_54, rs_X5_bending_57, rs_X5_bending_59, rs_X5_bending_61, rs_X5_bending_62, rs_X5_bending_63, rs_X5_bending_65, rs_X5_bending_66, rs_X5_bending_67, rs_X5_bending_68, rs_X5_bending_69, rs_X5_bending_70, rs_X5_bending_71, rs_X5_bending_73, rs_X5_bending_74, rs_X5_bending_77, rs_X5_bending_80, rs_X5_bending_82, rs_X5_bending_83, rs_X5_bending_84, rs_X5_bending_86, rs_X5_bending_89, rs_X5_bending_92, rs_X5_bending_94, rs_X5_bending_95, rs_X5_bending_98, rs_X5_bending_99, rs_X5_bending_102, rs_X5_bending_103, rs_X5_bending_106, rs_X5_bending_109, rs_X5_bending_111, rs_X5_bending_112, rs_X5_bending_113, rs_X5_bending_116, rs_X5_bending_119, rs_X5_bending_122, rs_X5_bending_123, rs_X5_bending_126, rs_X5_bending_129, rs_X5_bending_9, rs_X5_bending_130, -List.getElem?_eq_getElem, am_js, am_e, am_in, am_sl, rI, rZ, rV, rJ, rA, rC, kI, kJ, kR, am_one, am_nl, am_w8, tIc, tLc, tNul, tIld, tLld, tAld, tIst, tLst, tAst, tIinc, tI2, tDv, tL2, tLrem, tLs, tLcmp, tI2l, tL2i, tI2c, tDup, tDup2, tPop, tGo, tIfeq, tIfne, tIflt, tIfge, tIfgt, tIfle, tCmeq, tCmne, tCmlt, tCmge, tCmgt, tCmle, tNu, tTs, tGf, tPf, tGs, tIal, tIas, tBal, tBas, tAln, tSv, tSc, tSb, tSl, tSk, tCv, tCs, tCt, tMx, tMn, wr_10000, wr_100000, wr_1000000, wr_10000000, wr_100000000, wr_2400, wr_9999, wr_0, wr_1, wr_2, wr_3, wr_4, wr_5, wr_6, wr_7, wr_8, wr_9, wr_10, wr_11, wr_12, wr_13, wr_14, wr_15, wr_16, wr_17, wr_18, wr_19, wr_20, wr_21, wr_22, wr_23, wr_24, wr_25, wr_26, wr_27, wr_28, wr_29, wr_30, wr_31, wr_32, wr_33, wr_34, wr_35, wr_36, wr_37, wr_38, wr_39, wr_40, wr_41, wr_42, wr_43, wr_44, wr_45, wr_46, wr_47, wr_48, wr_49, wr_50, wr_51, wr_52, wr_53, wr_54, wr_55, wr_56, wr_57, wr_58, wr_59, wr_60, wr_61, wr_62, wr_63, wr_99, wr_100, wr_192, wr_255, wr_256, wr_343, wr_999, wr_1000, wr_2401, wr_2147483647, wr_65535, wr_m1, wr_m2, wr_m3, wr_m4, wr_m9, ak_1000, ak_1001, ak_1002, ak_0, ak_1, ak_2, ak_3, ak_4, ak_5, ak_6, ak_7, ak_8, ak_9, ak_10, ak_11, ak_12, ak_13, ak_14, ak_15, ak_16, ak_17, ak_18, ak_19, ak_20, ak_21, ak_22, ak_23, ak_24, ak_25, ak_26, ak_27, ak_28, ak_29, ak_30, ak_31, ak_32, ak_33, ak_34, ak_35, ak_36, ak_37, ak_38, ak_39, ak_40, ak_41, ak_42, ak_43, ak_44, ak_45, ak_46, ak_47]
  | n + 1, o, best, least, d9, b, x5, x6, ho, ho0, hl, hd9 => by
    have wo : wr o = o := wr_id (by omega) (by omega)
    have wl : wr least = least := wr_id (by omega) (by omega)
    have no : ¬ 256 ≤ o := by omega
    obtain ⟨e6, e4, e2, e0, et⟩ := bo_e (o := o) ⟨ho0, by omega⟩
    have hb3 := bo_rng o
    rw [bd5]
    generalize bo o = v at e6 e4 e2 e0 hb3 ⊢
    clear et
    have hsm : 0 ≤ bsm v ∧ bsm v ≤ 12 := by
      obtain ⟨a, b, c, d⟩ := hb3
      unfold bsm
      omega
    have es : v.1 + v.2.1 + v.2.2.1 + v.2.2.2 = bsm v := rfl
    have wsm : wr (bsm v) = bsm v := wr_id (by omega) (by omega)
    have v0 := (T5_ne M st g s d9 b 0 (by omega)).trans h0
    obtain ⟨v7, -, -, -, v11⟩ := (T5_HS hs' st g s d9 b).seven
    have q2 := T5_rise hs' (⟨hst, hg, hs9, hd9, hb3⟩ : SR st g s d9 v) m (by omega)
    have eV : (T5 M st g s d9 b).set 11 (aI (l4 v)) = T5 M st g s d9 v := T5_11
    have u0 := (T5_ne M st g s d9 v 0 (by omega)).trans h0
    obtain ⟨u7, -, -, -, u11⟩ := (T5_HS hs' st g s d9 v).seven
    by_cases h1 : bsm v < least
    · have n1 : ¬ least ≤ bsm v := by omega
      have t0 := (T5_ne M st g s (rio st g s v m).1 v 0 (by omega)).trans h0
      obtain ⟨t7, -, -, -, t11⟩ := (T5_HS hs' st g s (rio st g s v m).1 v).seven
      have q3 := sp_X5_asFigures (M := T5 M st g s (rio st g s v m).1 v) (q := 11) t11 rfl
      have hR := rio_i4 st g s v (m := m) (by omega)
      have h01 := rio_01 st g s v m
      generalize rio st g s v m = R at q2 q3 t0 t7 hR h01 ⊢
      rcases h01 with e | e
      · rw [e] at q2
        rw [if_neg (fun z => absurd (e.symm.trans z.2) (by decide))]
        obtain ⟨d1, b1, k, hk, h⟩ := lp_X5_bending h0 hs' hst hg hs9 hm n (o + 1) best least R.1 v (some (vI (bsm v))) (some (vI 4)) (by omega) (by omega) hl hR
        refine ⟨d1, b1, k + 149 + 1, by omega, ?_⟩
        rw [rs_X5_bending_30]
        generalize T5 M st g s R.1 v = V3 at q2 h
        generalize T5 M st g s d9 v = V2 at q2 eV u0 u7 u11
        generalize T5 M st g s d9 b = V at eV v0 v7 v11 ⊢
        simp only [co] at v0 u0
        simp [↓ri_X5_bending, rs_X5_bending_0, rs_X5_bending_1, rs_X5_bending_4, rs_X5_bending_7, rs_X5_bending_10, rs_X5_bending_11, rs_X5_bending_14, rs_X5_bending_15, rs_X5_bending_18, rs_X5_bending_21, rs_X5_bending_23, rs_X5_bending_24, rs_X5_bending_26, rs_X5_bending_27, rs_X5_bending_28, rs_X5_bending_32, rs_X5_bending_35, rs_X5_bending_38, rs_X5_bending_39, rs_X5_bending_41, rs_X5_bending_42, rs_X5_bending_44, rs_X5_bending_46, rs_X5_bending_47, rs_X5_bending_50, rs_X5_bending_51, rs_X5_bending_54, rs_X5_bending_57, rs_X5_bending_59, rs_X5_bending_61, rs_X5_bending_62, rs_X5_bending_63, rs_X5_bending_65, rs_X5_bending_66, rs_X5_bending_67, rs_X5_bending_68, rs_X5_bending_69, rs_X5_bending_70, rs_X5_bending_71, rs_X5_bending_73, rs_X5_bending_74, rs_X5_bending_77, rs_X5_bending_80, rs_X5_bending_82, rs_X5_bending_83, rs_X5_bending_84, rs_X5_bending_86, rs_X5_bending_89, rs_X5_bending_92, rs_X5_bending_94, rs_X5_bending_95, rs_X5_bending_98, rs_X5_bending_99, rs_X5_bending_102, rs_X5_bending_103, rs_X5_bending_106, rs_X5_bending_109, rs_X5_bending_111, rs_X5_bending_112, rs_X5_bending_113, rs_X5_bending_116, rs_X5_bending_119, rs_X5_bending_122, rs_X5_bending_123, rs_X5_bending_126, rs_X5_bending_129, rs_X5_bending_9, rs_X5_bending_130, -List.getElem?_eq_getElem, am_js, am_e, am_in, am_sl, rI, rZ, rV, rJ, rA, rC, kI, kJ, kR, am_one, am_nl, am_w8, tIc, tLc, tNul, tIld, tLld, tAld, tIst, tLst, tAst, tIinc, tI2, tDv, tL2, tLrem, tLs, tLcmp, tI2l, tL2i, tI2c, tDup, tDup2, tPop, tGo, tIfeq, tIfne, tIflt, tIfge, tIfgt, tIfle, tCmeq, tCmne, tCmlt, tCmge, tCmgt, tCmle, tNu, tTs, tGf, tPf, tGs, tIal, tIas, tBal, tBas, tAln, tSv, tSc, tSb, tSl, tSk, tCv, tCs, tCt, tMx, tMn, wr_10000, wr_100000, wr_1000000, wr_10000000, wr_100000000, wr_2400, wr_9999, wr_0, wr_1, wr_2, wr_3, wr_4, wr_5, wr_6, wr_7, wr_8, wr_9, wr_10, wr_11, wr_12, wr_13, wr_14, wr_15, wr_16, wr_17, wr_18, wr_19, wr_20, wr_21, wr_22, wr_23, wr_24, wr_25, wr_26, wr_27, wr_28, wr_29, wr_30, wr_31, wr_32, wr_33, wr_34, wr_35, wr_36, wr_37, wr_38, wr_39, wr_40, wr_41, wr_42, wr_43, wr_44, wr_45, wr_46, wr_47, wr_48, wr_49, wr_50, wr_51, wr_52, wr_53, wr_54, wr_55, wr_56, wr_57, wr_58, wr_59, wr_60, wr_61, wr_62, wr_63, wr_99, wr_100, wr_192, wr_255, wr_256, wr_343, wr_999, wr_1000, wr_2401, wr_2147483647, wr_65535, wr_m1, wr_m2, wr_m3, wr_m4, wr_m9, ak_1000, ak_1001, ak_1002, ak_0, ak_1, ak_2, ak_3, ak_4, ak_5, ak_6, ak_7, ak_8, ak_9, ak_10, ak_11, ak_12, ak_13, ak_14, ak_15, ak_16, ak_17, ak_18, ak_19, ak_20, ak_21, ak_22, ak_23, ak_24, ak_25, ak_26, ak_27, ak_28, ak_29, ak_30, ak_31, ak_32, ak_33, ak_34, ak_35, ak_36, ak_37, ak_38, ak_39, ak_40, ak_41, ak_42, ak_43, ak_44, ak_45, ak_46, ak_47, wo, wl, no, v0, v7, v11, gs v11, e6, e4, e2, e0, es, wsm, n1, eV, u0, u7, u11, q2]
        exact rm_X5_bending h (by omega)
      · rw [e] at q2
        rw [if_pos ⟨h1, e⟩]
        obtain ⟨d1, b1, k, hk, h⟩ := lp_X5_bending h0 hs' hst hg hs9 hm n (o + 1) (fg v) (bsm v) R.1 v (some (vI (bsm v))) (some (vI 4)) (by omega) (by omega) (by omega) hR
        refine ⟨d1, b1, k + 149 + 1, by omega, ?_⟩
        rw [rs_X5_bending_30]
        generalize T5 M st g s R.1 v = V3 at q2 q3 t0 t7 h
        generalize T5 M st g s d9 v = V2 at q2 eV u0 u7 u11
        generalize T5 M st g s d9 b = V at eV v0 v7 v11 ⊢
        simp only [co] at v0 u0 t0
        simp [↓ri_X5_bending, rs_X5_bending_0, rs_X5_bending_1, rs_X5_bending_4, rs_X5_bending_7, rs_X5_bending_10, rs_X5_bending_11, rs_X5_bending_14, rs_X5_bending_15, rs_X5_bending_18, rs_X5_bending_21, rs_X5_bending_23, rs_X5_bending_24, rs_X5_bending_26, rs_X5_bending_27, rs_X5_bending_28, rs_X5_bending_32, rs_X5_bending_35, rs_X5_bending_38, rs_X5_bending_39, rs_X5_bending_41, rs_X5_bending_42, rs_X5_bending_44, rs_X5_bending_46, rs_X5_bending_47, rs_X5_bending_50, rs_X5_bending_51, rs_X5_bending_54, rs_X5_bending_57, rs_X5_bending_59, rs_X5_bending_61, rs_X5_bending_62, rs_X5_bending_63, rs_X5_bending_65, rs_X5_bending_66, rs_X5_bending_67, rs_X5_bending_68, rs_X5_bending_69, rs_X5_bending_70, rs_X5_bending_71, rs_X5_bending_73, rs_X5_bending_74, rs_X5_bending_77, rs_X5_bending_80, rs_X5_bending_82, rs_X5_bending_83, rs_X5_bending_84, rs_X5_bending_86, rs_X5_bending_89, rs_X5_bending_92, rs_X5_bending_94, rs_X5_bending_95, rs_X5_bending_98, rs_X5_bending_99, rs_X5_bending_102, rs_X5_bending_103, rs_X5_bending_106, rs_X5_bending_109, rs_X5_bending_111, rs_X5_bending_112, rs_X5_bending_113, rs_X5_bending_116, rs_X5_bending_119, rs_X5_bending_122, rs_X5_bending_123, rs_X5_bending_126, rs_X5_bending_129, rs_X5_bending_9, rs_X5_bending_130, -List.getElem?_eq_getElem, am_js, am_e, am_in, am_sl, rI, rZ, rV, rJ, rA, rC, kI, kJ, kR, am_one, am_nl, am_w8, tIc, tLc, tNul, tIld, tLld, tAld, tIst, tLst, tAst, tIinc, tI2, tDv, tL2, tLrem, tLs, tLcmp, tI2l, tL2i, tI2c, tDup, tDup2, tPop, tGo, tIfeq, tIfne, tIflt, tIfge, tIfgt, tIfle, tCmeq, tCmne, tCmlt, tCmge, tCmgt, tCmle, tNu, tTs, tGf, tPf, tGs, tIal, tIas, tBal, tBas, tAln, tSv, tSc, tSb, tSl, tSk, tCv, tCs, tCt, tMx, tMn, wr_10000, wr_100000, wr_1000000, wr_10000000, wr_100000000, wr_2400, wr_9999, wr_0, wr_1, wr_2, wr_3, wr_4, wr_5, wr_6, wr_7, wr_8, wr_9, wr_10, wr_11, wr_12, wr_13, wr_14, wr_15, wr_16, wr_17, wr_18, wr_19, wr_20, wr_21, wr_22, wr_23, wr_24, wr_25, wr_26, wr_27, wr_28, wr_29, wr_30, wr_31, wr_32, wr_33, wr_34, wr_35, wr_36, wr_37, wr_38, wr_39, wr_40, wr_41, wr_42, wr_43, wr_44, wr_45, wr_46, wr_47, wr_48, wr_49, wr_50, wr_51, wr_52, wr_53, wr_54, wr_55, wr_56, wr_57, wr_58, wr_59, wr_60, wr_61, wr_62, wr_63, wr_99, wr_100, wr_192, wr_255, wr_256, wr_343, wr_999, wr_1000, wr_2401, wr_2147483647, wr_65535, wr_m1, wr_m2, wr_m3, wr_m4, wr_m9, ak_1000, ak_1001, ak_1002, ak_0, ak_1, ak_2, ak_3, ak_4, ak_5, ak_6, ak_7, ak_8, ak_9, ak_10, ak_11, ak_12, ak_13, ak_14, ak_15, ak_16, ak_17, ak_18, ak_19, ak_20, ak_21, ak_22, ak_23, ak_24, ak_25, ak_26, ak_27, ak_28, ak_29, ak_30, ak_31, ak_32, ak_33, ak_34, ak_35, ak_36, ak_37, ak_38, ak_39, ak_40, ak_41, ak_42, ak_43, ak_44, ak_45, ak_46, ak_47, wo, wl, no, v0, v7, v11, gs v11, e6, e4, e2, e0, es, wsm, n1, eV, u0, u7, u11, q2, t0, t7, q3]
        exact rm_X5_bending h (by omega)
    · rw [if_neg (fun z => h1 z.1)]
      have n1 : least ≤ bsm v := by omega
      obtain ⟨d1, b1, k, hk, h⟩ := lp_X5_bending h0 hs' hst hg hs9 hm n (o + 1) best least d9 v (some (vI (bsm v))) (some (vI 4)) (by omega) (by omega) hl hd9
      refine ⟨d1, b1, k + 149 + 1, by omega, ?_⟩
      rw [rs_X5_bending_30]
      generalize T5 M st g s d9 v = V2 at eV h u0 u7 u11
      generalize T5 M st g s d9 b = V at eV v0 v7 v11 ⊢
      simp only [co] at v0 u0
      simp [↓ri_X5_bending, rs_X5_bending_0, rs_X5_bending_1, rs_X5_bending_4, rs_X5_bending_7, rs_X5_bending_10, rs_X5_bending_11, rs_X5_bending_14, rs_X5_bending_15, rs_X5_bending_18, rs_X5_bending_21, rs_X5_bending_23, rs_X5_bending_24, rs_X5_bending_26, rs_X5_bending_27, rs_X5_bending_28, rs_X5_bending_32, rs_X5_bending_35, rs_X5_bending_38, rs_X5_bending_39, rs_X5_bending_41, rs_X5_bending_42, rs_X5_bending_44, rs_X5_bending_46, rs_X5_bending_47, rs_X5_bending_50, rs_X5_bending_51, rs_X5_bending_54, rs_X5_bending_57, rs_X5_bending_59, rs_X5_bending_61, rs_X5_bending_62, rs_X5_bending_63, rs_X5_bending_65, rs_X5_bending_66, rs_X5_bending_67, rs_X5_bending_68, rs_X5_bending_69, rs_X5_bending_70, rs_X5_bending_71, rs_X5_bending_73, rs_X5_bending_74, rs_X5_bending_77, rs_X5_bending_80, rs_X5_bending_82, rs_X5_bending_83, rs_X5_bending_84, rs_X5_bending_86, rs_X5_bending_89, rs_X5_bending_92, rs_X5_bending_94, rs_X5_bending_95, rs_X5_bending_98, rs_X5_bending_99, rs_X5_bending_102, rs_X5_bending_103, rs_X5_bending_106, rs_X5_bending_109, rs_X5_bending_111, rs_X5_bending_112, rs_X5_bending_113, rs_X5_bending_116, rs_X5_bending_119, rs_X5_bending_122, rs_X5_bending_123, rs_X5_bending_126, rs_X5_bending_129, rs_X5_bending_9, rs_X5_bending_130, -List.getElem?_eq_getElem, am_js, am_e, am_in, am_sl, rI, rZ, rV, rJ, rA, rC, kI, kJ, kR, am_one, am_nl, am_w8, tIc, tLc, tNul, tIld, tLld, tAld, tIst, tLst, tAst, tIinc, tI2, tDv, tL2, tLrem, tLs, tLcmp, tI2l, tL2i, tI2c, tDup, tDup2, tPop, tGo, tIfeq, tIfne, tIflt, tIfge, tIfgt, tIfle, tCmeq, tCmne, tCmlt, tCmge, tCmgt, tCmle, tNu, tTs, tGf, tPf, tGs, tIal, tIas, tBal, tBas, tAln, tSv, tSc, tSb, tSl, tSk, tCv, tCs, tCt, tMx, tMn, wr_10000, wr_100000, wr_1000000, wr_10000000, wr_100000000, wr_2400, wr_9999, wr_0, wr_1, wr_2, wr_3, wr_4, wr_5, wr_6, wr_7, wr_8, wr_9, wr_10, wr_11, wr_12, wr_13, wr_14, wr_15, wr_16, wr_17, wr_18, wr_19, wr_20, wr_21, wr_22, wr_23, wr_24, wr_25, wr_26, wr_27, wr_28, wr_29, wr_30, wr_31, wr_32, wr_33, wr_34, wr_35, wr_36, wr_37, wr_38, wr_39, wr_40, wr_41, wr_42, wr_43, wr_44, wr_45, wr_46, wr_47, wr_48, wr_49, wr_50, wr_51, wr_52, wr_53, wr_54, wr_55, wr_56, wr_57, wr_58, wr_59, wr_60, wr_61, wr_62, wr_63, wr_99, wr_100, wr_192, wr_255, wr_256, wr_343, wr_999, wr_1000, wr_2401, wr_2147483647, wr_65535, wr_m1, wr_m2, wr_m3, wr_m4, wr_m9, ak_1000, ak_1001, ak_1002, ak_0, ak_1, ak_2, ak_3, ak_4, ak_5, ak_6, ak_7, ak_8, ak_9, ak_10, ak_11, ak_12, ak_13, ak_14, ak_15, ak_16, ak_17, ak_18, ak_19, ak_20, ak_21, ak_22, ak_23, ak_24, ak_25, ak_26, ak_27, ak_28, ak_29, ak_30, ak_31, ak_32, ak_33, ak_34, ak_35, ak_36, ak_37, ak_38, ak_39, ak_40, ak_41, ak_42, ak_43, ak_44, ak_45, ak_46, ak_47, wo, wl, no, v0, v7, v11, gs v11, e6, e4, e2, e0, es, wsm, n1, eV, u0, u7, u11]
      exact rm_X5_bending h (by omega)
theorem sp_X5_bending {M : List AC} {len fa ac : Int} {sr : AV} {sd : Int64} (h0 : M[0]? = some (co len fa ac sr sd)) {st : Int} {g s d b : F4} (hs : HS M 2 st g s d b) {st' : Int} {g' s' d' b' : F4} (hs' : HS M 7 st' g' s' d' b') (hr : SR st g s d b) (m : Int) (hm : -2147483648 ≤ m ∧ m < 2147483648) : ∃ (st1 : Int) (g1 s1 d1 b1 : F4), fn_X5_bending [vR 0, vI m] M = some (some (vI (if 1 ≤ m ∧ m ≤ 6 then bd5 st g s m 256 0 (-9) 13 else -2)), T5 M st1 g1 s1 d1 b1) := by
  have wm : wr m = m := wr_id (by omega) (by omega)
  obtain ⟨j0, -⟩ := hs'.seven
  by_cases hM : 1 ≤ m ∧ m ≤ 6
  · rw [if_pos hM]
    obtain ⟨d1, b1, k, hk, h⟩ := lp_X5_bending h0 hs' hr.1 hr.2.1 hr.2.2.1 hM 256 0 (-9) 13 d b none none (by omega) (by omega) (by omega) hr.2.2.2.1
    have q1 := T5_bec hs hs'
    refine ⟨st, g, s, d1, b1, ?_⟩
    generalize bd5 st g s m 256 0 (-9) 13 = W at h ⊢
    generalize T5 M st g s d b = V at q1 h
    simp only [co] at h0
    (refine am_fnR (tb := tb_X5_bending) (N := 50000) (Nat.le_of_ble_eq_true rfl) (Nat.le_of_ble_eq_true rfl) ?_; show Ru rx_X5_bending 50000 0 _ _ _ _)
    refine ⟨k + 20, by omega, ?_⟩
    simp [↓ri_X5_bending, rs_X5_bending_0, rs_X5_bending_1, rs_X5_bending_4, rs_X5_bending_7, rs_X5_bending_10, rs_X5_bending_11, rs_X5_bending_14, rs_X5_bending_15, rs_X5_bending_18, rs_X5_bending_21, rs_X5_bending_23, rs_X5_bending_24, rs_X5_bending_26, rs_X5_bending_27, rs_X5_bending_28, rs_X5_bending_32, rs_X5_bending_35, rs_X5_bending_38, rs_X5_bending_39, rs_X5_bending_41, rs_X5_bending_42, rs_X5_bending_44, rs_X5_bending_46, rs_X5_bending_47, rs_X5_bending_50, rs_X5_bending_51, rs_X5_bending_54, rs_X5_bending_57, rs_X5_bending_59, rs_X5_bending_61, rs_X5_bending_62, rs_X5_bending_63, rs_X5_bending_65, rs_X5_bending_66, rs_X5_bending_67, rs_X5_bending_68, rs_X5_bending_69, rs_X5_bending_70, rs_X5_bending_71, rs_X5_bending_73, rs_X5_bending_74, rs_X5_bending_77, rs_X5_bending_80, rs_X5_bending_82, rs_X5_bending_83, rs_X5_bending_84, rs_X5_bending_86, rs_X5_bending_89, rs_X5_bending_92, rs_X5_bending_94, rs_X5_bending_95, rs_X5_bending_98, rs_X5_bending_99, rs_X5_bending_102, rs_X5_bending_103, rs_X5_bending_106, rs_X5_bending_109, rs_X5_bending_111, rs_X5_bending_112, rs_X5_bending_113, rs_X5_bending_116, rs_X5_bending_119, rs_X5_bending_122, rs_X5_bending_123, rs_X5_bending_126, rs_X5_bending_129, rs_X5_bending_9, rs_X5_bending_130, -List.getElem?_eq_getElem, am_js, am_e, am_in, am_sl, rI, rZ, rV, rJ, rA, rC, kI, kJ, kR, am_one, am_nl, am_w8, tIc, tLc, tNul, tIld, tLld, tAld, tIst, tLst, tAst, tIinc, tI2, tDv, tL2, tLrem, tLs, tLcmp, tI2l, tL2i, tI2c, tDup, tDup2, tPop, tGo, tIfeq, tIfne, tIflt, tIfge, tIfgt, tIfle, tCmeq, tCmne, tCmlt, tCmge, tCmgt, tCmle, tNu, tTs, tGf, tPf, tGs, tIal, tIas, tBal, tBas, tAln, tSv, tSc, tSb, tSl, tSk, tCv, tCs, tCt, tMx, tMn, wr_10000, wr_100000, wr_1000000, wr_10000000, wr_100000000, wr_2400, wr_9999, wr_0, wr_1, wr_2, wr_3, wr_4, wr_5, wr_6, wr_7, wr_8, wr_9, wr_10, wr_11, wr_12, wr_13, wr_14, wr_15, wr_16, wr_17, wr_18, wr_19, wr_20, wr_21, wr_22, wr_23, wr_24, wr_25, wr_26, wr_27, wr_28, wr_29, wr_30, wr_31, wr_32, wr_33, wr_34, wr_35, wr_36, wr_37, wr_38, wr_39, wr_40, wr_41, wr_42, wr_43, wr_44, wr_45, wr_46, wr_47, wr_48, wr_49, wr_50, wr_51, wr_52, wr_53, wr_54, wr_55, wr_56, wr_57, wr_58, wr_59, wr_60, wr_61, wr_62, wr_63, wr_99, wr_100, wr_192, wr_255, wr_256, wr_343, wr_999, wr_1000, wr_2401, wr_2147483647, wr_65535, wr_m1, wr_m2, wr_m3, wr_m4, wr_m9, ak_1000, ak_1001, ak_1002, ak_0, ak_1, ak_2, ak_3, ak_4, ak_5, ak_6, ak_7, ak_8, ak_9, ak_10, ak_11, ak_12, ak_13, ak_14, ak_15, ak_16, ak_17, ak_18, ak_19, ak_20, ak_21, ak_22, ak_23, ak_24, ak_25, ak_26, ak_27, ak_28, ak_29, ak_30, ak_31, ak_32, ak_33, ak_34, ak_35, ak_36, ak_37, ak_38, ak_39, ak_40, ak_41, ak_42, ak_43, ak_44, ak_45, ak_46, ak_47, sp_X5_isAim, wm, hM, h0, j0, q1]
    exact rm_X5_bending h (by omega)
  · rw [if_neg hM]
    refine ⟨st', g', s', d', b', ?_⟩
    rw [T5_same hs']
    (refine am_fnI (tb := tb_X5_bending) (n := 60) (Nat.le_of_ble_eq_true rfl) (Nat.le_of_ble_eq_true rfl) ?_; show rx_X5_bending 60 0 _ _ _ = _)
    simp [↓ri_X5_bending, rs_X5_bending_0, rs_X5_bending_1, rs_X5_bending_4, rs_X5_bending_7, rs_X5_bending_10, rs_X5_bending_11, rs_X5_bending_14, rs_X5_bending_15, rs_X5_bending_18, rs_X5_bending_21, rs_X5_bending_23, rs_X5_bending_24, rs_X5_bending_26, rs_X5_bending_27, rs_X5_bending_28, rs_X5_bending_30, rs_X5_bending_32, rs_X5_bending_35, rs_X5_bending_38, rs_X5_bending_39, rs_X5_bending_41, rs_X5_bending_42, rs_X5_bending_44, rs_X5_bending_46, rs_X5_bending_47, rs_X5_bending_50, rs_X5_bending_51, rs_X5_bending_54, rs_X5_bending_57, rs_X5_bending_59, rs_X5_bending_61, rs_X5_bending_62, rs_X5_bending_63, rs_X5_bending_65, rs_X5_bending_66, rs_X5_bending_67, rs_X5_bending_68, rs_X5_bending_69, rs_X5_bending_70, rs_X5_bending_71, rs_X5_bending_73, rs_X5_bending_74, rs_X5_bending_77, rs_X5_bending_80, rs_X5_bending_82, rs_X5_bending_83, rs_X5_bending_84, rs_X5_bending_86, rs_X5_bending_89, rs_X5_bending_92, rs_X5_bending_94, rs_X5_bending_95, rs_X5_bending_98, rs_X5_bending_99, rs_X5_bending_102, rs_X5_bending_103, rs_X5_bending_106, rs_X5_bending_109, rs_X5_bending_111, rs_X5_bending_112, rs_X5_bending_113, rs_X5_bending_116, rs_X5_bending_119, rs_X5_bending_122, rs_X5_bending_123, rs_X5_bending_126, rs_X5_bending_129, rs_X5_bending_9, rs_X5_bending_130, -List.getElem?_eq_getElem, am_js, am_e, am_in, am_sl, rI, rZ, rV, rJ, rA, rC, kI, kJ, kR, am_one, am_nl, am_w8, tIc, tLc, tNul, tIld, tLld, tAld, tIst, tLst, tAst, tIinc, tI2, tDv, tL2, tLrem, tLs, tLcmp, tI2l, tL2i, tI2c, tDup, tDup2, tPop, tGo, tIfeq, tIfne, tIflt, tIfge, tIfgt, tIfle, tCmeq, tCmne, tCmlt, tCmge, tCmgt, tCmle, tNu, tTs, tGf, tPf, tGs, tIal, tIas, tBal, tBas, tAln, tSv, tSc, tSb, tSl, tSk, tCv, tCs, tCt, tMx, tMn, wr_10000, wr_100000, wr_1000000, wr_10000000, wr_100000000, wr_2400, wr_9999, wr_0, wr_1, wr_2, wr_3, wr_4, wr_5, wr_6, wr_7, wr_8, wr_9, wr_10, wr_11, wr_12, wr_13, wr_14, wr_15, wr_16, wr_17, wr_18, wr_19, wr_20, wr_21, wr_22, wr_23, wr_24, wr_25, wr_26, wr_27, wr_28, wr_29, wr_30, wr_31, wr_32, wr_33, wr_34, wr_35, wr_36, wr_37, wr_38, wr_39, wr_40, wr_41, wr_42, wr_43, wr_44, wr_45, wr_46, wr_47, wr_48, wr_49, wr_50, wr_51, wr_52, wr_53, wr_54, wr_55, wr_56, wr_57, wr_58, wr_59, wr_60, wr_61, wr_62, wr_63, wr_99, wr_100, wr_192, wr_255, wr_256, wr_343, wr_999, wr_1000, wr_2401, wr_2147483647, wr_65535, wr_m1, wr_m2, wr_m3, wr_m4, wr_m9, ak_1000, ak_1001, ak_1002, ak_0, ak_1, ak_2, ak_3, ak_4, ak_5, ak_6, ak_7, ak_8, ak_9, ak_10, ak_11, ak_12, ak_13, ak_14, ak_15, ak_16, ak_17, ak_18, ak_19, ak_20, ak_21, ak_22, ak_23, ak_24, ak_25, ak_26, ak_27, ak_28, ak_29, ak_30, ak_31, ak_32, ak_33, ak_34, ak_35, ak_36, ak_37, ak_38, ak_39, ak_40, ak_41, ak_42, ak_43, ak_44, ak_45, ak_46, ak_47, -not_and, sp_X5_isAim, wm, hM]
end
