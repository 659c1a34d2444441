noncomputable section
theorem SR.setB {st : Int} {g s d b : F4} (h : SR st g s d b) (c : Nat) {v : Int} (h1 : 0 ≤ v) (h2 : v ≤ 3) : SR st g s d (s4 b c v) := ⟨h.1, h.2.1, h.2.2.1, h.2.2.2.1, i4_s h.2.2.2.2 c h1 h2⟩
theorem wz4_rng {s : F4} (h : i4 0 9 s) : i4 0 9 (wz4 s) := ⟨wz_rng h.1, wz_rng h.2.1, wz_rng h.2.2.1, wz_rng h.2.2.2⟩
theorem SR.wash {st : Int} {g s d b : F4} (h : SR st g s d b) : SR st g (wz4 s) d b := ⟨h.1, h.2.1, wz4_rng h.2.2.1, h.2.2.2.1, h.2.2.2.2⟩
abbrev mi_X6_bend : Mi := (yX6_bend, cX6_bend, 3, some .int, 8)
theorem mf_X6_bend : am_mf mi_X6_bend 2 := ⟨w_co_X6_bend, w_in_X6, ⟨by decide +kernel, by decide +kernel⟩, by decide +kernel, by decide⟩
def tb_X6_bend : List (Nat × Tr) := [(0, tIld 1 1), (1, tCs 1 fn_X6_isCorner), (4, tIfne 9), (7, tIc (-1) 1), (9, tIld 2 1), (10, tI2l), (11, tLc 0 1), (12, tLc 3 3), (15, tCs 3 fn_X6_in), (18, tIfne 24), (21, tIc (-2) 2), (24, tAld 0 1), (25, tGf 6 2), (28, tIc 4 1), (29, tIld 1 1), (30, tI2 (fun a b => a + b)), (31, tIal), (32, tIld 2 1), (33, tCmne 39), (36, tIc (-3) 2), (39, tAld 0 1), (40, tCv 6 0 fn_X6_keepAct), (43, tAld 0 1), (44, tGf 6 2), (47, tIc 4 1), (48, tIld 1 1), (49, tI2 (fun a b => a + b)), (50, tIld 2 1), (51, tIas), (52, tAld 0 1), (53, tCv 6 0 fn_X6_slipNow)]
theorem ok_X6_bend : Tok mi_X6_bend tb_X6_bend :=
  Tc (sd_iload_n dX6_bend_0) <|
  Tc (sd_cs fok_X6_isCorner mf_X6_isCorner w_ml_X6_112 w_st_X6_isCorner (by decide) dX6_bend_1) <|
  Tc (sd_if_ne (by decide) dX6_bend_4) <|
  Tc (sd_iconst rfl dX6_bend_7) <|
  Tc (sd_iload_n dX6_bend_9) <|
  Tc (sd_i2l dX6_bend_10) <|
  Tc (sd_lconst rfl dX6_bend_11) <|
  Tc (sd_ldc2 w_cl_X6_94 dX6_bend_12) <|
  Tc (sd_cs fok_X6_in mf_X6_in w_ml_X6_65 w_st_X6_in (by decide) dX6_bend_15) <|
  Tc (sd_if_ne (by decide) dX6_bend_18) <|
  Tc (sd_bipush (by decide +kernel) dX6_bend_21) <|
  Tc (sd_aload_n dX6_bend_24) <|
  Tc (sd_getf (T := TX6) rfl giX6 (by decide) w_fl_X6_13 dX6_bend_25) <|
  Tc (sd_iconst rfl dX6_bend_28) <|
  Tc (sd_iload_n dX6_bend_29) <|
  Tc (sd_iadd dX6_bend_30) <|
  Tc (sd_ial dX6_bend_31) <|
  Tc (sd_iload_n dX6_bend_32) <|
  Tc (sd_cm_ne (by decide) dX6_bend_33) <|
  Tc (sd_bipush (by decide +kernel) dX6_bend_36) <|
  Tc (sd_aload_n dX6_bend_39) <|
  Tc (sd_cv (T := TX6) fok_X6_keepAct mf_X6_keepAct rfl w_ml_X6_144 w_im_X6_keepAct w_se_X6_keepAct (by decide) dX6_bend_40) <|
  Tc (sd_aload_n dX6_bend_43) <|
  Tc (sd_getf (T := TX6) rfl giX6 (by decide) w_fl_X6_13 dX6_bend_44) <|
  Tc (sd_iconst rfl dX6_bend_47) <|
  Tc (sd_iload_n dX6_bend_48) <|
  Tc (sd_iadd dX6_bend_49) <|
  Tc (sd_iload_n dX6_bend_50) <|
  Tc (sd_ias dX6_bend_51) <|
  Tc (sd_aload_n dX6_bend_52) <|
  Tc (sd_cv (T := TX6) fok_X6_slipNow mf_X6_slipNow rfl w_ml_X6_147 w_im_X6_slipNow w_se_X6_slipNow (by decide) dX6_bend_53) <|
  Tn
theorem rk_X6_bend : Rok mi_X6_bend rI [8, 23, 38, 56] := rk_i dX6_bend_8 <| rk_i dX6_bend_23 <| rk_i dX6_bend_38 <| rk_i dX6_bend_56 <| rk_n
def rx_X6_bend : Nat → Nat → AL → List AV → List AC → Option (Option AV × List AC) := am_r tb_X6_bend rI [8, 23, 38, 56]
theorem rs_X6_bend_0 (n : Nat) (L : AL) (st : List AV) (M : List AC) : rx_X6_bend (n + 1) 0 L st M = am_j (rx_X6_bend n) ((tIld 1 1) 0 L st M) := rfl
theorem rs_X6_bend_1 (n : Nat) (L : AL) (st : List AV) (M : List AC) : rx_X6_bend (n + 1) 1 L st M = am_j (rx_X6_bend n) ((tCs 1 fn_X6_isCorner) 1 L st M) := rfl
theorem rs_X6_bend_4 (n : Nat) (L : AL) (st : List AV) (M : List AC) : rx_X6_bend (n + 1) 4 L st M = am_j (rx_X6_bend n) ((tIfne 9) 4 L st M) := rfl
theorem rs_X6_bend_7 (n : Nat) (L : AL) (st : List AV) (M : List AC) : rx_X6_bend (n + 1) 7 L st M = am_j (rx_X6_bend n) ((tIc (-1) 1) 7 L st M) := rfl
theorem rs_X6_bend_9 (n : Nat) (L : AL) (st : List AV) (M : List AC) : rx_X6_bend (n + 1) 9 L st M = am_j (rx_X6_bend n) ((tIld 2 1) 9 L st M) := rfl
theorem rs_X6_bend_10 (n : Nat) (L : AL) (st : List AV) (M : List AC) : rx_X6_bend (n + 1) 10 L st M = am_j (rx_X6_bend n) (tI2l 10 L st M) := rfl
theorem rs_X6_bend_11 (n : Nat) (L : AL) (st : List AV) (M : List AC) : rx_X6_bend (n + 1) 11 L st M = am_j (rx_X6_bend n) ((tLc 0 1) 11 L st M) := rfl
theorem rs_X6_bend_12 (n : Nat) (L : AL) (st : List AV) (M : List AC) : rx_X6_bend (n + 1) 12 L st M = am_j (rx_X6_bend n) ((tLc 3 3) 12 L st M) := rfl
theorem rs_X6_bend_15 (n : Nat) (L : AL) (st : List AV) (M : List AC) : rx_X6_bend (n + 1) 15 L st M = am_j (rx_X6_bend n) ((tCs 3 fn_X6_in) 15 L st M) := rfl
theorem rs_X6_bend_18 (n : Nat) (L : AL) (st : List AV) (M : List AC) : rx_X6_bend (n + 1) 18 L st M = am_j (rx_X6_bend n) ((tIfne 24) 18 L st M) := rfl
theorem rs_X6_bend_21 (n : Nat) (L : AL) (st : List AV) (M : List AC) : rx_X6_bend (n + 1) 21 L st M = am_j (rx_X6_bend n) ((tIc (-2) 2) 21 L st M) := rfl
theorem rs_X6_bend_24 (n : Nat) (L : AL) (st : List AV) (M : List AC) : rx_X6_bend (n + 1) 24 L st M = am_j (rx_X6_bend n) ((tAld 0 1) 24 L st M) := rfl
theorem rs_X6_bend_25 (n : Nat) (L : AL) (st : List AV) (M : List AC) : rx_X6_bend (n + 1) 25 L st M = am_j (rx_X6_bend n) ((tGf 6 2) 25 L st M) := rfl
theorem rs_X6_bend_28 (n : Nat) (L : AL) (st : List AV) (M : List AC) : rx_X6_bend (n + 1) 28 L st M = am_j (rx_X6_bend n) ((tIc 4 1) 28 L st M) := rfl
theorem rs_X6_bend_29 (n : Nat) (L : AL) (st : List AV) (M : List AC) : rx_X6_bend (n + 1) 29 L st M = am_j (rx_X6_bend n) ((tIld 1 1) 29 L st M) := rfl
theorem rs_X6_bend_30 (n : Nat) (L : AL) (st : List AV) (M : List AC) : rx_X6_bend (n + 1) 30 L st M = am_j (rx_X6_bend n) ((tI2 (fun a b => a + b)) 30 L st M) := rfl
theorem rs_X6_bend_31 (n : Nat) (L : AL) (st : List AV) (M : List AC) : rx_X6_bend (n + 1) 31 L st M = am_j (rx_X6_bend n) (tIal 31 L st M) := rfl
theorem rs_X6_bend_32 (n : Nat) (L : AL) (st : List AV) (M : List AC) : rx_X6_bend (n + 1) 32 L st M = am_j (rx_X6_bend n) ((tIld 2 1) 32 L st M) := rfl
theorem rs_X6_bend_33 (n : Nat) (L : AL) (st : List AV) (M : List AC) : rx_X6_bend (n + 1) 33 L st M = am_j (rx_X6_bend n) ((tCmne 39) 33 L st M) := rfl
theorem rs_X6_bend_36 (n : Nat) (L : AL) (st : List AV) (M : List AC) : rx_X6_bend (n + 1) 36 L st M = am_j (rx_X6_bend n) ((tIc (-3) 2) 36 L st M) := rfl
theorem rs_X6_bend_39 (n : Nat) (L : AL) (st : List AV) (M : List AC) : rx_X6_bend (n + 1) 39 L st M = am_j (rx_X6_bend n) ((tAld 0 1) 39 L st M) := rfl
theorem rs_X6_bend_40 (n : Nat) (L : AL) (st : List AV) (M : List AC) : rx_X6_bend (n + 1) 40 L st M = am_j (rx_X6_bend n) ((tCv 6 0 fn_X6_keepAct) 40 L st M) := rfl
theorem rs_X6_bend_43 (n : Nat) (L : AL) (st : List AV) (M : List AC) : rx_X6_bend (n + 1) 43 L st M = am_j (rx_X6_bend n) ((tAld 0 1) 43 L st M) := rfl
theorem rs_X6_bend_44 (n : Nat) (L : AL) (st : List AV) (M : List AC) : rx_X6_bend (n + 1) 44 L st M = am_j (rx_X6_bend n) ((tGf 6 2) 44 L st M) := rfl
theorem rs_X6_bend_47 (n : Nat) (L : AL) (st : List AV) (M : List AC) : rx_X6_bend (n + 1) 47 L st M = am_j (rx_X6_bend n) ((tIc 4 1) 47 L st M) := rfl
theorem rs_X6_bend_48 (n : Nat) (L : AL) (st : List AV) (M : List AC) : rx_X6_bend (n + 1) 48 L st M = am_j (rx_X6_bend n) ((tIld 1 1) 48 L st M) := rfl
theorem rs_X6_bend_49 (n : Nat) (L : AL) (st : List AV) (M : List AC) : rx_X6_bend (n + 1) 49 L st M = am_j (rx_X6_bend n) ((tI2 (fun a b => a + b)) 49 L st M) := rfl
theorem rs_X6_bend_50 (n : Nat) (L : AL) (st : List AV) (M : List AC) : rx_X6_bend (n + 1) 50 L st M = am_j (rx_X6_bend n) ((tIld 2 1) 50 L st M) := rfl
theorem rs_X6_bend_51 (n : Nat) (L : AL) (st : List AV) (M : List AC) : rx_X6_bend (n + 1) 51 L st M = am_j (rx_X6_bend n) (tIas 51 L st M) := rfl
theorem rs_X6_bend_52 (n : Nat) (L : AL) (st : List AV) (M : List AC) : rx_X6_bend (n + 1) 52 L st M = am_j (rx_X6_bend n) ((tAld 0 1) 52 L st M) := rfl
theorem rs_X6_bend_53 (n : Nat) (L : AL) (st : List AV) (M : List AC) : rx_X6_bend (n + 1) 53 L st M = am_j (rx_X6_bend n) ((tCv 6 0 fn_X6_slipNow) 53 L st M) := rfl
theorem rs_X6_bend_8 (n : Nat) (L : AL) (st : List AV) (M : List AC) : rx_X6_bend (n + 1) 8 L st M = am_e rI st M := rfl
theorem rs_X6_bend_23 (n : Nat) (L : AL) (st : List AV) (M : List AC) : rx_X6_bend (n + 1) 23 L st M = am_e rI st M := rfl
theorem rs_X6_bend_38 (n : Nat) (L : AL) (st : List AV) (M : List AC) : rx_X6_bend (n + 1) 38 L st M = am_e rI st M := rfl
theorem rs_X6_bend_56 (n : Nat) (L : AL) (st : List AV) (M : List AC) : rx_X6_bend (n + 1) 56 L st M = am_e rI st M := rfl
theorem ri_X6_bend (c : Prop) [Decidable c] (p q n : Nat) (L : AL) (st : List AV) (M : List AC) : rx_X6_bend n (if c then p else q) L st M = if c then rx_X6_bend n p L st M else rx_X6_bend n q L st M := by split <;> rfl
theorem rm_X6_bend {n k pc : Nat} {L : AL} {st : List AV} {M : List AC} {x : Option AV × List AC} (h : rx_X6_bend n pc L st M = some x) (hk : n ≤ k) : rx_X6_bend k pc L st M = some x := am_r_mono n k h hk
def fn_X6_bend : Fn := am_fn rx_X6_bend 3
theorem fok_X6_bend : Fok mi_X6_bend fn_X6_bend := fun _ _ _ _ h => am_fok ok_X6_bend rk_X6_bend rfl h
theorem sp_X6_bend {M : List AC} {st lk len ac nx rf lr en lm : Int} {sd : Int64} (h0 : M[26]? = some (mo st lk len ac nx rf lr en lm sd)) {g d b s d' b' s' : F4} (h27 : M[27]? = some (aI (l4 g))) (h28 : M[28]? = some (aI (nw d b s))) (h32 : M[32]? = some (aI (l4 d'))) (h33 : M[33]? = some (aI (l4 b'))) (h34 : M[34]? = some (aI (l4 s'))) {row : List Int} (h35 : M[35]? = some (aI row)) (hl : row.length = 192) (hn : 0 ≤ nx ∧ nx < 16) (ha : 0 ≤ ac ∧ ac ≤ 16) (hr : SR st g s d b) (c x : Int) (hc : -2147483648 ≤ c ∧ c < 2147483648) (hx : -2147483648 ≤ x ∧ x < 2147483648) : fn_X6_bend [vR 26, vI c, vI x] M = if 0 ≤ c ∧ c < 4 then (if 0 ≤ x ∧ x ≤ 3 then (if g4 b c.toNat = x then some (some (vI (-3)), M) else some (some (vI (sl st g s (s4 b c.toNat x) 4 d 0).2), (((((M.set 26 (mo st lk len (if ac < 16 then ac + 1 else 16) ((nx + 1) % 16) rf lr en lm sd)).set 28 (aI (nw (sl st g s (s4 b c.toNat x) 4 d 0).1 (s4 b c.toNat x) s))).set 32 (aI (l4 (sl st g s (s4 b c.toNat x) 4 d 0).1))).set 33 (aI (l4 (s4 b c.toNat x)))).set 34 (aI (l4 s))).set 35 (aI (k12 row nx d b s)))) else some (some (vI (-2)), M)) else some (some (vI (-1)), M) := by
  have wc : wr c = c := wr_id (by omega) (by omega)
  have wx : wr x = x := wr_id (by omega) (by omega)
  obtain ⟨wd0, wd1, wd2, wd3⟩ := i4_wr hr.2.2.2.2 (by decide) (by decide)
  by_cases h : 0 ≤ c ∧ c < 4
  · rw [if_pos h]
    by_cases h6 : 0 ≤ x ∧ x ≤ 3
    · rw [if_pos h6]
      by_cases he : g4 b c.toNat = x
      · rw [if_pos he]
        (refine am_fnI (tb := tb_X6_bend) (n := 60) (Nat.le_of_ble_eq_true rfl) (Nat.le_of_ble_eq_true rfl) ?_; show rx_X6_bend 60 0 _ _ _ = _)
        rcases c4 h with rfl | rfl | rfl | rfl <;> simp [g4] at he <;>
        simp [↓ri_X6_bend, rs_X6_bend_0, rs_X6_bend_1, rs_X6_bend_4, rs_X6_bend_7, rs_X6_bend_9, rs_X6_bend_10, rs_X6_bend_11, rs_X6_bend_12, rs_X6_bend_15, rs_X6_bend_18, rs_X6_bend_21, rs_X6_bend_24, rs_X6_bend_25, rs_X6_bend_28, rs_X6_bend_29, rs_X6_bend_30, rs_X6_bend_31, rs_X6_bend_32, rs_X6_bend_33, rs_X6_bend_36, rs_X6_bend_39, rs_X6_bend_40, rs_X6_bend_43, rs_X6_bend_44, rs_X6_bend_47, rs_X6_bend_48, rs_X6_bend_49, rs_X6_bend_50, rs_X6_bend_51, rs_X6_bend_52, rs_X6_bend_53, rs_X6_bend_8, rs_X6_bend_23, rs_X6_bend_38, rs_X6_bend_56, -List.getElem?_eq_getElem, am_js, am_e, am_in, am_sl, rI, rZ, rV, rJ, rA, rC, kI, kJ, kR, am_one, am_nl, am_w8, tIc, tLc, tNul, tIld, tLld, tAld, tIst, tLst, tAst, tIinc, tI2, tDv, tL2, tLrem, tLs, tLcmp, tI2l, tL2i, tI2c, tDup, tDup2, tPop, tGo, tIfeq, tIfne, tIflt, tIfge, tIfgt, tIfle, tCmeq, tCmne, tCmlt, tCmge, tCmgt, tCmle, tNu, tTs, tGf, tPf, tGs, tIal, tIas, tBal, tBas, tAln, tSv, tSc, tSb, tSl, tSk, tCv, tCs, tCt, tMx, tMn, wr_10000, wr_100000, wr_1000000, wr_10000000, wr_100000000, wr_2400, wr_9999, wr_0, wr_1, wr_2, wr_3, wr_4, wr_5, wr_6, wr_7, wr_8, wr_9, wr_10, wr_11, wr_12, wr_13, wr_14, wr_15, wr_16, wr_17, wr_18, wr_19, wr_20, wr_21, wr_22, wr_23, wr_24, wr_25, wr_26, wr_27, wr_28, wr_29, wr_30, wr_31, wr_32, wr_33, wr_34, wr_35, wr_36, wr_37, wr_38, wr_39, wr_40, wr_41, wr_42, wr_43, wr_44, wr_45, wr_46, wr_47, wr_48, wr_49, wr_50, wr_51, wr_52, wr_53, wr_54, wr_55, wr_56, wr_57, wr_58, wr_59, wr_60, wr_61, wr_62, wr_63, wr_99, wr_100, wr_192, wr_255, wr_256, wr_343, wr_999, wr_1000, wr_2401, wr_2147483647, wr_65535, wr_m1, wr_m2, wr_m3, wr_m4, wr_m9, ak_1000, ak_1001, ak_1002, ak_0, ak_1, ak_2, ak_3, ak_4, ak_5, ak_6, ak_7, ak_8, ak_9, ak_10, ak_11, ak_12, ak_13, ak_14, ak_15, ak_16, ak_17, ak_18, ak_19, ak_20, ak_21, ak_22, ak_23, ak_24, ak_25, ak_26, ak_27, ak_28, ak_29, ak_30, ak_31, ak_32, ak_33, ak_34, ak_35, ak_36, ak_37, ak_38, ak_39, ak_40, ak_41, ak_42, ak_43, ak_44, ak_45, ak_46, ak_47, sp_X6_in, -Int32.toInt_ofInt, -not_and, wr_eq, jt_0, jt_1, jt_2, jt_3, jt_4, jt_5, jt_6, jt_8, jt_12, jt_30, jt_48, jt_49, jt_51, jt_57, jt_255, jt_9999, sp_X6_isCorner, h0, mo, h28, wx, wd0, wd1, wd2, wd3, h6, he]
      · rw [if_neg he]
        have q1 := sp_X6_keepAct h0 h28 h35 hl hn ha
        have q2 := sp_X6_slipNow (M := ((M.set 26 (mo st lk len (if ac < 16 then ac + 1 else 16) ((nx + 1) % 16) rf lr en lm sd)).set 28 (aI (nw d (s4 b c.toNat x) s))).set 35 (aI (k12 row nx d b s))) (st := st) (lk := lk) (len := len) (ac := (if ac < 16 then ac + 1 else 16)) (nx := ((nx + 1) % 16)) (rf := rf) (lr := lr) (en := en) (lm := lm) (sd := sd) (g := g) (d := d) (b := (s4 b c.toNat x)) (s := s) (d' := d') (b' := b') (s' := s') (by simp [-List.getElem?_eq_getElem, h0, h27, h28, h32, h33, h34, h35, gs h0, gs h27, gs h28, gs h32, gs h33, gs h34, gs h35]) (by simp [-List.getElem?_eq_getElem, h0, h27, h28, h32, h33, h34, h35, gs h0, gs h27, gs h28, gs h32, gs h33, gs h34, gs h35]) (by simp [-List.getElem?_eq_getElem, h0, h27, h28, h32, h33, h34, h35, gs h0, gs h27, gs h28, gs h32, gs h33, gs h34, gs h35]) (by simp [-List.getElem?_eq_getElem, h0, h27, h28, h32, h33, h34, h35, gs h0, gs h27, gs h28, gs h32, gs h33, gs h34, gs h35]) (by simp [-List.getElem?_eq_getElem, h0, h27, h28, h32, h33, h34, h35, gs h0, gs h27, gs h28, gs h32, gs h33, gs h34, gs h35]) (by simp [-List.getElem?_eq_getElem, h0, h27, h28, h32, h33, h34, h35, gs h0, gs h27, gs h28, gs h32, gs h33, gs h34, gs h35]) (hr.setB c.toNat h6.1 h6.2)
        generalize sl st g s (s4 b c.toNat x) 4 d 0 = q at q2 ⊢
        generalize (if ac < 16 then ac + 1 else 16) = ac2 at q1 q2 ⊢
        generalize ((nx + 1) % 16) = nx2 at q1 q2 ⊢
        generalize k12 row nx d b s = kk at q1 q2 ⊢
        (refine am_fnI (tb := tb_X6_bend) (n := 60) (Nat.le_of_ble_eq_true rfl) (Nat.le_of_ble_eq_true rfl) ?_; show rx_X6_bend 60 0 _ _ _ = _)
        rcases c4 h with rfl | rfl | rfl | rfl <;> simp [g4] at he <;> simp [s4, mo, ss (i := 26) (j := 28) (by decide), ss (i := 26) (j := 32) (by decide), ss (i := 26) (j := 33) (by decide), ss (i := 26) (j := 34) (by decide), ss (i := 26) (j := 35) (by decide), ss (i := 28) (j := 32) (by decide), ss (i := 28) (j := 33) (by decide), ss (i := 28) (j := 34) (by decide), ss (i := 28) (j := 35) (by decide), ss (i := 32) (j := 33) (by decide), ss (i := 32) (j := 34) (by decide), ss (i := 32) (j := 35) (by decide), ss (i := 33) (j := 34) (by decide), ss (i := 33) (j := 35) (by decide), ss (i := 34) (j := 35) (by decide)] at q2 ⊢ <;>
        simp [↓ri_X6_bend, rs_X6_bend_0, rs_X6_bend_1, rs_X6_bend_4, rs_X6_bend_7, rs_X6_bend_9, rs_X6_bend_10, rs_X6_bend_11, rs_X6_bend_12, rs_X6_bend_15, rs_X6_bend_18, rs_X6_bend_21, rs_X6_bend_24, rs_X6_bend_25, rs_X6_bend_28, rs_X6_bend_29, rs_X6_bend_30, rs_X6_bend_31, rs_X6_bend_32, rs_X6_bend_33, rs_X6_bend_36, rs_X6_bend_39, rs_X6_bend_40, rs_X6_bend_43, rs_X6_bend_44, rs_X6_bend_47, rs_X6_bend_48, rs_X6_bend_49, rs_X6_bend_50, rs_X6_bend_51, rs_X6_bend_52, rs_X6_bend_53, rs_X6_bend_8, rs_X6_bend_23, rs_X6_bend_38, rs_X6_bend_56, -List.getElem?_eq_getElem, am_js, am_e, am_in, am_sl, rI, rZ, rV, rJ, rA, rC, kI, kJ, kR, am_one, am_nl, am_w8, tIc, tLc, tNul, tIld, tLld, tAld, tIst, tLst, tAst, tIinc, tI2, tDv, tL2, tLrem, tLs, tLcmp, tI2l, tL2i, tI2c, tDup, tDup2, tPop, tGo, tIfeq, tIfne, tIflt, tIfge, tIfgt, tIfle, tCmeq, tCmne, tCmlt, tCmge, tCmgt, tCmle, tNu, tTs, tGf, tPf, tGs, tIal, tIas, tBal, tBas, tAln, tSv, tSc, tSb, tSl, tSk, tCv, tCs, tCt, tMx, tMn, wr_10000, wr_100000, wr_1000000, wr_10000000, wr_100000000, wr_2400, wr_9999, wr_0, wr_1, wr_2, wr_3, wr_4, wr_5, wr_6, wr_7, wr_8, wr_9, wr_10, wr_11, wr_12, wr_13, wr_14, wr_15, wr_16, wr_17, wr_18, wr_19, wr_20, wr_21, wr_22, wr_23, wr_24, wr_25, wr_26, wr_27, wr_28, wr_29, wr_30, wr_31, wr_32, wr_33, wr_34, wr_35, wr_36, wr_37, wr_38, wr_39, wr_40, wr_41, wr_42, wr_43, wr_44, wr_45, wr_46, wr_47, wr_48, wr_49, wr_50, wr_51, wr_52, wr_53, wr_54, wr_55, wr_56, wr_57, wr_58, wr_59, wr_60, wr_61, wr_62, wr_63, wr_99, wr_100, wr_192, wr_255, wr_256, wr_343, wr_999, wr_1000, wr_2401, wr_2147483647, wr_65535, wr_m1, wr_m2, wr_m3, wr_m4, wr_m9, ak_1000, ak_1001, ak_1002, ak_0, ak_1, ak_2, ak_3, ak_4, ak_5, ak_6, ak_7, ak_8, ak_9, ak_10, ak_11, ak_12, ak_13, ak_14, ak_15, ak_16, ak_17, ak_18, ak_19, ak_20, ak_21, ak_22, ak_23, ak_24, ak_25, ak_26, ak_27, ak_28, ak_29, ak_30, ak_31, ak_32, ak_33, ak_34, ak_35, ak_36, ak_37, ak_38, ak_39, ak_40, ak_41, ak_42, ak_43, ak_44, ak_45, ak_46, ak_47, sp_X6_in, -Int32.toInt_ofInt, -not_and, wr_eq, jt_0, jt_1, jt_2, jt_3, jt_4, jt_5, jt_6, jt_8, jt_12, jt_30, jt_48, jt_49, jt_51, jt_57, jt_255, jt_9999, sp_X6_isCorner, h0, mo, h28, wx, wd0, wd1, wd2, wd3, h6, he, q1, q2, gs h0, gs h28, ss (i := 26) (j := 28) (by decide), ss (i := 26) (j := 32) (by decide), ss (i := 26) (j := 33) (by decide), ss (i := 26) (j := 34) (by decide), ss (i := 26) (j := 35) (by decide), ss (i := 28) (j := 32) (by decide), ss (i := 28) (j := 33) (by decide), ss (i := 28) (j := 34) (by decide), ss (i := 28) (j := 35) (by decide), ss (i := 32) (j := 33) (by decide), ss (i := 32) (j := 34) (by decide), ss (i := 32) (j := 35) (by decide), ss (i := 33) (j := 34) (by decide), ss (i := 33) (j := 35) (by decide), ss (i := 34) (j := 35) (by decide)]
    · rw [if_neg h6]
      (refine am_fnI (tb := tb_X6_bend) (n := 60) (Nat.le_of_ble_eq_true rfl) (Nat.le_of_ble_eq_true rfl) ?_; show rx_X6_bend 60 0 _ _ _ = _)
      rcases c4 h with rfl | rfl | rfl | rfl <;>
      simp [↓ri_X6_bend, rs_X6_bend_0, rs_X6_bend_1, rs_X6_bend_4, rs_X6_bend_7, rs_X6_bend_9, rs_X6_bend_10, rs_X6_bend_11, rs_X6_bend_12, rs_X6_bend_15, rs_X6_bend_18, rs_X6_bend_21, rs_X6_bend_24, rs_X6_bend_25, rs_X6_bend_28, rs_X6_bend_29, rs_X6_bend_30, rs_X6_bend_31, rs_X6_bend_32, rs_X6_bend_33, rs_X6_bend_36, rs_X6_bend_39, rs_X6_bend_40, rs_X6_bend_43, rs_X6_bend_44, rs_X6_bend_47, rs_X6_bend_48, rs_X6_bend_49, rs_X6_bend_50, rs_X6_bend_51, rs_X6_bend_52, rs_X6_bend_53, rs_X6_bend_8, rs_X6_bend_23, rs_X6_bend_38, rs_X6_bend_56, -List.getElem?_eq_getElem, am_js, am_e, am_in, am_sl, rI, rZ, rV, rJ, rA, rC, kI, kJ, kR, am_one, am_nl, am_w8, tIc, tLc, tNul, tIld, tLld, tAld, tIst, tLst, tAst, tIinc, tI2, tDv, tL2, tLrem, tLs, tLcmp, tI2l, tL2i, tI2c, tDup, tDup2, tPop, tGo, tIfeq, tIfne, tIflt, tIfge, tIfgt, tIfle, tCmeq, tCmne, tCmlt, tCmge, tCmgt, tCmle, tNu, tTs, tGf, tPf, tGs, tIal, tIas, tBal, tBas, tAln, tSv, tSc, tSb, tSl, tSk, tCv, tCs, tCt, tMx, tMn, wr_10000, wr_100000, wr_1000000, wr_10000000, wr_100000000, wr_2400, wr_9999, wr_0, wr_1, wr_2, wr_3, wr_4, wr_5, wr_6, wr_7, wr_8, wr_9, wr_10, wr_11, wr_12, wr_13, wr_14, wr_15, wr_16, wr_17, wr_18, wr_19, wr_20, wr_21, wr_22, wr_23, wr_24, wr_25, wr_26, wr_27, wr_28, wr_29, wr_30, wr_31, wr_32, wr_33, wr_34, wr_35, wr_36, wr_37, wr_38, wr_39, wr_40, wr_41, wr_42, wr_43, wr_44, wr_45, wr_46, wr_47, wr_48, wr_49, wr_50, wr_51, wr_52, wr_53, wr_54, wr_55, wr_56, wr_57, wr_58, wr_59, wr_60, wr_61, wr_62, wr_63, wr_99, wr_100, wr_192, wr_255, wr_256, wr_343, wr_999, wr_1000, wr_2401, wr_2147483647, wr_65535, wr_m1, wr_m2, wr_m3, wr_m4, wr_m9, ak_1000, ak_1001, ak_1002, ak_0, ak_1, ak_2, ak_3, ak_4, ak_5, ak_6, ak_7, ak_8, ak_9, ak_10, ak_11, ak_12, ak_13, ak_14, ak_15, ak_16, ak_17, ak_18, ak_19, ak_20, ak_21, ak_22, ak_23, ak_24, ak_25, ak_26, ak_27, ak_28, ak_29, ak_30, ak_31, ak_32, ak_33, ak_34, ak_35, ak_36, ak_37, ak_38, ak_39, ak_40, ak_41, ak_42, ak_43, ak_44, ak_45, ak_46, ak_47, sp_X6_in, -Int32.toInt_ofInt, -not_and, wr_eq, jt_0, jt_1, jt_2, jt_3, jt_4, jt_5, jt_6, jt_8, jt_12, jt_30, jt_48, jt_49, jt_51, jt_57, jt_255, jt_9999, sp_X6_isCorner, h0, mo, wx, h6]
  · rw [if_neg h]
    have h' : ¬ (0 ≤ c ∧ c ≤ 3) := by omega
    (refine am_fnI (tb := tb_X6_bend) (n := 60) (Nat.le_of_ble_eq_true rfl) (Nat.le_of_ble_eq_true rfl) ?_; show rx_X6_bend 60 0 _ _ _ = _)
    simp [↓ri_X6_bend, rs_X6_bend_0, rs_X6_bend_1, rs_X6_bend_4, rs_X6_bend_7, rs_X6_bend_9, rs_X6_bend_10, rs_X6_bend_11, rs_X6_bend_12, rs_X6_bend_15, rs_X6_bend_18, rs_X6_bend_21, rs_X6_bend_24, rs_X6_bend_25, rs_X6_bend_28, rs_X6_bend_29, rs_X6_bend_30, rs_X6_bend_31, rs_X6_bend_32, rs_X6_bend_33, rs_X6_bend_36, rs_X6_bend_39, rs_X6_bend_40, rs_X6_bend_43, rs_X6_bend_44, rs_X6_bend_47, rs_X6_bend_48, rs_X6_bend_49, rs_X6_bend_50, rs_X6_bend_51, rs_X6_bend_52, rs_X6_bend_53, rs_X6_bend_8, rs_X6_bend_23, rs_X6_bend_38, rs_X6_bend_56, -List.getElem?_eq_getElem, am_js, am_e, am_in, am_sl, rI, rZ, rV, rJ, rA, rC, kI, kJ, kR, am_one, am_nl, am_w8, tIc, tLc, tNul, tIld, tLld, tAld, tIst, tLst, tAst, tIinc, tI2, tDv, tL2, tLrem, tLs, tLcmp, tI2l, tL2i, tI2c, tDup, tDup2, tPop, tGo, tIfeq, tIfne, tIflt, tIfge, tIfgt, tIfle, tCmeq, tCmne, tCmlt, tCmge, tCmgt, tCmle, tNu, tTs, tGf, tPf, tGs, tIal, tIas, tBal, tBas, tAln, tSv, tSc, tSb, tSl, tSk, tCv, tCs, tCt, tMx, tMn, wr_10000, wr_100000, wr_1000000, wr_10000000, wr_100000000, wr_2400, wr_9999, wr_0, wr_1, wr_2, wr_3, wr_4, wr_5, wr_6, wr_7, wr_8, wr_9, wr_10, wr_11, wr_12, wr_13, wr_14, wr_15, wr_16, wr_17, wr_18, wr_19, wr_20, wr_21, wr_22, wr_23, wr_24, wr_25, wr_26, wr_27, wr_28, wr_29, wr_30, wr_31, wr_32, wr_33, wr_34, wr_35, wr_36, wr_37, wr_38, wr_39, wr_40, wr_41, wr_42, wr_43, wr_44, wr_45, wr_46, wr_47, wr_48, wr_49, wr_50, wr_51, wr_52, wr_53, wr_54, wr_55, wr_56, wr_57, wr_58, wr_59, wr_60, wr_61, wr_62, wr_63, wr_99, wr_100, wr_192, wr_255, wr_256, wr_343, wr_999, wr_1000, wr_2401, wr_2147483647, wr_65535, wr_m1, wr_m2, wr_m3, wr_m4, wr_m9, ak_1000, ak_1001, ak_1002, ak_0, ak_1, ak_2, ak_3, ak_4, ak_5, ak_6, ak_7, ak_8, ak_9, ak_10, ak_11, ak_12, ak_13, ak_14, ak_15, ak_16, ak_17, ak_18, ak_19, ak_20, ak_21, ak_22, ak_23, ak_24, ak_25, ak_26, ak_27, ak_28, ak_29, ak_30, ak_31, ak_32, ak_33, ak_34, ak_35, ak_36, ak_37, ak_38, ak_39, ak_40, ak_41, ak_42, ak_43, ak_44, ak_45, ak_46, ak_47, sp_X6_in, -Int32.toInt_ofInt, -not_and, wr_eq, jt_0, jt_1, jt_2, jt_3, jt_4, jt_5, jt_6, jt_8, jt_12, jt_30, jt_48, jt_49, jt_51, jt_57, jt_255, jt_9999, sp_X6_isCorner, wc, h']
abbrev mi_X6_wash : Mi := (yX6_wash, cX6_wash, 2, some .int, 8)
theorem mf_X6_wash : am_mf mi_X6_wash 0 := ⟨w_co_X6_wash, w_in_X6, ⟨by decide +kernel, by decide +kernel⟩, by decide +kernel, by decide⟩
def tb_X6_wash : List (Nat × Tr) := [(0, tAld 0 1), (1, tCv 6 0 fn_X6_keepAct), (4, tIc 0 1), (5, tIst 1 1), (6, tIld 1 1), (7, tIc 4 1), (8, tCmge 46), (11, tAld 0 1), (12, tGf 6 2), (15, tIc 8 2), (17, tIld 1 1), (18, tI2 (fun a b => a + b)), (19, tDup2), (20, tIal), (21, tAld 0 1), (22, tGf 6 2), (25, tIc 8 2), (27, tIld 1 1), (28, tI2 (fun a b => a + b)), (29, tIal), (30, tIfle 37), (33, tIc 1 1), (34, tGo 38), (37, tIc 0 1), (38, tI2 (fun a b => a - b)), (39, tIas), (40, tIinc 1 1), (43, tGo 6), (46, tAld 0 1), (47, tCv 6 0 fn_X6_slipNow)]
theorem ok_X6_wash : Tok mi_X6_wash tb_X6_wash :=
  Tc (sd_aload_n dX6_wash_0) <|
  Tc (sd_cv (T := TX6) fok_X6_keepAct mf_X6_keepAct rfl w_ml_X6_144 w_im_X6_keepAct w_se_X6_keepAct (by decide) dX6_wash_1) <|
  Tc (sd_iconst rfl dX6_wash_4) <|
  Tc (sd_istore_n dX6_wash_5) <|
  Tc (sd_iload_n dX6_wash_6) <|
  Tc (sd_iconst rfl dX6_wash_7) <|
  Tc (sd_cm_ge (by decide) dX6_wash_8) <|
  Tc (sd_aload_n dX6_wash_11) <|
  Tc (sd_getf (T := TX6) rfl giX6 (by decide) w_fl_X6_13 dX6_wash_12) <|
  Tc (sd_bipush (by decide +kernel) dX6_wash_15) <|
  Tc (sd_iload_n dX6_wash_17) <|
  Tc (sd_iadd dX6_wash_18) <|
  Tc (sd_dup2 dX6_wash_19) <|
  Tc (sd_ial dX6_wash_20) <|
  Tc (sd_aload_n dX6_wash_21) <|
  Tc (sd_getf (T := TX6) rfl giX6 (by decide) w_fl_X6_13 dX6_wash_22) <|
  Tc (sd_bipush (by decide +kernel) dX6_wash_25) <|
  Tc (sd_iload_n dX6_wash_27) <|
  Tc (sd_iadd dX6_wash_28) <|
  Tc (sd_ial dX6_wash_29) <|
  Tc (sd_if_le (by decide) dX6_wash_30) <|
  Tc (sd_iconst rfl dX6_wash_33) <|
  Tc (sd_goto (by decide) dX6_wash_34) <|
  Tc (sd_iconst rfl dX6_wash_37) <|
  Tc (sd_isub dX6_wash_38) <|
  Tc (sd_ias dX6_wash_39) <|
  Tc (sd_iinc dX6_wash_40) <|
  Tc (sd_goto (by decide) dX6_wash_43) <|
  Tc (sd_aload_n dX6_wash_46) <|
  Tc (sd_cv (T := TX6) fok_X6_slipNow mf_X6_slipNow rfl w_ml_X6_147 w_im_X6_slipNow w_se_X6_slipNow (by decide) dX6_wash_47) <|
  Tn
theorem rk_X6_wash : Rok mi_X6_wash rI [50] := rk_i dX6_wash_50 <| rk_n
def rx_X6_wash : Nat → Nat → AL → List AV → List AC → Option (Option AV × List AC) := am_r tb_X6_wash rI [50]
theorem rs_X6_wash_0 (n : Nat) (L : AL) (st : List AV) (M : List AC) : rx_X6_wash (n + 1) 0 L st M = am_j (rx_X6_wash n) ((tAld 0 1) 0 L st M) := rfl
theorem rs_X6_wash_1 (n : Nat) (L : AL) (st : List AV) (M : List AC) : rx_X6_wash (n + 1) 1 L st M = am_j (rx_X6_wash n) ((tCv 6 0 fn_X6_keepAct) 1 L st M) := rfl
theorem rs_X6_wash_4 (n : Nat) (L : AL) (st : List AV) (M : List AC) : rx_X6_wash (n + 1) 4 L st M = am_j (rx_X6_wash n) ((tIc 0 1) 4 L st M) := rfl
theorem rs_X6_wash_5 (n : Nat) (L : AL) (st : List AV) (M : List AC) : rx_X6_wash (n + 1) 5 L st M = am_j (rx_X6_wash n) ((tIst 1 1) 5 L st M) := rfl
theorem rs_X6_wash_6 (n : Nat) (L : AL) (st : List AV) (M : List AC) : rx_X6_wash (n + 1) 6 L st M = am_j (rx_X6_wash n) ((tIld 1 1) 6 L st M) := rfl
theorem rs_X6_wash_7 (n : Nat) (L : AL) (st : List AV) (M : List AC) : rx_X6_wash (n + 1) 7 L st M = am_j (rx_X6_wash n) ((tIc 4 1) 7 L st M) := rfl
theorem rs_X6_wash_8 (n : Nat) (L : AL) (st : List AV) (M : List AC) : rx_X6_wash (n + 1) 8 L st M = am_j (rx_X6_wash n) ((tCmge 46) 8 L st M) := rfl
theorem rs_X6_wash_11 (n : Nat) (L : AL) (st : List AV) (M : List AC) : rx_X6_wash (n + 1) 11 L st M = am_j (rx_X6_wash n) ((tAld 0 1) 11 L st M) := rfl
theorem rs_X6_wash_12 (n : Nat) (L : AL) (st : List AV) (M : List AC) : rx_X6_wash (n + 1) 12 L st M = am_j (rx_X6_wash n) ((tGf 6 2) 12 L st M) := rfl
theorem rs_X6_wash_15 (n : Nat) (L : AL) (st : List AV) (M : List AC) : rx_X6_wash (n + 1) 15 L st M = am_j (rx_X6_wash n) ((tIc 8 2) 15 L st M) := rfl
theorem rs_X6_wash_17 (n : Nat) (L : AL) (st : List AV) (M : List AC) : rx_X6_wash (n + 1) 17 L st M = am_j (rx_X6_wash n) ((tIld 1 1) 17 L st M) := rfl
theorem rs_X6_wash_18 (n : Nat) (L : AL) (st : List AV) (M : List AC) : rx_X6_wash (n + 1) 18 L st M = am_j (rx_X6_wash n) ((tI2 (fun a b => a + b)) 18 L st M) := rfl
theorem rs_X6_wash_19 (n : Nat) (L : AL) (st : List AV) (M : List AC) : rx_X6_wash (n + 1) 19 L st M = am_j (rx_X6_wash n) (tDup2 19 L st M) := rfl
theorem rs_X6_wash_20 (n : Nat) (L : AL) (st : List AV) (M : List AC) : rx_X6_wash (n + 1) 20 L st M = am_j (rx_X6_wash n) (tIal 20 L st M) := rfl
theorem rs_X6_wash_21 (n : Nat) (L : AL) (st : List AV) (M : List AC) : rx_X6_wash (n + 1) 21 L st M = am_j (rx_X6_wash n) ((tAld 0 1) 21 L st M) := rfl
theorem rs_X6_wash_22 (n : Nat) (L : AL) (st : List AV) (M : List AC) : rx_X6_wash (n + 1) 22 L st M = am_j (rx_X6_wash n) ((tGf 6 2) 22 L st M) := rfl
theorem rs_X6_wash_25 (n : Nat) (L : AL) (st : List AV) (M : List AC) : rx_X6_wash (n + 1) 25 L st M = am_j (rx_X6_wash n) ((tIc 8 2) 25 L st M) := rfl
theorem rs_X6_wash_27 (n : Nat) (L : AL) (st : List AV) (M : List AC) : rx_X6_wash (n + 1) 27 L st M = am_j (rx_X6_wash n) ((tIld 1 1) 27 L st M) := rfl
theorem rs_X6_wash_28 (n : Nat) (L : AL) (st : List AV) (M : List AC) : rx_X6_wash (n + 1) 28 L st M = am_j (rx_X6_wash n) ((tI2 (fun a b => a + b)) 28 L st M) := rfl
theorem rs_X6_wash_29 (n : Nat) (L : AL) (st : List AV) (M : List AC) : rx_X6_wash (n + 1) 29 L st M = am_j (rx_X6_wash n) (tIal 29 L st M) := rfl
theorem rs_X6_wash_30 (n : Nat) (L : AL) (st : List AV) (M : List AC) : rx_X6_wash (n + 1) 30 L st M = am_j (rx_X6_wash n) ((tIfle 37) 30 L st M) := rfl
theorem rs_X6_wash_33 (n : Nat) (L : AL) (st : List AV) (M : List AC) : rx_X6_wash (n + 1) 33 L st M = am_j (rx_X6_wash n) ((tIc 1 1) 33 L st M) := rfl
theorem rs_X6_wash_34 (n : Nat) (L : AL) (st : List AV) (M : List AC) : rx_X6_wash (n + 1) 34 L st M = am_j (rx_X6_wash n) ((tGo 38) 34 L st M) := rfl
theorem rs_X6_wash_37 (n : Nat) (L : AL) (st : List AV) (M : List AC) : rx_X6_wash (n + 1) 37 L st M = am_j (rx_X6_wash n) ((tIc 0 1) 37 L st M) := rfl
theorem rs_X6_wash_38 (n : Nat) (L : AL) (st : List AV) (M : List AC) : rx_X6_wash (n + 1) 38 L st M = am_j (rx_X6_wash n) ((tI2 (fun a b => a - b)) 38 L st M) := rfl
theorem rs_X6_wash_39 (n : Nat) (L : AL) (st : List AV) (M : List AC) : rx_X6_wash (n + 1) 39 L st M = am_j (rx_X6_wash n) (tIas 39 L st M) := rfl
theorem rs_X6_wash_40 (n : Nat) (L : AL) (st : List AV) (M : List AC) : rx_X6_wash (n + 1) 40 L st M = am_j (rx_X6_wash n) ((tIinc 1 1) 40 L st M) := rfl
theorem rs_X6_wash_43 (n : Nat) (L : AL) (st : List AV) (M : List AC) : rx_X6_wash (n + 1) 43 L st M = am_j (rx_X6_wash n) ((tGo 6) 43 L st M) := rfl
theorem rs_X6_wash_46 (n : Nat) (L : AL) (st : List AV) (M : List AC) : rx_X6_wash (n + 1) 46 L st M = am_j (rx_X6_wash n) ((tAld 0 1) 46 L st M) := rfl
theorem rs_X6_wash_47 (n : Nat) (L : AL) (st : List AV) (M : List AC) : rx_X6_wash (n + 1) 47 L st M = am_j (rx_X6_wash n) ((tCv 6 0 fn_X6_slipNow) 47 L st M) := rfl
theorem rs_X6_wash_50 (n : Nat) (L : AL) (st : List AV) (M : List AC) : rx_X6_wash (n + 1) 50 L st M = am_e rI st M := rfl
theorem ri_X6_wash (c : Prop) [Decidable c] (p q n : Nat) (L : AL) (st : List AV) (M : List AC) : rx_X6_wash n (if c then p else q) L st M = if c then rx_X6_wash n p L st M else rx_X6_wash n q L st M := by split <;> rfl
theorem rm_X6_wash {n k pc : Nat} {L : AL} {st : List AV} {M : List AC} {x : Option AV × List AC} (h : rx_X6_wash n pc L st M = some x) (hk : n ≤ k) : rx_X6_wash k pc L st M = some x := am_r_mono n k h hk
def fn_X6_wash : Fn := am_fn rx_X6_wash 2
theorem fok_X6_wash : Fok mi_X6_wash fn_X6_wash := fun _ _ _ _ h => am_fok ok_X6_wash rk_X6_wash rfl h
theorem wz_s {x : Int} (h : 0 < x) : wz x = x - 1 := by unfold wz; rw [if_pos h]
theorem wz_n {x : Int} (h : 0 ≤ x) (h2 : x ≤ 0) : wz x = x := by unfold wz; split <;> omega
theorem sp_X6_wash {M : List AC} {st lk len ac nx rf lr en lm : Int} {sd : Int64} (h0 : M[26]? = some (mo st lk len ac nx rf lr en lm sd)) {g d b s d' b' s' : F4} (h27 : M[27]? = some (aI (l4 g))) (h28 : M[28]? = some (aI (nw d b s))) (h32 : M[32]? = some (aI (l4 d'))) (h33 : M[33]? = some (aI (l4 b'))) (h34 : M[34]? = some (aI (l4 s'))) {row : List Int} (h35 : M[35]? = some (aI row)) (hl : row.length = 192) (hn : 0 ≤ nx ∧ nx < 16) (ha : 0 ≤ ac ∧ ac ≤ 16) (hr : SR st g s d b) : fn_X6_wash [vR 26] M = some (some (vI (sl st g (wz4 s) b 4 d 0).2), (((((M.set 26 (mo st lk len (if ac < 16 then ac + 1 else 16) ((nx + 1) % 16) rf lr en lm sd)).set 28 (aI (nw (sl st g (wz4 s) b 4 d 0).1 b (wz4 s)))).set 32 (aI (l4 (sl st g (wz4 s) b 4 d 0).1))).set 33 (aI (l4 b))).set 34 (aI (l4 (wz4 s)))).set 35 (aI (k12 row nx d b s))) := by
  obtain ⟨ws0, ws1, ws2, ws3⟩ := i4_wr hr.2.2.1 (by decide) (by decide)
  obtain ⟨⟨r0, -⟩, ⟨r1, -⟩, ⟨r2, -⟩, r3, -⟩ := hr.2.2.1
  have q1 := sp_X6_keepAct h0 h28 h35 hl hn ha
  have q2 := sp_X6_slipNow (M := ((M.set 26 (mo st lk len (if ac < 16 then ac + 1 else 16) ((nx + 1) % 16) rf lr en lm sd)).set 28 (aI (nw d b (wz4 s)))).set 35 (aI (k12 row nx d b s))) (st := st) (lk := lk) (len := len) (ac := (if ac < 16 then ac + 1 else 16)) (nx := ((nx + 1) % 16)) (rf := rf) (lr := lr) (en := en) (lm := lm) (sd := sd) (g := g) (d := d) (b := b) (s := (wz4 s)) (d' := d') (b' := b') (s' := s') (by simp [-List.getElem?_eq_getElem, h0, h27, h28, h32, h33, h34, h35, gs h0, gs h27, gs h28, gs h32, gs h33, gs h34, gs h35]) (by simp [-List.getElem?_eq_getElem, h0, h27, h28, h32, h33, h34, h35, gs h0, gs h27, gs h28, gs h32, gs h33, gs h34, gs h35]) (by simp [-List.getElem?_eq_getElem, h0, h27, h28, h32, h33, h34, h35, gs h0, gs h27, gs h28, gs h32, gs h33, gs h34, gs h35]) (by simp [-List.getElem?_eq_getElem, h0, h27, h28, h32, h33, h34, h35, gs h0, gs h27, gs h28, gs h32, gs h33, gs h34, gs h35]) (by simp [-List.getElem?_eq_getElem, h0, h27, h28, h32, h33, h34, h35, gs h0, gs h27, gs h28, gs h32, gs h33, gs h34, gs h35]) (by simp [-List.getElem?_eq_getElem, h0, h27, h28, h32, h33, h34, h35, gs h0, gs h27, gs h28, gs h32, gs h33, gs h34, gs h35]) hr.wash
  generalize sl st g (wz4 s) b 4 d 0 = q at q2 ⊢
  generalize (if ac < 16 then ac + 1 else 16) = ac2 at q1 q2 ⊢
  generalize ((nx + 1) % 16) = nx2 at q1 q2 ⊢
  generalize k12 row nx d b s = kk at q1 q2 ⊢
  (refine am_fnI (tb := tb_X6_wash) (n := 200) (Nat.le_of_ble_eq_true rfl) (Nat.le_of_ble_eq_true rfl) ?_; show rx_X6_wash 200 0 _ _ _ = _)
  rcases ps s.1 with ⟨a0, b0⟩ | ⟨a0, b0⟩ <;> rcases ps s.2.1 with ⟨a1, b1⟩ | ⟨a1, b1⟩ <;> rcases ps s.2.2.1 with ⟨a2, b2⟩ | ⟨a2, b2⟩ <;> rcases ps s.2.2.2 with ⟨a3, b3⟩ | ⟨a3, b3⟩ <;>
  simp [wz4, mo, a0, a1, a2, a3, b0, b1, b2, b3, r0, r1, r2, r3, wz_s, wz_n, ss (i := 26) (j := 28) (by decide), ss (i := 26) (j := 32) (by decide), ss (i := 26) (j := 33) (by decide), ss (i := 26) (j := 34) (by decide), ss (i := 26) (j := 35) (by decide), ss (i := 28) (j := 32) (by decide), ss (i := 28) (j := 33) (by decide), ss (i := 28) (j := 34) (by decide), ss (i := 28) (j := 35) (by decide), ss (i := 32) (j := 33) (by decide), ss (i := 32) (j := 34) (by decide), ss (i := 32) (j := 35) (by decide), ss (i := 33) (j := 34) (by decide), ss (i := 33) (j := 35) (by decide), ss (i := 34) (j := 35) (by decide)] at q2 ⊢ <;>
  simp [↓ri_X6_wash, rs_X6_wash_0, rs_X6_wash_1, rs_X6_wash_4, rs_X6_wash_5, rs_X6_wash_6, rs_X6_wash_7, rs_X6_wash_8, rs_X6_wash_11, rs_X6_wash_12, rs_X6_wash_15, rs_X6_wash_17, rs_X6_wash_18, rs_X6_wash_19, rs_X6_wash_20, rs_X6_wash_21, rs_X6_wash_22, rs_X6_wash_25, rs_X6_wash_27, rs_X6_wash_28, rs_X6_wash_29, rs_X6_wash_30, rs_X6_wash_33, rs_X6_wash_34, rs_X6_wash_37, rs_X6_wash_38, rs_X6_wash_39, rs_X6_wash_40, rs_X6_wash_43, rs_X6_wash_46, rs_X6_wash_47, rs_X6_wash_50, -List.getElem?_eq_getElem, am_js, am_e, am_in, am_sl, rI, rZ, rV, rJ, rA, rC, kI, kJ, kR, am_one, am_nl, am_w8, tIc, tLc, tNul, tIld, tLld, tAld, tIst, tLst, tAst, tIinc, tI2, tDv, tL2, tLrem, tLs, tLcmp, tI2l, tL2i, tI2c, tDup, tDup2, tPop, tGo, tIfeq, tIfne, tIflt, tIfge, tIfgt, tIfle, tCmeq, tCmne, tCmlt, tCmge, tCmgt, tCmle, tNu, tTs, tGf, tPf, tGs, tIal, tIas, tBal, tBas, tAln, tSv, tSc, tSb, tSl, tSk, tCv, tCs, tCt, tMx, tMn, wr_10000, wr_100000, wr_1000000, wr_10000000, wr_100000000, wr_2400, wr_9999, wr_0, wr_1, wr_2, wr_3, wr_4, wr_5, wr_6, wr_7, wr_8, wr_9, wr_10, wr_11, wr_12, wr_13, wr_14, wr_15, wr_16, wr_17, wr_18, wr_19, wr_20, wr_21, wr_22, wr_23, wr_24, wr_25, wr_26, wr_27, wr_28, wr_29, wr_30, wr_31, wr_32, wr_33, wr_34, wr_35, wr_36, wr_37, wr_38, wr_39, wr_40, wr_41, wr_42, wr_43, wr_44, wr_45, wr_46, wr_47, wr_48, wr_49, wr_50, wr_51, wr_52, wr_53, wr_54, wr_55, wr_56, wr_57, wr_58, wr_59, wr_60, wr_61, wr_62, wr_63, wr_99, wr_100, wr_192, wr_255, wr_256, wr_343, wr_999, wr_1000, wr_2401, wr_2147483647, wr_65535, wr_m1, wr_m2, wr_m3, wr_m4, wr_m9, ak_1000, ak_1001, ak_1002, ak_0, ak_1, ak_2, ak_3, ak_4, ak_5, ak_6, ak_7, ak_8, ak_9, ak_10, ak_11, ak_12, ak_13, ak_14, ak_15, ak_16, ak_17, ak_18, ak_19, ak_20, ak_21, ak_22, ak_23, ak_24, ak_25, ak_26, ak_27, ak_28, ak_29, ak_30, ak_31, ak_32, ak_33, ak_34, ak_35, ak_36, ak_37, ak_38, ak_39, ak_40, ak_41, ak_42, ak_43, ak_44, ak_45, ak_46, ak_47, h0, mo, h28, ws0, ws1, ws2, ws3, a0, a1, a2, a3, b0, b1, b2, b3, q1, q2, gs h0, gs h28, ss (i := 26) (j := 28) (by decide), ss (i := 26) (j := 32) (by decide), ss (i := 26) (j := 33) (by decide), ss (i := 26) (j := 34) (by decide), ss (i := 26) (j := 35) (by decide), ss (i := 28) (j := 32) (by decide), ss (i := 28) (j := 33) (by decide), ss (i := 28) (j := 34) (by decide), ss (i := 28) (j := 35) (by decide), ss (i := 32) (j := 33) (by decide), ss (i := 32) (j := 34) (by decide), ss (i := 32) (j := 35) (by decide), ss (i := 33) (j := 34) (by decide), ss (i := 33) (j := 35) (by decide), ss (i := 34) (j := 35) (by decide)]
def rt (s : F4) : F4 := (s.2.2.2, s.1, s.2.1, s.2.2.1)
abbrev mi_X6_turn : Mi := (yX6_turn, cX6_turn, 3, some .int, 2)
theorem mf_X6_turn : am_mf mi_X6_turn 0 := ⟨w_co_X6_turn, w_in_X6, ⟨by decide +kernel, by decide +kernel⟩, by decide +kernel, by decide⟩
def tb_X6_turn : List (Nat × Tr) := [(0, tAld 0 1), (1, tCv 6 0 fn_X6_on), (4, tIfeq 10), (7, tIc (-3) 2), (10, tAld 0 1), (11, tCv 6 0 fn_X6_keepAct), (14, tAld 0 1), (15, tGf 6 2), (18, tIc 11 2), (20, tIal), (21, tIst 1 1), (22, tIc 3 1), (23, tIst 2 1), (24, tIld 2 1), (25, tIfle 54), (28, tAld 0 1), (29, tGf 6 2), (32, tIc 8 2), (34, tIld 2 1), (35, tI2 (fun a b => a + b)), (36, tAld 0 1), (37, tGf 6 2), (40, tIc 8 2), (42, tIld 2 1), (43, tI2 (fun a b => a + b)), (44, tIc 1 1), (45, tI2 (fun a b => a - b)), (46, tIal), (47, tIas), (48, tIinc 2 (-1)), (51, tGo 24), (54, tAld 0 1), (55, tGf 6 2), (58, tIc 8 2), (60, tIld 1 1), (61, tIas), (62, tIld 1 1)]
theorem ok_X6_turn : Tok mi_X6_turn tb_X6_turn :=
  Tc (sd_aload_n dX6_turn_0) <|
  Tc (sd_cv (T := TX6) fok_X6_on mf_X6_on rfl w_ml_X6_150 w_im_X6_on w_se_X6_on (by decide) dX6_turn_1) <|
  Tc (sd_if_eq (by decide) dX6_turn_4) <|
  Tc (sd_bipush (by decide +kernel) dX6_turn_7) <|
  Tc (sd_aload_n dX6_turn_10) <|
  Tc (sd_cv (T := TX6) fok_X6_keepAct mf_X6_keepAct rfl w_ml_X6_144 w_im_X6_keepAct w_se_X6_keepAct (by decide) dX6_turn_11) <|
  Tc (sd_aload_n dX6_turn_14) <|
  Tc (sd_getf (T := TX6) rfl giX6 (by decide) w_fl_X6_13 dX6_turn_15) <|
  Tc (sd_bipush (by decide +kernel) dX6_turn_18) <|
  Tc (sd_ial dX6_turn_20) <|
  Tc (sd_istore_n dX6_turn_21) <|
  Tc (sd_iconst rfl dX6_turn_22) <|
  Tc (sd_istore_n dX6_turn_23) <|
  Tc (sd_iload_n dX6_turn_24) <|
  Tc (sd_if_le (by decide) dX6_turn_25) <|
  Tc (sd_aload_n dX6_turn_28) <|
  Tc (sd_getf (T := TX6) rfl giX6 (by decide) w_fl_X6_13 dX6_turn_29) <|
  Tc (sd_bipush (by decide +kernel) dX6_turn_32) <|
  Tc (sd_iload_n dX6_turn_34) <|
  Tc (sd_iadd dX6_turn_35) <|
  Tc (sd_aload_n dX6_turn_36) <|
  Tc (sd_getf (T := TX6) rfl giX6 (by decide) w_fl_X6_13 dX6_turn_37) <|
  Tc (sd_bipush (by decide +kernel) dX6_turn_40) <|
  Tc (sd_iload_n dX6_turn_42) <|
  Tc (sd_iadd dX6_turn_43) <|
  Tc (sd_iconst rfl dX6_turn_44) <|
  Tc (sd_isub dX6_turn_45) <|
  Tc (sd_ial dX6_turn_46) <|
  Tc (sd_ias dX6_turn_47) <|
  Tc (sd_iinc dX6_turn_48) <|
  Tc (sd_goto (by decide) dX6_turn_51) <|
  Tc (sd_aload_n dX6_turn_54) <|
  Tc (sd_getf (T := TX6) rfl giX6 (by decide) w_fl_X6_13 dX6_turn_55) <|
  Tc (sd_bipush (by decide +kernel) dX6_turn_58) <|
  Tc (sd_iload_n dX6_turn_60) <|
  Tc (sd_ias dX6_turn_61) <|
  Tc (sd_iload_n dX6_turn_62) <|
  Tn
theorem rk_X6_turn : Rok mi_X6_turn rI [9, 63] := rk_i dX6_turn_9 <| rk_i dX6_turn_63 <| rk_n
def rx_X6_turn : Nat → Nat → AL → List AV → List AC → Option (Option AV × List AC) := am_r tb_X6_turn rI [9, 63]
theorem rs_X6_turn_0 (n : Nat) (L : AL) (st : List AV) (M : List AC) : rx_X6_turn (n + 1) 0 L st M = am_j (rx_X6_turn n) ((tAld 0 1) 0 L st M) := rfl
theorem rs_X6_turn_1 (n : Nat) (L : AL) (st : List AV) (M : List AC) : rx_X6_turn (n + 1) 1 L st M = am_j (rx_X6_turn n) ((tCv 6 0 fn_X6_on) 1 L st M) := rfl
theorem rs_X6_turn_4 (n : Nat) (L : AL) (st : List AV) (M : List AC) : rx_X6_turn (n + 1) 4 L st M = am_j (rx_X6_turn n) ((tIfeq 10) 4 L st M) := rfl
theorem rs_X6_turn_7 (n : Nat) (L : AL) (st : List AV) (M : List AC) : rx_X6_turn (n + 1) 7 L st M = am_j (rx_X6_turn n) ((tIc (-3) 2) 7 L st M) := rfl
theorem rs_X6_turn_10 (n : Nat) (L : AL) (st : List AV) (M : List AC) : rx_X6_turn (n + 1) 10 L st M = am_j (rx_X6_turn n) ((tAld 0 1) 10 L st M) := rfl
theorem rs_X6_turn_11 (n : Nat) (L : AL) (st : List AV) (M : List AC) : rx_X6_turn (n + 1) 11 L st M = am_j (rx_X6_turn n) ((tCv 6 0 fn_X6_keepAct) 11 L st M) := rfl
theorem rs_X6_turn_14 (n : Nat) (L : AL) (st : List AV) (M : List AC) : rx_X6_turn (n + 1) 14 L st M = am_j (rx_X6_turn n) ((tAld 0 1) 14 L st M) := rfl
theorem rs_X6_turn_15 (n : Nat) (L : AL) (st : List AV) (M : List AC) : rx_X6_turn (n + 1) 15 L st M = am_j (rx_X6_turn n) ((tGf 6 2) 15 L st M) := rfl
theorem rs_X6_turn_18 (n : Nat) (L : AL) (st : List AV) (M : List AC) : rx_X6_turn (n + 1) 18 L st M = am_j (rx_X6_turn n) ((tIc 11 2) 18 L st M) := rfl
theorem rs_X6_turn_20 (n : Nat) (L : AL) (st : List AV) (M : List AC) : rx_X6_turn (n + 1) 20 L st M = am_j (rx_X6_turn n) (tIal 20 L st M) := rfl
theorem rs_X6_turn_21 (n : Nat) (L : AL) (st : List AV) (M : List AC) : rx_X6_turn (n + 1) 21 L st M = am_j (rx_X6_turn n) ((tIst 1 1) 21 L st M) := rfl
theorem rs_X6_turn_22 (n : Nat) (L : AL) (st : List AV) (M : List AC) : rx_X6_turn (n + 1) 22 L st M = am_j (rx_X6_turn n) ((tIc 3 1) 22 L st M) := rfl
theorem rs_X6_turn_23 (n : Nat) (L : AL) (st : List AV) (M : List AC) : rx_X6_turn (n + 1) 23 L st M = am_j (rx_X6_turn n) ((tIst 2 1) 23 L st M) := rfl
theorem rs_X6_turn_24 (n : Nat) (L : AL) (st : List AV) (M : List AC) : rx_X6_turn (n + 1) 24 L st M = am_j (rx_X6_turn n) ((tIld 2 1) 24 L st M) := rfl
theorem rs_X6_turn_25 (n : Nat) (L : AL) (st : List AV) (M : List AC) : rx_X6_turn (n + 1) 25 L st M = am_j (rx_X6_turn n) ((tIfle 54) 25 L st M) := rfl
theorem rs_X6_turn_28 (n : Nat) (L : AL) (st : List AV) (M : List AC) : rx_X6_turn (n + 1) 28 L st M = am_j (rx_X6_turn n) ((tAld 0 1) 28 L st M) := rfl
theorem rs_X6_turn_29 (n : Nat) (L : AL) (st : List AV) (M : List AC) : rx_X6_turn (n + 1) 29 L st M = am_j (rx_X6_turn n) ((tGf 6 2) 29 L st M) := rfl
theorem rs_X6_turn_32 (n : Nat) (L : AL) (st : List AV) (M : List AC) : rx_X6_turn (n + 1) 32 L st M = am_j (rx_X6_turn n) ((tIc 8 2) 32 L st M) := rfl
theorem rs_X6_turn_34 (n : Nat) (L : AL) (st : List AV) (M : List AC) : rx_X6_turn (n + 1) 34 L st M = am_j (rx_X6_turn n) ((tIld 2 1) 34 L st M) := rfl
theorem rs_X6_turn_35 (n : Nat) (L : AL) (st : List AV) (M : List AC) : rx_X6_turn (n + 1) 35 L st M = am_j (rx_X6_turn n) ((tI2 (fun a b => a + b)) 35 L st M) := rfl
theorem rs_X6_turn_36 (n : Nat) (L : AL) (st : List AV) (M : List AC) : rx_X6_turn (n + 1) 36 L st M = am_j (rx_X6_turn n) ((tAld 0 1) 36 L st M) := rfl
theorem rs_X6_turn_37 (n : Nat) (L : AL) (st : List AV) (M : List AC) : rx_X6_turn (n + 1) 37 L st M = am_j (rx_X6_turn n) ((tGf 6 2) 37 L st M) := rfl
theorem rs_X6_turn_40 (n : Nat) (L : AL) (st : List AV) (M : List AC) : rx_X6_turn (n + 1) 40 L st M = am_j (rx_X6_turn n) ((tIc 8 2) 40 L st M) := rfl
theorem rs_X6_turn_42 (n : Nat) (L : AL) (st : List AV) (M : List AC) : rx_X6_turn (n + 1) 42 L st M = am_j (rx_X6_turn n) ((tIld 2 1) 42 L st M) := rfl
theorem rs_X6_turn_43 (n : Nat) (L : AL) (st : List AV) (M : List AC) : rx_X6_turn (n + 1) 43 L st M = am_j (rx_X6_turn n) ((tI2 (fun a b => a + b)) 43 L st M) := rfl
theorem rs_X6_turn_44 (n : Nat) (L : AL) (st : List AV) (M : List AC) : rx_X6_turn (n + 1) 44 L st M = am_j (rx_X6_turn n) ((tIc 1 1) 44 L st M) := rfl
theorem rs_X6_turn_45 (n : Nat) (L : AL) (st : List AV) (M : List AC) : rx_X6_turn (n + 1) 45 L st M = am_j (rx_X6_turn n) ((tI2 (fun a b => a - b)) 45 L st M) := rfl
theorem rs_X6_turn_46 (n : Nat) (L : AL) (st : List AV) (M : List AC) : rx_X6_turn (n + 1) 46 L st M = am_j (rx_X6_turn n) (tIal 46 L st M) := rfl
theorem rs_X6_turn_47 (n : Nat) (L : AL) (st : List AV) (M : List AC) : rx_X6_turn (n + 1) 47 L st M = am_j (rx_X6_turn n) (tIas 47 L st M) := rfl
theorem rs_X6_turn_48 (n : Nat) (L : AL) (st : List AV) (M : List AC) : rx_X6_turn (n + 1) 48 L st M = am_j (rx_X6_turn n) ((tIinc 2 (-1)) 48 L st M) := rfl
theorem rs_X6_turn_51 (n : Nat) (L : AL) (st : List AV) (M : List AC) : rx_X6_turn (n + 1) 51 L st M = am_j (rx_X6_turn n) ((tGo 24) 51 L st M) := rfl
theorem rs_X6_turn_54 (n : Nat) (L : AL) (st : List AV) (M : List AC) : rx_X6_turn (n + 1) 54 L st M = am_j (rx_X6_turn n) ((tAld 0 1) 54 L st M) := rfl
theorem rs_X6_turn_55 (n : Nat) (L : AL) (st : List AV) (M : List AC) : rx_X6_turn (n + 1) 55 L st M = am_j (rx_X6_turn n) ((tGf 6 2) 55 L st M) := rfl
theorem rs_X6_turn_58 (n : Nat) (L : AL) (st : List AV) (M : List AC) : rx_X6_turn (n + 1) 58 L st M = am_j (rx_X6_turn n) ((tIc 8 2) 58 L st M) := rfl
theorem rs_X6_turn_60 (n : Nat) (L : AL) (st : List AV) (M : List AC) : rx_X6_turn (n + 1) 60 L st M = am_j (rx_X6_turn n) ((tIld 1 1) 60 L st M) := rfl
theorem rs_X6_turn_61 (n : Nat) (L : AL) (st : List AV) (M : List AC) : rx_X6_turn (n + 1) 61 L st M = am_j (rx_X6_turn n) (tIas 61 L st M) := rfl
theorem rs_X6_turn_62 (n : Nat) (L : AL) (st : List AV) (M : List AC) : rx_X6_turn (n + 1) 62 L st M = am_j (rx_X6_turn n) ((tIld 1 1) 62 L st M) := rfl
theorem rs_X6_turn_9 (n : Nat) (L : AL) (st : List AV) (M : List AC) : rx_X6_turn (n + 1) 9 L st M = am_e rI st M := rfl
theorem rs_X6_turn_63 (n : Nat) (L : AL) (st : List AV) (M : List AC) : rx_X6_turn (n + 1) 63 L st M = am_e rI st M := rfl
theorem ri_X6_turn (c : Prop) [Decidable c] (p q n : Nat) (L : AL) (st : List AV) (M : List AC) : rx_X6_turn n (if c then p else q) L st M = if c then rx_X6_turn n p L st M else rx_X6_turn n q L st M := by split <;> rfl
theorem rm_X6_turn {n k pc : Nat} {L : AL} {st : List AV} {M : List AC} {x : Option AV × List AC} (h : rx_X6_turn n pc L st M = some x) (hk : n ≤ k) : rx_X6_turn k pc L st M = some x := am_r_mono n k h hk
def fn_X6_turn : Fn := am_fn rx_X6_turn 3
theorem fok_X6_turn : Fok mi_X6_turn fn_X6_turn := fun _ _ _ _ h => am_fok ok_X6_turn rk_X6_turn rfl h
theorem sp_X6_turn {M : List AC} {st lk len ac nx rf lr en lm : Int} {sd : Int64} (h0 : M[26]? = some (mo st lk len ac nx rf lr en lm sd)) {g d b s d' b' s' : F4} (h27 : M[27]? = some (aI (l4 g))) (h28 : M[28]? = some (aI (nw d b s))) (h32 : M[32]? = some (aI (l4 d'))) (h33 : M[33]? = some (aI (l4 b'))) (h34 : M[34]? = some (aI (l4 s'))) {row : List Int} (h35 : M[35]? = some (aI row)) (hl : row.length = 192) (hn : 0 ≤ nx ∧ nx < 16) (ha : 0 ≤ ac ∧ ac ≤ 16) (hr : SR st g s d b) : fn_X6_turn [vR 26] M = if onb d = 0 then some (some (vI s.2.2.2), ((M.set 26 (mo st lk len (if ac < 16 then ac + 1 else 16) ((nx + 1) % 16) rf lr en lm sd)).set 28 (aI (nw d b (rt s)))).set 35 (aI (k12 row nx d b s))) else some (some (vI (-3)), M) := by
  have q0 := sp_X6_on h0 h28 hr.2.2.2.1
  have hb := (onb_bc d).1
  have wo : wr (onb d) = onb d := wr_id (by omega) (by omega)
  have q1 := sp_X6_keepAct h0 h28 h35 hl hn ha
  have q2 : True := trivial
  generalize (if ac < 16 then ac + 1 else 16) = ac2 at q1 q2 ⊢
  generalize ((nx + 1) % 16) = nx2 at q1 q2 ⊢
  generalize k12 row nx d b s = kk at q1 q2 ⊢
  by_cases hz : onb d = 0
  · rw [if_pos hz]
    rw [hz] at q0
    (refine am_fnI (tb := tb_X6_turn) (n := 200) (Nat.le_of_ble_eq_true rfl) (Nat.le_of_ble_eq_true rfl) ?_; show rx_X6_turn 200 0 _ _ _ = _)
    simp [↓ri_X6_turn, rs_X6_turn_0, rs_X6_turn_1, rs_X6_turn_4, rs_X6_turn_7, rs_X6_turn_10, rs_X6_turn_11, rs_X6_turn_14, rs_X6_turn_15, rs_X6_turn_18, rs_X6_turn_20, rs_X6_turn_21, rs_X6_turn_22, rs_X6_turn_23, rs_X6_turn_24, rs_X6_turn_25, rs_X6_turn_28, rs_X6_turn_29, rs_X6_turn_32, rs_X6_turn_34, rs_X6_turn_35, rs_X6_turn_36, rs_X6_turn_37, rs_X6_turn_40, rs_X6_turn_42, rs_X6_turn_43, rs_X6_turn_44, rs_X6_turn_45, rs_X6_turn_46, rs_X6_turn_47, rs_X6_turn_48, rs_X6_turn_51, rs_X6_turn_54, rs_X6_turn_55, rs_X6_turn_58, rs_X6_turn_60, rs_X6_turn_61, rs_X6_turn_62, rs_X6_turn_9, rs_X6_turn_63, -List.getElem?_eq_getElem, am_js, am_e, am_in, am_sl, rI, rZ, rV, rJ, rA, rC, kI, kJ, kR, am_one, am_nl, am_w8, tIc, tLc, tNul, tIld, tLld, tAld, tIst, tLst, tAst, tIinc, tI2, tDv, tL2, tLrem, tLs, tLcmp, tI2l, tL2i, tI2c, tDup, tDup2, tPop, tGo, tIfeq, tIfne, tIflt, tIfge, tIfgt, tIfle, tCmeq, tCmne, tCmlt, tCmge, tCmgt, tCmle, tNu, tTs, tGf, tPf, tGs, tIal, tIas, tBal, tBas, tAln, tSv, tSc, tSb, tSl, tSk, tCv, tCs, tCt, tMx, tMn, wr_10000, wr_100000, wr_1000000, wr_10000000, wr_100000000, wr_2400, wr_9999, wr_0, wr_1, wr_2, wr_3, wr_4, wr_5, wr_6, wr_7, wr_8, wr_9, wr_10, wr_11, wr_12, wr_13, wr_14, wr_15, wr_16, wr_17, wr_18, wr_19, wr_20, wr_21, wr_22, wr_23, wr_24, wr_25, wr_26, wr_27, wr_28, wr_29, wr_30, wr_31, wr_32, wr_33, wr_34, wr_35, wr_36, wr_37, wr_38, wr_39, wr_40, wr_41, wr_42, wr_43, wr_44, wr_45, wr_46, wr_47, wr_48, wr_49, wr_50, wr_51, wr_52, wr_53, wr_54, wr_55, wr_56, wr_57, wr_58, wr_59, wr_60, wr_61, wr_62, wr_63, wr_99, wr_100, wr_192, wr_255, wr_256, wr_343, wr_999, wr_1000, wr_2401, wr_2147483647, wr_65535, wr_m1, wr_m2, wr_m3, wr_m4, wr_m9, ak_1000, ak_1001, ak_1002, ak_0, ak_1, ak_2, ak_3, ak_4, ak_5, ak_6, ak_7, ak_8, ak_9, ak_10, ak_11, ak_12, ak_13, ak_14, ak_15, ak_16, ak_17, ak_18, ak_19, ak_20, ak_21, ak_22, ak_23, ak_24, ak_25, ak_26, ak_27, ak_28, ak_29, ak_30, ak_31, ak_32, ak_33, ak_34, ak_35, ak_36, ak_37, ak_38, ak_39, ak_40, ak_41, ak_42, ak_43, ak_44, ak_45, ak_46, ak_47, h0, mo, h28, q0, q1, gs h0, gs h28, rt, ss (i := 26) (j := 28) (by decide), ss (i := 26) (j := 32) (by decide), ss (i := 26) (j := 33) (by decide), ss (i := 26) (j := 34) (by decide), ss (i := 26) (j := 35) (by decide), ss (i := 28) (j := 32) (by decide), ss (i := 28) (j := 33) (by decide), ss (i := 28) (j := 34) (by decide), ss (i := 28) (j := 35) (by decide), ss (i := 32) (j := 33) (by decide), ss (i := 32) (j := 34) (by decide), ss (i := 32) (j := 35) (by decide), ss (i := 33) (j := 34) (by decide), ss (i := 33) (j := 35) (by decide), ss (i := 34) (j := 35) (by decide)]
  · rw [if_neg hz]
    generalize onb d = o at q0 wo hz
    (refine am_fnI (tb := tb_X6_turn) (n := 200) (Nat.le_of_ble_eq_true rfl) (Nat.le_of_ble_eq_true rfl) ?_; show rx_X6_turn 200 0 _ _ _ = _)
    simp [↓ri_X6_turn, rs_X6_turn_0, rs_X6_turn_1, rs_X6_turn_4, rs_X6_turn_7, rs_X6_turn_10, rs_X6_turn_11, rs_X6_turn_14, rs_X6_turn_15, rs_X6_turn_18, rs_X6_turn_20, rs_X6_turn_21, rs_X6_turn_22, rs_X6_turn_23, rs_X6_turn_24, rs_X6_turn_25, rs_X6_turn_28, rs_X6_turn_29, rs_X6_turn_32, rs_X6_turn_34, rs_X6_turn_35, rs_X6_turn_36, rs_X6_turn_37, rs_X6_turn_40, rs_X6_turn_42, rs_X6_turn_43, rs_X6_turn_44, rs_X6_turn_45, rs_X6_turn_46, rs_X6_turn_47, rs_X6_turn_48, rs_X6_turn_51, rs_X6_turn_54, rs_X6_turn_55, rs_X6_turn_58, rs_X6_turn_60, rs_X6_turn_61, rs_X6_turn_62, rs_X6_turn_9, rs_X6_turn_63, -List.getElem?_eq_getElem, am_js, am_e, am_in, am_sl, rI, rZ, rV, rJ, rA, rC, kI, kJ, kR, am_one, am_nl, am_w8, tIc, tLc, tNul, tIld, tLld, tAld, tIst, tLst, tAst, tIinc, tI2, tDv, tL2, tLrem, tLs, tLcmp, tI2l, tL2i, tI2c, tDup, tDup2, tPop, tGo, tIfeq, tIfne, tIflt, tIfge, tIfgt, tIfle, tCmeq, tCmne, tCmlt, tCmge, tCmgt, tCmle, tNu, tTs, tGf, tPf, tGs, tIal, tIas, tBal, tBas, tAln, tSv, tSc, tSb, tSl, tSk, tCv, tCs, tCt, tMx, tMn, wr_10000, wr_100000, wr_1000000, wr_10000000, wr_100000000, wr_2400, wr_9999, wr_0, wr_1, wr_2, wr_3, wr_4, wr_5, wr_6, wr_7, wr_8, wr_9, wr_10, wr_11, wr_12, wr_13, wr_14, wr_15, wr_16, wr_17, wr_18, wr_19, wr_20, wr_21, wr_22, wr_23, wr_24, wr_25, wr_26, wr_27, wr_28, wr_29, wr_30, wr_31, wr_32, wr_33, wr_34, wr_35, wr_36, wr_37, wr_38, wr_39, wr_40, wr_41, wr_42, wr_43, wr_44, wr_45, wr_46, wr_47, wr_48, wr_49, wr_50, wr_51, wr_52, wr_53, wr_54, wr_55, wr_56, wr_57, wr_58, wr_59, wr_60, wr_61, wr_62, wr_63, wr_99, wr_100, wr_192, wr_255, wr_256, wr_343, wr_999, wr_1000, wr_2401, wr_2147483647, wr_65535, wr_m1, wr_m2, wr_m3, wr_m4, wr_m9, ak_1000, ak_1001, ak_1002, ak_0, ak_1, ak_2, ak_3, ak_4, ak_5, ak_6, ak_7, ak_8, ak_9, ak_10, ak_11, ak_12, ak_13, ak_14, ak_15, ak_16, ak_17, ak_18, ak_19, ak_20, ak_21, ak_22, ak_23, ak_24, ak_25, ak_26, ak_27, ak_28, ak_29, ak_30, ak_31, ak_32, ak_33, ak_34, ak_35, ak_36, ak_37, ak_38, ak_39, ak_40, ak_41, ak_42, ak_43, ak_44, ak_45, ak_46, ak_47, h0, mo, q0, wo, hz]
end
