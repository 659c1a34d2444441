noncomputable section
theorem HS.setB {M : List AC} {k : Nat} {st : Int} {g s d b : F4} (h : HS M k st g s d b) (b' : F4) : HS (M.set (k + 4) (aI (l4 b'))) k st g s d b' := by
  obtain ⟨hk, h0, h1, h2, h3, h4⟩ := h
  exact ⟨hk, by rw [List.getElem?_set_ne (by omega)]; exact h0, by rw [List.getElem?_set_ne (by omega)]; exact h1, by rw [List.getElem?_set_ne (by omega)]; exact h2, by rw [List.getElem?_set_ne (by omega)]; exact h3, List.getElem?_set_self (len_of h4)⟩
theorem HS.setS {M : List AC} {k : Nat} {st : Int} {g s d b : F4} (h : HS M k st g s d b) (s' : F4) : HS (M.set (k + 2) (aI (l4 s'))) k st g s' d b := by
  obtain ⟨hk, h0, h1, h2, h3, h4⟩ := h
  exact ⟨hk, by rw [List.getElem?_set_ne (by omega)]; exact h0, by rw [List.getElem?_set_ne (by omega)]; exact h1, List.getElem?_set_self (len_of h2), by rw [List.getElem?_set_ne (by omega)]; exact h3, by rw [List.getElem?_set_ne (by omega)]; exact h4⟩
abbrev mi_X5_bend : Mi := (yX5_bend, cX5_bend, 3, some .int, 5)
theorem mf_X5_bend : am_mf mi_X5_bend 2 := ⟨w_co_X5_bend, w_in_X5, ⟨by decide +kernel, by decide +kernel⟩, by decide +kernel, by decide⟩
def tb_X5_bend : List (Nat × Tr) := [(0, tIld 1 1), (1, tCs 1 fn_X5_isCorner), (4, tIfne 9), (7, tIc (-1) 1), (9, tIld 2 1), (10, tIflt 18), (13, tIld 2 1), (14, tIc 3 1), (15, tCmle 21), (18, tIc (-2) 2), (21, tAld 0 1), (22, tGf 5 2), (25, tGf 4 4), (28, tIld 1 1), (29, tIal), (30, tIld 2 1), (31, tCmne 37), (34, tIc (-3) 2), (37, tAld 0 1), (38, tCv 5 0 fn_X5_remember), (41, tAld 0 1), (42, tGf 5 2), (45, tGf 4 4), (48, tIld 1 1), (49, tIld 2 1), (50, tIas), (51, tAld 0 1), (52, tGf 5 2), (55, tCv 4 0 fn_X4_settle)]
theorem ok_X5_bend : Tok mi_X5_bend tb_X5_bend :=
  Tc (sd_iload_n dX5_bend_0) <|
  Tc (sd_cs fok_X5_isCorner mf_X5_isCorner w_ml_X5_105 w_st_X5_isCorner (by decide) dX5_bend_1) <|
  Tc (sd_if_ne (by decide) dX5_bend_4) <|
  Tc (sd_iconst rfl dX5_bend_7) <|
  Tc (sd_iload_n dX5_bend_9) <|
  Tc (sd_if_lt (by decide) dX5_bend_10) <|
  Tc (sd_iload_n dX5_bend_13) <|
  Tc (sd_iconst rfl dX5_bend_14) <|
  Tc (sd_cm_le (by decide) dX5_bend_15) <|
  Tc (sd_bipush (by decide +kernel) dX5_bend_18) <|
  Tc (sd_aload_n dX5_bend_21) <|
  Tc (sd_getf (T := TX5) rfl giX5 (by decide) w_fl_X5_20 dX5_bend_22) <|
  Tc (sd_getf (T := TX4) rfl giX4 (by decide) w_fl_X5_95 dX5_bend_25) <|
  Tc (sd_iload_n dX5_bend_28) <|
  Tc (sd_ial dX5_bend_29) <|
  Tc (sd_iload_n dX5_bend_30) <|
  Tc (sd_cm_ne (by decide) dX5_bend_31) <|
  Tc (sd_bipush (by decide +kernel) dX5_bend_34) <|
  Tc (sd_aload_n dX5_bend_37) <|
  Tc (sd_cv (T := TX5) fok_X5_remember mf_X5_remember rfl w_ml_X5_145 w_im_X5_remember w_se_X5_remember (by decide) dX5_bend_38) <|
  Tc (sd_aload_n dX5_bend_41) <|
  Tc (sd_getf (T := TX5) rfl giX5 (by decide) w_fl_X5_20 dX5_bend_42) <|
  Tc (sd_getf (T := TX4) rfl giX4 (by decide) w_fl_X5_95 dX5_bend_45) <|
  Tc (sd_iload_n dX5_bend_48) <|
  Tc (sd_iload_n dX5_bend_49) <|
  Tc (sd_ias dX5_bend_50) <|
  Tc (sd_aload_n dX5_bend_51) <|
  Tc (sd_getf (T := TX5) rfl giX5 (by decide) w_fl_X5_20 dX5_bend_52) <|
  Tc (sd_cv (T := TX4) fok_X4_settle mf_X4_settle rfl w_ml_X5_138 w_im_X4_settle w_se_X4_settle (by decide) dX5_bend_55) <|
  Tn
theorem rk_X5_bend : Rok mi_X5_bend rI [8, 20, 36, 58] := rk_i dX5_bend_8 <| rk_i dX5_bend_20 <| rk_i dX5_bend_36 <| rk_i dX5_bend_58 <| rk_n
def rx_X5_bend : Nat → Nat → AL → List AV → List AC → Option (Option AV × List AC) := am_r tb_X5_bend rI [8, 20, 36, 58]
theorem rs_X5_bend_0 (n : Nat) (L : AL) (st : List AV) (M : List AC) : rx_X5_bend (n + 1) 0 L st M = am_j (rx_X5_bend n) ((tIld 1 1) 0 L st M) := rfl
theorem rs_X5_bend_1 (n : Nat) (L : AL) (st : List AV) (M : List AC) : rx_X5_bend (n + 1) 1 L st M = am_j (rx_X5_bend n) ((tCs 1 fn_X5_isCorner) 1 L st M) := rfl
theorem rs_X5_bend_4 (n : Nat) (L : AL) (st : List AV) (M : List AC) : rx_X5_bend (n + 1) 4 L st M = am_j (rx_X5_bend n) ((tIfne 9) 4 L st M) := rfl
theorem rs_X5_bend_7 (n : Nat) (L : AL) (st : List AV) (M : List AC) : rx_X5_bend (n + 1) 7 L st M = am_j (rx_X5_bend n) ((tIc (-1) 1) 7 L st M) := rfl
theorem rs_X5_bend_9 (n : Nat) (L : AL) (st : List AV) (M : List AC) : rx_X5_bend (n + 1) 9 L st M = am_j (rx_X5_bend n) ((tIld 2 1) 9 L st M) := rfl
theorem rs_X5_bend_10 (n : Nat) (L : AL) (st : List AV) (M : List AC) : rx_X5_bend (n + 1) 10 L st M = am_j (rx_X5_bend n) ((tIflt 18) 10 L st M) := rfl
theorem rs_X5_bend_13 (n : Nat) (L : AL) (st : List AV) (M : List AC) : rx_X5_bend (n + 1) 13 L st M = am_j (rx_X5_bend n) ((tIld 2 1) 13 L st M) := rfl
theorem rs_X5_bend_14 (n : Nat) (L : AL) (st : List AV) (M : List AC) : rx_X5_bend (n + 1) 14 L st M = am_j (rx_X5_bend n) ((tIc 3 1) 14 L st M) := rfl
theorem rs_X5_bend_15 (n : Nat) (L : AL) (st : List AV) (M : List AC) : rx_X5_bend (n + 1) 15 L st M = am_j (rx_X5_bend n) ((tCmle 21) 15 L st M) := rfl
theorem rs_X5_bend_18 (n : Nat) (L : AL) (st : List AV) (M : List AC) : rx_X5_bend (n + 1) 18 L st M = am_j (rx_X5_bend n) ((tIc (-2) 2) 18 L st M) := rfl
theorem rs_X5_bend_21 (n : Nat) (L : AL) (st : List AV) (M : List AC) : rx_X5_bend (n + 1) 21 L st M = am_j (rx_X5_bend n) ((tAld 0 1) 21 L st M) := rfl
theorem rs_X5_bend_22 (n : Nat) (L : AL) (st : List AV) (M : List AC) : rx_X5_bend (n + 1) 22 L st M = am_j (rx_X5_bend n) ((tGf 5 2) 22 L st M) := rfl
theorem rs_X5_bend_25 (n : Nat) (L : AL) (st : List AV) (M : List AC) : rx_X5_bend (n + 1) 25 L st M = am_j (rx_X5_bend n) ((tGf 4 4) 25 L st M) := rfl
theorem rs_X5_bend_28 (n : Nat) (L : AL) (st : List AV) (M : List AC) : rx_X5_bend (n + 1) 28 L st M = am_j (rx_X5_bend n) ((tIld 1 1) 28 L st M) := rfl
theorem rs_X5_bend_29 (n : Nat) (L : AL) (st : List AV) (M : List AC) : rx_X5_bend (n + 1) 29 L st M = am_j (rx_X5_bend n) (tIal 29 L st M) := rfl
theorem rs_X5_bend_30 (n : Nat) (L : AL) (st : List AV) (M : List AC) : rx_X5_bend (n + 1) 30 L st M = am_j (rx_X5_bend n) ((tIld 2 1) 30 L st M) := rfl
theorem rs_X5_bend_31 (n : Nat) (L : AL) (st : List AV) (M : List AC) : rx_X5_bend (n + 1) 31 L st M = am_j (rx_X5_bend n) ((tCmne 37) 31 L st M) := rfl
theorem rs_X5_bend_34 (n : Nat) (L : AL) (st : List AV) (M : List AC) : rx_X5_bend (n + 1) 34 L st M = am_j (rx_X5_bend n) ((tIc (-3) 2) 34 L st M) := rfl
theorem rs_X5_bend_37 (n : Nat) (L : AL) (st : List AV) (M : List AC) : rx_X5_bend (n + 1) 37 L st M = am_j (rx_X5_bend n) ((tAld 0 1) 37 L st M) := rfl
theorem rs_X5_bend_38 (n : Nat) (L : AL) (st : List AV) (M : List AC) : rx_X5_bend (n + 1) 38 L st M = am_j (rx_X5_bend n) ((tCv 5 0 fn_X5_remember) 38 L st M) := rfl
theorem rs_X5_bend_41 (n : Nat) (L : AL) (st : List AV) (M : List AC) : rx_X5_bend (n + 1) 41 L st M = am_j (rx_X5_bend n) ((tAld 0 1) 41 L st M) := rfl
theorem rs_X5_bend_42 (n : Nat) (L : AL) (st : List AV) (M : List AC) : rx_X5_bend (n + 1) 42 L st M = am_j (rx_X5_bend n) ((tGf 5 2) 42 L st M) := rfl
theorem rs_X5_bend_45 (n : Nat) (L : AL) (st : List AV) (M : List AC) : rx_X5_bend (n + 1) 45 L st M = am_j (rx_X5_bend n) ((tGf 4 4) 45 L st M) := rfl
theorem rs_X5_bend_48 (n : Nat) (L : AL) (st : List AV) (M : List AC) : rx_X5_bend (n + 1) 48 L st M = am_j (rx_X5_bend n) ((tIld 1 1) 48 L st M) := rfl
theorem rs_X5_bend_49 (n : Nat) (L : AL) (st : List AV) (M : List AC) : rx_X5_bend (n + 1) 49 L st M = am_j (rx_X5_bend n) ((tIld 2 1) 49 L st M) := rfl
theorem rs_X5_bend_50 (n : Nat) (L : AL) (st : List AV) (M : List AC) : rx_X5_bend (n + 1) 50 L st M = am_j (rx_X5_bend n) (tIas 50 L st M) := rfl
theorem rs_X5_bend_51 (n : Nat) (L : AL) (st : List AV) (M : List AC) : rx_X5_bend (n + 1) 51 L st M = am_j (rx_X5_bend n) ((tAld 0 1) 51 L st M) := rfl
theorem rs_X5_bend_52 (n : Nat) (L : AL) (st : List AV) (M : List AC) : rx_X5_bend (n + 1) 52 L st M = am_j (rx_X5_bend n) ((tGf 5 2) 52 L st M) := rfl
theorem rs_X5_bend_55 (n : Nat) (L : AL) (st : List AV) (M : List AC) : rx_X5_bend (n + 1) 55 L st M = am_j (rx_X5_bend n) ((tCv 4 0 fn_X4_settle) 55 L st M) := rfl
theorem rs_X5_bend_8 (n : Nat) (L : AL) (st : List AV) (M : List AC) : rx_X5_bend (n + 1) 8 L st M = am_e rI st M := rfl
theorem rs_X5_bend_20 (n : Nat) (L : AL) (st : List AV) (M : List AC) : rx_X5_bend (n + 1) 20 L st M = am_e rI st M := rfl
theorem rs_X5_bend_36 (n : Nat) (L : AL) (st : List AV) (M : List AC) : rx_X5_bend (n + 1) 36 L st M = am_e rI st M := rfl
theorem rs_X5_bend_58 (n : Nat) (L : AL) (st : List AV) (M : List AC) : rx_X5_bend (n + 1) 58 L st M = am_e rI st M := rfl
theorem ri_X5_bend (c : Prop) [Decidable c] (p q n : Nat) (L : AL) (st : List AV) (M : List AC) : rx_X5_bend n (if c then p else q) L st M = if c then rx_X5_bend n p L st M else rx_X5_bend n q L st M := by split <;> rfl
theorem rm_X5_bend {n k pc : Nat} {L : AL} {st : List AV} {M : List AC} {x : Option AV × List AC} (h : rx_X5_bend n pc L st M = some x) (hk : n ≤ k) : rx_X5_bend k pc L st M = some x := am_r_mono n k h hk
def fn_X5_bend : Fn := am_fn rx_X5_bend 3
theorem fok_X5_bend : Fok mi_X5_bend fn_X5_bend := fun _ _ _ _ h => am_fok ok_X5_bend rk_X5_bend rfl h
theorem sp_X5_bend {M : List AC} {len fa ac : Int} {sr : AV} {sd : Int64} (h0 : M[0]? = some (co len fa ac sr sd)) {st : Int} {g s d b : F4} (hs : HS M 2 st g s d b) {ld lb lc : List Int} (hm : HM M 15 ld lb lc) (k1 : ld.length = 16) (k2 : lb.length = 16) (k3 : lc.length = 16) (hf : 0 ≤ fa ∧ fa < 16) (ha : 0 ≤ ac ∧ ac ≤ 16) (hr : SR st g s d b) (c x : Int) (hc : -2147483648 ≤ c ∧ c < 2147483648) (hx : -2147483648 ≤ x ∧ x < 2147483648) : fn_X5_bend [vR 0, vI c, vI x] M = if 0 ≤ c ∧ c < 4 then (if 0 ≤ x ∧ x ≤ 3 then (if g4 b c.toNat = x then some (some (vI (-3)), M) else some (some (vI (sl st g s (s4 b c.toNat x) 4 d 0).2), (((((M.set 0 (co len (rmf fa ac) (rma ac + 1) sr sd)).set 5 (aI (l4 (sl st g s (s4 b c.toNat x) 4 d 0).1))).set 6 (aI (l4 (s4 b c.toNat x)))).set 16 (aI (ld.set (rmi fa ac).toNat (fg d)))).set 17 (aI (lb.set (rmi fa ac).toNat (fg b)))).set 18 (aI (lc.set (rmi fa ac).toNat (fg s))))) else some (some (vI (-2)), M)) else some (some (vI (-1)), M) := by
  have wc : wr c = c := wr_id (by omega) (by omega)
  have wx : wr x = x := wr_id (by omega) (by omega)
  obtain ⟨i0, i1, i2, i3, i4⟩ := hs.two
  obtain ⟨wd0, wd1, wd2, wd3⟩ := i4_wr hr.2.2.2.2 (by decide) (by decide)
  by_cases h : 0 ≤ c ∧ c < 4
  · rw [if_pos h]
    by_cases h6 : 0 ≤ x ∧ x ≤ 3
    · rw [if_pos h6]
      have a1 : ¬ x < 0 := by omega
      have a2 := h6.2
      by_cases he : g4 b c.toNat = x
      · rw [if_pos he]
        (refine am_fnI (tb := tb_X5_bend) (n := 60) (Nat.le_of_ble_eq_true rfl) (Nat.le_of_ble_eq_true rfl) ?_; show rx_X5_bend 60 0 _ _ _ = _)
        rcases c4 h with rfl | rfl | rfl | rfl <;> simp [g4] at he <;>
        simp [↓ri_X5_bend, rs_X5_bend_0, rs_X5_bend_1, rs_X5_bend_4, rs_X5_bend_7, rs_X5_bend_9, rs_X5_bend_10, rs_X5_bend_13, rs_X5_bend_14, rs_X5_bend_15, rs_X5_bend_18, rs_X5_bend_21, rs_X5_bend_22, rs_X5_bend_25, rs_X5_bend_28, rs_X5_bend_29, rs_X5_bend_30, rs_X5_bend_31, rs_X5_bend_34, rs_X5_bend_37, rs_X5_bend_38, rs_X5_bend_41, rs_X5_bend_42, rs_X5_bend_45, rs_X5_bend_48, rs_X5_bend_49, rs_X5_bend_50, rs_X5_bend_51, rs_X5_bend_52, rs_X5_bend_55, rs_X5_bend_8, rs_X5_bend_20, rs_X5_bend_36, rs_X5_bend_58, -List.getElem?_eq_getElem, am_js, am_e, am_in, am_sl, rI, rZ, rV, rJ, rA, rC, kI, kJ, kR, am_one, am_nl, am_w8, tIc, tLc, tNul, tIld, tLld, tAld, tIst, tLst, tAst, tIinc, tI2, tDv, tL2, tLrem, tLs, tLcmp, tI2l, tL2i, tI2c, tDup, tDup2, tPop, tGo, tIfeq, tIfne, tIflt, tIfge, tIfgt, tIfle, tCmeq, tCmne, tCmlt, tCmge, tCmgt, tCmle, tNu, tTs, tGf, tPf, tGs, tIal, tIas, tBal, tBas, tAln, tSv, tSc, tSb, tSl, tSk, tCv, tCs, tCt, tMx, tMn, wr_10000, wr_100000, wr_1000000, wr_10000000, wr_100000000, wr_2400, wr_9999, wr_0, wr_1, wr_2, wr_3, wr_4, wr_5, wr_6, wr_7, wr_8, wr_9, wr_10, wr_11, wr_12, wr_13, wr_14, wr_15, wr_16, wr_17, wr_18, wr_19, wr_20, wr_21, wr_22, wr_23, wr_24, wr_25, wr_26, wr_27, wr_28, wr_29, wr_30, wr_31, wr_32, wr_33, wr_34, wr_35, wr_36, wr_37, wr_38, wr_39, wr_40, wr_41, wr_42, wr_43, wr_44, wr_45, wr_46, wr_47, wr_48, wr_49, wr_50, wr_51, wr_52, wr_53, wr_54, wr_55, wr_56, wr_57, wr_58, wr_59, wr_60, wr_61, wr_62, wr_63, wr_99, wr_100, wr_192, wr_255, wr_256, wr_343, wr_999, wr_1000, wr_2401, wr_2147483647, wr_65535, wr_m1, wr_m2, wr_m3, wr_m4, wr_m9, ak_1000, ak_1001, ak_1002, ak_0, ak_1, ak_2, ak_3, ak_4, ak_5, ak_6, ak_7, ak_8, ak_9, ak_10, ak_11, ak_12, ak_13, ak_14, ak_15, ak_16, ak_17, ak_18, ak_19, ak_20, ak_21, ak_22, ak_23, ak_24, ak_25, ak_26, ak_27, ak_28, ak_29, ak_30, ak_31, ak_32, ak_33, ak_34, ak_35, ak_36, ak_37, ak_38, ak_39, ak_40, ak_41, ak_42, ak_43, ak_44, ak_45, ak_46, ak_47, sp_X5_isCorner, h0, co, i0, i4, wx, wd0, wd1, wd2, wd3, a1, a2, he]
      · rw [if_neg he]
        have q1 := sp_X5_remember h0 hs hm k1 k2 k3 hf ha
        have hs2 := (rem_HS hs (co len (rmf fa ac) (rma ac + 1) sr sd) (aI (ld.set (rmi fa ac).toNat (fg d))) (aI (lb.set (rmi fa ac).toNat (fg b))) (aI (lc.set (rmi fa ac).toNat (fg s)))).setB (s4 b c.toNat x)
        have q2 := sp_X4_settle hs2 (hr.setB c.toNat h6.1 h6.2)
        clear hs2
        generalize sl st g s (s4 b c.toNat x) 4 d 0 = q at q2 ⊢
        generalize rmf fa ac = f9 at q1 q2 ⊢
        generalize rma ac = a9 at q1 q2 ⊢
        generalize ld.set (rmi fa ac).toNat (fg d) = l1 at q1 q2 ⊢
        generalize lb.set (rmi fa ac).toNat (fg b) = l2 at q1 q2 ⊢
        generalize lc.set (rmi fa ac).toNat (fg s) = l3' at q1 q2 ⊢
        (refine am_fnI (tb := tb_X5_bend) (n := 60) (Nat.le_of_ble_eq_true rfl) (Nat.le_of_ble_eq_true rfl) ?_; show rx_X5_bend 60 0 _ _ _ = _)
        rcases c4 h with rfl | rfl | rfl | rfl <;> simp [g4] at he <;> simp [s4, co, ss (i := 0) (j := 5) (by decide), ss (i := 0) (j := 6) (by decide), ss (i := 0) (j := 16) (by decide), ss (i := 0) (j := 17) (by decide), ss (i := 0) (j := 18) (by decide), ss (i := 5) (j := 6) (by decide), ss (i := 5) (j := 16) (by decide), ss (i := 5) (j := 17) (by decide), ss (i := 5) (j := 18) (by decide), ss (i := 6) (j := 16) (by decide), ss (i := 6) (j := 17) (by decide), ss (i := 6) (j := 18) (by decide), ss (i := 16) (j := 17) (by decide), ss (i := 16) (j := 18) (by decide), ss (i := 17) (j := 18) (by decide)] at q1 q2 ⊢ <;>
        simp [↓ri_X5_bend, rs_X5_bend_0, rs_X5_bend_1, rs_X5_bend_4, rs_X5_bend_7, rs_X5_bend_9, rs_X5_bend_10, rs_X5_bend_13, rs_X5_bend_14, rs_X5_bend_15, rs_X5_bend_18, rs_X5_bend_21, rs_X5_bend_22, rs_X5_bend_25, rs_X5_bend_28, rs_X5_bend_29, rs_X5_bend_30, rs_X5_bend_31, rs_X5_bend_34, rs_X5_bend_37, rs_X5_bend_38, rs_X5_bend_41, rs_X5_bend_42, rs_X5_bend_45, rs_X5_bend_48, rs_X5_bend_49, rs_X5_bend_50, rs_X5_bend_51, rs_X5_bend_52, rs_X5_bend_55, rs_X5_bend_8, rs_X5_bend_20, rs_X5_bend_36, rs_X5_bend_58, -List.getElem?_eq_getElem, am_js, am_e, am_in, am_sl, rI, rZ, rV, rJ, rA, rC, kI, kJ, kR, am_one, am_nl, am_w8, tIc, tLc, tNul, tIld, tLld, tAld, tIst, tLst, tAst, tIinc, tI2, tDv, tL2, tLrem, tLs, tLcmp, tI2l, tL2i, tI2c, tDup, tDup2, tPop, tGo, tIfeq, tIfne, tIflt, tIfge, tIfgt, tIfle, tCmeq, tCmne, tCmlt, tCmge, tCmgt, tCmle, tNu, tTs, tGf, tPf, tGs, tIal, tIas, tBal, tBas, tAln, tSv, tSc, tSb, tSl, tSk, tCv, tCs, tCt, tMx, tMn, wr_10000, wr_100000, wr_1000000, wr_10000000, wr_100000000, wr_2400, wr_9999, wr_0, wr_1, wr_2, wr_3, wr_4, wr_5, wr_6, wr_7, wr_8, wr_9, wr_10, wr_11, wr_12, wr_13, wr_14, wr_15, wr_16, wr_17, wr_18, wr_19, wr_20, wr_21, wr_22, wr_23, wr_24, wr_25, wr_26, wr_27, wr_28, wr_29, wr_30, wr_31, wr_32, wr_33, wr_34, wr_35, wr_36, wr_37, wr_38, wr_39, wr_40, wr_41, wr_42, wr_43, wr_44, wr_45, wr_46, wr_47, wr_48, wr_49, wr_50, wr_51, wr_52, wr_53, wr_54, wr_55, wr_56, wr_57, wr_58, wr_59, wr_60, wr_61, wr_62, wr_63, wr_99, wr_100, wr_192, wr_255, wr_256, wr_343, wr_999, wr_1000, wr_2401, wr_2147483647, wr_65535, wr_m1, wr_m2, wr_m3, wr_m4, wr_m9, ak_1000, ak_1001, ak_1002, ak_0, ak_1, ak_2, ak_3, ak_4, ak_5, ak_6, ak_7, ak_8, ak_9, ak_10, ak_11, ak_12, ak_13, ak_14, ak_15, ak_16, ak_17, ak_18, ak_19, ak_20, ak_21, ak_22, ak_23, ak_24, ak_25, ak_26, ak_27, ak_28, ak_29, ak_30, ak_31, ak_32, ak_33, ak_34, ak_35, ak_36, ak_37, ak_38, ak_39, ak_40, ak_41, ak_42, ak_43, ak_44, ak_45, ak_46, ak_47, sp_X5_isCorner, h0, co, i0, i4, wx, wd0, wd1, wd2, wd3, a1, a2, he, q1, q2, gs h0, gs i4, ss (i := 0) (j := 5) (by decide), ss (i := 0) (j := 6) (by decide), ss (i := 0) (j := 16) (by decide), ss (i := 0) (j := 17) (by decide), ss (i := 0) (j := 18) (by decide), ss (i := 5) (j := 6) (by decide), ss (i := 5) (j := 16) (by decide), ss (i := 5) (j := 17) (by decide), ss (i := 5) (j := 18) (by decide), ss (i := 6) (j := 16) (by decide), ss (i := 6) (j := 17) (by decide), ss (i := 6) (j := 18) (by decide), ss (i := 16) (j := 17) (by decide), ss (i := 16) (j := 18) (by decide), ss (i := 17) (j := 18) (by decide)]
    · rw [if_neg h6]
      by_cases a1 : x < 0
      · (refine am_fnI (tb := tb_X5_bend) (n := 60) (Nat.le_of_ble_eq_true rfl) (Nat.le_of_ble_eq_true rfl) ?_; show rx_X5_bend 60 0 _ _ _ = _)
        rcases c4 h with rfl | rfl | rfl | rfl <;>
        simp [↓ri_X5_bend, rs_X5_bend_0, rs_X5_bend_1, rs_X5_bend_4, rs_X5_bend_7, rs_X5_bend_9, rs_X5_bend_10, rs_X5_bend_13, rs_X5_bend_14, rs_X5_bend_15, rs_X5_bend_18, rs_X5_bend_21, rs_X5_bend_22, rs_X5_bend_25, rs_X5_bend_28, rs_X5_bend_29, rs_X5_bend_30, rs_X5_bend_31, rs_X5_bend_34, rs_X5_bend_37, rs_X5_bend_38, rs_X5_bend_41, rs_X5_bend_42, rs_X5_bend_45, rs_X5_bend_48, rs_X5_bend_49, rs_X5_bend_50, rs_X5_bend_51, rs_X5_bend_52, rs_X5_bend_55, rs_X5_bend_8, rs_X5_bend_20, rs_X5_bend_36, rs_X5_bend_58, -List.getElem?_eq_getElem, am_js, am_e, am_in, am_sl, rI, rZ, rV, rJ, rA, rC, kI, kJ, kR, am_one, am_nl, am_w8, tIc, tLc, tNul, tIld, tLld, tAld, tIst, tLst, tAst, tIinc, tI2, tDv, tL2, tLrem, tLs, tLcmp, tI2l, tL2i, tI2c, tDup, tDup2, tPop, tGo, tIfeq, tIfne, tIflt, tIfge, tIfgt, tIfle, tCmeq, tCmne, tCmlt, tCmge, tCmgt, tCmle, tNu, tTs, tGf, tPf, tGs, tIal, tIas, tBal, tBas, tAln, tSv, tSc, tSb, tSl, tSk, tCv, tCs, tCt, tMx, tMn, wr_10000, wr_100000, wr_1000000, wr_10000000, wr_100000000, wr_2400, wr_9999, wr_0, wr_1, wr_2, wr_3, wr_4, wr_5, wr_6, wr_7, wr_8, wr_9, wr_10, wr_11, wr_12, wr_13, wr_14, wr_15, wr_16, wr_17, wr_18, wr_19, wr_20, wr_21, wr_22, wr_23, wr_24, wr_25, wr_26, wr_27, wr_28, wr_29, wr_30, wr_31, wr_32, wr_33, wr_34, wr_35, wr_36, wr_37, wr_38, wr_39, wr_40, wr_41, wr_42, wr_43, wr_44, wr_45, wr_46, wr_47, wr_48, wr_49, wr_50, wr_51, wr_52, wr_53, wr_54, wr_55, wr_56, wr_57, wr_58, wr_59, wr_60, wr_61, wr_62, wr_63, wr_99, wr_100, wr_192, wr_255, wr_256, wr_343, wr_999, wr_1000, wr_2401, wr_2147483647, wr_65535, wr_m1, wr_m2, wr_m3, wr_m4, wr_m9, ak_1000, ak_1001, ak_1002, ak_0, ak_1, ak_2, ak_3, ak_4, ak_5, ak_6, ak_7, ak_8, ak_9, ak_10, ak_11, ak_12, ak_13, ak_14, ak_15, ak_16, ak_17, ak_18, ak_19, ak_20, ak_21, ak_22, ak_23, ak_24, ak_25, ak_26, ak_27, ak_28, ak_29, ak_30, ak_31, ak_32, ak_33, ak_34, ak_35, ak_36, ak_37, ak_38, ak_39, ak_40, ak_41, ak_42, ak_43, ak_44, ak_45, ak_46, ak_47, sp_X5_isCorner, wx, a1]
      · have a2 : ¬ x ≤ 3 := by omega
        (refine am_fnI (tb := tb_X5_bend) (n := 60) (Nat.le_of_ble_eq_true rfl) (Nat.le_of_ble_eq_true rfl) ?_; show rx_X5_bend 60 0 _ _ _ = _)
        rcases c4 h with rfl | rfl | rfl | rfl <;>
        simp [↓ri_X5_bend, rs_X5_bend_0, rs_X5_bend_1, rs_X5_bend_4, rs_X5_bend_7, rs_X5_bend_9, rs_X5_bend_10, rs_X5_bend_13, rs_X5_bend_14, rs_X5_bend_15, rs_X5_bend_18, rs_X5_bend_21, rs_X5_bend_22, rs_X5_bend_25, rs_X5_bend_28, rs_X5_bend_29, rs_X5_bend_30, rs_X5_bend_31, rs_X5_bend_34, rs_X5_bend_37, rs_X5_bend_38, rs_X5_bend_41, rs_X5_bend_42, rs_X5_bend_45, rs_X5_bend_48, rs_X5_bend_49, rs_X5_bend_50, rs_X5_bend_51, rs_X5_bend_52, rs_X5_bend_55, rs_X5_bend_8, rs_X5_bend_20, rs_X5_bend_36, rs_X5_bend_58, -List.getElem?_eq_getElem, am_js, am_e, am_in, am_sl, rI, rZ, rV, rJ, rA, rC, kI, kJ, kR, am_one, am_nl, am_w8, tIc, tLc, tNul, tIld, tLld, tAld, tIst, tLst, tAst, tIinc, tI2, tDv, tL2, tLrem, tLs, tLcmp, tI2l, tL2i, tI2c, tDup, tDup2, tPop, tGo, tIfeq, tIfne, tIflt, tIfge, tIfgt, tIfle, tCmeq, tCmne, tCmlt, tCmge, tCmgt, tCmle, tNu, tTs, tGf, tPf, tGs, tIal, tIas, tBal, tBas, tAln, tSv, tSc, tSb, tSl, tSk, tCv, tCs, tCt, tMx, tMn, wr_10000, wr_100000, wr_1000000, wr_10000000, wr_100000000, wr_2400, wr_9999, wr_0, wr_1, wr_2, wr_3, wr_4, wr_5, wr_6, wr_7, wr_8, wr_9, wr_10, wr_11, wr_12, wr_13, wr_14, wr_15, wr_16, wr_17, wr_18, wr_19, wr_20, wr_21, wr_22, wr_23, wr_24, wr_25, wr_26, wr_27, wr_28, wr_29, wr_30, wr_31, wr_32, wr_33, wr_34, wr_35, wr_36, wr_37, wr_38, wr_39, wr_40, wr_41, wr_42, wr_43, wr_44, wr_45, wr_46, wr_47, wr_48, wr_49, wr_50, wr_51, wr_52, wr_53, wr_54, wr_55, wr_56, wr_57, wr_58, wr_59, wr_60, wr_61, wr_62, wr_63, wr_99, wr_100, wr_192, wr_255, wr_256, wr_343, wr_999, wr_1000, wr_2401, wr_2147483647, wr_65535, wr_m1, wr_m2, wr_m3, wr_m4, wr_m9, ak_1000, ak_1001, ak_1002, ak_0, ak_1, ak_2, ak_3, ak_4, ak_5, ak_6, ak_7, ak_8, ak_9, ak_10, ak_11, ak_12, ak_13, ak_14, ak_15, ak_16, ak_17, ak_18, ak_19, ak_20, ak_21, ak_22, ak_23, ak_24, ak_25, ak_26, ak_27, ak_28, ak_29, ak_30, ak_31, ak_32, ak_33, ak_34, ak_35, ak_36, ak_37, ak_38, ak_39, ak_40, ak_41, ak_42, ak_43, ak_44, ak_45, ak_46, ak_47, sp_X5_isCorner, wx, a1, a2]
  · rw [if_neg h]
    (refine am_fnI (tb := tb_X5_bend) (n := 60) (Nat.le_of_ble_eq_true rfl) (Nat.le_of_ble_eq_true rfl) ?_; show rx_X5_bend 60 0 _ _ _ = _)
    simp [↓ri_X5_bend, rs_X5_bend_0, rs_X5_bend_1, rs_X5_bend_4, rs_X5_bend_7, rs_X5_bend_9, rs_X5_bend_10, rs_X5_bend_13, rs_X5_bend_14, rs_X5_bend_15, rs_X5_bend_18, rs_X5_bend_21, rs_X5_bend_22, rs_X5_bend_25, rs_X5_bend_28, rs_X5_bend_29, rs_X5_bend_30, rs_X5_bend_31, rs_X5_bend_34, rs_X5_bend_37, rs_X5_bend_38, rs_X5_bend_41, rs_X5_bend_42, rs_X5_bend_45, rs_X5_bend_48, rs_X5_bend_49, rs_X5_bend_50, rs_X5_bend_51, rs_X5_bend_52, rs_X5_bend_55, rs_X5_bend_8, rs_X5_bend_20, rs_X5_bend_36, rs_X5_bend_58, -List.getElem?_eq_getElem, am_js, am_e, am_in, am_sl, rI, rZ, rV, rJ, rA, rC, kI, kJ, kR, am_one, am_nl, am_w8, tIc, tLc, tNul, tIld, tLld, tAld, tIst, tLst, tAst, tIinc, tI2, tDv, tL2, tLrem, tLs, tLcmp, tI2l, tL2i, tI2c, tDup, tDup2, tPop, tGo, tIfeq, tIfne, tIflt, tIfge, tIfgt, tIfle, tCmeq, tCmne, tCmlt, tCmge, tCmgt, tCmle, tNu, tTs, tGf, tPf, tGs, tIal, tIas, tBal, tBas, tAln, tSv, tSc, tSb, tSl, tSk, tCv, tCs, tCt, tMx, tMn, wr_10000, wr_100000, wr_1000000, wr_10000000, wr_100000000, wr_2400, wr_9999, wr_0, wr_1, wr_2, wr_3, wr_4, wr_5, wr_6, wr_7, wr_8, wr_9, wr_10, wr_11, wr_12, wr_13, wr_14, wr_15, wr_16, wr_17, wr_18, wr_19, wr_20, wr_21, wr_22, wr_23, wr_24, wr_25, wr_26, wr_27, wr_28, wr_29, wr_30, wr_31, wr_32, wr_33, wr_34, wr_35, wr_36, wr_37, wr_38, wr_39, wr_40, wr_41, wr_42, wr_43, wr_44, wr_45, wr_46, wr_47, wr_48, wr_49, wr_50, wr_51, wr_52, wr_53, wr_54, wr_55, wr_56, wr_57, wr_58, wr_59, wr_60, wr_61, wr_62, wr_63, wr_99, wr_100, wr_192, wr_255, wr_256, wr_343, wr_999, wr_1000, wr_2401, wr_2147483647, wr_65535, wr_m1, wr_m2, wr_m3, wr_m4, wr_m9, ak_1000, ak_1001, ak_1002, ak_0, ak_1, ak_2, ak_3, ak_4, ak_5, ak_6, ak_7, ak_8, ak_9, ak_10, ak_11, ak_12, ak_13, ak_14, ak_15, ak_16, ak_17, ak_18, ak_19, ak_20, ak_21, ak_22, ak_23, ak_24, ak_25, ak_26, ak_27, ak_28, ak_29, ak_30, ak_31, ak_32, ak_33, ak_34, ak_35, ak_36, ak_37, ak_38, ak_39, ak_40, ak_41, ak_42, ak_43, ak_44, ak_45, ak_46, ak_47, -not_and, sp_X5_isCorner, wc, h]
abbrev mi_X5_wash : Mi := (yX5_wash, cX5_wash, 1, some .int, 5)
theorem mf_X5_wash : am_mf mi_X5_wash 0 := ⟨w_co_X5_wash, w_in_X5, ⟨by decide +kernel, by decide +kernel⟩, by decide +kernel, by decide⟩
def tb_X5_wash : List (Nat × Tr) := [(0, tAld 0 1), (1, tCv 5 0 fn_X5_remember), (4, tAld 0 1), (5, tGf 5 2), (8, tCv 4 0 fn_X4_shrink), (11, tAld 0 1), (12, tGf 5 2), (15, tCv 4 0 fn_X4_settle)]
theorem ok_X5_wash : Tok mi_X5_wash tb_X5_wash :=
  Tc (sd_aload_n dX5_wash_0) <|
  Tc (sd_cv (T := TX5) fok_X5_remember mf_X5_remember rfl w_ml_X5_145 w_im_X5_remember w_se_X5_remember (by decide) dX5_wash_1) <|
  Tc (sd_aload_n dX5_wash_4) <|
  Tc (sd_getf (T := TX5) rfl giX5 (by decide) w_fl_X5_20 dX5_wash_5) <|
  Tc (sd_cv (T := TX4) fok_X4_shrink mf_X4_shrink rfl w_ml_X5_148 w_im_X4_shrink w_se_X4_shrink (by decide) dX5_wash_8) <|
  Tc (sd_aload_n dX5_wash_11) <|
  Tc (sd_getf (T := TX5) rfl giX5 (by decide) w_fl_X5_20 dX5_wash_12) <|
  Tc (sd_cv (T := TX4) fok_X4_settle mf_X4_settle rfl w_ml_X5_138 w_im_X4_settle w_se_X4_settle (by decide) dX5_wash_15) <|
  Tn
theorem rk_X5_wash : Rok mi_X5_wash rI [18] := rk_i dX5_wash_18 <| rk_n
def rx_X5_wash : Nat → Nat → AL → List AV → List AC → Option (Option AV × List AC) := am_r tb_X5_wash rI [18]
theorem rs_X5_wash_0 (n : Nat) (L : AL) (st : List AV) (M : List AC) : rx_X5_wash (n + 1) 0 L st M = am_j (rx_X5_wash n) ((tAld 0 1) 0 L st M) := rfl
theorem rs_X5_wash_1 (n : Nat) (L : AL) (st : List AV) (M : List AC) : rx_X5_wash (n + 1) 1 L st M = am_j (rx_X5_wash n) ((tCv 5 0 fn_X5_remember) 1 L st M) := rfl
theorem rs_X5_wash_4 (n : Nat) (L : AL) (st : List AV) (M : List AC) : rx_X5_wash (n + 1) 4 L st M = am_j (rx_X5_wash n) ((tAld 0 1) 4 L st M) := rfl
theorem rs_X5_wash_5 (n : Nat) (L : AL) (st : List AV) (M : List AC) : rx_X5_wash (n + 1) 5 L st M = am_j (rx_X5_wash n) ((tGf 5 2) 5 L st M) := rfl
theorem rs_X5_wash_8 (n : Nat) (L : AL) (st : List AV) (M : List AC) : rx_X5_wash (n + 1) 8 L st M = am_j (rx_X5_wash n) ((tCv 4 0 fn_X4_shrink) 8 L st M) := rfl
theorem rs_X5_wash_11 (n : Nat) (L : AL) (st : List AV) (M : List AC) : rx_X5_wash (n + 1) 11 L st M = am_j (rx_X5_wash n) ((tAld 0 1) 11 L st M) := rfl
theorem rs_X5_wash_12 (n : Nat) (L : AL) (st : List AV) (M : List AC) : rx_X5_wash (n + 1) 12 L st M = am_j (rx_X5_wash n) ((tGf 5 2) 12 L st M) := rfl
theorem rs_X5_wash_15 (n : Nat) (L : AL) (st : List AV) (M : List AC) : rx_X5_wash (n + 1) 15 L st M = am_j (rx_X5_wash n) ((tCv 4 0 fn_X4_settle) 15 L st M) := rfl
theorem rs_X5_wash_18 (n : Nat) (L : AL) (st : List AV) (M : List AC) : rx_X5_wash (n + 1) 18 L st M = am_e rI st M := rfl
theorem ri_X5_wash (c : Prop) [Decidable c] (p q n : Nat) (L : AL) (st : List AV) (M : List AC) : rx_X5_wash n (if c then p else q) L st M = if c then rx_X5_wash n p L st M else rx_X5_wash n q L st M := by split <;> rfl
theorem rm_X5_wash {n k pc : Nat} {L : AL} {st : List AV} {M : List AC} {x : Option AV × List AC} (h : rx_X5_wash n pc L st M = some x) (hk : n ≤ k) : rx_X5_wash k pc L st M = some x := am_r_mono n k h hk
def fn_X5_wash : Fn := am_fn rx_X5_wash 1
theorem fok_X5_wash : Fok mi_X5_wash fn_X5_wash := fun _ _ _ _ h => am_fok ok_X5_wash rk_X5_wash rfl h
theorem sp_X5_wash {M : List AC} {len fa ac : Int} {sr : AV} {sd : Int64} (h0 : M[0]? = some (co len fa ac sr sd)) {st : Int} {g s d b : F4} (hs : HS M 2 st g s d b) {ld lb lc : List Int} (hm : HM M 15 ld lb lc) (k1 : ld.length = 16) (k2 : lb.length = 16) (k3 : lc.length = 16) (hf : 0 ≤ fa ∧ fa < 16) (ha : 0 ≤ ac ∧ ac ≤ 16) (hr : SR st g s d b) : fn_X5_wash [vR 0] M = some (some (vI (sl st g (wz4 s) b 4 d 0).2), (((((M.set 0 (co len (rmf fa ac) (rma ac + 1) sr sd)).set 4 (aI (l4 (wz4 s)))).set 5 (aI (l4 (sl st g (wz4 s) b 4 d 0).1))).set 16 (aI (ld.set (rmi fa ac).toNat (fg d)))).set 17 (aI (lb.set (rmi fa ac).toNat (fg b)))).set 18 (aI (lc.set (rmi fa ac).toNat (fg s)))) := by
  obtain ⟨i0, i1, i2, i3, i4⟩ := hs.two
  have q1 := sp_X5_remember h0 hs hm k1 k2 k3 hf ha
  have hs1 := (rem_HS hs (co len (rmf fa ac) (rma ac + 1) sr sd) (aI (ld.set (rmi fa ac).toNat (fg d))) (aI (lb.set (rmi fa ac).toNat (fg b))) (aI (lc.set (rmi fa ac).toNat (fg s))))
  have q0 := sp_X4_shrink hs1 hr.2.2.1
  have q2 := sp_X4_settle (hs1.setS (wz4 s)) hr.wash
  clear hs1
  generalize sl st g (wz4 s) b 4 d 0 = q at q2 ⊢
  generalize wz4 s = z at q0 q2 ⊢
  generalize rmf fa ac = f9 at q0 q1 q2 ⊢
  generalize rma ac = a9 at q0 q1 q2 ⊢
  generalize ld.set (rmi fa ac).toNat (fg d) = l1 at q0 q1 q2 ⊢
  generalize lb.set (rmi fa ac).toNat (fg b) = l2 at q0 q1 q2 ⊢
  generalize lc.set (rmi fa ac).toNat (fg s) = l3' at q0 q1 q2 ⊢
  simp [co, ss (i := 0) (j := 4) (by decide), ss (i := 0) (j := 5) (by decide), ss (i := 0) (j := 16) (by decide), ss (i := 0) (j := 17) (by decide), ss (i := 0) (j := 18) (by decide), ss (i := 4) (j := 5) (by decide), ss (i := 4) (j := 16) (by decide), ss (i := 4) (j := 17) (by decide), ss (i := 4) (j := 18) (by decide), ss (i := 5) (j := 16) (by decide), ss (i := 5) (j := 17) (by decide), ss (i := 5) (j := 18) (by decide), ss (i := 16) (j := 17) (by decide), ss (i := 16) (j := 18) (by decide), ss (i := 17) (j := 18) (by decide)] at q0 q1 q2 ⊢
  (refine am_fnI (tb := tb_X5_wash) (n := 60) (Nat.le_of_ble_eq_true rfl) (Nat.le_of_ble_eq_true rfl) ?_; show rx_X5_wash 60 0 _ _ _ = _)
  simp [↓ri_X5_wash, rs_X5_wash_0, rs_X5_wash_1, rs_X5_wash_4, rs_X5_wash_5, rs_X5_wash_8, rs_X5_wash_11, rs_X5_wash_12, rs_X5_wash_15, rs_X5_wash_18, -List.getElem?_eq_getElem, am_js, am_e, am_in, am_sl, rI, rZ, rV, rJ, rA, rC, kI, kJ, kR, am_one, am_nl, am_w8, tIc, tLc, tNul, tIld, tLld, tAld, tIst, tLst, tAst, tIinc, tI2, tDv, tL2, tLrem, tLs, tLcmp, tI2l, tL2i, tI2c, tDup, tDup2, tPop, tGo, tIfeq, tIfne, tIflt, tIfge, tIfgt, tIfle, tCmeq, tCmne, tCmlt, tCmge, tCmgt, tCmle, tNu, tTs, tGf, tPf, tGs, tIal, tIas, tBal, tBas, tAln, tSv, tSc, tSb, tSl, tSk, tCv, tCs, tCt, tMx, tMn, wr_10000, wr_100000, wr_1000000, wr_10000000, wr_100000000, wr_2400, wr_9999, wr_0, wr_1, wr_2, wr_3, wr_4, wr_5, wr_6, wr_7, wr_8, wr_9, wr_10, wr_11, wr_12, wr_13, wr_14, wr_15, wr_16, wr_17, wr_18, wr_19, wr_20, wr_21, wr_22, wr_23, wr_24, wr_25, wr_26, wr_27, wr_28, wr_29, wr_30, wr_31, wr_32, wr_33, wr_34, wr_35, wr_36, wr_37, wr_38, wr_39, wr_40, wr_41, wr_42, wr_43, wr_44, wr_45, wr_46, wr_47, wr_48, wr_49, wr_50, wr_51, wr_52, wr_53, wr_54, wr_55, wr_56, wr_57, wr_58, wr_59, wr_60, wr_61, wr_62, wr_63, wr_99, wr_100, wr_192, wr_255, wr_256, wr_343, wr_999, wr_1000, wr_2401, wr_2147483647, wr_65535, wr_m1, wr_m2, wr_m3, wr_m4, wr_m9, ak_1000, ak_1001, ak_1002, ak_0, ak_1, ak_2, ak_3, ak_4, ak_5, ak_6, ak_7, ak_8, ak_9, ak_10, ak_11, ak_12, ak_13, ak_14, ak_15, ak_16, ak_17, ak_18, ak_19, ak_20, ak_21, ak_22, ak_23, ak_24, ak_25, ak_26, ak_27, ak_28, ak_29, ak_30, ak_31, ak_32, ak_33, ak_34, ak_35, ak_36, ak_37, ak_38, ak_39, ak_40, ak_41, ak_42, ak_43, ak_44, ak_45, ak_46, ak_47, h0, co, i0, q0, q1, q2, gs h0, ss (i := 0) (j := 4) (by decide), ss (i := 0) (j := 5) (by decide), ss (i := 0) (j := 16) (by decide), ss (i := 0) (j := 17) (by decide), ss (i := 0) (j := 18) (by decide), ss (i := 4) (j := 5) (by decide), ss (i := 4) (j := 16) (by decide), ss (i := 4) (j := 17) (by decide), ss (i := 4) (j := 18) (by decide), ss (i := 5) (j := 16) (by decide), ss (i := 5) (j := 17) (by decide), ss (i := 5) (j := 18) (by decide), ss (i := 16) (j := 17) (by decide), ss (i := 16) (j := 18) (by decide), ss (i := 17) (j := 18) (by decide)]
abbrev mi_X5_turn : Mi := (yX5_turn, cX5_turn, 3, some .int, 4)
theorem mf_X5_turn : am_mf mi_X5_turn 0 := ⟨w_co_X5_turn, w_in_X5, ⟨by decide +kernel, by decide +kernel⟩, by decide +kernel, by decide⟩
def tb_X5_turn : List (Nat × Tr) := [(0, tAld 0 1), (1, tGf 5 2), (4, tCv 4 0 fn_X4_cornersOn), (7, tIfeq 13), (10, tIc (-3) 2), (13, tAld 0 1), (14, tCv 5 0 fn_X5_remember), (17, tAld 0 1), (18, tGf 5 2), (21, tGf 4 2), (24, tIc 3 1), (25, tIal), (26, tIst 1 1), (27, tIc 3 1), (28, tIst 2 1), (29, tIld 2 1), (30, tIfle 59), (33, tAld 0 1), (34, tGf 5 2), (37, tGf 4 2), (40, tIld 2 1), (41, tAld 0 1), (42, tGf 5 2), (45, tGf 4 2), (48, tIld 2 1), (49, tIc 1 1), (50, tI2 (fun a b => a - b)), (51, tIal), (52, tIas), (53, tIinc 2 (-1)), (56, tGo 29), (59, tAld 0 1), (60, tGf 5 2), (63, tGf 4 2), (66, tIc 0 1), (67, tIld 1 1), (68, tIas), (69, tIld 1 1)]
theorem ok_X5_turn : Tok mi_X5_turn tb_X5_turn :=
  Tc (sd_aload_n dX5_turn_0) <|
  Tc (sd_getf (T := TX5) rfl giX5 (by decide) w_fl_X5_20 dX5_turn_1) <|
  Tc (sd_cv (T := TX4) fok_X4_cornersOn mf_X4_cornersOn rfl w_ml_X5_151 w_im_X4_cornersOn w_se_X4_cornersOn (by decide) dX5_turn_4) <|
  Tc (sd_if_eq (by decide) dX5_turn_7) <|
  Tc (sd_bipush (by decide +kernel) dX5_turn_10) <|
  Tc (sd_aload_n dX5_turn_13) <|
  Tc (sd_cv (T := TX5) fok_X5_remember mf_X5_remember rfl w_ml_X5_145 w_im_X5_remember w_se_X5_remember (by decide) dX5_turn_14) <|
  Tc (sd_aload_n dX5_turn_17) <|
  Tc (sd_getf (T := TX5) rfl giX5 (by decide) w_fl_X5_20 dX5_turn_18) <|
  Tc (sd_getf (T := TX4) rfl giX4 (by decide) w_fl_X5_89 dX5_turn_21) <|
  Tc (sd_iconst rfl dX5_turn_24) <|
  Tc (sd_ial dX5_turn_25) <|
  Tc (sd_istore_n dX5_turn_26) <|
  Tc (sd_iconst rfl dX5_turn_27) <|
  Tc (sd_istore_n dX5_turn_28) <|
  Tc (sd_iload_n dX5_turn_29) <|
  Tc (sd_if_le (by decide) dX5_turn_30) <|
  Tc (sd_aload_n dX5_turn_33) <|
  Tc (sd_getf (T := TX5) rfl giX5 (by decide) w_fl_X5_20 dX5_turn_34) <|
  Tc (sd_getf (T := TX4) rfl giX4 (by decide) w_fl_X5_89 dX5_turn_37) <|
  Tc (sd_iload_n dX5_turn_40) <|
  Tc (sd_aload_n dX5_turn_41) <|
  Tc (sd_getf (T := TX5) rfl giX5 (by decide) w_fl_X5_20 dX5_turn_42) <|
  Tc (sd_getf (T := TX4) rfl giX4 (by decide) w_fl_X5_89 dX5_turn_45) <|
  Tc (sd_iload_n dX5_turn_48) <|
  Tc (sd_iconst rfl dX5_turn_49) <|
  Tc (sd_isub dX5_turn_50) <|
  Tc (sd_ial dX5_turn_51) <|
  Tc (sd_ias dX5_turn_52) <|
  Tc (sd_iinc dX5_turn_53) <|
  Tc (sd_goto (by decide) dX5_turn_56) <|
  Tc (sd_aload_n dX5_turn_59) <|
  Tc (sd_getf (T := TX5) rfl giX5 (by decide) w_fl_X5_20 dX5_turn_60) <|
  Tc (sd_getf (T := TX4) rfl giX4 (by decide) w_fl_X5_89 dX5_turn_63) <|
  Tc (sd_iconst rfl dX5_turn_66) <|
  Tc (sd_iload_n dX5_turn_67) <|
  Tc (sd_ias dX5_turn_68) <|
  Tc (sd_iload_n dX5_turn_69) <|
  Tn
theorem rk_X5_turn : Rok mi_X5_turn rI [12, 70] := rk_i dX5_turn_12 <| rk_i dX5_turn_70 <| rk_n
def rx_X5_turn : Nat → Nat → AL → List AV → List AC → Option (Option AV × List AC) := am_r tb_X5_turn rI [12, 70]
theorem rs_X5_turn_0 (n : Nat) (L : AL) (st : List AV) (M : List AC) : rx_X5_turn (n + 1) 0 L st M = am_j (rx_X5_turn n) ((tAld 0 1) 0 L st M) := rfl
theorem rs_X5_turn_1 (n : Nat) (L : AL) (st : List AV) (M : List AC) : rx_X5_turn (n + 1) 1 L st M = am_j (rx_X5_turn n) ((tGf 5 2) 1 L st M) := rfl
theorem rs_X5_turn_4 (n : Nat) (L : AL) (st : List AV) (M : List AC) : rx_X5_turn (n + 1) 4 L st M = am_j (rx_X5_turn n) ((tCv 4 0 fn_X4_cornersOn) 4 L st M) := rfl
theorem rs_X5_turn_7 (n : Nat) (L : AL) (st : List AV) (M : List AC) : rx_X5_turn (n + 1) 7 L st M = am_j (rx_X5_turn n) ((tIfeq 13) 7 L st M) := rfl
theorem rs_X5_turn_10 (n : Nat) (L : AL) (st : List AV) (M : List AC) : rx_X5_turn (n + 1) 10 L st M = am_j (rx_X5_turn n) ((tIc (-3) 2) 10 L st M) := rfl
theorem rs_X5_turn_13 (n : Nat) (L : AL) (st : List AV) (M : List AC) : rx_X5_turn (n + 1) 13 L st M = am_j (rx_X5_turn n) ((tAld 0 1) 13 L st M) := rfl
theorem rs_X5_turn_14 (n : Nat) (L : AL) (st : List AV) (M : List AC) : rx_X5_turn (n + 1) 14 L st M = am_j (rx_X5_turn n) ((tCv 5 0 fn_X5_remember) 14 L st M) := rfl
theorem rs_X5_turn_17 (n : Nat) (L : AL) (st : List AV) (M : List AC) : rx_X5_turn (n + 1) 17 L st M = am_j (rx_X5_turn n) ((tAld 0 1) 17 L st M) := rfl
theorem rs_X5_turn_18 (n : Nat) (L : AL) (st : List AV) (M : List AC) : rx_X5_turn (n + 1) 18 L st M = am_j (rx_X5_turn n) ((tGf 5 2) 18 L st M) := rfl
theorem rs_X5_turn_21 (n : Nat) (L : AL) (st : List AV) (M : List AC) : rx_X5_turn (n + 1) 21 L st M = am_j (rx_X5_turn n) ((tGf 4 2) 21 L st M) := rfl
theorem rs_X5_turn_24 (n : Nat) (L : AL) (st : List AV) (M : List AC) : rx_X5_turn (n + 1) 24 L st M = am_j (rx_X5_turn n) ((tIc 3 1) 24 L st M) := rfl
theorem rs_X5_turn_25 (n : Nat) (L : AL) (st : List AV) (M : List AC) : rx_X5_turn (n + 1) 25 L st M = am_j (rx_X5_turn n) (tIal 25 L st M) := rfl
theorem rs_X5_turn_26 (n : Nat) (L : AL) (st : List AV) (M : List AC) : rx_X5_turn (n + 1) 26 L st M = am_j (rx_X5_turn n) ((tIst 1 1) 26 L st M) := rfl
theorem rs_X5_turn_27 (n : Nat) (L : AL) (st : List AV) (M : List AC) : rx_X5_turn (n + 1) 27 L st M = am_j (rx_X5_turn n) ((tIc 3 1) 27 L st M) := rfl
theorem rs_X5_turn_28 (n : Nat) (L : AL) (st : List AV) (M : List AC) : rx_X5_turn (n + 1) 28 L st M = am_j (rx_X5_turn n) ((tIst 2 1) 28 L st M) := rfl
theorem rs_X5_turn_29 (n : Nat) (L : AL) (st : List AV) (M : List AC) : rx_X5_turn (n + 1) 29 L st M = am_j (rx_X5_turn n) ((tIld 2 1) 29 L st M) := rfl
theorem rs_X5_turn_30 (n : Nat) (L : AL) (st : List AV) (M : List AC) : rx_X5_turn (n + 1) 30 L st M = am_j (rx_X5_turn n) ((tIfle 59) 30 L st M) := rfl
theorem rs_X5_turn_33 (n : Nat) (L : AL) (st : List AV) (M : List AC) : rx_X5_turn (n + 1) 33 L st M = am_j (rx_X5_turn n) ((tAld 0 1) 33 L st M) := rfl
theorem rs_X5_turn_34 (n : Nat) (L : AL) (st : List AV) (M : List AC) : rx_X5_turn (n + 1) 34 L st M = am_j (rx_X5_turn n) ((tGf 5 2) 34 L st M) := rfl
theorem rs_X5_turn_37 (n : Nat) (L : AL) (st : List AV) (M : List AC) : rx_X5_turn (n + 1) 37 L st M = am_j (rx_X5_turn n) ((tGf 4 2) 37 L st M) := rfl
theorem rs_X5_turn_40 (n : Nat) (L : AL) (st : List AV) (M : List AC) : rx_X5_turn (n + 1) 40 L st M = am_j (rx_X5_turn n) ((tIld 2 1) 40 L st M) := rfl
theorem rs_X5_turn_41 (n : Nat) (L : AL) (st : List AV) (M : List AC) : rx_X5_turn (n + 1) 41 L st M = am_j (rx_X5_turn n) ((tAld 0 1) 41 L st M) := rfl
theorem rs_X5_turn_42 (n : Nat) (L : AL) (st : List AV) (M : List AC) : rx_X5_turn (n + 1) 42 L st M = am_j (rx_X5_turn n) ((tGf 5 2) 42 L st M) := rfl
theorem rs_X5_turn_45 (n : Nat) (L : AL) (st : List AV) (M : List AC) : rx_X5_turn (n + 1) 45 L st M = am_j (rx_X5_turn n) ((tGf 4 2) 45 L st M) := rfl
theorem rs_X5_turn_48 (n : Nat) (L : AL) (st : List AV) (M : List AC) : rx_X5_turn (n + 1) 48 L st M = am_j (rx_X5_turn n) ((tIld 2 1) 48 L st M) := rfl
theorem rs_X5_turn_49 (n : Nat) (L : AL) (st : List AV) (M : List AC) : rx_X5_turn (n + 1) 49 L st M = am_j (rx_X5_turn n) ((tIc 1 1) 49 L st M) := rfl
theorem rs_X5_turn_50 (n : Nat) (L : AL) (st : List AV) (M : List AC) : rx_X5_turn (n + 1) 50 L st M = am_j (rx_X5_turn n) ((tI2 (fun a b => a - b)) 50 L st M) := rfl
theorem rs_X5_turn_51 (n : Nat) (L : AL) (st : List AV) (M : List AC) : rx_X5_turn (n + 1) 51 L st M = am_j (rx_X5_turn n) (tIal 51 L st M) := rfl
theorem rs_X5_turn_52 (n : Nat) (L : AL) (st : List AV) (M : List AC) : rx_X5_turn (n + 1) 52 L st M = am_j (rx_X5_turn n) (tIas 52 L st M) := rfl
theorem rs_X5_turn_53 (n : Nat) (L : AL) (st : List AV) (M : List AC) : rx_X5_turn (n + 1) 53 L st M = am_j (rx_X5_turn n) ((tIinc 2 (-1)) 53 L st M) := rfl
theorem rs_X5_turn_56 (n : Nat) (L : AL) (st : List AV) (M : List AC) : rx_X5_turn (n + 1) 56 L st M = am_j (rx_X5_turn n) ((tGo 29) 56 L st M) := rfl
theorem rs_X5_turn_59 (n : Nat) (L : AL) (st : List AV) (M : List AC) : rx_X5_turn (n + 1) 59 L st M = am_j (rx_X5_turn n) ((tAld 0 1) 59 L st M) := rfl
theorem rs_X5_turn_60 (n : Nat) (L : AL) (st : List AV) (M : List AC) : rx_X5_turn (n + 1) 60 L st M = am_j (rx_X5_turn n) ((tGf 5 2) 60 L st M) := rfl
theorem rs_X5_turn_63 (n : Nat) (L : AL) (st : List AV) (M : List AC) : rx_X5_turn (n + 1) 63 L st M = am_j (rx_X5_turn n) ((tGf 4 2) 63 L st M) := rfl
theorem rs_X5_turn_66 (n : Nat) (L : AL) (st : List AV) (M : List AC) : rx_X5_turn (n + 1) 66 L st M = am_j (rx_X5_turn n) ((tIc 0 1) 66 L st M) := rfl
theorem rs_X5_turn_67 (n : Nat) (L : AL) (st : List AV) (M : List AC) : rx_X5_turn (n + 1) 67 L st M = am_j (rx_X5_turn n) ((tIld 1 1) 67 L st M) := rfl
theorem rs_X5_turn_68 (n : Nat) (L : AL) (st : List AV) (M : List AC) : rx_X5_turn (n + 1) 68 L st M = am_j (rx_X5_turn n) (tIas 68 L st M) := rfl
theorem rs_X5_turn_69 (n : Nat) (L : AL) (st : List AV) (M : List AC) : rx_X5_turn (n + 1) 69 L st M = am_j (rx_X5_turn n) ((tIld 1 1) 69 L st M) := rfl
theorem rs_X5_turn_12 (n : Nat) (L : AL) (st : List AV) (M : List AC) : rx_X5_turn (n + 1) 12 L st M = am_e rI st M := rfl
theorem rs_X5_turn_70 (n : Nat) (L : AL) (st : List AV) (M : List AC) : rx_X5_turn (n + 1) 70 L st M = am_e rI st M := rfl
theorem ri_X5_turn (c : Prop) [Decidable c] (p q n : Nat) (L : AL) (st : List AV) (M : List AC) : rx_X5_turn n (if c then p else q) L st M = if c then rx_X5_turn n p L st M else rx_X5_turn n q L st M := by split <;> rfl
theorem rm_X5_turn {n k pc : Nat} {L : AL} {st : List AV} {M : List AC} {x : Option AV × List AC} (h : rx_X5_turn n pc L st M = some x) (hk : n ≤ k) : rx_X5_turn k pc L st M = some x := am_r_mono n k h hk
def fn_X5_turn : Fn := am_fn rx_X5_turn 3
theorem fok_X5_turn : Fok mi_X5_turn fn_X5_turn := fun _ _ _ _ h => am_fok ok_X5_turn rk_X5_turn rfl h
theorem onc_0 (d : F4) : onc d = 0 ↔ onb d = 0 := by
  unfold onc onb on1
  (repeat' split) <;> simp
theorem onc_rng (d : F4) : 0 ≤ onc d ∧ onc d ≤ 4 := by
  unfold onc on1
  (repeat' split) <;> omega
theorem sp_X5_turn {M : List AC} {len fa ac : Int} {sr : AV} {sd : Int64} (h0 : M[0]? = some (co len fa ac sr sd)) {st : Int} {g s d b : F4} (hs : HS M 2 st g s d b) {ld lb lc : List Int} (hm : HM M 15 ld lb lc) (k1 : ld.length = 16) (k2 : lb.length = 16) (k3 : lc.length = 16) (hf : 0 ≤ fa ∧ fa < 16) (ha : 0 ≤ ac ∧ ac ≤ 16) (hr : SR st g s d b) : fn_X5_turn [vR 0] M = if onb d = 0 then some (some (vI s.2.2.2), ((((M.set 0 (co len (rmf fa ac) (rma ac + 1) sr sd)).set 4 (aI (l4 (rt s)))).set 16 (aI (ld.set (rmi fa ac).toNat (fg d)))).set 17 (aI (lb.set (rmi fa ac).toNat (fg b)))).set 18 (aI (lc.set (rmi fa ac).toNat (fg s)))) else some (some (vI (-3)), M) := by
  obtain ⟨i0, i1, i2, i3, i4⟩ := hs.two
  have q0 := sp_X4_cornersOn hs hr.2.2.2.1
  have hb := onc_rng d
  have wo : wr (onc d) = onc d := wr_id (by omega) (by omega)
  have q1 := sp_X5_remember h0 hs hm k1 k2 k3 hf ha
  have q2 : True := trivial
  generalize rmf fa ac = f9 at q1 q2 ⊢
  generalize rma ac = a9 at q1 q2 ⊢
  generalize ld.set (rmi fa ac).toNat (fg d) = l1 at q1 q2 ⊢
  generalize lb.set (rmi fa ac).toNat (fg b) = l2 at q1 q2 ⊢
  generalize lc.set (rmi fa ac).toNat (fg s) = l3' at q1 q2 ⊢
  by_cases hz : onc d = 0
  · rw [if_pos ((onc_0 d).1 hz)]
    rw [hz] at q0
    simp [co, ss (i := 0) (j := 4) (by decide), ss (i := 0) (j := 16) (by decide), ss (i := 0) (j := 17) (by decide), ss (i := 0) (j := 18) (by decide), ss (i := 4) (j := 16) (by decide), ss (i := 4) (j := 17) (by decide), ss (i := 4) (j := 18) (by decide), ss (i := 16) (j := 17) (by decide), ss (i := 16) (j := 18) (by decide), ss (i := 17) (j := 18) (by decide)] at q1 ⊢
    (refine am_fnI (tb := tb_X5_turn) (n := 200) (Nat.le_of_ble_eq_true rfl) (Nat.le_of_ble_eq_true rfl) ?_; show rx_X5_turn 200 0 _ _ _ = _)
    simp [↓ri_X5_turn, rs_X5_turn_0, rs_X5_turn_1, rs_X5_turn_4, rs_X5_turn_7, rs_X5_turn_10, rs_X5_turn_13, rs_X5_turn_14, rs_X5_turn_17, rs_X5_turn_18, rs_X5_turn_21, rs_X5_turn_24, rs_X5_turn_25, rs_X5_turn_26, rs_X5_turn_27, rs_X5_turn_28, rs_X5_turn_29, rs_X5_turn_30, rs_X5_turn_33, rs_X5_turn_34, rs_X5_turn_37, rs_X5_turn_40, rs_X5_turn_41, rs_X5_turn_42, rs_X5_turn_45, rs_X5_turn_48, rs_X5_turn_49, rs_X5_turn_50, rs_X5_turn_51, rs_X5_turn_52, rs_X5_turn_53, rs_X5_turn_56, rs_X5_turn_59, rs_X5_turn_60, rs_X5_turn_63, rs_X5_turn_66, rs_X5_turn_67, rs_X5_turn_68, rs_X5_turn_69, rs_X5_turn_12, rs_X5_turn_70, -List.getElem?_eq_getElem, am_js, am_e, am_in, am_sl, rI, rZ, rV, rJ, rA, rC, kI, kJ, kR, am_one, am_nl, am_w8, tIc, tLc, tNul, tIld, tLld, tAld, tIst, tLst, tAst, tIinc, tI2, tDv, tL2, tLrem, tLs, tLcmp, tI2l, tL2i, tI2c, tDup, tDup2, tPop, tGo, tIfeq, tIfne, tIflt, tIfge, tIfgt, tIfle, tCmeq, tCmne, tCmlt, tCmge, tCmgt, tCmle, tNu, tTs, tGf, tPf, tGs, tIal, tIas, tBal, tBas, tAln, tSv, tSc, tSb, tSl, tSk, tCv, tCs, tCt, tMx, tMn, wr_10000, wr_100000, wr_1000000, wr_10000000, wr_100000000, wr_2400, wr_9999, wr_0, wr_1, wr_2, wr_3, wr_4, wr_5, wr_6, wr_7, wr_8, wr_9, wr_10, wr_11, wr_12, wr_13, wr_14, wr_15, wr_16, wr_17, wr_18, wr_19, wr_20, wr_21, wr_22, wr_23, wr_24, wr_25, wr_26, wr_27, wr_28, wr_29, wr_30, wr_31, wr_32, wr_33, wr_34, wr_35, wr_36, wr_37, wr_38, wr_39, wr_40, wr_41, wr_42, wr_43, wr_44, wr_45, wr_46, wr_47, wr_48, wr_49, wr_50, wr_51, wr_52, wr_53, wr_54, wr_55, wr_56, wr_57, wr_58, wr_59, wr_60, wr_61, wr_62, wr_63, wr_99, wr_100, wr_192, wr_255, wr_256, wr_343, wr_999, wr_1000, wr_2401, wr_2147483647, wr_65535, wr_m1, wr_m2, wr_m3, wr_m4, wr_m9, ak_1000, ak_1001, ak_1002, ak_0, ak_1, ak_2, ak_3, ak_4, ak_5, ak_6, ak_7, ak_8, ak_9, ak_10, ak_11, ak_12, ak_13, ak_14, ak_15, ak_16, ak_17, ak_18, ak_19, ak_20, ak_21, ak_22, ak_23, ak_24, ak_25, ak_26, ak_27, ak_28, ak_29, ak_30, ak_31, ak_32, ak_33, ak_34, ak_35, ak_36, ak_37, ak_38, ak_39, ak_40, ak_41, ak_42, ak_43, ak_44, ak_45, ak_46, ak_47, h0, co, i0, i2, q0, q1, gs h0, gs i2, rt, ss (i := 0) (j := 4) (by decide), ss (i := 0) (j := 16) (by decide), ss (i := 0) (j := 17) (by decide), ss (i := 0) (j := 18) (by decide), ss (i := 4) (j := 16) (by decide), ss (i := 4) (j := 17) (by decide), ss (i := 4) (j := 18) (by decide), ss (i := 16) (j := 17) (by decide), ss (i := 16) (j := 18) (by decide), ss (i := 17) (j := 18) (by decide)]
  · rw [if_neg (fun z => hz ((onc_0 d).2 z))]
    generalize onc d = o at q0 wo hz
    (refine am_fnI (tb := tb_X5_turn) (n := 200) (Nat.le_of_ble_eq_true rfl) (Nat.le_of_ble_eq_true rfl) ?_; show rx_X5_turn 200 0 _ _ _ = _)
    simp [↓ri_X5_turn, rs_X5_turn_0, rs_X5_turn_1, rs_X5_turn_4, rs_X5_turn_7, rs_X5_turn_10, rs_X5_turn_13, rs_X5_turn_14, rs_X5_turn_17, rs_X5_turn_18, rs_X5_turn_21, rs_X5_turn_24, rs_X5_turn_25, rs_X5_turn_26, rs_X5_turn_27, rs_X5_turn_28, rs_X5_turn_29, rs_X5_turn_30, rs_X5_turn_33, rs_X5_turn_34, rs_X5_turn_37, rs_X5_turn_40, rs_X5_turn_41, rs_X5_turn_42, rs_X5_turn_45, rs_X5_turn_48, rs_X5_turn_49, rs_X5_turn_50, rs_X5_turn_51, rs_X5_turn_52, rs_X5_turn_53, rs_X5_turn_56, rs_X5_turn_59, rs_X5_turn_60, rs_X5_turn_63, rs_X5_turn_66, rs_X5_turn_67, rs_X5_turn_68, rs_X5_turn_69, rs_X5_turn_12, rs_X5_turn_70, -List.getElem?_eq_getElem, am_js, am_e, am_in, am_sl, rI, rZ, rV, rJ, rA, rC, kI, kJ, kR, am_one, am_nl, am_w8, tIc, tLc, tNul, tIld, tLld, tAld, tIst, tLst, tAst, tIinc, tI2, tDv, tL2, tLrem, tLs, tLcmp, tI2l, tL2i, tI2c, tDup, tDup2, tPop, tGo, tIfeq, tIfne, tIflt, tIfge, tIfgt, tIfle, tCmeq, tCmne, tCmlt, tCmge, tCmgt, tCmle, tNu, tTs, tGf, tPf, tGs, tIal, tIas, tBal, tBas, tAln, tSv, tSc, tSb, tSl, tSk, tCv, tCs, tCt, tMx, tMn, wr_10000, wr_100000, wr_1000000, wr_10000000, wr_100000000, wr_2400, wr_9999, wr_0, wr_1, wr_2, wr_3, wr_4, wr_5, wr_6, wr_7, wr_8, wr_9, wr_10, wr_11, wr_12, wr_13, wr_14, wr_15, wr_16, wr_17, wr_18, wr_19, wr_20, wr_21, wr_22, wr_23, wr_24, wr_25, wr_26, wr_27, wr_28, wr_29, wr_30, wr_31, wr_32, wr_33, wr_34, wr_35, wr_36, wr_37, wr_38, wr_39, wr_40, wr_41, wr_42, wr_43, wr_44, wr_45, wr_46, wr_47, wr_48, wr_49, wr_50, wr_51, wr_52, wr_53, wr_54, wr_55, wr_56, wr_57, wr_58, wr_59, wr_60, wr_61, wr_62, wr_63, wr_99, wr_100, wr_192, wr_255, wr_256, wr_343, wr_999, wr_1000, wr_2401, wr_2147483647, wr_65535, wr_m1, wr_m2, wr_m3, wr_m4, wr_m9, ak_1000, ak_1001, ak_1002, ak_0, ak_1, ak_2, ak_3, ak_4, ak_5, ak_6, ak_7, ak_8, ak_9, ak_10, ak_11, ak_12, ak_13, ak_14, ak_15, ak_16, ak_17, ak_18, ak_19, ak_20, ak_21, ak_22, ak_23, ak_24, ak_25, ak_26, ak_27, ak_28, ak_29, ak_30, ak_31, ak_32, ak_33, ak_34, ak_35, ak_36, ak_37, ak_38, ak_39, ak_40, ak_41, ak_42, ak_43, ak_44, ak_45, ak_46, ak_47, h0, co, i0, q0, wo, hz]
abbrev mi_X5_undo : Mi := (yX5_undo, cX5_undo, 1, some .int, 4)
theorem mf_X5_undo : am_mf mi_X5_undo 0 := ⟨w_co_X5_undo, w_in_X5, ⟨by decide +kernel, by decide +kernel⟩, by decide +kernel, by decide⟩
def tb_X5_undo : List (Nat × Tr) := [(0, tAld 0 1), (1, tGf 5 7), (4, tIfgt 10), (7, tIc (-3) 2), (10, tAld 0 1), (11, tDup), (12, tGf 5 7), (15, tIc 1 1), (16, tI2 (fun a b => a - b)), (17, tPf kI 5 7), (20, tAld 0 1), (21, tGf 5 5), (24, tAld 0 1), (25, tGf 5 6), (28, tAld 0 1), (29, tGf 5 7), (32, tI2 (fun a b => a + b)), (33, tIc 16 2), (35, tDv Int.tmod), (36, tAld 0 1), (37, tGf 5 2), (40, tCv 1 2 fn_X1_give), (43, tAld 0 1), (44, tGf 5 7)]
theorem ok_X5_undo : Tok mi_X5_undo tb_X5_undo :=
  Tc (sd_aload_n dX5_undo_0) <|
  Tc (sd_getf (T := TX5) rfl giX5 (by decide) w_fl_X5_46 dX5_undo_1) <|
  Tc (sd_if_gt (by decide) dX5_undo_4) <|
  Tc (sd_bipush (by decide +kernel) dX5_undo_7) <|
  Tc (sd_aload_n dX5_undo_10) <|
  Tc (sd_dup dX5_undo_11) <|
  Tc (sd_getf (T := TX5) rfl giX5 (by decide) w_fl_X5_46 dX5_undo_12) <|
  Tc (sd_iconst rfl dX5_undo_15) <|
  Tc (sd_isub dX5_undo_16) <|
  Tc (sd_putf (T := TX5) rfl giX5 (by decide) w_fl_X5_46 tyX5 tyX5_ok nmX5 (kI_ok) rfl dX5_undo_17) <|
  Tc (sd_aload_n dX5_undo_20) <|
  Tc (sd_getf (T := TX5) rfl giX5 (by decide) w_fl_X5_39 dX5_undo_21) <|
  Tc (sd_aload_n dX5_undo_24) <|
  Tc (sd_getf (T := TX5) rfl giX5 (by decide) w_fl_X5_43 dX5_undo_25) <|
  Tc (sd_aload_n dX5_undo_28) <|
  Tc (sd_getf (T := TX5) rfl giX5 (by decide) w_fl_X5_46 dX5_undo_29) <|
  Tc (sd_iadd dX5_undo_32) <|
  Tc (sd_bipush (by decide +kernel) dX5_undo_33) <|
  Tc (sd_irem dX5_undo_35) <|
  Tc (sd_aload_n dX5_undo_36) <|
  Tc (sd_getf (T := TX5) rfl giX5 (by decide) w_fl_X5_20 dX5_undo_37) <|
  Tc (sd_cv (T := TX1) fok_X1_give mf_X1_give rfl w_ml_X5_154 w_im_X1_give w_se_X1_give (by decide) dX5_undo_40) <|
  Tc (sd_aload_n dX5_undo_43) <|
  Tc (sd_getf (T := TX5) rfl giX5 (by decide) w_fl_X5_46 dX5_undo_44) <|
  Tn
theorem rk_X5_undo : Rok mi_X5_undo rI [9, 47] := rk_i dX5_undo_9 <| rk_i dX5_undo_47 <| rk_n
def rx_X5_undo : Nat → Nat → AL → List AV → List AC → Option (Option AV × List AC) := am_r tb_X5_undo rI [9, 47]
theorem rs_X5_undo_0 (n : Nat) (L : AL) (st : List AV) (M : List AC) : rx_X5_undo (n + 1) 0 L st M = am_j (rx_X5_undo n) ((tAld 0 1) 0 L st M) := rfl
theorem rs_X5_undo_1 (n : Nat) (L : AL) (st : List AV) (M : List AC) : rx_X5_undo (n + 1) 1 L st M = am_j (rx_X5_undo n) ((tGf 5 7) 1 L st M) := rfl
theorem rs_X5_undo_4 (n : Nat) (L : AL) (st : List AV) (M : List AC) : rx_X5_undo (n + 1) 4 L st M = am_j (rx_X5_undo n) ((tIfgt 10) 4 L st M) := rfl
theorem rs_X5_undo_7 (n : Nat) (L : AL) (st : List AV) (M : List AC) : rx_X5_undo (n + 1) 7 L st M = am_j (rx_X5_undo n) ((tIc (-3) 2) 7 L st M) := rfl
theorem rs_X5_undo_10 (n : Nat) (L : AL) (st : List AV) (M : List AC) : rx_X5_undo (n + 1) 10 L st M = am_j (rx_X5_undo n) ((tAld 0 1) 10 L st M) := rfl
theorem rs_X5_undo_11 (n : Nat) (L : AL) (st : List AV) (M : List AC) : rx_X5_undo (n + 1) 11 L st M = am_j (rx_X5_undo n) (tDup 11 L st M) := rfl
theorem rs_X5_undo_12 (n : Nat) (L : AL) (st : List AV) (M : List AC) : rx_X5_undo (n + 1) 12 L st M = am_j (rx_X5_undo n) ((tGf 5 7) 12 L st M) := rfl
theorem rs_X5_undo_15 (n : Nat) (L : AL) (st : List AV) (M : List AC) : rx_X5_undo (n + 1) 15 L st M = am_j (rx_X5_undo n) ((tIc 1 1) 15 L st M) := rfl
theorem rs_X5_undo_16 (n : Nat) (L : AL) (st : List AV) (M : List AC) : rx_X5_undo (n + 1) 16 L st M = am_j (rx_X5_undo n) ((tI2 (fun a b => a - b)) 16 L st M) := rfl
theorem rs_X5_undo_17 (n : Nat) (L : AL) (st : List AV) (M : List AC) : rx_X5_undo (n + 1) 17 L st M = am_j (rx_X5_undo n) ((tPf kI 5 7) 17 L st M) := rfl
theorem rs_X5_undo_20 (n : Nat) (L : AL) (st : List AV) (M : List AC) : rx_X5_undo (n + 1) 20 L st M = am_j (rx_X5_undo n) ((tAld 0 1) 20 L st M) := rfl
theorem rs_X5_undo_21 (n : Nat) (L : AL) (st : List AV) (M : List AC) : rx_X5_undo (n + 1) 21 L st M = am_j (rx_X5_undo n) ((tGf 5 5) 21 L st M) := rfl
theorem rs_X5_undo_24 (n : Nat) (L : AL) (st : List AV) (M : List AC) : rx_X5_undo (n + 1) 24 L st M = am_j (rx_X5_undo n) ((tAld 0 1) 24 L st M) := rfl
theorem rs_X5_undo_25 (n : Nat) (L : AL) (st : List AV) (M : List AC) : rx_X5_undo (n + 1) 25 L st M = am_j (rx_X5_undo n) ((tGf 5 6) 25 L st M) := rfl
theorem rs_X5_undo_28 (n : Nat) (L : AL) (st : List AV) (M : List AC) : rx_X5_undo (n + 1) 28 L st M = am_j (rx_X5_undo n) ((tAld 0 1) 28 L st M) := rfl
theorem rs_X5_undo_29 (n : Nat) (L : AL) (st : List AV) (M : List AC) : rx_X5_undo (n + 1) 29 L st M = am_j (rx_X5_undo n) ((tGf 5 7) 29 L st M) := rfl
theorem rs_X5_undo_32 (n : Nat) (L : AL) (st : List AV) (M : List AC) : rx_X5_undo (n + 1) 32 L st M = am_j (rx_X5_undo n) ((tI2 (fun a b => a + b)) 32 L st M) := rfl
theorem rs_X5_undo_33 (n : Nat) (L : AL) (st : List AV) (M : List AC) : rx_X5_undo (n + 1) 33 L st M = am_j (rx_X5_undo n) ((tIc 16 2) 33 L st M) := rfl
theorem rs_X5_undo_35 (n : Nat) (L : AL) (st : List AV) (M : List AC) : rx_X5_undo (n + 1) 35 L st M = am_j (rx_X5_undo n) ((tDv Int.tmod) 35 L st M) := rfl
theorem rs_X5_undo_36 (n : Nat) (L : AL) (st : List AV) (M : List AC) : rx_X5_undo (n + 1) 36 L st M = am_j (rx_X5_undo n) ((tAld 0 1) 36 L st M) := rfl
theorem rs_X5_undo_37 (n : Nat) (L : AL) (st : List AV) (M : List AC) : rx_X5_undo (n + 1) 37 L st M = am_j (rx_X5_undo n) ((tGf 5 2) 37 L st M) := rfl
theorem rs_X5_undo_40 (n : Nat) (L : AL) (st : List AV) (M : List AC) : rx_X5_undo (n + 1) 40 L st M = am_j (rx_X5_undo n) ((tCv 1 2 fn_X1_give) 40 L st M) := rfl
theorem rs_X5_undo_43 (n : Nat) (L : AL) (st : List AV) (M : List AC) : rx_X5_undo (n + 1) 43 L st M = am_j (rx_X5_undo n) ((tAld 0 1) 43 L st M) := rfl
theorem rs_X5_undo_44 (n : Nat) (L : AL) (st : List AV) (M : List AC) : rx_X5_undo (n + 1) 44 L st M = am_j (rx_X5_undo n) ((tGf 5 7) 44 L st M) := rfl
theorem rs_X5_undo_9 (n : Nat) (L : AL) (st : List AV) (M : List AC) : rx_X5_undo (n + 1) 9 L st M = am_e rI st M := rfl
theorem rs_X5_undo_47 (n : Nat) (L : AL) (st : List AV) (M : List AC) : rx_X5_undo (n + 1) 47 L st M = am_e rI st M := rfl
theorem ri_X5_undo (c : Prop) [Decidable c] (p q n : Nat) (L : AL) (st : List AV) (M : List AC) : rx_X5_undo n (if c then p else q) L st M = if c then rx_X5_undo n p L st M else rx_X5_undo n q L st M := by split <;> rfl
theorem rm_X5_undo {n k pc : Nat} {L : AL} {st : List AV} {M : List AC} {x : Option AV × List AC} (h : rx_X5_undo n pc L st M = some x) (hk : n ≤ k) : rx_X5_undo k pc L st M = some x := am_r_mono n k h hk
def fn_X5_undo : Fn := am_fn rx_X5_undo 1
theorem fok_X5_undo : Fok mi_X5_undo fn_X5_undo := fun _ _ _ _ h => am_fok ok_X5_undo rk_X5_undo rfl h
theorem sp_X5_undo0 {M : List AC} {len fa ac : Int} {sr : AV} {sd : Int64} (h0 : M[0]? = some (co len fa ac sr sd)) (ha : ac = 0) : fn_X5_undo [vR 0] M = some (some (vI (-3)), M) := by
  (refine am_fnI (tb := tb_X5_undo) (n := 40) (Nat.le_of_ble_eq_true rfl) (Nat.le_of_ble_eq_true rfl) ?_; show rx_X5_undo 40 0 _ _ _ = _)
  simp [↓ri_X5_undo, rs_X5_undo_0, rs_X5_undo_1, rs_X5_undo_4, rs_X5_undo_7, rs_X5_undo_10, rs_X5_undo_11, rs_X5_undo_12, rs_X5_undo_15, rs_X5_undo_16, rs_X5_undo_17, rs_X5_undo_20, rs_X5_undo_21, rs_X5_undo_24, rs_X5_undo_25, rs_X5_undo_28, rs_X5_undo_29, rs_X5_undo_32, rs_X5_undo_33, rs_X5_undo_35, rs_X5_undo_36, rs_X5_undo_37, rs_X5_undo_40, rs_X5_undo_43, rs_X5_undo_44, rs_X5_undo_9, rs_X5_undo_47, -List.getElem?_eq_getElem, am_js, am_e, am_in, am_sl, rI, rZ, rV, rJ, rA, rC, kI, kJ, kR, am_one, am_nl, am_w8, tIc, tLc, tNul, tIld, tLld, tAld, tIst, tLst, tAst, tIinc, tI2, tDv, tL2, tLrem, tLs, tLcmp, tI2l, tL2i, tI2c, tDup, tDup2, tPop, tGo, tIfeq, tIfne, tIflt, tIfge, tIfgt, tIfle, tCmeq, tCmne, tCmlt, tCmge, tCmgt, tCmle, tNu, tTs, tGf, tPf, tGs, tIal, tIas, tBal, tBas, tAln, tSv, tSc, tSb, tSl, tSk, tCv, tCs, tCt, tMx, tMn, wr_10000, wr_100000, wr_1000000, wr_10000000, wr_100000000, wr_2400, wr_9999, wr_0, wr_1, wr_2, wr_3, wr_4, wr_5, wr_6, wr_7, wr_8, wr_9, wr_10, wr_11, wr_12, wr_13, wr_14, wr_15, wr_16, wr_17, wr_18, wr_19, wr_20, wr_21, wr_22, wr_23, wr_24, wr_25, wr_26, wr_27, wr_28, wr_29, wr_30, wr_31, wr_32, wr_33, wr_34, wr_35, wr_36, wr_37, wr_38, wr_39, wr_40, wr_41, wr_42, wr_43, wr_44, wr_45, wr_46, wr_47, wr_48, wr_49, wr_50, wr_51, wr_52, wr_53, wr_54, wr_55, wr_56, wr_57, wr_58, wr_59, wr_60, wr_61, wr_62, wr_63, wr_99, wr_100, wr_192, wr_255, wr_256, wr_343, wr_999, wr_1000, wr_2401, wr_2147483647, wr_65535, wr_m1, wr_m2, wr_m3, wr_m4, wr_m9, ak_1000, ak_1001, ak_1002, ak_0, ak_1, ak_2, ak_3, ak_4, ak_5, ak_6, ak_7, ak_8, ak_9, ak_10, ak_11, ak_12, ak_13, ak_14, ak_15, ak_16, ak_17, ak_18, ak_19, ak_20, ak_21, ak_22, ak_23, ak_24, ak_25, ak_26, ak_27, ak_28, ak_29, ak_30, ak_31, ak_32, ak_33, ak_34, ak_35, ak_36, ak_37, ak_38, ak_39, ak_40, ak_41, ak_42, ak_43, ak_44, ak_45, ak_46, ak_47, h0, co, ha]
theorem sp_X5_undo {M : List AC} {len fa ac : Int} {sr : AV} {sd : Int64} (h0 : M[0]? = some (co len fa ac sr sd)) {st : Int} {g s d b : F4} (hs : HS M 2 st g s d b) {ld lb lc : List Int} (hm : HM M 15 ld lb lc) (k1 : ld.length = 16) (k2 : lb.length = 16) (k3 : lc.length = 16) (hf : 0 ≤ fa ∧ fa < 16) (ha : 0 < ac ∧ ac ≤ 16) (ix x1 x2 x3 : Int) (hix : (fa + (ac - 1)) % 16 = ix) (e1 : ld.getD ix.toNat 0 = x1) (e2 : lb.getD ix.toNat 0 = x2) (e3 : lc.getD ix.toNat 0 = x3) (r1 : 0 ≤ x1 ∧ x1 < 10000) (r2 : 0 ≤ x2 ∧ x2 < 10000) (r3 : 0 ≤ x3 ∧ x3 < 10000) : fn_X5_undo [vR 0] M = some (some (vI (ac - 1)), (((M.set 0 (co len fa (ac - 1) sr sd)).set 4 (aI (l4 (uf x3)))).set 5 (aI (l4 (uf x1)))).set 6 (aI (l4 (uf x2)))) := by
  obtain ⟨i0, i1, i2, i3, i4⟩ := hs.two
  obtain ⟨m0, m1, m2, m3⟩ := hm.p15
  have hy : 0 ≤ ix ∧ ix < 16 := by clear e1 e2 e3; omega
  have wa : wr ac = ac := by clear e1 e2 e3; exact wr_id (by omega) (by omega)
  have na : 0 < ac := ha.1
  have w2 : wr (fa + (ac - 1)) = fa + (ac - 1) := by clear e1 e2 e3; exact wr_id (by omega) (by omega)
  have t2 : (fa + (ac - 1)).tmod 16 = ix := by clear e1 e2 e3; rw [Int.tmod_eq_emod_of_nonneg (by omega)]; exact hix
  have hs' : HS (M.set 0 (co len fa (ac - 1) sr sd)) 2 st g s d b := ⟨hs.1, by rw [List.getElem?_set_ne (by decide)]; exact i0, by rw [List.getElem?_set_ne (by decide)]; exact i1, by rw [List.getElem?_set_ne (by decide)]; exact i2, by rw [List.getElem?_set_ne (by decide)]; exact i3, by rw [List.getElem?_set_ne (by decide)]; exact i4⟩
  have hm' : HM (M.set 0 (co len fa (ac - 1) sr sd)) 15 ld lb lc := ⟨by rw [List.getElem?_set_ne (by decide)]; exact m0, by rw [List.getElem?_set_ne (by decide)]; exact m1, by rw [List.getElem?_set_ne (by decide)]; exact m2, by rw [List.getElem?_set_ne (by decide)]; exact m3⟩
  have q := sp_X1_give (Or.inl rfl) hm' hs' ix ⟨hy.1, by rw [k1]; exact hy.2⟩ (by rw [k1, k2]) (by rw [k1, k3]) (by rw [k1]; decide) x1 x2 x3 e1 e2 e3 r1 r2 r3
  clear e1 e2 e3
  simp only [co] at q ⊢
  (refine am_fnI (tb := tb_X5_undo) (n := 60) (Nat.le_of_ble_eq_true rfl) (Nat.le_of_ble_eq_true rfl) ?_; show rx_X5_undo 60 0 _ _ _ = _)
  simp [↓ri_X5_undo, rs_X5_undo_0, rs_X5_undo_1, rs_X5_undo_4, rs_X5_undo_7, rs_X5_undo_10, rs_X5_undo_11, rs_X5_undo_12, rs_X5_undo_15, rs_X5_undo_16, rs_X5_undo_17, rs_X5_undo_20, rs_X5_undo_21, rs_X5_undo_24, rs_X5_undo_25, rs_X5_undo_28, rs_X5_undo_29, rs_X5_undo_32, rs_X5_undo_33, rs_X5_undo_35, rs_X5_undo_36, rs_X5_undo_37, rs_X5_undo_40, rs_X5_undo_43, rs_X5_undo_44, rs_X5_undo_9, rs_X5_undo_47, -List.getElem?_eq_getElem, am_js, am_e, am_in, am_sl, rI, rZ, rV, rJ, rA, rC, kI, kJ, kR, am_one, am_nl, am_w8, tIc, tLc, tNul, tIld, tLld, tAld, tIst, tLst, tAst, tIinc, tI2, tDv, tL2, tLrem, tLs, tLcmp, tI2l, tL2i, tI2c, tDup, tDup2, tPop, tGo, tIfeq, tIfne, tIflt, tIfge, tIfgt, tIfle, tCmeq, tCmne, tCmlt, tCmge, tCmgt, tCmle, tNu, tTs, tGf, tPf, tGs, tIal, tIas, tBal, tBas, tAln, tSv, tSc, tSb, tSl, tSk, tCv, tCs, tCt, tMx, tMn, wr_10000, wr_100000, wr_1000000, wr_10000000, wr_100000000, wr_2400, wr_9999, wr_0, wr_1, wr_2, wr_3, wr_4, wr_5, wr_6, wr_7, wr_8, wr_9, wr_10, wr_11, wr_12, wr_13, wr_14, wr_15, wr_16, wr_17, wr_18, wr_19, wr_20, wr_21, wr_22, wr_23, wr_24, wr_25, wr_26, wr_27, wr_28, wr_29, wr_30, wr_31, wr_32, wr_33, wr_34, wr_35, wr_36, wr_37, wr_38, wr_39, wr_40, wr_41, wr_42, wr_43, wr_44, wr_45, wr_46, wr_47, wr_48, wr_49, wr_50, wr_51, wr_52, wr_53, wr_54, wr_55, wr_56, wr_57, wr_58, wr_59, wr_60, wr_61, wr_62, wr_63, wr_99, wr_100, wr_192, wr_255, wr_256, wr_343, wr_999, wr_1000, wr_2401, wr_2147483647, wr_65535, wr_m1, wr_m2, wr_m3, wr_m4, wr_m9, ak_1000, ak_1001, ak_1002, ak_0, ak_1, ak_2, ak_3, ak_4, ak_5, ak_6, ak_7, ak_8, ak_9, ak_10, ak_11, ak_12, ak_13, ak_14, ak_15, ak_16, ak_17, ak_18, ak_19, ak_20, ak_21, ak_22, ak_23, ak_24, ak_25, ak_26, ak_27, ak_28, ak_29, ak_30, ak_31, ak_32, ak_33, ak_34, ak_35, ak_36, ak_37, ak_38, ak_39, ak_40, ak_41, ak_42, ak_43, ak_44, ak_45, ak_46, ak_47, h0, co, wa, na, w2, t2, m0, gs h0, q, ss (i := 0) (j := 4) (by decide), ss (i := 0) (j := 5) (by decide), ss (i := 0) (j := 6) (by decide), ss (i := 4) (j := 5) (by decide), ss (i := 4) (j := 6) (by decide), ss (i := 5) (j := 6) (by decide)]
end
