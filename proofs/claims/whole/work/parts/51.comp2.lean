noncomputable section
def rmf (fa ac : Int) : Int := if 16 ≤ ac then (fa + 1) % 16 else fa
def rma (ac : Int) : Int := if 16 ≤ ac then 15 else ac
def rmi (fa ac : Int) : Int := (rmf fa ac + rma ac) % 16
theorem HM.p15 {M : List AC} {ld lb lc : List Int} (h : HM M 15 ld lb lc) : M[15]? = some (aO 1 [vR 16, vR 17, vR 18]) ∧ M[16]? = some (aI ld) ∧ M[17]? = some (aI lb) ∧ M[18]? = some (aI lc) := h
abbrev mi_X5_remember : Mi := (yX5_remember, cX5_remember, 1, none, 3)
theorem mf_X5_remember : am_mf mi_X5_remember 0 := ⟨w_co_X5_remember, w_in_X5, ⟨by decide +kernel, by decide +kernel⟩, by decide +kernel, by decide⟩
def tb_X5_remember : List (Nat × Tr) := [(0, tAld 0 1), (1, tGf 5 7), (4, tIc 16 2), (6, tCmlt 28), (9, tAld 0 1), (10, tAld 0 1), (11, tGf 5 6), (14, tIc 1 1), (15, tI2 (fun a b => a + b)), (16, tIc 16 2), (18, tDv Int.tmod), (19, tPf kI 5 6), (22, tAld 0 1), (23, tIc 15 2), (25, tPf kI 5 7), (28, tAld 0 1), (29, tGf 5 5), (32, tAld 0 1), (33, tGf 5 6), (36, tAld 0 1), (37, tGf 5 7), (40, tI2 (fun a b => a + b)), (41, tIc 16 2), (43, tDv Int.tmod), (44, tAld 0 1), (45, tGf 5 2), (48, tCv 1 2 fn_X1_take), (51, tAld 0 1), (52, tDup), (53, tGf 5 7), (56, tIc 1 1), (57, tI2 (fun a b => a + b)), (58, tPf kI 5 7)]
theorem ok_X5_remember : Tok mi_X5_remember tb_X5_remember :=
  Tc (sd_aload_n dX5_remember_0) <|
  Tc (sd_getf (T := TX5) rfl giX5 (by decide) w_fl_X5_46 dX5_remember_1) <|
  Tc (sd_bipush (by decide +kernel) dX5_remember_4) <|
  Tc (sd_cm_lt (by decide) dX5_remember_6) <|
  Tc (sd_aload_n dX5_remember_9) <|
  Tc (sd_aload_n dX5_remember_10) <|
  Tc (sd_getf (T := TX5) rfl giX5 (by decide) w_fl_X5_43 dX5_remember_11) <|
  Tc (sd_iconst rfl dX5_remember_14) <|
  Tc (sd_iadd dX5_remember_15) <|
  Tc (sd_bipush (by decide +kernel) dX5_remember_16) <|
  Tc (sd_irem dX5_remember_18) <|
  Tc (sd_putf (T := TX5) rfl giX5 (by decide) w_fl_X5_43 tyX5 tyX5_ok nmX5 (kI_ok) rfl dX5_remember_19) <|
  Tc (sd_aload_n dX5_remember_22) <|
  Tc (sd_bipush (by decide +kernel) dX5_remember_23) <|
  Tc (sd_putf (T := TX5) rfl giX5 (by decide) w_fl_X5_46 tyX5 tyX5_ok nmX5 (kI_ok) rfl dX5_remember_25) <|
  Tc (sd_aload_n dX5_remember_28) <|
  Tc (sd_getf (T := TX5) rfl giX5 (by decide) w_fl_X5_39 dX5_remember_29) <|
  Tc (sd_aload_n dX5_remember_32) <|
  Tc (sd_getf (T := TX5) rfl giX5 (by decide) w_fl_X5_43 dX5_remember_33) <|
  Tc (sd_aload_n dX5_remember_36) <|
  Tc (sd_getf (T := TX5) rfl giX5 (by decide) w_fl_X5_46 dX5_remember_37) <|
  Tc (sd_iadd dX5_remember_40) <|
  Tc (sd_bipush (by decide +kernel) dX5_remember_41) <|
  Tc (sd_irem dX5_remember_43) <|
  Tc (sd_aload_n dX5_remember_44) <|
  Tc (sd_getf (T := TX5) rfl giX5 (by decide) w_fl_X5_20 dX5_remember_45) <|
  Tc (sd_cv (T := TX1) fok_X1_take mf_X1_take rfl w_ml_X5_237 w_im_X1_take w_se_X1_take (by decide) dX5_remember_48) <|
  Tc (sd_aload_n dX5_remember_51) <|
  Tc (sd_dup dX5_remember_52) <|
  Tc (sd_getf (T := TX5) rfl giX5 (by decide) w_fl_X5_46 dX5_remember_53) <|
  Tc (sd_iconst rfl dX5_remember_56) <|
  Tc (sd_iadd dX5_remember_57) <|
  Tc (sd_putf (T := TX5) rfl giX5 (by decide) w_fl_X5_46 tyX5 tyX5_ok nmX5 (kI_ok) rfl dX5_remember_58) <|
  Tn
theorem rk_X5_remember : Rok mi_X5_remember rV [61] := rk_v dX5_remember_61 <| rk_n
def rx_X5_remember : Nat → Nat → AL → List AV → List AC → Option (Option AV × List AC) := am_r tb_X5_remember rV [61]
theorem rs_X5_remember_0 (n : Nat) (L : AL) (st : List AV) (M : List AC) : rx_X5_remember (n + 1) 0 L st M = am_j (rx_X5_remember n) ((tAld 0 1) 0 L st M) := rfl
theorem rs_X5_remember_1 (n : Nat) (L : AL) (st : List AV) (M : List AC) : rx_X5_remember (n + 1) 1 L st M = am_j (rx_X5_remember n) ((tGf 5 7) 1 L st M) := rfl
theorem rs_X5_remember_4 (n : Nat) (L : AL) (st : List AV) (M : List AC) : rx_X5_remember (n + 1) 4 L st M = am_j (rx_X5_remember n) ((tIc 16 2) 4 L st M) := rfl
theorem rs_X5_remember_6 (n : Nat) (L : AL) (st : List AV) (M : List AC) : rx_X5_remember (n + 1) 6 L st M = am_j (rx_X5_remember n) ((tCmlt 28) 6 L st M) := rfl
theorem rs_X5_remember_9 (n : Nat) (L : AL) (st : List AV) (M : List AC) : rx_X5_remember (n + 1) 9 L st M = am_j (rx_X5_remember n) ((tAld 0 1) 9 L st M) := rfl
theorem rs_X5_remember_10 (n : Nat) (L : AL) (st : List AV) (M : List AC) : rx_X5_remember (n + 1) 10 L st M = am_j (rx_X5_remember n) ((tAld 0 1) 10 L st M) := rfl
theorem rs_X5_remember_11 (n : Nat) (L : AL) (st : List AV) (M : List AC) : rx_X5_remember (n + 1) 11 L st M = am_j (rx_X5_remember n) ((tGf 5 6) 11 L st M) := rfl
theorem rs_X5_remember_14 (n : Nat) (L : AL) (st : List AV) (M : List AC) : rx_X5_remember (n + 1) 14 L st M = am_j (rx_X5_remember n) ((tIc 1 1) 14 L st M) := rfl
theorem rs_X5_remember_15 (n : Nat) (L : AL) (st : List AV) (M : List AC) : rx_X5_remember (n + 1) 15 L st M = am_j (rx_X5_remember n) ((tI2 (fun a b => a + b)) 15 L st M) := rfl
theorem rs_X5_remember_16 (n : Nat) (L : AL) (st : List AV) (M : List AC) : rx_X5_remember (n + 1) 16 L st M = am_j (rx_X5_remember n) ((tIc 16 2) 16 L st M) := rfl
theorem rs_X5_remember_18 (n : Nat) (L : AL) (st : List AV) (M : List AC) : rx_X5_remember (n + 1) 18 L st M = am_j (rx_X5_remember n) ((tDv Int.tmod) 18 L st M) := rfl
theorem rs_X5_remember_19 (n : Nat) (L : AL) (st : List AV) (M : List AC) : rx_X5_remember (n + 1) 19 L st M = am_j (rx_X5_remember n) ((tPf kI 5 6) 19 L st M) := rfl
theorem rs_X5_remember_22 (n : Nat) (L : AL) (st : List AV) (M : List AC) : rx_X5_remember (n + 1) 22 L st M = am_j (rx_X5_remember n) ((tAld 0 1) 22 L st M) := rfl
theorem rs_X5_remember_23 (n : Nat) (L : AL) (st : List AV) (M : List AC) : rx_X5_remember (n + 1) 23 L st M = am_j (rx_X5_remember n) ((tIc 15 2) 23 L st M) := rfl
theorem rs_X5_remember_25 (n : Nat) (L : AL) (st : List AV) (M : List AC) : rx_X5_remember (n + 1) 25 L st M = am_j (rx_X5_remember n) ((tPf kI 5 7) 25 L st M) := rfl
theorem rs_X5_remember_28 (n : Nat) (L : AL) (st : List AV) (M : List AC) : rx_X5_remember (n + 1) 28 L st M = am_j (rx_X5_remember n) ((tAld 0 1) 28 L st M) := rfl
theorem rs_X5_remember_29 (n : Nat) (L : AL) (st : List AV) (M : List AC) : rx_X5_remember (n + 1) 29 L st M = am_j (rx_X5_remember n) ((tGf 5 5) 29 L st M) := rfl
theorem rs_X5_remember_32 (n : Nat) (L : AL) (st : List AV) (M : List AC) : rx_X5_remember (n + 1) 32 L st M = am_j (rx_X5_remember n) ((tAld 0 1) 32 L st M) := rfl
theorem rs_X5_remember_33 (n : Nat) (L : AL) (st : List AV) (M : List AC) : rx_X5_remember (n + 1) 33 L st M = am_j (rx_X5_remember n) ((tGf 5 6) 33 L st M) := rfl
theorem rs_X5_remember_36 (n : Nat) (L : AL) (st : List AV) (M : List AC) : rx_X5_remember (n + 1) 36 L st M = am_j (rx_X5_remember n) ((tAld 0 1) 36 L st M) := rfl
theorem rs_X5_remember_37 (n : Nat) (L : AL) (st : List AV) (M : List AC) : rx_X5_remember (n + 1) 37 L st M = am_j (rx_X5_remember n) ((tGf 5 7) 37 L st M) := rfl
theorem rs_X5_remember_40 (n : Nat) (L : AL) (st : List AV) (M : List AC) : rx_X5_remember (n + 1) 40 L st M = am_j (rx_X5_remember n) ((tI2 (fun a b => a + b)) 40 L st M) := rfl
theorem rs_X5_remember_41 (n : Nat) (L : AL) (st : List AV) (M : List AC) : rx_X5_remember (n + 1) 41 L st M = am_j (rx_X5_remember n) ((tIc 16 2) 41 L st M) := rfl
theorem rs_X5_remember_43 (n : Nat) (L : AL) (st : List AV) (M : List AC) : rx_X5_remember (n + 1) 43 L st M = am_j (rx_X5_remember n) ((tDv Int.tmod) 43 L st M) := rfl
theorem rs_X5_remember_44 (n : Nat) (L : AL) (st : List AV) (M : List AC) : rx_X5_remember (n + 1) 44 L st M = am_j (rx_X5_remember n) ((tAld 0 1) 44 L st M) := rfl
theorem rs_X5_remember_45 (n : Nat) (L : AL) (st : List AV) (M : List AC) : rx_X5_remember (n + 1) 45 L st M = am_j (rx_X5_remember n) ((tGf 5 2) 45 L st M) := rfl
theorem rs_X5_remember_48 (n : Nat) (L : AL) (st : List AV) (M : List AC) : rx_X5_remember (n + 1) 48 L st M = am_j (rx_X5_remember n) ((tCv 1 2 fn_X1_take) 48 L st M) := rfl
theorem rs_X5_remember_51 (n : Nat) (L : AL) (st : List AV) (M : List AC) : rx_X5_remember (n + 1) 51 L st M = am_j (rx_X5_remember n) ((tAld 0 1) 51 L st M) := rfl
theorem rs_X5_remember_52 (n : Nat) (L : AL) (st : List AV) (M : List AC) : rx_X5_remember (n + 1) 52 L st M = am_j (rx_X5_remember n) (tDup 52 L st M) := rfl
theorem rs_X5_remember_53 (n : Nat) (L : AL) (st : List AV) (M : List AC) : rx_X5_remember (n + 1) 53 L st M = am_j (rx_X5_remember n) ((tGf 5 7) 53 L st M) := rfl
theorem rs_X5_remember_56 (n : Nat) (L : AL) (st : List AV) (M : List AC) : rx_X5_remember (n + 1) 56 L st M = am_j (rx_X5_remember n) ((tIc 1 1) 56 L st M) := rfl
theorem rs_X5_remember_57 (n : Nat) (L : AL) (st : List AV) (M : List AC) : rx_X5_remember (n + 1) 57 L st M = am_j (rx_X5_remember n) ((tI2 (fun a b => a + b)) 57 L st M) := rfl
theorem rs_X5_remember_58 (n : Nat) (L : AL) (st : List AV) (M : List AC) : rx_X5_remember (n + 1) 58 L st M = am_j (rx_X5_remember n) ((tPf kI 5 7) 58 L st M) := rfl
theorem rs_X5_remember_61 (n : Nat) (L : AL) (st : List AV) (M : List AC) : rx_X5_remember (n + 1) 61 L st M = am_e rV st M := rfl
theorem ri_X5_remember (c : Prop) [Decidable c] (p q n : Nat) (L : AL) (st : List AV) (M : List AC) : rx_X5_remember n (if c then p else q) L st M = if c then rx_X5_remember n p L st M else rx_X5_remember n q L st M := by split <;> rfl
theorem rm_X5_remember {n k pc : Nat} {L : AL} {st : List AV} {M : List AC} {x : Option AV × List AC} (h : rx_X5_remember n pc L st M = some x) (hk : n ≤ k) : rx_X5_remember k pc L st M = some x := am_r_mono n k h hk
def fn_X5_remember : Fn := am_fn rx_X5_remember 1
theorem fok_X5_remember : Fok mi_X5_remember fn_X5_remember := fun _ _ _ _ h => am_fok ok_X5_remember rk_X5_remember rfl h
theorem sp_X5_remember {M : List AC} {len fa ac : Int} {sr : AV} {sd : Int64} (h0 : M[0]? = some (co len fa ac sr sd)) {st : Int} {g s d b : F4} (hs : HS M 2 st g s d b) {ld lb lc : List Int} (hm : HM M 15 ld lb lc) (k1 : ld.length = 16) (k2 : lb.length = 16) (k3 : lc.length = 16) (hf : 0 ≤ fa ∧ fa < 16) (ha : 0 ≤ ac ∧ ac ≤ 16) : fn_X5_remember [vR 0] M = some (none, (((M.set 0 (co len (rmf fa ac) (rma ac + 1) sr sd)).set 16 (aI (ld.set (rmi fa ac).toNat (fg d)))).set 17 (aI (lb.set (rmi fa ac).toNat (fg b)))).set 18 (aI (lc.set (rmi fa ac).toNat (fg s)))) := by
  obtain ⟨i0, i1, i2, i3, i4⟩ := hs.two
  obtain ⟨m0, m1, m2, m3⟩ := hm.p15
  have wa : wr ac = ac := wr_id (by omega) (by omega)
  by_cases h : 16 ≤ ac
  · have e1 : rmf fa ac = (fa + 1) % 16 := if_pos h
    have e2 : rma ac = 15 := if_pos h
    have h' : ¬ ac < 16 := by omega
    have w1 : wr (fa + 1) = fa + 1 := wr_id (by omega) (by omega)
    have t1 : (fa + 1).tmod 16 = (fa + 1) % 16 := Int.tmod_eq_emod_of_nonneg (by omega)
    unfold rmi
    rw [e1, e2]
    have hx : 0 ≤ (fa + 1) % 16 ∧ (fa + 1) % 16 < 16 := by omega
    generalize (fa + 1) % 16 = f9 at t1 hx ⊢
    have w2 : wr (f9 + 15) = f9 + 15 := wr_id (by omega) (by omega)
    have t2 : (f9 + 15).tmod 16 = (f9 + 15) % 16 := Int.tmod_eq_emod_of_nonneg (by omega)
    have hy : 0 ≤ (f9 + 15) % 16 ∧ (f9 + 15) % 16 < 16 := by omega
    generalize (f9 + 15) % 16 = ix at t2 hy ⊢
    have hs' : HS (M.set 0 (co len f9 15 sr sd)) 2 st g s d b := ⟨hs.1, by rw [List.getElem?_set_ne (by decide)]; exact i0, by rw [List.getElem?_set_ne (by decide)]; exact i1, by rw [List.getElem?_set_ne (by decide)]; exact i2, by rw [List.getElem?_set_ne (by decide)]; exact i3, by rw [List.getElem?_set_ne (by decide)]; exact i4⟩
    have hm' : HM (M.set 0 (co len f9 15 sr sd)) 15 ld lb lc := ⟨by rw [List.getElem?_set_ne (by decide)]; exact m0, by rw [List.getElem?_set_ne (by decide)]; exact m1, by rw [List.getElem?_set_ne (by decide)]; exact m2, by rw [List.getElem?_set_ne (by decide)]; exact m3⟩
    have q := sp_X1_take (Or.inl rfl) hm' hs' ix ⟨hy.1, by omega⟩ (by omega) (by omega) (by omega)
    simp only [co, Nat.reduceAdd] at q ⊢
    (refine am_fnI (tb := tb_X5_remember) (n := 60) (Nat.le_of_ble_eq_true rfl) (Nat.le_of_ble_eq_true rfl) ?_; show rx_X5_remember 60 0 _ _ _ = _)
    simp [↓ri_X5_remember, rs_X5_remember_0, rs_X5_remember_1, rs_X5_remember_4, rs_X5_remember_6, rs_X5_remember_9, rs_X5_remember_10, rs_X5_remember_11, rs_X5_remember_14, rs_X5_remember_15, rs_X5_remember_16, rs_X5_remember_18, rs_X5_remember_19, rs_X5_remember_22, rs_X5_remember_23, rs_X5_remember_25, rs_X5_remember_28, rs_X5_remember_29, rs_X5_remember_32, rs_X5_remember_33, rs_X5_remember_36, rs_X5_remember_37, rs_X5_remember_40, rs_X5_remember_41, rs_X5_remember_43, rs_X5_remember_44, rs_X5_remember_45, rs_X5_remember_48, rs_X5_remember_51, rs_X5_remember_52, rs_X5_remember_53, rs_X5_remember_56, rs_X5_remember_57, rs_X5_remember_58, rs_X5_remember_61, -List.getElem?_eq_getElem, am_js, am_e, am_in, am_sl, rI, rZ, rV, rJ, rA, rC, kI, kJ, kR, am_one, am_nl, am_w8, tIc, tLc, tNul, tIld, tLld, tAld, tIst, tLst, tAst, tIinc, tI2, tDv, tL2, tLrem, tLs, tLcmp, tI2l, tL2i, tI2c, tDup, tDup2, tPop, tGo, tIfeq, tIfne, tIflt, tIfge, tIfgt, tIfle, tCmeq, tCmne, tCmlt, tCmge, tCmgt, tCmle, tNu, tTs, tGf, tPf, tGs, tIal, tIas, tBal, tBas, tAln, tSv, tSc, tSb, tSl, tSk, tCv, tCs, tCt, tMx, tMn, wr_10000, wr_100000, wr_1000000, wr_10000000, wr_100000000, wr_2400, wr_9999, wr_0, wr_1, wr_2, wr_3, wr_4, wr_5, wr_6, wr_7, wr_8, wr_9, wr_10, wr_11, wr_12, wr_13, wr_14, wr_15, wr_16, wr_17, wr_18, wr_19, wr_20, wr_21, wr_22, wr_23, wr_24, wr_25, wr_26, wr_27, wr_28, wr_29, wr_30, wr_31, wr_32, wr_33, wr_34, wr_35, wr_36, wr_37, wr_38, wr_39, wr_40, wr_41, wr_42, wr_43, wr_44, wr_45, wr_46, wr_47, wr_48, wr_49, wr_50, wr_51, wr_52, wr_53, wr_54, wr_55, wr_56, wr_57, wr_58, wr_59, wr_60, wr_61, wr_62, wr_63, wr_99, wr_100, wr_192, wr_255, wr_256, wr_343, wr_999, wr_1000, wr_2401, wr_2147483647, wr_65535, wr_m1, wr_m2, wr_m3, wr_m4, wr_m9, ak_1000, ak_1001, ak_1002, ak_0, ak_1, ak_2, ak_3, ak_4, ak_5, ak_6, ak_7, ak_8, ak_9, ak_10, ak_11, ak_12, ak_13, ak_14, ak_15, ak_16, ak_17, ak_18, ak_19, ak_20, ak_21, ak_22, ak_23, ak_24, ak_25, ak_26, ak_27, ak_28, ak_29, ak_30, ak_31, ak_32, ak_33, ak_34, ak_35, ak_36, ak_37, ak_38, ak_39, ak_40, ak_41, ak_42, ak_43, ak_44, ak_45, ak_46, ak_47, h0, co, wa, h', w1, t1, w2, t2, m0, gs h0, q, ss (i := 0) (j := 16) (by decide), ss (i := 0) (j := 17) (by decide), ss (i := 0) (j := 18) (by decide), ss (i := 16) (j := 17) (by decide), ss (i := 16) (j := 18) (by decide), ss (i := 17) (j := 18) (by decide)]
  · have e1 : rmf fa ac = fa := if_neg h
    have e2 : rma ac = ac := if_neg h
    have h' : ac < 16 := by omega
    unfold rmi
    rw [e1, e2]
    have w2 : wr (fa + ac) = fa + ac := wr_id (by omega) (by omega)
    have t2 : (fa + ac).tmod 16 = (fa + ac) % 16 := Int.tmod_eq_emod_of_nonneg (by omega)
    have hy : 0 ≤ (fa + ac) % 16 ∧ (fa + ac) % 16 < 16 := by omega
    generalize (fa + ac) % 16 = ix at t2 hy ⊢
    have q := sp_X1_take (Or.inl rfl) hm hs ix ⟨hy.1, by omega⟩ (by omega) (by omega) (by omega)
    simp only [co, Nat.reduceAdd] at q ⊢
    (refine am_fnI (tb := tb_X5_remember) (n := 60) (Nat.le_of_ble_eq_true rfl) (Nat.le_of_ble_eq_true rfl) ?_; show rx_X5_remember 60 0 _ _ _ = _)
    simp [↓ri_X5_remember, rs_X5_remember_0, rs_X5_remember_1, rs_X5_remember_4, rs_X5_remember_6, rs_X5_remember_9, rs_X5_remember_10, rs_X5_remember_11, rs_X5_remember_14, rs_X5_remember_15, rs_X5_remember_16, rs_X5_remember_18, rs_X5_remember_19, rs_X5_remember_22, rs_X5_remember_23, rs_X5_remember_25, rs_X5_remember_28, rs_X5_remember_29, rs_X5_remember_32, rs_X5_remember_33, rs_X5_remember_36, rs_X5_remember_37, rs_X5_remember_40, rs_X5_remember_41, rs_X5_remember_43, rs_X5_remember_44, rs_X5_remember_45, rs_X5_remember_48, rs_X5_remember_51, rs_X5_remember_52, rs_X5_remember_53, rs_X5_remember_56, rs_X5_remember_57, rs_X5_remember_58, rs_X5_remember_61, -List.getElem?_eq_getElem, am_js, am_e, am_in, am_sl, rI, rZ, rV, rJ, rA, rC, kI, kJ, kR, am_one, am_nl, am_w8, tIc, tLc, tNul, tIld, tLld, tAld, tIst, tLst, tAst, tIinc, tI2, tDv, tL2, tLrem, tLs, tLcmp, tI2l, tL2i, tI2c, tDup, tDup2, tPop, tGo, tIfeq, tIfne, tIflt, tIfge, tIfgt, tIfle, tCmeq, tCmne, tCmlt, tCmge, tCmgt, tCmle, tNu, tTs, tGf, tPf, tGs, tIal, tIas, tBal, tBas, tAln, tSv, tSc, tSb, tSl, tSk, tCv, tCs, tCt, tMx, tMn, wr_10000, wr_100000, wr_1000000, wr_10000000, wr_100000000, wr_2400, wr_9999, wr_0, wr_1, wr_2, wr_3, wr_4, wr_5, wr_6, wr_7, wr_8, wr_9, wr_10, wr_11, wr_12, wr_13, wr_14, wr_15, wr_16, wr_17, wr_18, wr_19, wr_20, wr_21, wr_22, wr_23, wr_24, wr_25, wr_26, wr_27, wr_28, wr_29, wr_30, wr_31, wr_32, wr_33, wr_34, wr_35, wr_36, wr_37, wr_38, wr_39, wr_40, wr_41, wr_42, wr_43, wr_44, wr_45, wr_46, wr_47, wr_48, wr_49, wr_50, wr_51, wr_52, wr_53, wr_54, wr_55, wr_56, wr_57, wr_58, wr_59, wr_60, wr_61, wr_62, wr_63, wr_99, wr_100, wr_192, wr_255, wr_256, wr_343, wr_999, wr_1000, wr_2401, wr_2147483647, wr_65535, wr_m1, wr_m2, wr_m3, wr_m4, wr_m9, ak_1000, ak_1001, ak_1002, ak_0, ak_1, ak_2, ak_3, ak_4, ak_5, ak_6, ak_7, ak_8, ak_9, ak_10, ak_11, ak_12, ak_13, ak_14, ak_15, ak_16, ak_17, ak_18, ak_19, ak_20, ak_21, ak_22, ak_23, ak_24, ak_25, ak_26, ak_27, ak_28, ak_29, ak_30, ak_31, ak_32, ak_33, ak_34, ak_35, ak_36, ak_37, ak_38, ak_39, ak_40, ak_41, ak_42, ak_43, ak_44, ak_45, ak_46, ak_47, h0, co, wa, h', w2, t2, m0, gs h0, q, ss (i := 0) (j := 16) (by decide), ss (i := 0) (j := 17) (by decide), ss (i := 0) (j := 18) (by decide), ss (i := 16) (j := 17) (by decide), ss (i := 16) (j := 18) (by decide), ss (i := 17) (j := 18) (by decide)]
/-- the sheet stands behind remember -/
theorem rem_HS {M : List AC} {st : Int} {g s d b : F4} (hs : HS M 2 st g s d b) (c0 c1 c2 c3 : AC) : HS ((((M.set 0 c0).set 16 c1).set 17 c2).set 18 c3) 2 st g s d b := by
  obtain ⟨i0, i1, i2, i3, i4⟩ := hs.two
  exact ⟨hs.1, by simp [-List.getElem?_eq_getElem, i0], by simp [-List.getElem?_eq_getElem, i1], by simp [-List.getElem?_eq_getElem, i2], by simp [-List.getElem?_eq_getElem, i3], by simp [-List.getElem?_eq_getElem, i4]⟩
abbrev mi_X5_set : Mi := (yX5_set, cX5_set, 3, some .int, 5)
theorem mf_X5_set : am_mf mi_X5_set 2 := ⟨w_co_X5_set, w_in_X5, ⟨by decide +kernel, by decide +kernel⟩, by decide +kernel, by decide⟩
def tb_X5_set : List (Nat × Tr) := [(0, tIld 1 1), (1, tCs 1 fn_X5_isCorner), (4, tIfne 9), (7, tIc (-1) 1), (9, tIld 2 1), (10, tIflt 19), (13, tIld 2 1), (14, tIc 6 2), (16, tCmle 22), (19, tIc (-2) 2), (22, tAld 0 1), (23, tGf 5 2), (26, tGf 4 3), (29, tIld 1 1), (30, tIal), (31, tIld 2 1), (32, tCmne 38), (35, tIc (-3) 2), (38, tAld 0 1), (39, tCv 5 0 fn_X5_remember), (42, tAld 0 1), (43, tGf 5 2), (46, tGf 4 3), (49, tIld 1 1), (50, tIld 2 1), (51, tIas), (52, tAld 0 1), (53, tGf 5 2), (56, tCv 4 0 fn_X4_settle)]
theorem ok_X5_set : Tok mi_X5_set tb_X5_set :=
  Tc (sd_iload_n dX5_set_0) <|
  Tc (sd_cs fok_X5_isCorner mf_X5_isCorner w_ml_X5_105 w_st_X5_isCorner (by decide) dX5_set_1) <|
  Tc (sd_if_ne (by decide) dX5_set_4) <|
  Tc (sd_iconst rfl dX5_set_7) <|
  Tc (sd_iload_n dX5_set_9) <|
  Tc (sd_if_lt (by decide) dX5_set_10) <|
  Tc (sd_iload_n dX5_set_13) <|
  Tc (sd_bipush (by decide +kernel) dX5_set_14) <|
  Tc (sd_cm_le (by decide) dX5_set_16) <|
  Tc (sd_bipush (by decide +kernel) dX5_set_19) <|
  Tc (sd_aload_n dX5_set_22) <|
  Tc (sd_getf (T := TX5) rfl giX5 (by decide) w_fl_X5_20 dX5_set_23) <|
  Tc (sd_getf (T := TX4) rfl giX4 (by decide) w_fl_X5_92 dX5_set_26) <|
  Tc (sd_iload_n dX5_set_29) <|
  Tc (sd_ial dX5_set_30) <|
  Tc (sd_iload_n dX5_set_31) <|
  Tc (sd_cm_ne (by decide) dX5_set_32) <|
  Tc (sd_bipush (by decide +kernel) dX5_set_35) <|
  Tc (sd_aload_n dX5_set_38) <|
  Tc (sd_cv (T := TX5) fok_X5_remember mf_X5_remember rfl w_ml_X5_145 w_im_X5_remember w_se_X5_remember (by decide) dX5_set_39) <|
  Tc (sd_aload_n dX5_set_42) <|
  Tc (sd_getf (T := TX5) rfl giX5 (by decide) w_fl_X5_20 dX5_set_43) <|
  Tc (sd_getf (T := TX4) rfl giX4 (by decide) w_fl_X5_92 dX5_set_46) <|
  Tc (sd_iload_n dX5_set_49) <|
  Tc (sd_iload_n dX5_set_50) <|
  Tc (sd_ias dX5_set_51) <|
  Tc (sd_aload_n dX5_set_52) <|
  Tc (sd_getf (T := TX5) rfl giX5 (by decide) w_fl_X5_20 dX5_set_53) <|
  Tc (sd_cv (T := TX4) fok_X4_settle mf_X4_settle rfl w_ml_X5_138 w_im_X4_settle w_se_X4_settle (by decide) dX5_set_56) <|
  Tn
theorem rk_X5_set : Rok mi_X5_set rI [8, 21, 37, 59] := rk_i dX5_set_8 <| rk_i dX5_set_21 <| rk_i dX5_set_37 <| rk_i dX5_set_59 <| rk_n
def rx_X5_set : Nat → Nat → AL → List AV → List AC → Option (Option AV × List AC) := am_r tb_X5_set rI [8, 21, 37, 59]
theorem rs_X5_set_0 (n : Nat) (L : AL) (st : List AV) (M : List AC) : rx_X5_set (n + 1) 0 L st M = am_j (rx_X5_set n) ((tIld 1 1) 0 L st M) := rfl
theorem rs_X5_set_1 (n : Nat) (L : AL) (st : List AV) (M : List AC) : rx_X5_set (n + 1) 1 L st M = am_j (rx_X5_set n) ((tCs 1 fn_X5_isCorner) 1 L st M) := rfl
theorem rs_X5_set_4 (n : Nat) (L : AL) (st : List AV) (M : List AC) : rx_X5_set (n + 1) 4 L st M = am_j (rx_X5_set n) ((tIfne 9) 4 L st M) := rfl
theorem rs_X5_set_7 (n : Nat) (L : AL) (st : List AV) (M : List AC) : rx_X5_set (n + 1) 7 L st M = am_j (rx_X5_set n) ((tIc (-1) 1) 7 L st M) := rfl
theorem rs_X5_set_9 (n : Nat) (L : AL) (st : List AV) (M : List AC) : rx_X5_set (n + 1) 9 L st M = am_j (rx_X5_set n) ((tIld 2 1) 9 L st M) := rfl
theorem rs_X5_set_10 (n : Nat) (L : AL) (st : List AV) (M : List AC) : rx_X5_set (n + 1) 10 L st M = am_j (rx_X5_set n) ((tIflt 19) 10 L st M) := rfl
theorem rs_X5_set_13 (n : Nat) (L : AL) (st : List AV) (M : List AC) : rx_X5_set (n + 1) 13 L st M = am_j (rx_X5_set n) ((tIld 2 1) 13 L st M) := rfl
theorem rs_X5_set_14 (n : Nat) (L : AL) (st : List AV) (M : List AC) : rx_X5_set (n + 1) 14 L st M = am_j (rx_X5_set n) ((tIc 6 2) 14 L st M) := rfl
theorem rs_X5_set_16 (n : Nat) (L : AL) (st : List AV) (M : List AC) : rx_X5_set (n + 1) 16 L st M = am_j (rx_X5_set n) ((tCmle 22) 16 L st M) := rfl
theorem rs_X5_set_19 (n : Nat) (L : AL) (st : List AV) (M : List AC) : rx_X5_set (n + 1) 19 L st M = am_j (rx_X5_set n) ((tIc (-2) 2) 19 L st M) := rfl
theorem rs_X5_set_22 (n : Nat) (L : AL) (st : List AV) (M : List AC) : rx_X5_set (n + 1) 22 L st M = am_j (rx_X5_set n) ((tAld 0 1) 22 L st M) := rfl
theorem rs_X5_set_23 (n : Nat) (L : AL) (st : List AV) (M : List AC) : rx_X5_set (n + 1) 23 L st M = am_j (rx_X5_set n) ((tGf 5 2) 23 L st M) := rfl
theorem rs_X5_set_26 (n : Nat) (L : AL) (st : List AV) (M : List AC) : rx_X5_set (n + 1) 26 L st M = am_j (rx_X5_set n) ((tGf 4 3) 26 L st M) := rfl
theorem rs_X5_set_29 (n : Nat) (L : AL) (st : List AV) (M : List AC) : rx_X5_set (n + 1) 29 L st M = am_j (rx_X5_set n) ((tIld 1 1) 29 L st M) := rfl
theorem rs_X5_set_30 (n : Nat) (L : AL) (st : List AV) (M : List AC) : rx_X5_set (n + 1) 30 L st M = am_j (rx_X5_set n) (tIal 30 L st M) := rfl
theorem rs_X5_set_31 (n : Nat) (L : AL) (st : List AV) (M : List AC) : rx_X5_set (n + 1) 31 L st M = am_j (rx_X5_set n) ((tIld 2 1) 31 L st M) := rfl
theorem rs_X5_set_32 (n : Nat) (L : AL) (st : List AV) (M : List AC) : rx_X5_set (n + 1) 32 L st M = am_j (rx_X5_set n) ((tCmne 38) 32 L st M) := rfl
theorem rs_X5_set_35 (n : Nat) (L : AL) (st : List AV) (M : List AC) : rx_X5_set (n + 1) 35 L st M = am_j (rx_X5_set n) ((tIc (-3) 2) 35 L st M) := rfl
theorem rs_X5_set_38 (n : Nat) (L : AL) (st : List AV) (M : List AC) : rx_X5_set (n + 1) 38 L st M = am_j (rx_X5_set n) ((tAld 0 1) 38 L st M) := rfl
theorem rs_X5_set_39 (n : Nat) (L : AL) (st : List AV) (M : List AC) : rx_X5_set (n + 1) 39 L st M = am_j (rx_X5_set n) ((tCv 5 0 fn_X5_remember) 39 L st M) := rfl
theorem rs_X5_set_42 (n : Nat) (L : AL) (st : List AV) (M : List AC) : rx_X5_set (n + 1) 42 L st M = am_j (rx_X5_set n) ((tAld 0 1) 42 L st M) := rfl
theorem rs_X5_set_43 (n : Nat) (L : AL) (st : List AV) (M : List AC) : rx_X5_set (n + 1) 43 L st M = am_j (rx_X5_set n) ((tGf 5 2) 43 L st M) := rfl
theorem rs_X5_set_46 (n : Nat) (L : AL) (st : List AV) (M : List AC) : rx_X5_set (n + 1) 46 L st M = am_j (rx_X5_set n) ((tGf 4 3) 46 L st M) := rfl
theorem rs_X5_set_49 (n : Nat) (L : AL) (st : List AV) (M : List AC) : rx_X5_set (n + 1) 49 L st M = am_j (rx_X5_set n) ((tIld 1 1) 49 L st M) := rfl
theorem rs_X5_set_50 (n : Nat) (L : AL) (st : List AV) (M : List AC) : rx_X5_set (n + 1) 50 L st M = am_j (rx_X5_set n) ((tIld 2 1) 50 L st M) := rfl
theorem rs_X5_set_51 (n : Nat) (L : AL) (st : List AV) (M : List AC) : rx_X5_set (n + 1) 51 L st M = am_j (rx_X5_set n) (tIas 51 L st M) := rfl
theorem rs_X5_set_52 (n : Nat) (L : AL) (st : List AV) (M : List AC) : rx_X5_set (n + 1) 52 L st M = am_j (rx_X5_set n) ((tAld 0 1) 52 L st M) := rfl
theorem rs_X5_set_53 (n : Nat) (L : AL) (st : List AV) (M : List AC) : rx_X5_set (n + 1) 53 L st M = am_j (rx_X5_set n) ((tGf 5 2) 53 L st M) := rfl
theorem rs_X5_set_56 (n : Nat) (L : AL) (st : List AV) (M : List AC) : rx_X5_set (n + 1) 56 L st M = am_j (rx_X5_set n) ((tCv 4 0 fn_X4_settle) 56 L st M) := rfl
theorem rs_X5_set_8 (n : Nat) (L : AL) (st : List AV) (M : List AC) : rx_X5_set (n + 1) 8 L st M = am_e rI st M := rfl
theorem rs_X5_set_21 (n : Nat) (L : AL) (st : List AV) (M : List AC) : rx_X5_set (n + 1) 21 L st M = am_e rI st M := rfl
theorem rs_X5_set_37 (n : Nat) (L : AL) (st : List AV) (M : List AC) : rx_X5_set (n + 1) 37 L st M = am_e rI st M := rfl
theorem rs_X5_set_59 (n : Nat) (L : AL) (st : List AV) (M : List AC) : rx_X5_set (n + 1) 59 L st M = am_e rI st M := rfl
theorem ri_X5_set (c : Prop) [Decidable c] (p q n : Nat) (L : AL) (st : List AV) (M : List AC) : rx_X5_set n (if c then p else q) L st M = if c then rx_X5_set n p L st M else rx_X5_set n q L st M := by split <;> rfl
theorem rm_X5_set {n k pc : Nat} {L : AL} {st : List AV} {M : List AC} {x : Option AV × List AC} (h : rx_X5_set n pc L st M = some x) (hk : n ≤ k) : rx_X5_set k pc L st M = some x := am_r_mono n k h hk
def fn_X5_set : Fn := am_fn rx_X5_set 3
theorem fok_X5_set : Fok mi_X5_set fn_X5_set := fun _ _ _ _ h => am_fok ok_X5_set rk_X5_set rfl h
theorem sp_X5_set {M : List AC} {len fa ac : Int} {sr : AV} {sd : Int64} (h0 : M[0]? = some (co len fa ac sr sd)) {st : Int} {g s d b : F4} (hs : HS M 2 st g s d b) {ld lb lc : List Int} (hm : HM M 15 ld lb lc) (k1 : ld.length = 16) (k2 : lb.length = 16) (k3 : lc.length = 16) (hf : 0 ≤ fa ∧ fa < 16) (ha : 0 ≤ ac ∧ ac ≤ 16) (hr : SR st g s d b) (c x : Int) (hc : -2147483648 ≤ c ∧ c < 2147483648) (hx : -2147483648 ≤ x ∧ x < 2147483648) : fn_X5_set [vR 0, vI c, vI x] M = if 0 ≤ c ∧ c < 4 then (if 0 ≤ x ∧ x ≤ 6 then (if g4 d c.toNat = x then some (some (vI (-3)), M) else some (some (vI (sl st g s b 4 (s4 d c.toNat x) 0).2), ((((M.set 0 (co len (rmf fa ac) (rma ac + 1) sr sd)).set 5 (aI (l4 (sl st g s b 4 (s4 d c.toNat x) 0).1))).set 16 (aI (ld.set (rmi fa ac).toNat (fg d)))).set 17 (aI (lb.set (rmi fa ac).toNat (fg b)))).set 18 (aI (lc.set (rmi fa ac).toNat (fg s))))) else some (some (vI (-2)), M)) else some (some (vI (-1)), M) := by
  have wc : wr c = c := wr_id (by omega) (by omega)
  have wx : wr x = x := wr_id (by omega) (by omega)
  obtain ⟨i0, i1, i2, i3, i4⟩ := hs.two
  obtain ⟨wd0, wd1, wd2, wd3⟩ := i4_wr hr.2.2.2.1 (by decide) (by decide)
  by_cases h : 0 ≤ c ∧ c < 4
  · rw [if_pos h]
    by_cases h6 : 0 ≤ x ∧ x ≤ 6
    · rw [if_pos h6]
      have a1 : ¬ x < 0 := by omega
      have a2 := h6.2
      by_cases he : g4 d c.toNat = x
      · rw [if_pos he]
        (refine am_fnI (tb := tb_X5_set) (n := 60) (Nat.le_of_ble_eq_true rfl) (Nat.le_of_ble_eq_true rfl) ?_; show rx_X5_set 60 0 _ _ _ = _)
        rcases c4 h with rfl | rfl | rfl | rfl <;> simp [g4] at he <;>
        simp [↓ri_X5_set, rs_X5_set_0, rs_X5_set_1, rs_X5_set_4, rs_X5_set_7, rs_X5_set_9, rs_X5_set_10, rs_X5_set_13, rs_X5_set_14, rs_X5_set_16, rs_X5_set_19, rs_X5_set_22, rs_X5_set_23, rs_X5_set_26, rs_X5_set_29, rs_X5_set_30, rs_X5_set_31, rs_X5_set_32, rs_X5_set_35, rs_X5_set_38, rs_X5_set_39, rs_X5_set_42, rs_X5_set_43, rs_X5_set_46, rs_X5_set_49, rs_X5_set_50, rs_X5_set_51, rs_X5_set_52, rs_X5_set_53, rs_X5_set_56, rs_X5_set_8, rs_X5_set_21, rs_X5_set_37, rs_X5_set_59, -List.getElem?_eq_getElem, am_js, am_e, am_in, am_sl, rI, rZ, rV, rJ, rA, rC, kI, kJ, kR, am_one, am_nl, am_w8, tIc, tLc, tNul, tIld, tLld, tAld, tIst, tLst, tAst, tIinc, tI2, tDv, tL2, tLrem, tLs, tLcmp, tI2l, tL2i, tI2c, tDup, tDup2, tPop, tGo, tIfeq, tIfne, tIflt, tIfge, tIfgt, tIfle, tCmeq, tCmne, tCmlt, tCmge, tCmgt, tCmle, tNu, tTs, tGf, tPf, tGs, tIal, tIas, tBal, tBas, tAln, tSv, tSc, tSb, tSl, tSk, tCv, tCs, tCt, tMx, tMn, wr_10000, wr_100000, wr_1000000, wr_10000000, wr_100000000, wr_2400, wr_9999, wr_0, wr_1, wr_2, wr_3, wr_4, wr_5, wr_6, wr_7, wr_8, wr_9, wr_10, wr_11, wr_12, wr_13, wr_14, wr_15, wr_16, wr_17, wr_18, wr_19, wr_20, wr_21, wr_22, wr_23, wr_24, wr_25, wr_26, wr_27, wr_28, wr_29, wr_30, wr_31, wr_32, wr_33, wr_34, wr_35, wr_36, wr_37, wr_38, wr_39, wr_40, wr_41, wr_42, wr_43, wr_44, wr_45, wr_46, wr_47, wr_48, wr_49, wr_50, wr_51, wr_52, wr_53, wr_54, wr_55, wr_56, wr_57, wr_58, wr_59, wr_60, wr_61, wr_62, wr_63, wr_99, wr_100, wr_192, wr_255, wr_256, wr_343, wr_999, wr_1000, wr_2401, wr_2147483647, wr_65535, wr_m1, wr_m2, wr_m3, wr_m4, wr_m9, ak_1000, ak_1001, ak_1002, ak_0, ak_1, ak_2, ak_3, ak_4, ak_5, ak_6, ak_7, ak_8, ak_9, ak_10, ak_11, ak_12, ak_13, ak_14, ak_15, ak_16, ak_17, ak_18, ak_19, ak_20, ak_21, ak_22, ak_23, ak_24, ak_25, ak_26, ak_27, ak_28, ak_29, ak_30, ak_31, ak_32, ak_33, ak_34, ak_35, ak_36, ak_37, ak_38, ak_39, ak_40, ak_41, ak_42, ak_43, ak_44, ak_45, ak_46, ak_47, sp_X5_isCorner, h0, co, i0, i3, wx, wd0, wd1, wd2, wd3, a1, a2, he]
      · rw [if_neg he]
        have q1 := sp_X5_remember h0 hs hm k1 k2 k3 hf ha
        have hs2 := (rem_HS hs (co len (rmf fa ac) (rma ac + 1) sr sd) (aI (ld.set (rmi fa ac).toNat (fg d))) (aI (lb.set (rmi fa ac).toNat (fg b))) (aI (lc.set (rmi fa ac).toNat (fg s)))).setD (s4 d c.toNat x)
        have q2 := sp_X4_settle hs2 (hr.setD c.toNat h6.1 h6.2)
        rw [List.set_set] at q2
        clear hs2
        generalize sl st g s b 4 (s4 d c.toNat x) 0 = q at q2 ⊢
        generalize rmf fa ac = f9 at q1 q2 ⊢
        generalize rma ac = a9 at q1 q2 ⊢
        generalize ld.set (rmi fa ac).toNat (fg d) = l1 at q1 q2 ⊢
        generalize lb.set (rmi fa ac).toNat (fg b) = l2 at q1 q2 ⊢
        generalize lc.set (rmi fa ac).toNat (fg s) = l3' at q1 q2 ⊢
        (refine am_fnI (tb := tb_X5_set) (n := 60) (Nat.le_of_ble_eq_true rfl) (Nat.le_of_ble_eq_true rfl) ?_; show rx_X5_set 60 0 _ _ _ = _)
        rcases c4 h with rfl | rfl | rfl | rfl <;> simp [g4] at he <;> simp [s4, co, ss (i := 0) (j := 5) (by decide), ss (i := 0) (j := 16) (by decide), ss (i := 0) (j := 17) (by decide), ss (i := 0) (j := 18) (by decide), ss (i := 5) (j := 16) (by decide), ss (i := 5) (j := 17) (by decide), ss (i := 5) (j := 18) (by decide), ss (i := 16) (j := 17) (by decide), ss (i := 16) (j := 18) (by decide), ss (i := 17) (j := 18) (by decide)] at q1 q2 ⊢ <;>
        simp [↓ri_X5_set, rs_X5_set_0, rs_X5_set_1, rs_X5_set_4, rs_X5_set_7, rs_X5_set_9, rs_X5_set_10, rs_X5_set_13, rs_X5_set_14, rs_X5_set_16, rs_X5_set_19, rs_X5_set_22, rs_X5_set_23, rs_X5_set_26, rs_X5_set_29, rs_X5_set_30, rs_X5_set_31, rs_X5_set_32, rs_X5_set_35, rs_X5_set_38, rs_X5_set_39, rs_X5_set_42, rs_X5_set_43, rs_X5_set_46, rs_X5_set_49, rs_X5_set_50, rs_X5_set_51, rs_X5_set_52, rs_X5_set_53, rs_X5_set_56, rs_X5_set_8, rs_X5_set_21, rs_X5_set_37, rs_X5_set_59, -List.getElem?_eq_getElem, am_js, am_e, am_in, am_sl, rI, rZ, rV, rJ, rA, rC, kI, kJ, kR, am_one, am_nl, am_w8, tIc, tLc, tNul, tIld, tLld, tAld, tIst, tLst, tAst, tIinc, tI2, tDv, tL2, tLrem, tLs, tLcmp, tI2l, tL2i, tI2c, tDup, tDup2, tPop, tGo, tIfeq, tIfne, tIflt, tIfge, tIfgt, tIfle, tCmeq, tCmne, tCmlt, tCmge, tCmgt, tCmle, tNu, tTs, tGf, tPf, tGs, tIal, tIas, tBal, tBas, tAln, tSv, tSc, tSb, tSl, tSk, tCv, tCs, tCt, tMx, tMn, wr_10000, wr_100000, wr_1000000, wr_10000000, wr_100000000, wr_2400, wr_9999, wr_0, wr_1, wr_2, wr_3, wr_4, wr_5, wr_6, wr_7, wr_8, wr_9, wr_10, wr_11, wr_12, wr_13, wr_14, wr_15, wr_16, wr_17, wr_18, wr_19, wr_20, wr_21, wr_22, wr_23, wr_24, wr_25, wr_26, wr_27, wr_28, wr_29, wr_30, wr_31, wr_32, wr_33, wr_34, wr_35, wr_36, wr_37, wr_38, wr_39, wr_40, wr_41, wr_42, wr_43, wr_44, wr_45, wr_46, wr_47, wr_48, wr_49, wr_50, wr_51, wr_52, wr_53, wr_54, wr_55, wr_56, wr_57, wr_58, wr_59, wr_60, wr_61, wr_62, wr_63, wr_99, wr_100, wr_192, wr_255, wr_256, wr_343, wr_999, wr_1000, wr_2401, wr_2147483647, wr_65535, wr_m1, wr_m2, wr_m3, wr_m4, wr_m9, ak_1000, ak_1001, ak_1002, ak_0, ak_1, ak_2, ak_3, ak_4, ak_5, ak_6, ak_7, ak_8, ak_9, ak_10, ak_11, ak_12, ak_13, ak_14, ak_15, ak_16, ak_17, ak_18, ak_19, ak_20, ak_21, ak_22, ak_23, ak_24, ak_25, ak_26, ak_27, ak_28, ak_29, ak_30, ak_31, ak_32, ak_33, ak_34, ak_35, ak_36, ak_37, ak_38, ak_39, ak_40, ak_41, ak_42, ak_43, ak_44, ak_45, ak_46, ak_47, sp_X5_isCorner, h0, co, i0, i3, wx, wd0, wd1, wd2, wd3, a1, a2, he, q1, q2, gs h0, gs i3, ss (i := 0) (j := 5) (by decide), ss (i := 0) (j := 16) (by decide), ss (i := 0) (j := 17) (by decide), ss (i := 0) (j := 18) (by decide), ss (i := 5) (j := 16) (by decide), ss (i := 5) (j := 17) (by decide), ss (i := 5) (j := 18) (by decide), ss (i := 16) (j := 17) (by decide), ss (i := 16) (j := 18) (by decide), ss (i := 17) (j := 18) (by decide)]
    · rw [if_neg h6]
      by_cases a1 : x < 0
      · (refine am_fnI (tb := tb_X5_set) (n := 60) (Nat.le_of_ble_eq_true rfl) (Nat.le_of_ble_eq_true rfl) ?_; show rx_X5_set 60 0 _ _ _ = _)
        rcases c4 h with rfl | rfl | rfl | rfl <;>
        simp [↓ri_X5_set, rs_X5_set_0, rs_X5_set_1, rs_X5_set_4, rs_X5_set_7, rs_X5_set_9, rs_X5_set_10, rs_X5_set_13, rs_X5_set_14, rs_X5_set_16, rs_X5_set_19, rs_X5_set_22, rs_X5_set_23, rs_X5_set_26, rs_X5_set_29, rs_X5_set_30, rs_X5_set_31, rs_X5_set_32, rs_X5_set_35, rs_X5_set_38, rs_X5_set_39, rs_X5_set_42, rs_X5_set_43, rs_X5_set_46, rs_X5_set_49, rs_X5_set_50, rs_X5_set_51, rs_X5_set_52, rs_X5_set_53, rs_X5_set_56, rs_X5_set_8, rs_X5_set_21, rs_X5_set_37, rs_X5_set_59, -List.getElem?_eq_getElem, am_js, am_e, am_in, am_sl, rI, rZ, rV, rJ, rA, rC, kI, kJ, kR, am_one, am_nl, am_w8, tIc, tLc, tNul, tIld, tLld, tAld, tIst, tLst, tAst, tIinc, tI2, tDv, tL2, tLrem, tLs, tLcmp, tI2l, tL2i, tI2c, tDup, tDup2, tPop, tGo, tIfeq, tIfne, tIflt, tIfge, tIfgt, tIfle, tCmeq, tCmne, tCmlt, tCmge, tCmgt, tCmle, tNu, tTs, tGf, tPf, tGs, tIal, tIas, tBal, tBas, tAln, tSv, tSc, tSb, tSl, tSk, tCv, tCs, tCt, tMx, tMn, wr_10000, wr_100000, wr_1000000, wr_10000000, wr_100000000, wr_2400, wr_9999, wr_0, wr_1, wr_2, wr_3, wr_4, wr_5, wr_6, wr_7, wr_8, wr_9, wr_10, wr_11, wr_12, wr_13, wr_14, wr_15, wr_16, wr_17, wr_18, wr_19, wr_20, wr_21, wr_22, wr_23, wr_24, wr_25, wr_26, wr_27, wr_28, wr_29, wr_30, wr_31, wr_32, wr_33, wr_34, wr_35, wr_36, wr_37, wr_38, wr_39, wr_40, wr_41, wr_42, wr_43, wr_44, wr_45, wr_46, wr_47, wr_48, wr_49, wr_50, wr_51, wr_52, wr_53, wr_54, wr_55, wr_56, wr_57, wr_58, wr_59, wr_60, wr_61, wr_62, wr_63, wr_99, wr_100, wr_192, wr_255, wr_256, wr_343, wr_999, wr_1000, wr_2401, wr_2147483647, wr_65535, wr_m1, wr_m2, wr_m3, wr_m4, wr_m9, ak_1000, ak_1001, ak_1002, ak_0, ak_1, ak_2, ak_3, ak_4, ak_5, ak_6, ak_7, ak_8, ak_9, ak_10, ak_11, ak_12, ak_13, ak_14, ak_15, ak_16, ak_17, ak_18, ak_19, ak_20, ak_21, ak_22, ak_23, ak_24, ak_25, ak_26, ak_27, ak_28, ak_29, ak_30, ak_31, ak_32, ak_33, ak_34, ak_35, ak_36, ak_37, ak_38, ak_39, ak_40, ak_41, ak_42, ak_43, ak_44, ak_45, ak_46, ak_47, sp_X5_isCorner, wx, a1]
      · have a2 : ¬ x ≤ 6 := by omega
        (refine am_fnI (tb := tb_X5_set) (n := 60) (Nat.le_of_ble_eq_true rfl) (Nat.le_of_ble_eq_true rfl) ?_; show rx_X5_set 60 0 _ _ _ = _)
        rcases c4 h with rfl | rfl | rfl | rfl <;>
        simp [↓ri_X5_set, rs_X5_set_0, rs_X5_set_1, rs_X5_set_4, rs_X5_set_7, rs_X5_set_9, rs_X5_set_10, rs_X5_set_13, rs_X5_set_14, rs_X5_set_16, rs_X5_set_19, rs_X5_set_22, rs_X5_set_23, rs_X5_set_26, rs_X5_set_29, rs_X5_set_30, rs_X5_set_31, rs_X5_set_32, rs_X5_set_35, rs_X5_set_38, rs_X5_set_39, rs_X5_set_42, rs_X5_set_43, rs_X5_set_46, rs_X5_set_49, rs_X5_set_50, rs_X5_set_51, rs_X5_set_52, rs_X5_set_53, rs_X5_set_56, rs_X5_set_8, rs_X5_set_21, rs_X5_set_37, rs_X5_set_59, -List.getElem?_eq_getElem, am_js, am_e, am_in, am_sl, rI, rZ, rV, rJ, rA, rC, kI, kJ, kR, am_one, am_nl, am_w8, tIc, tLc, tNul, tIld, tLld, tAld, tIst, tLst, tAst, tIinc, tI2, tDv, tL2, tLrem, tLs, tLcmp, tI2l, tL2i, tI2c, tDup, tDup2, tPop, tGo, tIfeq, tIfne, tIflt, tIfge, tIfgt, tIfle, tCmeq, tCmne, tCmlt, tCmge, tCmgt, tCmle, tNu, tTs, tGf, tPf, tGs, tIal, tIas, tBal, tBas, tAln, tSv, tSc, tSb, tSl, tSk, tCv, tCs, tCt, tMx, tMn, wr_10000, wr_100000, wr_1000000, wr_10000000, wr_100000000, wr_2400, wr_9999, wr_0, wr_1, wr_2, wr_3, wr_4, wr_5, wr_6, wr_7, wr_8, wr_9, wr_10, wr_11, wr_12, wr_13, wr_14, wr_15, wr_16, wr_17, wr_18, wr_19, wr_20, wr_21, wr_22, wr_23, wr_24, wr_25, wr_26, wr_27, wr_28, wr_29, wr_30, wr_31, wr_32, wr_33, wr_34, wr_35, wr_36, wr_37, wr_38, wr_39, wr_40, wr_41, wr_42, wr_43, wr_44, wr_45, wr_46, wr_47, wr_48, wr_49, wr_50, wr_51, wr_52, wr_53, wr_54, wr_55, wr_56, wr_57, wr_58, wr_59, wr_60, wr_61, wr_62, wr_63, wr_99, wr_100, wr_192, wr_255, wr_256, wr_343, wr_999, wr_1000, wr_2401, wr_2147483647, wr_65535, wr_m1, wr_m2, wr_m3, wr_m4, wr_m9, ak_1000, ak_1001, ak_1002, ak_0, ak_1, ak_2, ak_3, ak_4, ak_5, ak_6, ak_7, ak_8, ak_9, ak_10, ak_11, ak_12, ak_13, ak_14, ak_15, ak_16, ak_17, ak_18, ak_19, ak_20, ak_21, ak_22, ak_23, ak_24, ak_25, ak_26, ak_27, ak_28, ak_29, ak_30, ak_31, ak_32, ak_33, ak_34, ak_35, ak_36, ak_37, ak_38, ak_39, ak_40, ak_41, ak_42, ak_43, ak_44, ak_45, ak_46, ak_47, sp_X5_isCorner, wx, a1, a2]
  · rw [if_neg h]
    (refine am_fnI (tb := tb_X5_set) (n := 60) (Nat.le_of_ble_eq_true rfl) (Nat.le_of_ble_eq_true rfl) ?_; show rx_X5_set 60 0 _ _ _ = _)
    simp [↓ri_X5_set, rs_X5_set_0, rs_X5_set_1, rs_X5_set_4, rs_X5_set_7, rs_X5_set_9, rs_X5_set_10, rs_X5_set_13, rs_X5_set_14, rs_X5_set_16, rs_X5_set_19, rs_X5_set_22, rs_X5_set_23, rs_X5_set_26, rs_X5_set_29, rs_X5_set_30, rs_X5_set_31, rs_X5_set_32, rs_X5_set_35, rs_X5_set_38, rs_X5_set_39, rs_X5_set_42, rs_X5_set_43, rs_X5_set_46, rs_X5_set_49, rs_X5_set_50, rs_X5_set_51, rs_X5_set_52, rs_X5_set_53, rs_X5_set_56, rs_X5_set_8, rs_X5_set_21, rs_X5_set_37, rs_X5_set_59, -List.getElem?_eq_getElem, am_js, am_e, am_in, am_sl, rI, rZ, rV, rJ, rA, rC, kI, kJ, kR, am_one, am_nl, am_w8, tIc, tLc, tNul, tIld, tLld, tAld, tIst, tLst, tAst, tIinc, tI2, tDv, tL2, tLrem, tLs, tLcmp, tI2l, tL2i, tI2c, tDup, tDup2, tPop, tGo, tIfeq, tIfne, tIflt, tIfge, tIfgt, tIfle, tCmeq, tCmne, tCmlt, tCmge, tCmgt, tCmle, tNu, tTs, tGf, tPf, tGs, tIal, tIas, tBal, tBas, tAln, tSv, tSc, tSb, tSl, tSk, tCv, tCs, tCt, tMx, tMn, wr_10000, wr_100000, wr_1000000, wr_10000000, wr_100000000, wr_2400, wr_9999, wr_0, wr_1, wr_2, wr_3, wr_4, wr_5, wr_6, wr_7, wr_8, wr_9, wr_10, wr_11, wr_12, wr_13, wr_14, wr_15, wr_16, wr_17, wr_18, wr_19, wr_20, wr_21, wr_22, wr_23, wr_24, wr_25, wr_26, wr_27, wr_28, wr_29, wr_30, wr_31, wr_32, wr_33, wr_34, wr_35, wr_36, wr_37, wr_38, wr_39, wr_40, wr_41, wr_42, wr_43, wr_44, wr_45, wr_46, wr_47, wr_48, wr_49, wr_50, wr_51, wr_52, wr_53, wr_54, wr_55, wr_56, wr_57, wr_58, wr_59, wr_60, wr_61, wr_62, wr_63, wr_99, wr_100, wr_192, wr_255, wr_256, wr_343, wr_999, wr_1000, wr_2401, wr_2147483647, wr_65535, wr_m1, wr_m2, wr_m3, wr_m4, wr_m9, ak_1000, ak_1001, ak_1002, ak_0, ak_1, ak_2, ak_3, ak_4, ak_5, ak_6, ak_7, ak_8, ak_9, ak_10, ak_11, ak_12, ak_13, ak_14, ak_15, ak_16, ak_17, ak_18, ak_19, ak_20, ak_21, ak_22, ak_23, ak_24, ak_25, ak_26, ak_27, ak_28, ak_29, ak_30, ak_31, ak_32, ak_33, ak_34, ak_35, ak_36, ak_37, ak_38, ak_39, ak_40, ak_41, ak_42, ak_43, ak_44, ak_45, ak_46, ak_47, -not_and, sp_X5_isCorner, wc, h]
end
