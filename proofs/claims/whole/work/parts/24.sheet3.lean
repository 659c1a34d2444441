noncomputable section
abbrev mi_X4_takeOff : Mi := (yX4_takeOff, cX4_takeOff, 2, none, 1)
theorem mf_X4_takeOff : am_mf mi_X4_takeOff 0 := ⟨w_co_X4_takeOff, w_in_X4, ⟨by decide +kernel, by decide +kernel⟩, by decide +kernel, by decide⟩
def tb_X4_takeOff : List (Nat × Tr) := [(0, tIc 0 1), (1, tIst 1 1), (2, tIld 1 1), (3, tIc 4 1), (4, tCmge 20), (7, tAld 0 1), (8, tGf 4 3), (11, tIld 1 1), (12, tIc 0 1), (13, tIas), (14, tIinc 1 1), (17, tGo 2)]
theorem ok_X4_takeOff : Tok mi_X4_takeOff tb_X4_takeOff :=
  Tc (sd_iconst rfl dX4_takeOff_0) <|
  Tc (sd_istore_n dX4_takeOff_1) <|
  Tc (sd_iload_n dX4_takeOff_2) <|
  Tc (sd_iconst rfl dX4_takeOff_3) <|
  Tc (sd_cm_ge (by decide) dX4_takeOff_4) <|
  Tc (sd_aload_n dX4_takeOff_7) <|
  Tc (sd_getf (T := TX4) rfl giX4 (by decide) w_fl_X4_22 dX4_takeOff_8) <|
  Tc (sd_iload_n dX4_takeOff_11) <|
  Tc (sd_iconst rfl dX4_takeOff_12) <|
  Tc (sd_ias dX4_takeOff_13) <|
  Tc (sd_iinc dX4_takeOff_14) <|
  Tc (sd_goto (by decide) dX4_takeOff_17) <|
  Tn
theorem rk_X4_takeOff : Rok mi_X4_takeOff rV [20] := rk_v dX4_takeOff_20 <| rk_n
def rx_X4_takeOff : Nat → Nat → AL → List AV → List AC → Option (Option AV × List AC) := am_r tb_X4_takeOff rV [20]
theorem rs_X4_takeOff_0 (n : Nat) (L : AL) (st : List AV) (M : List AC) : rx_X4_takeOff (n + 1) 0 L st M = am_j (rx_X4_takeOff n) ((tIc 0 1) 0 L st M) := rfl
theorem rs_X4_takeOff_1 (n : Nat) (L : AL) (st : List AV) (M : List AC) : rx_X4_takeOff (n + 1) 1 L st M = am_j (rx_X4_takeOff n) ((tIst 1 1) 1 L st M) := rfl
theorem rs_X4_takeOff_2 (n : Nat) (L : AL) (st : List AV) (M : List AC) : rx_X4_takeOff (n + 1) 2 L st M = am_j (rx_X4_takeOff n) ((tIld 1 1) 2 L st M) := rfl
theorem rs_X4_takeOff_3 (n : Nat) (L : AL) (st : List AV) (M : List AC) : rx_X4_takeOff (n + 1) 3 L st M = am_j (rx_X4_takeOff n) ((tIc 4 1) 3 L st M) := rfl
theorem rs_X4_takeOff_4 (n : Nat) (L : AL) (st : List AV) (M : List AC) : rx_X4_takeOff (n + 1) 4 L st M = am_j (rx_X4_takeOff n) ((tCmge 20) 4 L st M) := rfl
theorem rs_X4_takeOff_7 (n : Nat) (L : AL) (st : List AV) (M : List AC) : rx_X4_takeOff (n + 1) 7 L st M = am_j (rx_X4_takeOff n) ((tAld 0 1) 7 L st M) := rfl
theorem rs_X4_takeOff_8 (n : Nat) (L : AL) (st : List AV) (M : List AC) : rx_X4_takeOff (n + 1) 8 L st M = am_j (rx_X4_takeOff n) ((tGf 4 3) 8 L st M) := rfl
theorem rs_X4_takeOff_11 (n : Nat) (L : AL) (st : List AV) (M : List AC) : rx_X4_takeOff (n + 1) 11 L st M = am_j (rx_X4_takeOff n) ((tIld 1 1) 11 L st M) := rfl
theorem rs_X4_takeOff_12 (n : Nat) (L : AL) (st : List AV) (M : List AC) : rx_X4_takeOff (n + 1) 12 L st M = am_j (rx_X4_takeOff n) ((tIc 0 1) 12 L st M) := rfl
theorem rs_X4_takeOff_13 (n : Nat) (L : AL) (st : List AV) (M : List AC) : rx_X4_takeOff (n + 1) 13 L st M = am_j (rx_X4_takeOff n) (tIas 13 L st M) := rfl
theorem rs_X4_takeOff_14 (n : Nat) (L : AL) (st : List AV) (M : List AC) : rx_X4_takeOff (n + 1) 14 L st M = am_j (rx_X4_takeOff n) ((tIinc 1 1) 14 L st M) := rfl
theorem rs_X4_takeOff_17 (n : Nat) (L : AL) (st : List AV) (M : List AC) : rx_X4_takeOff (n + 1) 17 L st M = am_j (rx_X4_takeOff n) ((tGo 2) 17 L st M) := rfl
theorem rs_X4_takeOff_20 (n : Nat) (L : AL) (st : List AV) (M : List AC) : rx_X4_takeOff (n + 1) 20 L st M = am_e rV st M := rfl
theorem ri_X4_takeOff (c : Prop) [Decidable c] (p q n : Nat) (L : AL) (st : List AV) (M : List AC) : rx_X4_takeOff n (if c then p else q) L st M = if c then rx_X4_takeOff n p L st M else rx_X4_takeOff n q L st M := by split <;> rfl
theorem rm_X4_takeOff {n k pc : Nat} {L : AL} {st : List AV} {M : List AC} {x : Option AV × List AC} (h : rx_X4_takeOff n pc L st M = some x) (hk : n ≤ k) : rx_X4_takeOff k pc L st M = some x := am_r_mono n k h hk
def fn_X4_takeOff : Fn := am_fn rx_X4_takeOff 2
theorem fok_X4_takeOff : Fok mi_X4_takeOff fn_X4_takeOff := fun _ _ _ _ h => am_fok ok_X4_takeOff rk_X4_takeOff rfl h
theorem sp_X4_takeOff {M : List AC} {k : Nat} {st : Int} {g s d b : F4} (hs : HS M k st g s d b) : fn_X4_takeOff [vR k] M = some (none, M.set (k + 3) (aI (l4 (0, 0, 0, 0)))) := by
  obtain ⟨hk, h0, h1, h2, h3, h4⟩ := id hs
  obtain ⟨n1, n2, n3, n4⟩ := hs.nk
  have hl : ∀ c : AC, (M.set (k + 3) c)[k + 3]? = some c := fun c => List.getElem?_set_self (len_of h3)
  (refine am_fnI (tb := tb_X4_takeOff) (n := 90) (Nat.le_of_ble_eq_true rfl) (Nat.le_of_ble_eq_true rfl) ?_; show rx_X4_takeOff 90 0 _ _ _ = _)
  simp [↓ri_X4_takeOff, rs_X4_takeOff_0, rs_X4_takeOff_1, rs_X4_takeOff_2, rs_X4_takeOff_3, rs_X4_takeOff_4, rs_X4_takeOff_7, rs_X4_takeOff_8, rs_X4_takeOff_11, rs_X4_takeOff_12, rs_X4_takeOff_13, rs_X4_takeOff_14, rs_X4_takeOff_17, rs_X4_takeOff_20, -List.getElem?_eq_getElem, am_js, am_e, am_in, am_sl, rI, rZ, rV, rJ, rA, rC, kI, kJ, kR, am_one, am_nl, am_w8, tIc, tLc, tNul, tIld, tLld, tAld, tIst, tLst, tAst, tIinc, tI2, tDv, tL2, tLrem, tLs, tLcmp, tI2l, tL2i, tI2c, tDup, tDup2, tPop, tGo, tIfeq, tIfne, tIflt, tIfge, tIfgt, tIfle, tCmeq, tCmne, tCmlt, tCmge, tCmgt, tCmle, tNu, tTs, tGf, tPf, tGs, tIal, tIas, tBal, tBas, tAln, tSv, tSc, tSb, tSl, tSk, tCv, tCs, tCt, tMx, tMn, wr_10000, wr_100000, wr_1000000, wr_10000000, wr_100000000, wr_2400, wr_9999, wr_0, wr_1, wr_2, wr_3, wr_4, wr_5, wr_6, wr_7, wr_8, wr_9, wr_10, wr_11, wr_12, wr_13, wr_14, wr_15, wr_16, wr_17, wr_18, wr_19, wr_20, wr_21, wr_22, wr_23, wr_24, wr_25, wr_26, wr_27, wr_28, wr_29, wr_30, wr_31, wr_32, wr_33, wr_34, wr_35, wr_36, wr_37, wr_38, wr_39, wr_40, wr_41, wr_42, wr_43, wr_44, wr_45, wr_46, wr_47, wr_48, wr_49, wr_50, wr_51, wr_52, wr_53, wr_54, wr_55, wr_56, wr_57, wr_58, wr_59, wr_60, wr_61, wr_62, wr_63, wr_99, wr_100, wr_192, wr_255, wr_256, wr_343, wr_999, wr_1000, wr_2401, wr_2147483647, wr_65535, wr_m1, wr_m2, wr_m3, wr_m4, wr_m9, ak_1000, ak_1001, ak_1002, ak_0, ak_1, ak_2, ak_3, ak_4, ak_5, ak_6, ak_7, ak_8, ak_9, ak_10, ak_11, ak_12, ak_13, ak_14, ak_15, ak_16, ak_17, ak_18, ak_19, ak_20, ak_21, ak_22, ak_23, ak_24, ak_25, ak_26, ak_27, ak_28, ak_29, ak_30, ak_31, ak_32, ak_33, ak_34, ak_35, ak_36, ak_37, ak_38, ak_39, ak_40, ak_41, ak_42, ak_43, ak_44, ak_45, ak_46, ak_47, h0, h3, n3, hl]
theorem ps (x : Int) : (0 < x ∧ ¬ x ≤ 0) ∨ (¬ 0 < x ∧ x ≤ 0) := by omega
def wz (x : Int) : Int := if 0 < x then x - 1 else 0
def wz4 (s : F4) : F4 := (wz s.1, wz s.2.1, wz s.2.2.1, wz s.2.2.2)
abbrev mi_X4_shrink : Mi := (yX4_shrink, cX4_shrink, 2, none, 1)
theorem mf_X4_shrink : am_mf mi_X4_shrink 0 := ⟨w_co_X4_shrink, w_in_X4, ⟨by decide +kernel, by decide +kernel⟩, by decide +kernel, by decide⟩
def tb_X4_shrink : List (Nat × Tr) := [(0, tIc 0 1), (1, tIst 1 1), (2, tIld 1 1), (3, tIc 4 1), (4, tCmge 40), (7, tAld 0 1), (8, tGf 4 2), (11, tIld 1 1), (12, tAld 0 1), (13, tGf 4 2), (16, tIld 1 1), (17, tIal), (18, tIfle 32), (21, tAld 0 1), (22, tGf 4 2), (25, tIld 1 1), (26, tIal), (27, tIc 1 1), (28, tI2 (fun a b => a - b)), (29, tGo 33), (32, tIc 0 1), (33, tIas), (34, tIinc 1 1), (37, tGo 2)]
theorem ok_X4_shrink : Tok mi_X4_shrink tb_X4_shrink :=
  Tc (sd_iconst rfl dX4_shrink_0) <|
  Tc (sd_istore_n dX4_shrink_1) <|
  Tc (sd_iload_n dX4_shrink_2) <|
  Tc (sd_iconst rfl dX4_shrink_3) <|
  Tc (sd_cm_ge (by decide) dX4_shrink_4) <|
  Tc (sd_aload_n dX4_shrink_7) <|
  Tc (sd_getf (T := TX4) rfl giX4 (by decide) w_fl_X4_19 dX4_shrink_8) <|
  Tc (sd_iload_n dX4_shrink_11) <|
  Tc (sd_aload_n dX4_shrink_12) <|
  Tc (sd_getf (T := TX4) rfl giX4 (by decide) w_fl_X4_19 dX4_shrink_13) <|
  Tc (sd_iload_n dX4_shrink_16) <|
  Tc (sd_ial dX4_shrink_17) <|
  Tc (sd_if_le (by decide) dX4_shrink_18) <|
  Tc (sd_aload_n dX4_shrink_21) <|
  Tc (sd_getf (T := TX4) rfl giX4 (by decide) w_fl_X4_19 dX4_shrink_22) <|
  Tc (sd_iload_n dX4_shrink_25) <|
  Tc (sd_ial dX4_shrink_26) <|
  Tc (sd_iconst rfl dX4_shrink_27) <|
  Tc (sd_isub dX4_shrink_28) <|
  Tc (sd_goto (by decide) dX4_shrink_29) <|
  Tc (sd_iconst rfl dX4_shrink_32) <|
  Tc (sd_ias dX4_shrink_33) <|
  Tc (sd_iinc dX4_shrink_34) <|
  Tc (sd_goto (by decide) dX4_shrink_37) <|
  Tn
theorem rk_X4_shrink : Rok mi_X4_shrink rV [40] := rk_v dX4_shrink_40 <| rk_n
def rx_X4_shrink : Nat → Nat → AL → List AV → List AC → Option (Option AV × List AC) := am_r tb_X4_shrink rV [40]
theorem rs_X4_shrink_0 (n : Nat) (L : AL) (st : List AV) (M : List AC) : rx_X4_shrink (n + 1) 0 L st M = am_j (rx_X4_shrink n) ((tIc 0 1) 0 L st M) := rfl
theorem rs_X4_shrink_1 (n : Nat) (L : AL) (st : List AV) (M : List AC) : rx_X4_shrink (n + 1) 1 L st M = am_j (rx_X4_shrink n) ((tIst 1 1) 1 L st M) := rfl
theorem rs_X4_shrink_2 (n : Nat) (L : AL) (st : List AV) (M : List AC) : rx_X4_shrink (n + 1) 2 L st M = am_j (rx_X4_shrink n) ((tIld 1 1) 2 L st M) := rfl
theorem rs_X4_shrink_3 (n : Nat) (L : AL) (st : List AV) (M : List AC) : rx_X4_shrink (n + 1) 3 L st M = am_j (rx_X4_shrink n) ((tIc 4 1) 3 L st M) := rfl
theorem rs_X4_shrink_4 (n : Nat) (L : AL) (st : List AV) (M : List AC) : rx_X4_shrink (n + 1) 4 L st M = am_j (rx_X4_shrink n) ((tCmge 40) 4 L st M) := rfl
theorem rs_X4_shrink_7 (n : Nat) (L : AL) (st : List AV) (M : List AC) : rx_X4_shrink (n + 1) 7 L st M = am_j (rx_X4_shrink n) ((tAld 0 1) 7 L st M) := rfl
theorem rs_X4_shrink_8 (n : Nat) (L : AL) (st : List AV) (M : List AC) : rx_X4_shrink (n + 1) 8 L st M = am_j (rx_X4_shrink n) ((tGf 4 2) 8 L st M) := rfl
theorem rs_X4_shrink_11 (n : Nat) (L : AL) (st : List AV) (M : List AC) : rx_X4_shrink (n + 1) 11 L st M = am_j (rx_X4_shrink n) ((tIld 1 1) 11 L st M) := rfl
theorem rs_X4_shrink_12 (n : Nat) (L : AL) (st : List AV) (M : List AC) : rx_X4_shrink (n + 1) 12 L st M = am_j (rx_X4_shrink n) ((tAld 0 1) 12 L st M) := rfl
theorem rs_X4_shrink_13 (n : Nat) (L : AL) (st : List AV) (M : List AC) : rx_X4_shrink (n + 1) 13 L st M = am_j (rx_X4_shrink n) ((tGf 4 2) 13 L st M) := rfl
theorem rs_X4_shrink_16 (n : Nat) (L : AL) (st : List AV) (M : List AC) : rx_X4_shrink (n + 1) 16 L st M = am_j (rx_X4_shrink n) ((tIld 1 1) 16 L st M) := rfl
theorem rs_X4_shrink_17 (n : Nat) (L : AL) (st : List AV) (M : List AC) : rx_X4_shrink (n + 1) 17 L st M = am_j (rx_X4_shrink n) (tIal 17 L st M) := rfl
theorem rs_X4_shrink_18 (n : Nat) (L : AL) (st : List AV) (M : List AC) : rx_X4_shrink (n + 1) 18 L st M = am_j (rx_X4_shrink n) ((tIfle 32) 18 L st M) := rfl
theorem rs_X4_shrink_21 (n : Nat) (L : AL) (st : List AV) (M : List AC) : rx_X4_shrink (n + 1) 21 L st M = am_j (rx_X4_shrink n) ((tAld 0 1) 21 L st M) := rfl
theorem rs_X4_shrink_22 (n : Nat) (L : AL) (st : List AV) (M : List AC) : rx_X4_shrink (n + 1) 22 L st M = am_j (rx_X4_shrink n) ((tGf 4 2) 22 L st M) := rfl
theorem rs_X4_shrink_25 (n : Nat) (L : AL) (st : List AV) (M : List AC) : rx_X4_shrink (n + 1) 25 L st M = am_j (rx_X4_shrink n) ((tIld 1 1) 25 L st M) := rfl
theorem rs_X4_shrink_26 (n : Nat) (L : AL) (st : List AV) (M : List AC) : rx_X4_shrink (n + 1) 26 L st M = am_j (rx_X4_shrink n) (tIal 26 L st M) := rfl
theorem rs_X4_shrink_27 (n : Nat) (L : AL) (st : List AV) (M : List AC) : rx_X4_shrink (n + 1) 27 L st M = am_j (rx_X4_shrink n) ((tIc 1 1) 27 L st M) := rfl
theorem rs_X4_shrink_28 (n : Nat) (L : AL) (st : List AV) (M : List AC) : rx_X4_shrink (n + 1) 28 L st M = am_j (rx_X4_shrink n) ((tI2 (fun a b => a - b)) 28 L st M) := rfl
theorem rs_X4_shrink_29 (n : Nat) (L : AL) (st : List AV) (M : List AC) : rx_X4_shrink (n + 1) 29 L st M = am_j (rx_X4_shrink n) ((tGo 33) 29 L st M) := rfl
theorem rs_X4_shrink_32 (n : Nat) (L : AL) (st : List AV) (M : List AC) : rx_X4_shrink (n + 1) 32 L st M = am_j (rx_X4_shrink n) ((tIc 0 1) 32 L st M) := rfl
theorem rs_X4_shrink_33 (n : Nat) (L : AL) (st : List AV) (M : List AC) : rx_X4_shrink (n + 1) 33 L st M = am_j (rx_X4_shrink n) (tIas 33 L st M) := rfl
theorem rs_X4_shrink_34 (n : Nat) (L : AL) (st : List AV) (M : List AC) : rx_X4_shrink (n + 1) 34 L st M = am_j (rx_X4_shrink n) ((tIinc 1 1) 34 L st M) := rfl
theorem rs_X4_shrink_37 (n : Nat) (L : AL) (st : List AV) (M : List AC) : rx_X4_shrink (n + 1) 37 L st M = am_j (rx_X4_shrink n) ((tGo 2) 37 L st M) := rfl
theorem rs_X4_shrink_40 (n : Nat) (L : AL) (st : List AV) (M : List AC) : rx_X4_shrink (n + 1) 40 L st M = am_e rV st M := rfl
theorem ri_X4_shrink (c : Prop) [Decidable c] (p q n : Nat) (L : AL) (st : List AV) (M : List AC) : rx_X4_shrink n (if c then p else q) L st M = if c then rx_X4_shrink n p L st M else rx_X4_shrink n q L st M := by split <;> rfl
theorem rm_X4_shrink {n k pc : Nat} {L : AL} {st : List AV} {M : List AC} {x : Option AV × List AC} (h : rx_X4_shrink n pc L st M = some x) (hk : n ≤ k) : rx_X4_shrink k pc L st M = some x := am_r_mono n k h hk
def fn_X4_shrink : Fn := am_fn rx_X4_shrink 2
theorem fok_X4_shrink : Fok mi_X4_shrink fn_X4_shrink := fun _ _ _ _ h => am_fok ok_X4_shrink rk_X4_shrink rfl h
theorem sp_X4_shrink {M : List AC} {k : Nat} {st : Int} {g s d b : F4} (hs : HS M k st g s d b) (hr : i4 0 9 s) : fn_X4_shrink [vR k] M = some (none, M.set (k + 2) (aI (l4 (wz4 s)))) := by
  obtain ⟨hk, h0, h1, h2, h3, h4⟩ := id hs
  obtain ⟨n1, n2, n3, n4⟩ := hs.nk
  obtain ⟨ws0, ws1, ws2, ws3⟩ := i4_wr hr (by decide) (by decide)
  have hl : ∀ c : AC, (M.set (k + 2) c)[k + 2]? = some c := fun c => List.getElem?_set_self (len_of h2)
  have hlk : ∀ c : AC, (M.set (k + 2) c)[k]? = M[k]? := fun c => List.getElem?_set_ne (by omega)
  (refine am_fnI (tb := tb_X4_shrink) (n := 150) (Nat.le_of_ble_eq_true rfl) (Nat.le_of_ble_eq_true rfl) ?_; show rx_X4_shrink 150 0 _ _ _ = _)
  rcases ps s.1 with ⟨a0, b0⟩ | ⟨a0, b0⟩ <;> rcases ps s.2.1 with ⟨a1, b1⟩ | ⟨a1, b1⟩ <;> rcases ps s.2.2.1 with ⟨a2, b2⟩ | ⟨a2, b2⟩ <;> rcases ps s.2.2.2 with ⟨a3, b3⟩ | ⟨a3, b3⟩ <;>
  simp [↓ri_X4_shrink, rs_X4_shrink_0, rs_X4_shrink_1, rs_X4_shrink_2, rs_X4_shrink_3, rs_X4_shrink_4, rs_X4_shrink_7, rs_X4_shrink_8, rs_X4_shrink_11, rs_X4_shrink_12, rs_X4_shrink_13, rs_X4_shrink_16, rs_X4_shrink_17, rs_X4_shrink_18, rs_X4_shrink_21, rs_X4_shrink_22, rs_X4_shrink_25, rs_X4_shrink_26, rs_X4_shrink_27, rs_X4_shrink_28, rs_X4_shrink_29, rs_X4_shrink_32, rs_X4_shrink_33, rs_X4_shrink_34, rs_X4_shrink_37, rs_X4_shrink_40, -List.getElem?_eq_getElem, am_js, am_e, am_in, am_sl, rI, rZ, rV, rJ, rA, rC, kI, kJ, kR, am_one, am_nl, am_w8, tIc, tLc, tNul, tIld, tLld, tAld, tIst, tLst, tAst, tIinc, tI2, tDv, tL2, tLrem, tLs, tLcmp, tI2l, tL2i, tI2c, tDup, tDup2, tPop, tGo, tIfeq, tIfne, tIflt, tIfge, tIfgt, tIfle, tCmeq, tCmne, tCmlt, tCmge, tCmgt, tCmle, tNu, tTs, tGf, tPf, tGs, tIal, tIas, tBal, tBas, tAln, tSv, tSc, tSb, tSl, tSk, tCv, tCs, tCt, tMx, tMn, wr_10000, wr_100000, wr_1000000, wr_10000000, wr_100000000, wr_2400, wr_9999, wr_0, wr_1, wr_2, wr_3, wr_4, wr_5, wr_6, wr_7, wr_8, wr_9, wr_10, wr_11, wr_12, wr_13, wr_14, wr_15, wr_16, wr_17, wr_18, wr_19, wr_20, wr_21, wr_22, wr_23, wr_24, wr_25, wr_26, wr_27, wr_28, wr_29, wr_30, wr_31, wr_32, wr_33, wr_34, wr_35, wr_36, wr_37, wr_38, wr_39, wr_40, wr_41, wr_42, wr_43, wr_44, wr_45, wr_46, wr_47, wr_48, wr_49, wr_50, wr_51, wr_52, wr_53, wr_54, wr_55, wr_56, wr_57, wr_58, wr_59, wr_60, wr_61, wr_62, wr_63, wr_99, wr_100, wr_192, wr_255, wr_256, wr_343, wr_999, wr_1000, wr_2401, wr_2147483647, wr_65535, wr_m1, wr_m2, wr_m3, wr_m4, wr_m9, ak_1000, ak_1001, ak_1002, ak_0, ak_1, ak_2, ak_3, ak_4, ak_5, ak_6, ak_7, ak_8, ak_9, ak_10, ak_11, ak_12, ak_13, ak_14, ak_15, ak_16, ak_17, ak_18, ak_19, ak_20, ak_21, ak_22, ak_23, ak_24, ak_25, ak_26, ak_27, ak_28, ak_29, ak_30, ak_31, ak_32, ak_33, ak_34, ak_35, ak_36, ak_37, ak_38, ak_39, ak_40, ak_41, ak_42, ak_43, ak_44, ak_45, ak_46, ak_47, h0, h2, n2, hl, hlk, ws0, ws1, ws2, ws3, wz4, wz, a0, a1, a2, a3, b0, b1, b2, b3]
abbrev mi_J6_bitCount_0f7a4 : Mi := (yJ6_bitCount_0f7a4, cJ6_bitCount_0f7a4, 1, some .int, 1)
theorem mf_J6_bitCount_0f7a4 : am_mf mi_J6_bitCount_0f7a4 1 := ⟨w_co_J6_bitCount_0f7a4, w_in_J6, ⟨by decide +kernel, by decide +kernel⟩, by decide +kernel, by decide⟩
def tb_J6_bitCount_0f7a4 : List (Nat × Tr) := [(0, tIld 0 1), (1, tIld 0 1), (2, tIc 1 1), (3, tI2 oUshr), (4, tIc 1431655765 3), (7, tI2 oAnd), (8, tI2 (fun a b => a - b)), (9, tIst 0 1), (10, tIld 0 1), (11, tIc 858993459 3), (14, tI2 oAnd), (15, tIld 0 1), (16, tIc 2 1), (17, tI2 oUshr), (18, tIc 858993459 3), (21, tI2 oAnd), (22, tI2 (fun a b => a + b)), (23, tIst 0 1), (24, tIld 0 1), (25, tIld 0 1), (26, tIc 4 1), (27, tI2 oUshr), (28, tI2 (fun a b => a + b)), (29, tIc 252645135 3), (32, tI2 oAnd), (33, tIst 0 1), (34, tIld 0 1), (35, tIld 0 1), (36, tIc 8 2), (38, tI2 oUshr), (39, tI2 (fun a b => a + b)), (40, tIst 0 1), (41, tIld 0 1), (42, tIld 0 1), (43, tIc 16 2), (45, tI2 oUshr), (46, tI2 (fun a b => a + b)), (47, tIst 0 1), (48, tIld 0 1), (49, tIc 63 2), (51, tI2 oAnd)]
theorem ok_J6_bitCount_0f7a4 : Tok mi_J6_bitCount_0f7a4 tb_J6_bitCount_0f7a4 :=
  Tc (sd_iload_n dJ6_bitCount_0f7a4_0) <|
  Tc (sd_iload_n dJ6_bitCount_0f7a4_1) <|
  Tc (sd_iconst rfl dJ6_bitCount_0f7a4_2) <|
  Tc (sd_iushr dJ6_bitCount_0f7a4_3) <|
  Tc (sd_ldcw rfl w_ci_J6_265 dJ6_bitCount_0f7a4_4) <|
  Tc (sd_iand dJ6_bitCount_0f7a4_7) <|
  Tc (sd_isub dJ6_bitCount_0f7a4_8) <|
  Tc (sd_istore_n dJ6_bitCount_0f7a4_9) <|
  Tc (sd_iload_n dJ6_bitCount_0f7a4_10) <|
  Tc (sd_ldcw rfl w_ci_J6_266 dJ6_bitCount_0f7a4_11) <|
  Tc (sd_iand dJ6_bitCount_0f7a4_14) <|
  Tc (sd_iload_n dJ6_bitCount_0f7a4_15) <|
  Tc (sd_iconst rfl dJ6_bitCount_0f7a4_16) <|
  Tc (sd_iushr dJ6_bitCount_0f7a4_17) <|
  Tc (sd_ldcw rfl w_ci_J6_266 dJ6_bitCount_0f7a4_18) <|
  Tc (sd_iand dJ6_bitCount_0f7a4_21) <|
  Tc (sd_iadd dJ6_bitCount_0f7a4_22) <|
  Tc (sd_istore_n dJ6_bitCount_0f7a4_23) <|
  Tc (sd_iload_n dJ6_bitCount_0f7a4_24) <|
  Tc (sd_iload_n dJ6_bitCount_0f7a4_25) <|
  Tc (sd_iconst rfl dJ6_bitCount_0f7a4_26) <|
  Tc (sd_iushr dJ6_bitCount_0f7a4_27) <|
  Tc (sd_iadd dJ6_bitCount_0f7a4_28) <|
  Tc (sd_ldcw rfl w_ci_J6_267 dJ6_bitCount_0f7a4_29) <|
  Tc (sd_iand dJ6_bitCount_0f7a4_32) <|
  Tc (sd_istore_n dJ6_bitCount_0f7a4_33) <|
  Tc (sd_iload_n dJ6_bitCount_0f7a4_34) <|
  Tc (sd_iload_n dJ6_bitCount_0f7a4_35) <|
  Tc (sd_bipush (by decide +kernel) dJ6_bitCount_0f7a4_36) <|
  Tc (sd_iushr dJ6_bitCount_0f7a4_38) <|
  Tc (sd_iadd dJ6_bitCount_0f7a4_39) <|
  Tc (sd_istore_n dJ6_bitCount_0f7a4_40) <|
  Tc (sd_iload_n dJ6_bitCount_0f7a4_41) <|
  Tc (sd_iload_n dJ6_bitCount_0f7a4_42) <|
  Tc (sd_bipush (by decide +kernel) dJ6_bitCount_0f7a4_43) <|
  Tc (sd_iushr dJ6_bitCount_0f7a4_45) <|
  Tc (sd_iadd dJ6_bitCount_0f7a4_46) <|
  Tc (sd_istore_n dJ6_bitCount_0f7a4_47) <|
  Tc (sd_iload_n dJ6_bitCount_0f7a4_48) <|
  Tc (sd_bipush (by decide +kernel) dJ6_bitCount_0f7a4_49) <|
  Tc (sd_iand dJ6_bitCount_0f7a4_51) <|
  Tn
theorem rk_J6_bitCount_0f7a4 : Rok mi_J6_bitCount_0f7a4 rI [52] := rk_i dJ6_bitCount_0f7a4_52 <| rk_n
def rx_J6_bitCount_0f7a4 : Nat → Nat → AL → List AV → List AC → Option (Option AV × List AC) := am_r tb_J6_bitCount_0f7a4 rI [52]
theorem rs_J6_bitCount_0f7a4_0 (n : Nat) (L : AL) (st : List AV) (M : List AC) : rx_J6_bitCount_0f7a4 (n + 1) 0 L st M = am_j (rx_J6_bitCount_0f7a4 n) ((tIld 0 1) 0 L st M) := rfl
theorem rs_J6_bitCount_0f7a4_1 (n : Nat) (L : AL) (st : List AV) (M : List AC) : rx_J6_bitCount_0f7a4 (n + 1) 1 L st M = am_j (rx_J6_bitCount_0f7a4 n) ((tIld 0 1) 1 L st M) := rfl
theorem rs_J6_bitCount_0f7a4_2 (n : Nat) (L : AL) (st : List AV) (M : List AC) : rx_J6_bitCount_0f7a4 (n + 1) 2 L st M = am_j (rx_J6_bitCount_0f7a4 n) ((tIc 1 1) 2 L st M) := rfl
theorem rs_J6_bitCount_0f7a4_3 (n : Nat) (L : AL) (st : List AV) (M : List AC) : rx_J6_bitCount_0f7a4 (n + 1) 3 L st M = am_j (rx_J6_bitCount_0f7a4 n) ((tI2 oUshr) 3 L st M) := rfl
theorem rs_J6_bitCount_0f7a4_4 (n : Nat) (L : AL) (st : List AV) (M : List AC) : rx_J6_bitCount_0f7a4 (n + 1) 4 L st M = am_j (rx_J6_bitCount_0f7a4 n) ((tIc 1431655765 3) 4 L st M) := rfl
theorem rs_J6_bitCount_0f7a4_7 (n : Nat) (L : AL) (st : List AV) (M : List AC) : rx_J6_bitCount_0f7a4 (n + 1) 7 L st M = am_j (rx_J6_bitCount_0f7a4 n) ((tI2 oAnd) 7 L st M) := rfl
theorem rs_J6_bitCount_0f7a4_8 (n : Nat) (L : AL) (st : List AV) (M : List AC) : rx_J6_bitCount_0f7a4 (n + 1) 8 L st M = am_j (rx_J6_bitCount_0f7a4 n) ((tI2 (fun a b => a - b)) 8 L st M) := rfl
theorem rs_J6_bitCount_0f7a4_9 (n : Nat) (L : AL) (st : List AV) (M : List AC) : rx_J6_bitCount_0f7a4 (n + 1) 9 L st M = am_j (rx_J6_bitCount_0f7a4 n) ((tIst 0 1) 9 L st M) := rfl
theorem rs_J6_bitCount_0f7a4_10 (n : Nat) (L : AL) (st : List AV) (M : List AC) : rx_J6_bitCount_0f7a4 (n + 1) 10 L st M = am_j (rx_J6_bitCount_0f7a4 n) ((tIld 0 1) 10 L st M) := rfl
theorem rs_J6_bitCount_0f7a4_11 (n : Nat) (L : AL) (st : List AV) (M : List AC) : rx_J6_bitCount_0f7a4 (n + 1) 11 L st M = am_j (rx_J6_bitCount_0f7a4 n) ((tIc 858993459 3) 11 L st M) := rfl
theorem rs_J6_bitCount_0f7a4_14 (n : Nat) (L : AL) (st : List AV) (M : List AC) : rx_J6_bitCount_0f7a4 (n + 1) 14 L st M = am_j (rx_J6_bitCount_0f7a4 n) ((tI2 oAnd) 14 L st M) := rfl
theorem rs_J6_bitCount_0f7a4_15 (n : Nat) (L : AL) (st : List AV) (M : List AC) : rx_J6_bitCount_0f7a4 (n + 1) 15 L st M = am_j (rx_J6_bitCount_0f7a4 n) ((tIld 0 1) 15 L st M) := rfl
theorem rs_J6_bitCount_0f7a4_16 (n : Nat) (L : AL) (st : List AV) (M : List AC) : rx_J6_bitCount_0f7a4 (n + 1) 16 L st M = am_j (rx_J6_bitCount_0f7a4 n) ((tIc 2 1) 16 L st M) := rfl
theorem rs_J6_bitCount_0f7a4_17 (n : Nat) (L : AL) (st : List AV) (M : List AC) : rx_J6_bitCount_0f7a4 (n + 1) 17 L st M = am_j (rx_J6_bitCount_0f7a4 n) ((tI2 oUshr) 17 L st M) := rfl
theorem rs_J6_bitCount_0f7a4_18 (n : Nat) (L : AL) (st : List AV) (M : List AC) : rx_J6_bitCount_0f7a4 (n + 1) 18 L st M = am_j (rx_J6_bitCount_0f7a4 n) ((tIc 858993459 3) 18 L st M) := rfl
theorem rs_J6_bitCount_0f7a4_21 (n : Nat) (L : AL) (st : List AV) (M : List AC) : rx_J6_bitCount_0f7a4 (n + 1) 21 L st M = am_j (rx_J6_bitCount_0f7a4 n) ((tI2 oAnd) 21 L st M) := rfl
theorem rs_J6_bitCount_0f7a4_22 (n : Nat) (L : AL) (st : List AV) (M : List AC) : rx_J6_bitCount_0f7a4 (n + 1) 22 L st M = am_j (rx_J6_bitCount_0f7a4 n) ((tI2 (fun a b => a + b)) 22 L st M) := rfl
theorem rs_J6_bitCount_0f7a4_23 (n : Nat) (L : AL) (st : List AV) (M : List AC) : rx_J6_bitCount_0f7a4 (n + 1) 23 L st M = am_j (rx_J6_bitCount_0f7a4 n) ((tIst 0 1) 23 L st M) := rfl
theorem rs_J6_bitCount_0f7a4_24 (n : Nat) (L : AL) (st : List AV) (M : List AC) : rx_J6_bitCount_0f7a4 (n + 1) 24 L st M = am_j (rx_J6_bitCount_0f7a4 n) ((tIld 0 1) 24 L st M) := rfl
theorem rs_J6_bitCount_0f7a4_25 (n : Nat) (L : AL) (st : List AV) (M : List AC) : rx_J6_bitCount_0f7a4 (n + 1) 25 L st M = am_j (rx_J6_bitCount_0f7a4 n) ((tIld 0 1) 25 L st M) := rfl
theorem rs_J6_bitCount_0f7a4_26 (n : Nat) (L : AL) (st : List AV) (M : List AC) : rx_J6_bitCount_0f7a4 (n + 1) 26 L st M = am_j (rx_J6_bitCount_0f7a4 n) ((tIc 4 1) 26 L st M) := rfl
theorem rs_J6_bitCount_0f7a4_27 (n : Nat) (L : AL) (st : List AV) (M : List AC) : rx_J6_bitCount_0f7a4 (n + 1) 27 L st M = am_j (rx_J6_bitCount_0f7a4 n) ((tI2 oUshr) 27 L st M) := rfl
theorem rs_J6_bitCount_0f7a4_28 (n : Nat) (L : AL) (st : List AV) (M : List AC) : rx_J6_bitCount_0f7a4 (n + 1) 28 L st M = am_j (rx_J6_bitCount_0f7a4 n) ((tI2 (fun a b => a + b)) 28 L st M) := rfl
theorem rs_J6_bitCount_0f7a4_29 (n : Nat) (L : AL) (st : List AV) (M : List AC) : rx_J6_bitCount_0f7a4 (n + 1) 29 L st M = am_j (rx_J6_bitCount_0f7a4 n) ((tIc 252645135 3) 29 L st M) := rfl
theorem rs_J6_bitCount_0f7a4_32 (n : Nat) (L : AL) (st : List AV) (M : List AC) : rx_J6_bitCount_0f7a4 (n + 1) 32 L st M = am_j (rx_J6_bitCount_0f7a4 n) ((tI2 oAnd) 32 L st M) := rfl
theorem rs_J6_bitCount_0f7a4_33 (n : Nat) (L : AL) (st : List AV) (M : List AC) : rx_J6_bitCount_0f7a4 (n + 1) 33 L st M = am_j (rx_J6_bitCount_0f7a4 n) ((tIst 0 1) 33 L st M) := rfl
theorem rs_J6_bitCount_0f7a4_34 (n : Nat) (L : AL) (st : List AV) (M : List AC) : rx_J6_bitCount_0f7a4 (n + 1) 34 L st M = am_j (rx_J6_bitCount_0f7a4 n) ((tIld 0 1) 34 L st M) := rfl
theorem rs_J6_bitCount_0f7a4_35 (n : Nat) (L : AL) (st : List AV) (M : List AC) : rx_J6_bitCount_0f7a4 (n + 1) 35 L st M = am_j (rx_J6_bitCount_0f7a4 n) ((tIld 0 1) 35 L st M) := rfl
theorem rs_J6_bitCount_0f7a4_36 (n : Nat) (L : AL) (st : List AV) (M : List AC) : rx_J6_bitCount_0f7a4 (n + 1) 36 L st M = am_j (rx_J6_bitCount_0f7a4 n) ((tIc 8 2) 36 L st M) := rfl
theorem rs_J6_bitCount_0f7a4_38 (n : Nat) (L : AL) (st : List AV) (M : List AC) : rx_J6_bitCount_0f7a4 (n + 1) 38 L st M = am_j (rx_J6_bitCount_0f7a4 n) ((tI2 oUshr) 38 L st M) := rfl
theorem rs_J6_bitCount_0f7a4_39 (n : Nat) (L : AL) (st : List AV) (M : List AC) : rx_J6_bitCount_0f7a4 (n + 1) 39 L st M = am_j (rx_J6_bitCount_0f7a4 n) ((tI2 (fun a b => a + b)) 39 L st M) := rfl
theorem rs_J6_bitCount_0f7a4_40 (n : Nat) (L : AL) (st : List AV) (M : List AC) : rx_J6_bitCount_0f7a4 (n + 1) 40 L st M = am_j (rx_J6_bitCount_0f7a4 n) ((tIst 0 1) 40 L st M) := rfl
theorem rs_J6_bitCount_0f7a4_41 (n : Nat) (L : AL) (st : List AV) (M : List AC) : rx_J6_bitCount_0f7a4 (n + 1) 41 L st M = am_j (rx_J6_bitCount_0f7a4 n) ((tIld 0 1) 41 L st M) := rfl
theorem rs_J6_bitCount_0f7a4_42 (n : Nat) (L : AL) (st : List AV) (M : List AC) : rx_J6_bitCount_0f7a4 (n + 1) 42 L st M = am_j (rx_J6_bitCount_0f7a4 n) ((tIld 0 1) 42 L st M) := rfl
theorem rs_J6_bitCount_0f7a4_43 (n : Nat) (L : AL) (st : List AV) (M : List AC) : rx_J6_bitCount_0f7a4 (n + 1) 43 L st M = am_j (rx_J6_bitCount_0f7a4 n) ((tIc 16 2) 43 L st M) := rfl
theorem rs_J6_bitCount_0f7a4_45 (n : Nat) (L : AL) (st : List AV) (M : List AC) : rx_J6_bitCount_0f7a4 (n + 1) 45 L st M = am_j (rx_J6_bitCount_0f7a4 n) ((tI2 oUshr) 45 L st M) := rfl
theorem rs_J6_bitCount_0f7a4_46 (n : Nat) (L : AL) (st : List AV) (M : List AC) : rx_J6_bitCount_0f7a4 (n + 1) 46 L st M = am_j (rx_J6_bitCount_0f7a4 n) ((tI2 (fun a b => a + b)) 46 L st M) := rfl
theorem rs_J6_bitCount_0f7a4_47 (n : Nat) (L : AL) (st : List AV) (M : List AC) : rx_J6_bitCount_0f7a4 (n + 1) 47 L st M = am_j (rx_J6_bitCount_0f7a4 n) ((tIst 0 1) 47 L st M) := rfl
theorem rs_J6_bitCount_0f7a4_48 (n : Nat) (L : AL) (st : List AV) (M : List AC) : rx_J6_bitCount_0f7a4 (n + 1) 48 L st M = am_j (rx_J6_bitCount_0f7a4 n) ((tIld 0 1) 48 L st M) := rfl
theorem rs_J6_bitCount_0f7a4_49 (n : Nat) (L : AL) (st : List AV) (M : List AC) : rx_J6_bitCount_0f7a4 (n + 1) 49 L st M = am_j (rx_J6_bitCount_0f7a4 n) ((tIc 63 2) 49 L st M) := rfl
theorem rs_J6_bitCount_0f7a4_51 (n : Nat) (L : AL) (st : List AV) (M : List AC) : rx_J6_bitCount_0f7a4 (n + 1) 51 L st M = am_j (rx_J6_bitCount_0f7a4 n) ((tI2 oAnd) 51 L st M) := rfl
theorem rs_J6_bitCount_0f7a4_52 (n : Nat) (L : AL) (st : List AV) (M : List AC) : rx_J6_bitCount_0f7a4 (n + 1) 52 L st M = am_e rI st M := rfl
theorem ri_J6_bitCount_0f7a4 (c : Prop) [Decidable c] (p q n : Nat) (L : AL) (st : List AV) (M : List AC) : rx_J6_bitCount_0f7a4 n (if c then p else q) L st M = if c then rx_J6_bitCount_0f7a4 n p L st M else rx_J6_bitCount_0f7a4 n q L st M := by split <;> rfl
theorem rm_J6_bitCount_0f7a4 {n k pc : Nat} {L : AL} {st : List AV} {M : List AC} {x : Option AV × List AC} (h : rx_J6_bitCount_0f7a4 n pc L st M = some x) (hk : n ≤ k) : rx_J6_bitCount_0f7a4 k pc L st M = some x := am_r_mono n k h hk
def fn_J6_bitCount_0f7a4 : Fn := am_fn rx_J6_bitCount_0f7a4 1
theorem fok_J6_bitCount_0f7a4 : Fok mi_J6_bitCount_0f7a4 fn_J6_bitCount_0f7a4 := fun _ _ _ _ h => am_fok ok_J6_bitCount_0f7a4 rk_J6_bitCount_0f7a4 rfl h
theorem sp_J6_bitCount (n : Int) (hn : 0 ≤ n ∧ n < 16) (M : List AC) : fn_J6_bitCount_0f7a4 [vI n] M = some (some (vI (n % 2 + n / 2 % 2 + n / 4 % 2 + n / 8 % 2)), M) := by
  obtain rfl | rfl | rfl | rfl | rfl | rfl | rfl | rfl | rfl | rfl | rfl | rfl | rfl | rfl | rfl | rfl : n = 0 ∨ n = 1 ∨ n = 2 ∨ n = 3 ∨ n = 4 ∨ n = 5 ∨ n = 6 ∨ n = 7 ∨ n = 8 ∨ n = 9 ∨ n = 10 ∨ n = 11 ∨ n = 12 ∨ n = 13 ∨ n = 14 ∨ n = 15 := by omega
  all_goals
    (refine am_fnI (tb := tb_J6_bitCount_0f7a4) (n := 60) (Nat.le_of_ble_eq_true rfl) (Nat.le_of_ble_eq_true rfl) ?_; show rx_J6_bitCount_0f7a4 60 0 _ _ _ = _)
    simp [↓ri_J6_bitCount_0f7a4, rs_J6_bitCount_0f7a4_0, rs_J6_bitCount_0f7a4_1, rs_J6_bitCount_0f7a4_2, rs_J6_bitCount_0f7a4_3, rs_J6_bitCount_0f7a4_4, rs_J6_bitCount_0f7a4_7, rs_J6_bitCount_0f7a4_8, rs_J6_bitCount_0f7a4_9, rs_J6_bitCount_0f7a4_10, rs_J6_bitCount_0f7a4_11, rs_J6_bitCount_0f7a4_14, rs_J6_bitCount_0f7a4_15, rs_J6_bitCount_0f7a4_16, rs_J6_bitCount_0f7a4_17, rs_J6_bitCount_0f7a4_18, rs_J6_bitCount_0f7a4_21, rs_J6_bitCount_0f7a4_22, rs_J6_bitCount_0f7a4_23, rs_J6_bitCount_0f7a4_24, rs_J6_bitCount_0f7a4_25, rs_J6_bitCount_0f7a4_26, rs_J6_bitCount_0f7a4_27, rs_J6_bitCount_0f7a4_28, rs_J6_bitCount_0f7a4_29, rs_J6_bitCount_0f7a4_32, rs_J6_bitCount_0f7a4_33, rs_J6_bitCount_0f7a4_34, rs_J6_bitCount_0f7a4_35, rs_J6_bitCount_0f7a4_36, rs_J6_bitCount_0f7a4_38, rs_J6_bitCount_0f7a4_39, rs_J6_bitCount_0f7a4_40, rs_J6_bitCount_0f7a4_41, rs_J6_bitCount_0f7a4_42, rs_J6_bitCount_0f7a4_43, rs_J6_bitCount_0f7a4_45, rs_J6_bitCount_0f7a4_46, rs_J6_bitCount_0f7a4_47, rs_J6_bitCount_0f7a4_48, rs_J6_bitCount_0f7a4_49, rs_J6_bitCount_0f7a4_51, rs_J6_bitCount_0f7a4_52, -List.getElem?_eq_getElem, am_js, am_e, am_in, am_sl, rI, rZ, rV, rJ, rA, rC, kI, kJ, kR, am_one, am_nl, am_w8, tIc, tLc, tNul, tIld, tLld, tAld, tIst, tLst, tAst, tIinc, tI2, tDv, tL2, tLrem, tLs, tLcmp, tI2l, tL2i, tI2c, tDup, tDup2, tPop, tGo, tIfeq, tIfne, tIflt, tIfge, tIfgt, tIfle, tCmeq, tCmne, tCmlt, tCmge, tCmgt, tCmle, tNu, tTs, tGf, tPf, tGs, tIal, tIas, tBal, tBas, tAln, tSv, tSc, tSb, tSl, tSk, tCv, tCs, tCt, tMx, tMn, wr_10000, wr_100000, wr_1000000, wr_10000000, wr_100000000, wr_2400, wr_9999, wr_0, wr_1, wr_2, wr_3, wr_4, wr_5, wr_6, wr_7, wr_8, wr_9, wr_10, wr_11, wr_12, wr_13, wr_14, wr_15, wr_16, wr_17, wr_18, wr_19, wr_20, wr_21, wr_22, wr_23, wr_24, wr_25, wr_26, wr_27, wr_28, wr_29, wr_30, wr_31, wr_32, wr_33, wr_34, wr_35, wr_36, wr_37, wr_38, wr_39, wr_40, wr_41, wr_42, wr_43, wr_44, wr_45, wr_46, wr_47, wr_48, wr_49, wr_50, wr_51, wr_52, wr_53, wr_54, wr_55, wr_56, wr_57, wr_58, wr_59, wr_60, wr_61, wr_62, wr_63, wr_99, wr_100, wr_192, wr_255, wr_256, wr_343, wr_999, wr_1000, wr_2401, wr_2147483647, wr_65535, wr_m1, wr_m2, wr_m3, wr_m4, wr_m9, ak_1000, ak_1001, ak_1002, ak_0, ak_1, ak_2, ak_3, ak_4, ak_5, ak_6, ak_7, ak_8, ak_9, ak_10, ak_11, ak_12, ak_13, ak_14, ak_15, ak_16, ak_17, ak_18, ak_19, ak_20, ak_21, ak_22, ak_23, ak_24, ak_25, ak_26, ak_27, ak_28, ak_29, ak_30, ak_31, ak_32, ak_33, ak_34, ak_35, ak_36, ak_37, ak_38, ak_39, ak_40, ak_41, ak_42, ak_43, ak_44, ak_45, ak_46, ak_47]
    decide +kernel
def on1 (x : Int) (w : Int) : Int := if 0 < x then w else 0
def onb (d : F4) : Int := on1 d.1 1 + on1 d.2.1 2 + on1 d.2.2.1 4 + on1 d.2.2.2 8
def onc (d : F4) : Int := on1 d.1 1 + on1 d.2.1 1 + on1 d.2.2.1 1 + on1 d.2.2.2 1
theorem or_b : ∀ a : Fin 16, ∀ b : Fin 16, a.val &&& b.val = 0 → oOr a.val b.val = a.val + b.val := by decide +kernel
theorem shl_0 : oShl 1 0 = 1 := by decide +kernel
theorem shl_1 : oShl 1 1 = 2 := by decide +kernel
theorem shl_2 : oShl 1 2 = 4 := by decide +kernel
theorem shl_3 : oShl 1 3 = 8 := by decide +kernel
theorem onb_or (d : F4) : oOr (oOr (oOr (oOr 0 (on1 d.1 1)) (on1 d.2.1 2)) (on1 d.2.2.1 4)) (on1 d.2.2.2 8) = onb d := by
  unfold onb on1
  split <;> split <;> split <;> split <;> decide +kernel
abbrev mi_X4_onBits : Mi := (yX4_onBits, cX4_onBits, 3, some .int, 1)
theorem mf_X4_onBits : am_mf mi_X4_onBits 0 := ⟨w_co_X4_onBits, w_in_X4, ⟨by decide +kernel, by decide +kernel⟩, by decide +kernel, by decide⟩
def tb_X4_onBits : List (Nat × Tr) := [(0, tIc 0 1), (1, tIst 1 1), (2, tIc 0 1), (3, tIst 2 1), (4, tIld 2 1), (5, tIc 4 1), (6, tCmge 34), (9, tIld 1 1), (10, tAld 0 1), (11, tGf 4 3), (14, tIld 2 1), (15, tIal), (16, tIfle 25), (19, tIc 1 1), (20, tIld 2 1), (21, tI2 oShl), (22, tGo 26), (25, tIc 0 1), (26, tI2 oOr), (27, tIst 1 1), (28, tIinc 2 1), (31, tGo 4), (34, tIld 1 1)]
theorem ok_X4_onBits : Tok mi_X4_onBits tb_X4_onBits :=
  Tc (sd_iconst rfl dX4_onBits_0) <|
  Tc (sd_istore_n dX4_onBits_1) <|
  Tc (sd_iconst rfl dX4_onBits_2) <|
  Tc (sd_istore_n dX4_onBits_3) <|
  Tc (sd_iload_n dX4_onBits_4) <|
  Tc (sd_iconst rfl dX4_onBits_5) <|
  Tc (sd_cm_ge (by decide) dX4_onBits_6) <|
  Tc (sd_iload_n dX4_onBits_9) <|
  Tc (sd_aload_n dX4_onBits_10) <|
  Tc (sd_getf (T := TX4) rfl giX4 (by decide) w_fl_X4_22 dX4_onBits_11) <|
  Tc (sd_iload_n dX4_onBits_14) <|
  Tc (sd_ial dX4_onBits_15) <|
  Tc (sd_if_le (by decide) dX4_onBits_16) <|
  Tc (sd_iconst rfl dX4_onBits_19) <|
  Tc (sd_iload_n dX4_onBits_20) <|
  Tc (sd_ishl dX4_onBits_21) <|
  Tc (sd_goto (by decide) dX4_onBits_22) <|
  Tc (sd_iconst rfl dX4_onBits_25) <|
  Tc (sd_ior dX4_onBits_26) <|
  Tc (sd_istore_n dX4_onBits_27) <|
  Tc (sd_iinc dX4_onBits_28) <|
  Tc (sd_goto (by decide) dX4_onBits_31) <|
  Tc (sd_iload_n dX4_onBits_34) <|
  Tn
theorem rk_X4_onBits : Rok mi_X4_onBits rI [35] := rk_i dX4_onBits_35 <| rk_n
def rx_X4_onBits : Nat → Nat → AL → List AV → List AC → Option (Option AV × List AC) := am_r tb_X4_onBits rI [35]
theorem rs_X4_onBits_0 (n : Nat) (L : AL) (st : List AV) (M : List AC) : rx_X4_onBits (n + 1) 0 L st M = am_j (rx_X4_onBits n) ((tIc 0 1) 0 L st M) := rfl
theorem rs_X4_onBits_1 (n : Nat) (L : AL) (st : List AV) (M : List AC) : rx_X4_onBits (n + 1) 1 L st M = am_j (rx_X4_onBits n) ((tIst 1 1) 1 L st M) := rfl
theorem rs_X4_onBits_2 (n : Nat) (L : AL) (st : List AV) (M : List AC) : rx_X4_onBits (n + 1) 2 L st M = am_j (rx_X4_onBits n) ((tIc 0 1) 2 L st M) := rfl
theorem rs_X4_onBits_3 (n : Nat) (L : AL) (st : List AV) (M : List AC) : rx_X4_onBits (n + 1) 3 L st M = am_j (rx_X4_onBits n) ((tIst 2 1) 3 L st M) := rfl
theorem rs_X4_onBits_4 (n : Nat) (L : AL) (st : List AV) (M : List AC) : rx_X4_onBits (n + 1) 4 L st M = am_j (rx_X4_onBits n) ((tIld 2 1) 4 L st M) := rfl
theorem rs_X4_onBits_5 (n : Nat) (L : AL) (st : List AV) (M : List AC) : rx_X4_onBits (n + 1) 5 L st M = am_j (rx_X4_onBits n) ((tIc 4 1) 5 L st M) := rfl
theorem rs_X4_onBits_6 (n : Nat) (L : AL) (st : List AV) (M : List AC) : rx_X4_onBits (n + 1) 6 L st M = am_j (rx_X4_onBits n) ((tCmge 34) 6 L st M) := rfl
theorem rs_X4_onBits_9 (n : Nat) (L : AL) (st : List AV) (M : List AC) : rx_X4_onBits (n + 1) 9 L st M = am_j (rx_X4_onBits n) ((tIld 1 1) 9 L st M) := rfl
theorem rs_X4_onBits_10 (n : Nat) (L : AL) (st : List AV) (M : List AC) : rx_X4_onBits (n + 1) 10 L st M = am_j (rx_X4_onBits n) ((tAld 0 1) 10 L st M) := rfl
theorem rs_X4_onBits_11 (n : Nat) (L : AL) (st : List AV) (M : List AC) : rx_X4_onBits (n + 1) 11 L st M = am_j (rx_X4_onBits n) ((tGf 4 3) 11 L st M) := rfl
theorem rs_X4_onBits_14 (n : Nat) (L : AL) (st : List AV) (M : List AC) : rx_X4_onBits (n + 1) 14 L st M = am_j (rx_X4_onBits n) ((tIld 2 1) 14 L st M) := rfl
theorem rs_X4_onBits_15 (n : Nat) (L : AL) (st : List AV) (M : List AC) : rx_X4_onBits (n + 1) 15 L st M = am_j (rx_X4_onBits n) (tIal 15 L st M) := rfl
theorem rs_X4_onBits_16 (n : Nat) (L : AL) (st : List AV) (M : List AC) : rx_X4_onBits (n + 1) 16 L st M = am_j (rx_X4_onBits n) ((tIfle 25) 16 L st M) := rfl
theorem rs_X4_onBits_19 (n : Nat) (L : AL) (st : List AV) (M : List AC) : rx_X4_onBits (n + 1) 19 L st M = am_j (rx_X4_onBits n) ((tIc 1 1) 19 L st M) := rfl
theorem rs_X4_onBits_20 (n : Nat) (L : AL) (st : List AV) (M : List AC) : rx_X4_onBits (n + 1) 20 L st M = am_j (rx_X4_onBits n) ((tIld 2 1) 20 L st M) := rfl
theorem rs_X4_onBits_21 (n : Nat) (L : AL) (st : List AV) (M : List AC) : rx_X4_onBits (n + 1) 21 L st M = am_j (rx_X4_onBits n) ((tI2 oShl) 21 L st M) := rfl
theorem rs_X4_onBits_22 (n : Nat) (L : AL) (st : List AV) (M : List AC) : rx_X4_onBits (n + 1) 22 L st M = am_j (rx_X4_onBits n) ((tGo 26) 22 L st M) := rfl
theorem rs_X4_onBits_25 (n : Nat) (L : AL) (st : List AV) (M : List AC) : rx_X4_onBits (n + 1) 25 L st M = am_j (rx_X4_onBits n) ((tIc 0 1) 25 L st M) := rfl
theorem rs_X4_onBits_26 (n : Nat) (L : AL) (st : List AV) (M : List AC) : rx_X4_onBits (n + 1) 26 L st M = am_j (rx_X4_onBits n) ((tI2 oOr) 26 L st M) := rfl
theorem rs_X4_onBits_27 (n : Nat) (L : AL) (st : List AV) (M : List AC) : rx_X4_onBits (n + 1) 27 L st M = am_j (rx_X4_onBits n) ((tIst 1 1) 27 L st M) := rfl
theorem rs_X4_onBits_28 (n : Nat) (L : AL) (st : List AV) (M : List AC) : rx_X4_onBits (n + 1) 28 L st M = am_j (rx_X4_onBits n) ((tIinc 2 1) 28 L st M) := rfl
theorem rs_X4_onBits_31 (n : Nat) (L : AL) (st : List AV) (M : List AC) : rx_X4_onBits (n + 1) 31 L st M = am_j (rx_X4_onBits n) ((tGo 4) 31 L st M) := rfl
theorem rs_X4_onBits_34 (n : Nat) (L : AL) (st : List AV) (M : List AC) : rx_X4_onBits (n + 1) 34 L st M = am_j (rx_X4_onBits n) ((tIld 1 1) 34 L st M) := rfl
theorem rs_X4_onBits_35 (n : Nat) (L : AL) (st : List AV) (M : List AC) : rx_X4_onBits (n + 1) 35 L st M = am_e rI st M := rfl
theorem ri_X4_onBits (c : Prop) [Decidable c] (p q n : Nat) (L : AL) (st : List AV) (M : List AC) : rx_X4_onBits n (if c then p else q) L st M = if c then rx_X4_onBits n p L st M else rx_X4_onBits n q L st M := by split <;> rfl
theorem rm_X4_onBits {n k pc : Nat} {L : AL} {st : List AV} {M : List AC} {x : Option AV × List AC} (h : rx_X4_onBits n pc L st M = some x) (hk : n ≤ k) : rx_X4_onBits k pc L st M = some x := am_r_mono n k h hk
def fn_X4_onBits : Fn := am_fn rx_X4_onBits 3
theorem fok_X4_onBits : Fok mi_X4_onBits fn_X4_onBits := fun _ _ _ _ h => am_fok ok_X4_onBits rk_X4_onBits rfl h
theorem sp_X4_onBits {M : List AC} {k : Nat} {st : Int} {g s d b : F4} (hs : HS M k st g s d b) (hr : i4 0 6 d) : fn_X4_onBits [vR k] M = some (some (vI (onb d)), M) := by
  obtain ⟨hk, h0, h1, h2, h3, h4⟩ := id hs
  obtain ⟨n1, n2, n3, n4⟩ := hs.nk
  obtain ⟨wd0, wd1, wd2, wd3⟩ := i4_wr hr (by decide) (by decide)
  rw [← onb_or]
  unfold on1
  (refine am_fnI (tb := tb_X4_onBits) (n := 150) (Nat.le_of_ble_eq_true rfl) (Nat.le_of_ble_eq_true rfl) ?_; show rx_X4_onBits 150 0 _ _ _ = _)
  rcases ps d.1 with ⟨a0, b0⟩ | ⟨a0, b0⟩ <;> rcases ps d.2.1 with ⟨a1, b1⟩ | ⟨a1, b1⟩ <;> rcases ps d.2.2.1 with ⟨a2, b2⟩ | ⟨a2, b2⟩ <;> rcases ps d.2.2.2 with ⟨a3, b3⟩ | ⟨a3, b3⟩ <;>
  simp [↓ri_X4_onBits, rs_X4_onBits_0, rs_X4_onBits_1, rs_X4_onBits_2, rs_X4_onBits_3, rs_X4_onBits_4, rs_X4_onBits_5, rs_X4_onBits_6, rs_X4_onBits_9, rs_X4_onBits_10, rs_X4_onBits_11, rs_X4_onBits_14, rs_X4_onBits_15, rs_X4_onBits_16, rs_X4_onBits_19, rs_X4_onBits_20, rs_X4_onBits_21, rs_X4_onBits_22, rs_X4_onBits_25, rs_X4_onBits_26, rs_X4_onBits_27, rs_X4_onBits_28, rs_X4_onBits_31, rs_X4_onBits_34, rs_X4_onBits_35, -List.getElem?_eq_getElem, am_js, am_e, am_in, am_sl, rI, rZ, rV, rJ, rA, rC, kI, kJ, kR, am_one, am_nl, am_w8, tIc, tLc, tNul, tIld, tLld, tAld, tIst, tLst, tAst, tIinc, tI2, tDv, tL2, tLrem, tLs, tLcmp, tI2l, tL2i, tI2c, tDup, tDup2, tPop, tGo, tIfeq, tIfne, tIflt, tIfge, tIfgt, tIfle, tCmeq, tCmne, tCmlt, tCmge, tCmgt, tCmle, tNu, tTs, tGf, tPf, tGs, tIal, tIas, tBal, tBas, tAln, tSv, tSc, tSb, tSl, tSk, tCv, tCs, tCt, tMx, tMn, wr_10000, wr_100000, wr_1000000, wr_10000000, wr_100000000, wr_2400, wr_9999, wr_0, wr_1, wr_2, wr_3, wr_4, wr_5, wr_6, wr_7, wr_8, wr_9, wr_10, wr_11, wr_12, wr_13, wr_14, wr_15, wr_16, wr_17, wr_18, wr_19, wr_20, wr_21, wr_22, wr_23, wr_24, wr_25, wr_26, wr_27, wr_28, wr_29, wr_30, wr_31, wr_32, wr_33, wr_34, wr_35, wr_36, wr_37, wr_38, wr_39, wr_40, wr_41, wr_42, wr_43, wr_44, wr_45, wr_46, wr_47, wr_48, wr_49, wr_50, wr_51, wr_52, wr_53, wr_54, wr_55, wr_56, wr_57, wr_58, wr_59, wr_60, wr_61, wr_62, wr_63, wr_99, wr_100, wr_192, wr_255, wr_256, wr_343, wr_999, wr_1000, wr_2401, wr_2147483647, wr_65535, wr_m1, wr_m2, wr_m3, wr_m4, wr_m9, ak_1000, ak_1001, ak_1002, ak_0, ak_1, ak_2, ak_3, ak_4, ak_5, ak_6, ak_7, ak_8, ak_9, ak_10, ak_11, ak_12, ak_13, ak_14, ak_15, ak_16, ak_17, ak_18, ak_19, ak_20, ak_21, ak_22, ak_23, ak_24, ak_25, ak_26, ak_27, ak_28, ak_29, ak_30, ak_31, ak_32, ak_33, ak_34, ak_35, ak_36, ak_37, ak_38, ak_39, ak_40, ak_41, ak_42, ak_43, ak_44, ak_45, ak_46, ak_47, h0, h3, n3, wd0, wd1, wd2, wd3, a0, a1, a2, a3, b0, b1, b2, b3, shl_0, shl_1, shl_2, shl_3]
abbrev mi_X4_cornersOn : Mi := (yX4_cornersOn, cX4_cornersOn, 1, some .int, 2)
theorem mf_X4_cornersOn : am_mf mi_X4_cornersOn 0 := ⟨w_co_X4_cornersOn, w_in_X4, ⟨by decide +kernel, by decide +kernel⟩, by decide +kernel, by decide⟩
def tb_X4_cornersOn : List (Nat × Tr) := [(0, tAld 0 1), (1, tCv 4 0 fn_X4_onBits), (4, tCs 1 fn_J6_bitCount_0f7a4)]
theorem ok_X4_cornersOn : Tok mi_X4_cornersOn tb_X4_cornersOn :=
  Tc (sd_aload_n dX4_cornersOn_0) <|
  Tc (sd_cv (T := TX4) fok_X4_onBits mf_X4_onBits rfl w_ml_X4_46 w_im_X4_onBits w_se_X4_onBits (by decide) dX4_cornersOn_1) <|
  Tc (sd_cs fok_J6_bitCount_0f7a4 mf_J6_bitCount_0f7a4 w_ml_X4_49 w_st_J6_bitCount_0f7a4 (by decide) dX4_cornersOn_4) <|
  Tn
theorem rk_X4_cornersOn : Rok mi_X4_cornersOn rI [7] := rk_i dX4_cornersOn_7 <| rk_n
def rx_X4_cornersOn : Nat → Nat → AL → List AV → List AC → Option (Option AV × List AC) := am_r tb_X4_cornersOn rI [7]
theorem rs_X4_cornersOn_0 (n : Nat) (L : AL) (st : List AV) (M : List AC) : rx_X4_cornersOn (n + 1) 0 L st M = am_j (rx_X4_cornersOn n) ((tAld 0 1) 0 L st M) := rfl
theorem rs_X4_cornersOn_1 (n : Nat) (L : AL) (st : List AV) (M : List AC) : rx_X4_cornersOn (n + 1) 1 L st M = am_j (rx_X4_cornersOn n) ((tCv 4 0 fn_X4_onBits) 1 L st M) := rfl
theorem rs_X4_cornersOn_4 (n : Nat) (L : AL) (st : List AV) (M : List AC) : rx_X4_cornersOn (n + 1) 4 L st M = am_j (rx_X4_cornersOn n) ((tCs 1 fn_J6_bitCount_0f7a4) 4 L st M) := rfl
theorem rs_X4_cornersOn_7 (n : Nat) (L : AL) (st : List AV) (M : List AC) : rx_X4_cornersOn (n + 1) 7 L st M = am_e rI st M := rfl
theorem ri_X4_cornersOn (c : Prop) [Decidable c] (p q n : Nat) (L : AL) (st : List AV) (M : List AC) : rx_X4_cornersOn n (if c then p else q) L st M = if c then rx_X4_cornersOn n p L st M else rx_X4_cornersOn n q L st M := by split <;> rfl
theorem rm_X4_cornersOn {n k pc : Nat} {L : AL} {st : List AV} {M : List AC} {x : Option AV × List AC} (h : rx_X4_cornersOn n pc L st M = some x) (hk : n ≤ k) : rx_X4_cornersOn k pc L st M = some x := am_r_mono n k h hk
def fn_X4_cornersOn : Fn := am_fn rx_X4_cornersOn 1
theorem fok_X4_cornersOn : Fok mi_X4_cornersOn fn_X4_cornersOn := fun _ _ _ _ h => am_fok ok_X4_cornersOn rk_X4_cornersOn rfl h
theorem onb_bc (d : F4) : (0 ≤ onb d ∧ onb d < 16) ∧ onb d % 2 + onb d / 2 % 2 + onb d / 4 % 2 + onb d / 8 % 2 = onc d := by
  unfold onb onc on1
  split <;> split <;> split <;> split <;> decide
theorem sp_X4_cornersOn {M : List AC} {k : Nat} {st : Int} {g s d b : F4} (hs : HS M k st g s d b) (hr : i4 0 6 d) : fn_X4_cornersOn [vR k] M = some (some (vI (onc d)), M) := by
  obtain ⟨hk, h0, -⟩ := id hs
  obtain ⟨q1, q2⟩ := onb_bc d
  have hb := sp_J6_bitCount (onb d) q1 M
  rw [q2] at hb
  (refine am_fnI (tb := tb_X4_cornersOn) (n := 50) (Nat.le_of_ble_eq_true rfl) (Nat.le_of_ble_eq_true rfl) ?_; show rx_X4_cornersOn 50 0 _ _ _ = _)
  simp [↓ri_X4_cornersOn, rs_X4_cornersOn_0, rs_X4_cornersOn_1, rs_X4_cornersOn_4, rs_X4_cornersOn_7, -List.getElem?_eq_getElem, am_js, am_e, am_in, am_sl, rI, rZ, rV, rJ, rA, rC, kI, kJ, kR, am_one, am_nl, am_w8, tIc, tLc, tNul, tIld, tLld, tAld, tIst, tLst, tAst, tIinc, tI2, tDv, tL2, tLrem, tLs, tLcmp, tI2l, tL2i, tI2c, tDup, tDup2, tPop, tGo, tIfeq, tIfne, tIflt, tIfge, tIfgt, tIfle, tCmeq, tCmne, tCmlt, tCmge, tCmgt, tCmle, tNu, tTs, tGf, tPf, tGs, tIal, tIas, tBal, tBas, tAln, tSv, tSc, tSb, tSl, tSk, tCv, tCs, tCt, tMx, tMn, wr_10000, wr_100000, wr_1000000, wr_10000000, wr_100000000, wr_2400, wr_9999, wr_0, wr_1, wr_2, wr_3, wr_4, wr_5, wr_6, wr_7, wr_8, wr_9, wr_10, wr_11, wr_12, wr_13, wr_14, wr_15, wr_16, wr_17, wr_18, wr_19, wr_20, wr_21, wr_22, wr_23, wr_24, wr_25, wr_26, wr_27, wr_28, wr_29, wr_30, wr_31, wr_32, wr_33, wr_34, wr_35, wr_36, wr_37, wr_38, wr_39, wr_40, wr_41, wr_42, wr_43, wr_44, wr_45, wr_46, wr_47, wr_48, wr_49, wr_50, wr_51, wr_52, wr_53, wr_54, wr_55, wr_56, wr_57, wr_58, wr_59, wr_60, wr_61, wr_62, wr_63, wr_99, wr_100, wr_192, wr_255, wr_256, wr_343, wr_999, wr_1000, wr_2401, wr_2147483647, wr_65535, wr_m1, wr_m2, wr_m3, wr_m4, wr_m9, ak_1000, ak_1001, ak_1002, ak_0, ak_1, ak_2, ak_3, ak_4, ak_5, ak_6, ak_7, ak_8, ak_9, ak_10, ak_11, ak_12, ak_13, ak_14, ak_15, ak_16, ak_17, ak_18, ak_19, ak_20, ak_21, ak_22, ak_23, ak_24, ak_25, ak_26, ak_27, ak_28, ak_29, ak_30, ak_31, ak_32, ak_33, ak_34, ak_35, ak_36, ak_37, ak_38, ak_39, ak_40, ak_41, ak_42, ak_43, ak_44, ak_45, ak_46, ak_47, h0, sp_X4_onBits hs hr, hb]
abbrev mi_X4_looseBits : Mi := (yX4_looseBits, cX4_looseBits, 3, some .int, 5)
theorem mf_X4_looseBits : am_mf mi_X4_looseBits 0 := ⟨w_co_X4_looseBits, w_in_X4, ⟨by decide +kernel, by decide +kernel⟩, by decide +kernel, by decide⟩
def tb_X4_looseBits : List (Nat × Tr) := [(0, tIc 0 1), (1, tIst 1 1), (2, tIc 0 1), (3, tIst 2 1), (4, tIld 2 1), (5, tIc 4 1), (6, tCmge 33), (9, tIld 1 1), (10, tAld 0 1), (11, tIld 2 1), (12, tCv 4 1 fn_X4_holds), (15, tIfeq 22), (18, tIc 0 1), (19, tGo 25), (22, tIc 1 1), (23, tIld 2 1), (24, tI2 oShl), (25, tI2 oOr), (26, tIst 1 1), (27, tIinc 2 1), (30, tGo 4), (33, tIld 1 1)]
theorem ok_X4_looseBits : Tok mi_X4_looseBits tb_X4_looseBits :=
  Tc (sd_iconst rfl dX4_looseBits_0) <|
  Tc (sd_istore_n dX4_looseBits_1) <|
  Tc (sd_iconst rfl dX4_looseBits_2) <|
  Tc (sd_istore_n dX4_looseBits_3) <|
  Tc (sd_iload_n dX4_looseBits_4) <|
  Tc (sd_iconst rfl dX4_looseBits_5) <|
  Tc (sd_cm_ge (by decide) dX4_looseBits_6) <|
  Tc (sd_iload_n dX4_looseBits_9) <|
  Tc (sd_aload_n dX4_looseBits_10) <|
  Tc (sd_iload_n dX4_looseBits_11) <|
  Tc (sd_cv (T := TX4) fok_X4_holds mf_X4_holds rfl w_ml_X4_38 w_im_X4_holds w_se_X4_holds (by decide) dX4_looseBits_12) <|
  Tc (sd_if_eq (by decide) dX4_looseBits_15) <|
  Tc (sd_iconst rfl dX4_looseBits_18) <|
  Tc (sd_goto (by decide) dX4_looseBits_19) <|
  Tc (sd_iconst rfl dX4_looseBits_22) <|
  Tc (sd_iload_n dX4_looseBits_23) <|
  Tc (sd_ishl dX4_looseBits_24) <|
  Tc (sd_ior dX4_looseBits_25) <|
  Tc (sd_istore_n dX4_looseBits_26) <|
  Tc (sd_iinc dX4_looseBits_27) <|
  Tc (sd_goto (by decide) dX4_looseBits_30) <|
  Tc (sd_iload_n dX4_looseBits_33) <|
  Tn
theorem rk_X4_looseBits : Rok mi_X4_looseBits rI [34] := rk_i dX4_looseBits_34 <| rk_n
def rx_X4_looseBits : Nat → Nat → AL → List AV → List AC → Option (Option AV × List AC) := am_r tb_X4_looseBits rI [34]
theorem rs_X4_looseBits_0 (n : Nat) (L : AL) (st : List AV) (M : List AC) : rx_X4_looseBits (n + 1) 0 L st M = am_j (rx_X4_looseBits n) ((tIc 0 1) 0 L st M) := rfl
theorem rs_X4_looseBits_1 (n : Nat) (L : AL) (st : List AV) (M : List AC) : rx_X4_looseBits (n + 1) 1 L st M = am_j (rx_X4_looseBits n) ((tIst 1 1) 1 L st M) := rfl
theorem rs_X4_looseBits_2 (n : Nat) (L : AL) (st : List AV) (M : List AC) : rx_X4_looseBits (n + 1) 2 L st M = am_j (rx_X4_looseBits n) ((tIc 0 1) 2 L st M) := rfl
theorem rs_X4_looseBits_3 (n : Nat) (L : AL) (st : List AV) (M : List AC) : rx_X4_looseBits (n + 1) 3 L st M = am_j (rx_X4_looseBits n) ((tIst 2 1) 3 L st M) := rfl
theorem rs_X4_looseBits_4 (n : Nat) (L : AL) (st : List AV) (M : List AC) : rx_X4_looseBits (n + 1) 4 L st M = am_j (rx_X4_looseBits n) ((tIld 2 1) 4 L st M) := rfl
theorem rs_X4_looseBits_5 (n : Nat) (L : AL) (st : List AV) (M : List AC) : rx_X4_looseBits (n + 1) 5 L st M = am_j (rx_X4_looseBits n) ((tIc 4 1) 5 L st M) := rfl
theorem rs_X4_looseBits_6 (n : Nat) (L : AL) (st : List AV) (M : List AC) : rx_X4_looseBits (n + 1) 6 L st M = am_j (rx_X4_looseBits n) ((tCmge 33) 6 L st M) := rfl
theorem rs_X4_looseBits_9 (n : Nat) (L : AL) (st : List AV) (M : List AC) : rx_X4_looseBits (n + 1) 9 L st M = am_j (rx_X4_looseBits n) ((tIld 1 1) 9 L st M) := rfl
theorem rs_X4_looseBits_10 (n : Nat) (L : AL) (st : List AV) (M : List AC) : rx_X4_looseBits (n + 1) 10 L st M = am_j (rx_X4_looseBits n) ((tAld 0 1) 10 L st M) := rfl
theorem rs_X4_looseBits_11 (n : Nat) (L : AL) (st : List AV) (M : List AC) : rx_X4_looseBits (n + 1) 11 L st M = am_j (rx_X4_looseBits n) ((tIld 2 1) 11 L st M) := rfl
theorem rs_X4_looseBits_12 (n : Nat) (L : AL) (st : List AV) (M : List AC) : rx_X4_looseBits (n + 1) 12 L st M = am_j (rx_X4_looseBits n) ((tCv 4 1 fn_X4_holds) 12 L st M) := rfl
theorem rs_X4_looseBits_15 (n : Nat) (L : AL) (st : List AV) (M : List AC) : rx_X4_looseBits (n + 1) 15 L st M = am_j (rx_X4_looseBits n) ((tIfeq 22) 15 L st M) := rfl
theorem rs_X4_looseBits_18 (n : Nat) (L : AL) (st : List AV) (M : List AC) : rx_X4_looseBits (n + 1) 18 L st M = am_j (rx_X4_looseBits n) ((tIc 0 1) 18 L st M) := rfl
theorem rs_X4_looseBits_19 (n : Nat) (L : AL) (st : List AV) (M : List AC) : rx_X4_looseBits (n + 1) 19 L st M = am_j (rx_X4_looseBits n) ((tGo 25) 19 L st M) := rfl
theorem rs_X4_looseBits_22 (n : Nat) (L : AL) (st : List AV) (M : List AC) : rx_X4_looseBits (n + 1) 22 L st M = am_j (rx_X4_looseBits n) ((tIc 1 1) 22 L st M) := rfl
theorem rs_X4_looseBits_23 (n : Nat) (L : AL) (st : List AV) (M : List AC) : rx_X4_looseBits (n + 1) 23 L st M = am_j (rx_X4_looseBits n) ((tIld 2 1) 23 L st M) := rfl
theorem rs_X4_looseBits_24 (n : Nat) (L : AL) (st : List AV) (M : List AC) : rx_X4_looseBits (n + 1) 24 L st M = am_j (rx_X4_looseBits n) ((tI2 oShl) 24 L st M) := rfl
theorem rs_X4_looseBits_25 (n : Nat) (L : AL) (st : List AV) (M : List AC) : rx_X4_looseBits (n + 1) 25 L st M = am_j (rx_X4_looseBits n) ((tI2 oOr) 25 L st M) := rfl
theorem rs_X4_looseBits_26 (n : Nat) (L : AL) (st : List AV) (M : List AC) : rx_X4_looseBits (n + 1) 26 L st M = am_j (rx_X4_looseBits n) ((tIst 1 1) 26 L st M) := rfl
theorem rs_X4_looseBits_27 (n : Nat) (L : AL) (st : List AV) (M : List AC) : rx_X4_looseBits (n + 1) 27 L st M = am_j (rx_X4_looseBits n) ((tIinc 2 1) 27 L st M) := rfl
theorem rs_X4_looseBits_30 (n : Nat) (L : AL) (st : List AV) (M : List AC) : rx_X4_looseBits (n + 1) 30 L st M = am_j (rx_X4_looseBits n) ((tGo 4) 30 L st M) := rfl
theorem rs_X4_looseBits_33 (n : Nat) (L : AL) (st : List AV) (M : List AC) : rx_X4_looseBits (n + 1) 33 L st M = am_j (rx_X4_looseBits n) ((tIld 1 1) 33 L st M) := rfl
theorem rs_X4_looseBits_34 (n : Nat) (L : AL) (st : List AV) (M : List AC) : rx_X4_looseBits (n + 1) 34 L st M = am_e rI st M := rfl
theorem ri_X4_looseBits (c : Prop) [Decidable c] (p q n : Nat) (L : AL) (st : List AV) (M : List AC) : rx_X4_looseBits n (if c then p else q) L st M = if c then rx_X4_looseBits n p L st M else rx_X4_looseBits n q L st M := by split <;> rfl
theorem rm_X4_looseBits {n k pc : Nat} {L : AL} {st : List AV} {M : List AC} {x : Option AV × List AC} (h : rx_X4_looseBits n pc L st M = some x) (hk : n ≤ k) : rx_X4_looseBits k pc L st M = some x := am_r_mono n k h hk
def fn_X4_looseBits : Fn := am_fn rx_X4_looseBits 3
theorem fok_X4_looseBits : Fok mi_X4_looseBits fn_X4_looseBits := fun _ _ _ _ h => am_fok ok_X4_looseBits rk_X4_looseBits rfl h
def lob (st : Int) (g s d b : F4) : Int := oOr (oOr (oOr (oOr 0 (if ex st g s d b 0 ≤ 0 then 0 else oShl 1 0)) (if ex st g s d b 1 ≤ 0 then 0 else oShl 1 1)) (if ex st g s d b 2 ≤ 0 then 0 else oShl 1 2)) (if ex st g s d b 3 ≤ 0 then 0 else oShl 1 3)
theorem sp_X4_looseBits {M : List AC} {k : Nat} {st : Int} {g s d b : F4} (hs : HS M k st g s d b) (hr : SR st g s d b) : fn_X4_looseBits [vR k] M = some (some (vI (lob st g s d b)), M) := by
  obtain ⟨hk, h0, -⟩ := id hs
  unfold lob
  (refine am_fnI (tb := tb_X4_looseBits) (n := 150) (Nat.le_of_ble_eq_true rfl) (Nat.le_of_ble_eq_true rfl) ?_; show rx_X4_looseBits 150 0 _ _ _ = _)
  by_cases a0 : ex st g s d b 0 ≤ 0 <;> by_cases a1 : ex st g s d b 1 ≤ 0 <;> by_cases a2 : ex st g s d b 2 ≤ 0 <;> by_cases a3 : ex st g s d b 3 ≤ 0 <;>
  simp [↓ri_X4_looseBits, rs_X4_looseBits_0, rs_X4_looseBits_1, rs_X4_looseBits_2, rs_X4_looseBits_3, rs_X4_looseBits_4, rs_X4_looseBits_5, rs_X4_looseBits_6, rs_X4_looseBits_9, rs_X4_looseBits_10, rs_X4_looseBits_11, rs_X4_looseBits_12, rs_X4_looseBits_15, rs_X4_looseBits_18, rs_X4_looseBits_19, rs_X4_looseBits_22, rs_X4_looseBits_23, rs_X4_looseBits_24, rs_X4_looseBits_25, rs_X4_looseBits_26, rs_X4_looseBits_27, rs_X4_looseBits_30, rs_X4_looseBits_33, rs_X4_looseBits_34, -List.getElem?_eq_getElem, am_js, am_e, am_in, am_sl, rI, rZ, rV, rJ, rA, rC, kI, kJ, kR, am_one, am_nl, am_w8, tIc, tLc, tNul, tIld, tLld, tAld, tIst, tLst, tAst, tIinc, tI2, tDv, tL2, tLrem, tLs, tLcmp, tI2l, tL2i, tI2c, tDup, tDup2, tPop, tGo, tIfeq, tIfne, tIflt, tIfge, tIfgt, tIfle, tCmeq, tCmne, tCmlt, tCmge, tCmgt, tCmle, tNu, tTs, tGf, tPf, tGs, tIal, tIas, tBal, tBas, tAln, tSv, tSc, tSb, tSl, tSk, tCv, tCs, tCt, tMx, tMn, wr_10000, wr_100000, wr_1000000, wr_10000000, wr_100000000, wr_2400, wr_9999, wr_0, wr_1, wr_2, wr_3, wr_4, wr_5, wr_6, wr_7, wr_8, wr_9, wr_10, wr_11, wr_12, wr_13, wr_14, wr_15, wr_16, wr_17, wr_18, wr_19, wr_20, wr_21, wr_22, wr_23, wr_24, wr_25, wr_26, wr_27, wr_28, wr_29, wr_30, wr_31, wr_32, wr_33, wr_34, wr_35, wr_36, wr_37, wr_38, wr_39, wr_40, wr_41, wr_42, wr_43, wr_44, wr_45, wr_46, wr_47, wr_48, wr_49, wr_50, wr_51, wr_52, wr_53, wr_54, wr_55, wr_56, wr_57, wr_58, wr_59, wr_60, wr_61, wr_62, wr_63, wr_99, wr_100, wr_192, wr_255, wr_256, wr_343, wr_999, wr_1000, wr_2401, wr_2147483647, wr_65535, wr_m1, wr_m2, wr_m3, wr_m4, wr_m9, ak_1000, ak_1001, ak_1002, ak_0, ak_1, ak_2, ak_3, ak_4, ak_5, ak_6, ak_7, ak_8, ak_9, ak_10, ak_11, ak_12, ak_13, ak_14, ak_15, ak_16, ak_17, ak_18, ak_19, ak_20, ak_21, ak_22, ak_23, ak_24, ak_25, ak_26, ak_27, ak_28, ak_29, ak_30, ak_31, ak_32, ak_33, ak_34, ak_35, ak_36, ak_37, ak_38, ak_39, ak_40, ak_41, ak_42, ak_43, ak_44, ak_45, ak_46, ak_47, h0, sp_X4_holds hs hr, a0, a1, a2, a3]
theorem gs {M : List AC} {i : Nat} {c0 : AC} (h : M[i]? = some c0) (N : List AC) (c : AC) (e : N.length = M.length) : (N.set i c)[i]? = some c := List.getElem?_set_self (by rw [e]; exact len_of h)
abbrev mi_X4_become : Mi := (yX4_become, cX4_become, 3, none, 1)
theorem mf_X4_become : am_mf mi_X4_become 1 := ⟨w_co_X4_become, w_in_X4, ⟨by decide +kernel, by decide +kernel⟩, by decide +kernel, by decide⟩
def tb_X4_become : List (Nat × Tr) := [(0, tAld 0 1), (1, tAld 1 1), (2, tGf 4 0), (5, tPf kI 4 0), (8, tIc 0 1), (9, tIst 2 1), (10, tIld 2 1), (11, tIc 4 1), (12, tCmge 69), (15, tAld 0 1), (16, tGf 4 1), (19, tIld 2 1), (20, tAld 1 1), (21, tGf 4 1), (24, tIld 2 1), (25, tIal), (26, tIas), (27, tAld 0 1), (28, tGf 4 2), (31, tIld 2 1), (32, tAld 1 1), (33, tGf 4 2), (36, tIld 2 1), (37, tIal), (38, tIas), (39, tAld 0 1), (40, tGf 4 3), (43, tIld 2 1), (44, tAld 1 1), (45, tGf 4 3), (48, tIld 2 1), (49, tIal), (50, tIas), (51, tAld 0 1), (52, tGf 4 4), (55, tIld 2 1), (56, tAld 1 1), (57, tGf 4 4), (60, tIld 2 1), (61, tIal), (62, tIas), (63, tIinc 2 1), (66, tGo 10)]
theorem ok_X4_become : Tok mi_X4_become tb_X4_become :=
  Tc (sd_aload_n dX4_become_0) <|
  Tc (sd_aload_n dX4_become_1) <|
  Tc (sd_getf (T := TX4) rfl giX4 (by decide) w_fl_X4_9 dX4_become_2) <|
  Tc (sd_putf (T := TX4) rfl giX4 (by decide) w_fl_X4_9 tyX4 tyX4_ok nmX4 (kI_ok) rfl dX4_become_5) <|
  Tc (sd_iconst rfl dX4_become_8) <|
  Tc (sd_istore_n dX4_become_9) <|
  Tc (sd_iload_n dX4_become_10) <|
  Tc (sd_iconst rfl dX4_become_11) <|
  Tc (sd_cm_ge (by decide) dX4_become_12) <|
  Tc (sd_aload_n dX4_become_15) <|
  Tc (sd_getf (T := TX4) rfl giX4 (by decide) w_fl_X4_15 dX4_become_16) <|
  Tc (sd_iload_n dX4_become_19) <|
  Tc (sd_aload_n dX4_become_20) <|
  Tc (sd_getf (T := TX4) rfl giX4 (by decide) w_fl_X4_15 dX4_become_21) <|
  Tc (sd_iload_n dX4_become_24) <|
  Tc (sd_ial dX4_become_25) <|
  Tc (sd_ias dX4_become_26) <|
  Tc (sd_aload_n dX4_become_27) <|
  Tc (sd_getf (T := TX4) rfl giX4 (by decide) w_fl_X4_19 dX4_become_28) <|
  Tc (sd_iload_n dX4_become_31) <|
  Tc (sd_aload_n dX4_become_32) <|
  Tc (sd_getf (T := TX4) rfl giX4 (by decide) w_fl_X4_19 dX4_become_33) <|
  Tc (sd_iload_n dX4_become_36) <|
  Tc (sd_ial dX4_become_37) <|
  Tc (sd_ias dX4_become_38) <|
  Tc (sd_aload_n dX4_become_39) <|
  Tc (sd_getf (T := TX4) rfl giX4 (by decide) w_fl_X4_22 dX4_become_40) <|
  Tc (sd_iload_n dX4_become_43) <|
  Tc (sd_aload_n dX4_become_44) <|
  Tc (sd_getf (T := TX4) rfl giX4 (by decide) w_fl_X4_22 dX4_become_45) <|
  Tc (sd_iload_n dX4_become_48) <|
  Tc (sd_ial dX4_become_49) <|
  Tc (sd_ias dX4_become_50) <|
  Tc (sd_aload_n dX4_become_51) <|
  Tc (sd_getf (T := TX4) rfl giX4 (by decide) w_fl_X4_25 dX4_become_52) <|
  Tc (sd_iload_n dX4_become_55) <|
  Tc (sd_aload_n dX4_become_56) <|
  Tc (sd_getf (T := TX4) rfl giX4 (by decide) w_fl_X4_25 dX4_become_57) <|
  Tc (sd_iload_n dX4_become_60) <|
  Tc (sd_ial dX4_become_61) <|
  Tc (sd_ias dX4_become_62) <|
  Tc (sd_iinc dX4_become_63) <|
  Tc (sd_goto (by decide) dX4_become_66) <|
  Tn
theorem rk_X4_become : Rok mi_X4_become rV [69] := rk_v dX4_become_69 <| rk_n
def rx_X4_become : Nat → Nat → AL → List AV → List AC → Option (Option AV × List AC) := am_r tb_X4_become rV [69]
theorem rs_X4_become_0 (n : Nat) (L : AL) (st : List AV) (M : List AC) : rx_X4_become (n + 1) 0 L st M = am_j (rx_X4_become n) ((tAld 0 1) 0 L st M) := rfl
theorem rs_X4_become_1 (n : Nat) (L : AL) (st : List AV) (M : List AC) : rx_X4_become (n + 1) 1 L st M = am_j (rx_X4_become n) ((tAld 1 1) 1 L st M) := rfl
theorem rs_X4_become_2 (n : Nat) (L : AL) (st : List AV) (M : List AC) : rx_X4_become (n + 1) 2 L st M = am_j (rx_X4_become n) ((tGf 4 0) 2 L st M) := rfl
theorem rs_X4_become_5 (n : Nat) (L : AL) (st : List AV) (M : List AC) : rx_X4_become (n + 1) 5 L st M = am_j (rx_X4_become n) ((tPf kI 4 0) 5 L st M) := rfl
theorem rs_X4_become_8 (n : Nat) (L : AL) (st : List AV) (M : List AC) : rx_X4_become (n + 1) 8 L st M = am_j (rx_X4_become n) ((tIc 0 1) 8 L st M) := rfl
theorem rs_X4_become_9 (n : Nat) (L : AL) (st : List AV) (M : List AC) : rx_X4_become (n + 1) 9 L st M = am_j (rx_X4_become n) ((tIst 2 1) 9 L st M) := rfl
theorem rs_X4_become_10 (n : Nat) (L : AL) (st : List AV) (M : List AC) : rx_X4_become (n + 1) 10 L st M = am_j (rx_X4_become n) ((tIld 2 1) 10 L st M) := rfl
theorem rs_X4_become_11 (n : Nat) (L : AL) (st : List AV) (M : List AC) : rx_X4_become (n + 1) 11 L st M = am_j (rx_X4_become n) ((tIc 4 1) 11 L st M) := rfl
theorem rs_X4_become_12 (n : Nat) (L : AL) (st : List AV) (M : List AC) : rx_X4_become (n + 1) 12 L st M = am_j (rx_X4_become n) ((tCmge 69) 12 L st M) := rfl
theorem rs_X4_become_15 (n : Nat) (L : AL) (st : List AV) (M : List AC) : rx_X4_become (n + 1) 15 L st M = am_j (rx_X4_become n) ((tAld 0 1) 15 L st M) := rfl
theorem rs_X4_become_16 (n : Nat) (L : AL) (st : List AV) (M : List AC) : rx_X4_become (n + 1) 16 L st M = am_j (rx_X4_become n) ((tGf 4 1) 16 L st M) := rfl
theorem rs_X4_become_19 (n : Nat) (L : AL) (st : List AV) (M : List AC) : rx_X4_become (n + 1) 19 L st M = am_j (rx_X4_become n) ((tIld 2 1) 19 L st M) := rfl
theorem rs_X4_become_20 (n : Nat) (L : AL) (st : List AV) (M : List AC) : rx_X4_become (n + 1) 20 L st M = am_j (rx_X4_become n) ((tAld 1 1) 20 L st M) := rfl
theorem rs_X4_become_21 (n : Nat) (L : AL) (st : List AV) (M : List AC) : rx_X4_become (n + 1) 21 L st M = am_j (rx_X4_become n) ((tGf 4 1) 21 L st M) := rfl
theorem rs_X4_become_24 (n : Nat) (L : AL) (st : List AV) (M : List AC) : rx_X4_become (n + 1) 24 L st M = am_j (rx_X4_become n) ((tIld 2 1) 24 L st M) := rfl
theorem rs_X4_become_25 (n : Nat) (L : AL) (st : List AV) (M : List AC) : rx_X4_become (n + 1) 25 L st M = am_j (rx_X4_become n) (tIal 25 L st M) := rfl
theorem rs_X4_become_26 (n : Nat) (L : AL) (st : List AV) (M : List AC) : rx_X4_become (n + 1) 26 L st M = am_j (rx_X4_become n) (tIas 26 L st M) := rfl
theorem rs_X4_become_27 (n : Nat) (L : AL) (st : List AV) (M : List AC) : rx_X4_become (n + 1) 27 L st M = am_j (rx_X4_become n) ((tAld 0 1) 27 L st M) := rfl
theorem rs_X4_become_28 (n : Nat) (L : AL) (st : List AV) (M : List AC) : rx_X4_become (n + 1) 28 L st M = am_j (rx_X4_become n) ((tGf 4 2) 28 L st M) := rfl
theorem rs_X4_become_31 (n : Nat) (L : AL) (st : List AV) (M : List AC) : rx_X4_become (n + 1) 31 L st M = am_j (rx_X4_become n) ((tIld 2 1) 31 L st M) := rfl
theorem rs_X4_become_32 (n : Nat) (L : AL) (st : List AV) (M : List AC) : rx_X4_become (n + 1) 32 L st M = am_j (rx_X4_become n) ((tAld 1 1) 32 L st M) := rfl
theorem rs_X4_become_33 (n : Nat) (L : AL) (st : List AV) (M : List AC) : rx_X4_become (n + 1) 33 L st M = am_j (rx_X4_become n) ((tGf 4 2) 33 L st M) := rfl
theorem rs_X4_become_36 (n : Nat) (L : AL) (st : List AV) (M : List AC) : rx_X4_become (n + 1) 36 L st M = am_j (rx_X4_become n) ((tIld 2 1) 36 L st M) := rfl
theorem rs_X4_become_37 (n : Nat) (L : AL) (st : List AV) (M : List AC) : rx_X4_become (n + 1) 37 L st M = am_j (rx_X4_become n) (tIal 37 L st M) := rfl
theorem rs_X4_become_38 (n : Nat) (L : AL) (st : List AV) (M : List AC) : rx_X4_become (n + 1) 38 L st M = am_j (rx_X4_become n) (tIas 38 L st M) := rfl
theorem rs_X4_become_39 (n : Nat) (L : AL) (st : List AV) (M : List AC) : rx_X4_become (n + 1) 39 L st M = am_j (rx_X4_become n) ((tAld 0 1) 39 L st M) := rfl
theorem rs_X4_become_40 (n : Nat) (L : AL) (st : List AV) (M : List AC) : rx_X4_become (n + 1) 40 L st M = am_j (rx_X4_become n) ((tGf 4 3) 40 L st M) := rfl
theorem rs_X4_become_43 (n : Nat) (L : AL) (st : List AV) (M : List AC) : rx_X4_become (n + 1) 43 L st M = am_j (rx_X4_become n) ((tIld 2 1) 43 L st M) := rfl
theorem rs_X4_become_44 (n : Nat) (L : AL) (st : List AV) (M : List AC) : rx_X4_become (n + 1) 44 L st M = am_j (rx_X4_become n) ((tAld 1 1) 44 L st M) := rfl
theorem rs_X4_become_45 (n : Nat) (L : AL) (st : List AV) (M : List AC) : rx_X4_become (n + 1) 45 L st M = am_j (rx_X4_become n) ((tGf 4 3) 45 L st M) := rfl
theorem rs_X4_become_48 (n : Nat) (L : AL) (st : List AV) (M : List AC) : rx_X4_become (n + 1) 48 L st M = am_j (rx_X4_become n) ((tIld 2 1) 48 L st M) := rfl
theorem rs_X4_become_49 (n : Nat) (L : AL) (st : List AV) (M : List AC) : rx_X4_become (n + 1) 49 L st M = am_j (rx_X4_become n) (tIal 49 L st M) := rfl
theorem rs_X4_become_50 (n : Nat) (L : AL) (st : List AV) (M : List AC) : rx_X4_become (n + 1) 50 L st M = am_j (rx_X4_become n) (tIas 50 L st M) := rfl
theorem rs_X4_become_51 (n : Nat) (L : AL) (st : List AV) (M : List AC) : rx_X4_become (n + 1) 51 L st M = am_j (rx_X4_become n) ((tAld 0 1) 51 L st M) := rfl
theorem rs_X4_become_52 (n : Nat) (L : AL) (st : List AV) (M : List AC) : rx_X4_become (n + 1) 52 L st M = am_j (rx_X4_become n) ((tGf 4 4) 52 L st M) := rfl
theorem rs_X4_become_55 (n : Nat) (L : AL) (st : List AV) (M : List AC) : rx_X4_become (n + 1) 55 L st M = am_j (rx_X4_become n) ((tIld 2 1) 55 L st M) := rfl
theorem rs_X4_become_56 (n : Nat) (L : AL) (st : List AV) (M : List AC) : rx_X4_become (n + 1) 56 L st M = am_j (rx_X4_become n) ((tAld 1 1) 56 L st M) := rfl
theorem rs_X4_become_57 (n : Nat) (L : AL) (st : List AV) (M : List AC) : rx_X4_become (n + 1) 57 L st M = am_j (rx_X4_become n) ((tGf 4 4) 57 L st M) := rfl
theorem rs_X4_become_60 (n : Nat) (L : AL) (st : List AV) (M : List AC) : rx_X4_become (n + 1) 60 L st M = am_j (rx_X4_become n) ((tIld 2 1) 60 L st M) := rfl
theorem rs_X4_become_61 (n : Nat) (L : AL) (st : List AV) (M : List AC) : rx_X4_become (n + 1) 61 L st M = am_j (rx_X4_become n) (tIal 61 L st M) := rfl
theorem rs_X4_become_62 (n : Nat) (L : AL) (st : List AV) (M : List AC) : rx_X4_become (n + 1) 62 L st M = am_j (rx_X4_become n) (tIas 62 L st M) := rfl
theorem rs_X4_become_63 (n : Nat) (L : AL) (st : List AV) (M : List AC) : rx_X4_become (n + 1) 63 L st M = am_j (rx_X4_become n) ((tIinc 2 1) 63 L st M) := rfl
theorem rs_X4_become_66 (n : Nat) (L : AL) (st : List AV) (M : List AC) : rx_X4_become (n + 1) 66 L st M = am_j (rx_X4_become n) ((tGo 10) 66 L st M) := rfl
theorem rs_X4_become_69 (n : Nat) (L : AL) (st : List AV) (M : List AC) : rx_X4_become (n + 1) 69 L st M = am_e rV st M := rfl
theorem ri_X4_become (c : Prop) [Decidable c] (p q n : Nat) (L : AL) (st : List AV) (M : List AC) : rx_X4_become n (if c then p else q) L st M = if c then rx_X4_become n p L st M else rx_X4_become n q L st M := by split <;> rfl
theorem rm_X4_become {n k pc : Nat} {L : AL} {st : List AV} {M : List AC} {x : Option AV × List AC} (h : rx_X4_become n pc L st M = some x) (hk : n ≤ k) : rx_X4_become k pc L st M = some x := am_r_mono n k h hk
def fn_X4_become : Fn := am_fn rx_X4_become 3
theorem fok_X4_become : Fok mi_X4_become fn_X4_become := fun _ _ _ _ h => am_fok ok_X4_become rk_X4_become rfl h
theorem sp_X4_become {M : List AC} {st st' : Int} {g s d b g' s' d' b' : F4} (hs : HS M 2 st g s d b) (hs' : HS M 7 st' g' s' d' b') : fn_X4_become [vR 7, vR 2] M = some (none, ((((M.set 7 (aO 4 [vI st, vR 8, vR 9, vR 10, vR 11])).set 8 (aI (l4 g))).set 9 (aI (l4 s))).set 10 (aI (l4 d))).set 11 (aI (l4 b))) := by
  obtain ⟨-, h0, h1, h2, h3, h4⟩ := hs
  obtain ⟨-, i0, i1, i2, i3, i4⟩ := hs'
  simp only [Nat.reduceAdd] at h0 h1 h2 h3 h4 i0 i1 i2 i3 i4
  (refine am_fnI (tb := tb_X4_become) (n := 250) (Nat.le_of_ble_eq_true rfl) (Nat.le_of_ble_eq_true rfl) ?_; show rx_X4_become 250 0 _ _ _ = _)
  simp [↓ri_X4_become, rs_X4_become_0, rs_X4_become_1, rs_X4_become_2, rs_X4_become_5, rs_X4_become_8, rs_X4_become_9, rs_X4_become_10, rs_X4_become_11, rs_X4_become_12, rs_X4_become_15, rs_X4_become_16, rs_X4_become_19, rs_X4_become_20, rs_X4_become_21, rs_X4_become_24, rs_X4_become_25, rs_X4_become_26, rs_X4_become_27, rs_X4_become_28, rs_X4_become_31, rs_X4_become_32, rs_X4_become_33, rs_X4_become_36, rs_X4_become_37, rs_X4_become_38, rs_X4_become_39, rs_X4_become_40, rs_X4_become_43, rs_X4_become_44, rs_X4_become_45, rs_X4_become_48, rs_X4_become_49, rs_X4_become_50, rs_X4_become_51, rs_X4_become_52, rs_X4_become_55, rs_X4_become_56, rs_X4_become_57, rs_X4_become_60, rs_X4_become_61, rs_X4_become_62, rs_X4_become_63, rs_X4_become_66, rs_X4_become_69, -List.getElem?_eq_getElem, am_js, am_e, am_in, am_sl, rI, rZ, rV, rJ, rA, rC, kI, kJ, kR, am_one, am_nl, am_w8, tIc, tLc, tNul, tIld, tLld, tAld, tIst, tLst, tAst, tIinc, tI2, tDv, tL2, tLrem, tLs, tLcmp, tI2l, tL2i, tI2c, tDup, tDup2, tPop, tGo, tIfeq, tIfne, tIflt, tIfge, tIfgt, tIfle, tCmeq, tCmne, tCmlt, tCmge, tCmgt, tCmle, tNu, tTs, tGf, tPf, tGs, tIal, tIas, tBal, tBas, tAln, tSv, tSc, tSb, tSl, tSk, tCv, tCs, tCt, tMx, tMn, wr_10000, wr_100000, wr_1000000, wr_10000000, wr_100000000, wr_2400, wr_9999, wr_0, wr_1, wr_2, wr_3, wr_4, wr_5, wr_6, wr_7, wr_8, wr_9, wr_10, wr_11, wr_12, wr_13, wr_14, wr_15, wr_16, wr_17, wr_18, wr_19, wr_20, wr_21, wr_22, wr_23, wr_24, wr_25, wr_26, wr_27, wr_28, wr_29, wr_30, wr_31, wr_32, wr_33, wr_34, wr_35, wr_36, wr_37, wr_38, wr_39, wr_40, wr_41, wr_42, wr_43, wr_44, wr_45, wr_46, wr_47, wr_48, wr_49, wr_50, wr_51, wr_52, wr_53, wr_54, wr_55, wr_56, wr_57, wr_58, wr_59, wr_60, wr_61, wr_62, wr_63, wr_99, wr_100, wr_192, wr_255, wr_256, wr_343, wr_999, wr_1000, wr_2401, wr_2147483647, wr_65535, wr_m1, wr_m2, wr_m3, wr_m4, wr_m9, ak_1000, ak_1001, ak_1002, ak_0, ak_1, ak_2, ak_3, ak_4, ak_5, ak_6, ak_7, ak_8, ak_9, ak_10, ak_11, ak_12, ak_13, ak_14, ak_15, ak_16, ak_17, ak_18, ak_19, ak_20, ak_21, ak_22, ak_23, ak_24, ak_25, ak_26, ak_27, ak_28, ak_29, ak_30, ak_31, ak_32, ak_33, ak_34, ak_35, ak_36, ak_37, ak_38, ak_39, ak_40, ak_41, ak_42, ak_43, ak_44, ak_45, ak_46, ak_47, h0, h1, h2, h3, h4, i0, i1, i2, i3, i4, gs i0, gs i1, gs i2, gs i3, gs i4, ss (i := 7) (j := 8) (by decide), ss (i := 7) (j := 9) (by decide), ss (i := 7) (j := 10) (by decide), ss (i := 7) (j := 11) (by decide), ss (i := 8) (j := 9) (by decide), ss (i := 8) (j := 10) (by decide), ss (i := 8) (j := 11) (by decide), ss (i := 9) (j := 10) (by decide), ss (i := 9) (j := 11) (by decide), ss (i := 10) (j := 11) (by decide)]
end
