noncomputable section
abbrev mi_X6_undo : Mi := (yX6_undo, cX6_undo, 2, some .int, 1)
theorem mf_X6_undo : am_mf mi_X6_undo 0 := ⟨w_co_X6_undo, w_in_X6, ⟨by decide +kernel, by decide +kernel⟩, by decide +kernel, by decide⟩
def tb_X6_undo : List (Nat × Tr) := [(0, tAld 0 1), (1, tGf 6 11), (4, tIfne 10), (7, tIc (-3) 2), (10, tAld 0 1), (11, tDup), (12, tGf 6 11), (15, tIc 1 1), (16, tI2 (fun a b => a - b)), (17, tPf kI 6 11), (20, tAld 0 1), (21, tAld 0 1), (22, tGf 6 12), (25, tIc 15 2), (27, tI2 (fun a b => a + b)), (28, tIc 16 2), (30, tDv Int.tmod), (31, tPf kI 6 12), (34, tIc 0 1), (35, tIst 1 1), (36, tIld 1 1), (37, tIc 12 2), (39, tCmge 68), (42, tAld 0 1), (43, tGf 6 2), (46, tIld 1 1), (47, tAld 0 1), (48, tGf 6 13), (51, tIc 12 2), (53, tAld 0 1), (54, tGf 6 12), (57, tI2 (fun a b => a * b)), (58, tIld 1 1), (59, tI2 (fun a b => a + b)), (60, tIal), (61, tIas), (62, tIinc 1 1), (65, tGo 36), (68, tAld 0 1), (69, tGf 6 11)]
theorem ok_X6_undo : Tok mi_X6_undo tb_X6_undo :=
  Tc (sd_aload_n dX6_undo_0) <|
  Tc (sd_getf (T := TX6) rfl giX6 (by decide) w_fl_X6_91 dX6_undo_1) <|
  Tc (sd_if_ne (by decide) dX6_undo_4) <|
  Tc (sd_bipush (by decide +kernel) dX6_undo_7) <|
  Tc (sd_aload_n dX6_undo_10) <|
  Tc (sd_dup dX6_undo_11) <|
  Tc (sd_getf (T := TX6) rfl giX6 (by decide) w_fl_X6_91 dX6_undo_12) <|
  Tc (sd_iconst rfl dX6_undo_15) <|
  Tc (sd_isub dX6_undo_16) <|
  Tc (sd_putf (T := TX6) rfl giX6 (by decide) w_fl_X6_91 tyX6 tyX6_ok nmX6 (kI_ok) rfl dX6_undo_17) <|
  Tc (sd_aload_n dX6_undo_20) <|
  Tc (sd_aload_n dX6_undo_21) <|
  Tc (sd_getf (T := TX6) rfl giX6 (by decide) w_fl_X6_141 dX6_undo_22) <|
  Tc (sd_bipush (by decide +kernel) dX6_undo_25) <|
  Tc (sd_iadd dX6_undo_27) <|
  Tc (sd_bipush (by decide +kernel) dX6_undo_28) <|
  Tc (sd_irem dX6_undo_30) <|
  Tc (sd_putf (T := TX6) rfl giX6 (by decide) w_fl_X6_141 tyX6 tyX6_ok nmX6 (kI_ok) rfl dX6_undo_31) <|
  Tc (sd_iconst rfl dX6_undo_34) <|
  Tc (sd_istore_n dX6_undo_35) <|
  Tc (sd_iload_n dX6_undo_36) <|
  Tc (sd_bipush (by decide +kernel) dX6_undo_37) <|
  Tc (sd_cm_ge (by decide) dX6_undo_39) <|
  Tc (sd_aload_n dX6_undo_42) <|
  Tc (sd_getf (T := TX6) rfl giX6 (by decide) w_fl_X6_13 dX6_undo_43) <|
  Tc (sd_iload_n dX6_undo_46) <|
  Tc (sd_aload_n dX6_undo_47) <|
  Tc (sd_getf (T := TX6) rfl giX6 (by decide) w_fl_X6_34 dX6_undo_48) <|
  Tc (sd_bipush (by decide +kernel) dX6_undo_51) <|
  Tc (sd_aload_n dX6_undo_53) <|
  Tc (sd_getf (T := TX6) rfl giX6 (by decide) w_fl_X6_141 dX6_undo_54) <|
  Tc (sd_imul dX6_undo_57) <|
  Tc (sd_iload_n dX6_undo_58) <|
  Tc (sd_iadd dX6_undo_59) <|
  Tc (sd_ial dX6_undo_60) <|
  Tc (sd_ias dX6_undo_61) <|
  Tc (sd_iinc dX6_undo_62) <|
  Tc (sd_goto (by decide) dX6_undo_65) <|
  Tc (sd_aload_n dX6_undo_68) <|
  Tc (sd_getf (T := TX6) rfl giX6 (by decide) w_fl_X6_91 dX6_undo_69) <|
  Tn
theorem rk_X6_undo : Rok mi_X6_undo rI [9, 72] := rk_i dX6_undo_9 <| rk_i dX6_undo_72 <| rk_n
def rx_X6_undo : Nat → Nat → AL → List AV → List AC → Option (Option AV × List AC) := am_r tb_X6_undo rI [9, 72]
theorem rs_X6_undo_0 (n : Nat) (L : AL) (st : List AV) (M : List AC) : rx_X6_undo (n + 1) 0 L st M = am_j (rx_X6_undo n) ((tAld 0 1) 0 L st M) := rfl
theorem rs_X6_undo_1 (n : Nat) (L : AL) (st : List AV) (M : List AC) : rx_X6_undo (n + 1) 1 L st M = am_j (rx_X6_undo n) ((tGf 6 11) 1 L st M) := rfl
theorem rs_X6_undo_4 (n : Nat) (L : AL) (st : List AV) (M : List AC) : rx_X6_undo (n + 1) 4 L st M = am_j (rx_X6_undo n) ((tIfne 10) 4 L st M) := rfl
theorem rs_X6_undo_7 (n : Nat) (L : AL) (st : List AV) (M : List AC) : rx_X6_undo (n + 1) 7 L st M = am_j (rx_X6_undo n) ((tIc (-3) 2) 7 L st M) := rfl
theorem rs_X6_undo_10 (n : Nat) (L : AL) (st : List AV) (M : List AC) : rx_X6_undo (n + 1) 10 L st M = am_j (rx_X6_undo n) ((tAld 0 1) 10 L st M) := rfl
theorem rs_X6_undo_11 (n : Nat) (L : AL) (st : List AV) (M : List AC) : rx_X6_undo (n + 1) 11 L st M = am_j (rx_X6_undo n) (tDup 11 L st M) := rfl
theorem rs_X6_undo_12 (n : Nat) (L : AL) (st : List AV) (M : List AC) : rx_X6_undo (n + 1) 12 L st M = am_j (rx_X6_undo n) ((tGf 6 11) 12 L st M) := rfl
theorem rs_X6_undo_15 (n : Nat) (L : AL) (st : List AV) (M : List AC) : rx_X6_undo (n + 1) 15 L st M = am_j (rx_X6_undo n) ((tIc 1 1) 15 L st M) := rfl
theorem rs_X6_undo_16 (n : Nat) (L : AL) (st : List AV) (M : List AC) : rx_X6_undo (n + 1) 16 L st M = am_j (rx_X6_undo n) ((tI2 (fun a b => a - b)) 16 L st M) := rfl
theorem rs_X6_undo_17 (n : Nat) (L : AL) (st : List AV) (M : List AC) : rx_X6_undo (n + 1) 17 L st M = am_j (rx_X6_undo n) ((tPf kI 6 11) 17 L st M) := rfl
theorem rs_X6_undo_20 (n : Nat) (L : AL) (st : List AV) (M : List AC) : rx_X6_undo (n + 1) 20 L st M = am_j (rx_X6_undo n) ((tAld 0 1) 20 L st M) := rfl
theorem rs_X6_undo_21 (n : Nat) (L : AL) (st : List AV) (M : List AC) : rx_X6_undo (n + 1) 21 L st M = am_j (rx_X6_undo n) ((tAld 0 1) 21 L st M) := rfl
theorem rs_X6_undo_22 (n : Nat) (L : AL) (st : List AV) (M : List AC) : rx_X6_undo (n + 1) 22 L st M = am_j (rx_X6_undo n) ((tGf 6 12) 22 L st M) := rfl
theorem rs_X6_undo_25 (n : Nat) (L : AL) (st : List AV) (M : List AC) : rx_X6_undo (n + 1) 25 L st M = am_j (rx_X6_undo n) ((tIc 15 2) 25 L st M) := rfl
theorem rs_X6_undo_27 (n : Nat) (L : AL) (st : List AV) (M : List AC) : rx_X6_undo (n + 1) 27 L st M = am_j (rx_X6_undo n) ((tI2 (fun a b => a + b)) 27 L st M) := rfl
theorem rs_X6_undo_28 (n : Nat) (L : AL) (st : List AV) (M : List AC) : rx_X6_undo (n + 1) 28 L st M = am_j (rx_X6_undo n) ((tIc 16 2) 28 L st M) := rfl
theorem rs_X6_undo_30 (n : Nat) (L : AL) (st : List AV) (M : List AC) : rx_X6_undo (n + 1) 30 L st M = am_j (rx_X6_undo n) ((tDv Int.tmod) 30 L st M) := rfl
theorem rs_X6_undo_31 (n : Nat) (L : AL) (st : List AV) (M : List AC) : rx_X6_undo (n + 1) 31 L st M = am_j (rx_X6_undo n) ((tPf kI 6 12) 31 L st M) := rfl
theorem rs_X6_undo_34 (n : Nat) (L : AL) (st : List AV) (M : List AC) : rx_X6_undo (n + 1) 34 L st M = am_j (rx_X6_undo n) ((tIc 0 1) 34 L st M) := rfl
theorem rs_X6_undo_35 (n : Nat) (L : AL) (st : List AV) (M : List AC) : rx_X6_undo (n + 1) 35 L st M = am_j (rx_X6_undo n) ((tIst 1 1) 35 L st M) := rfl
theorem rs_X6_undo_36 (n : Nat) (L : AL) (st : List AV) (M : List AC) : rx_X6_undo (n + 1) 36 L st M = am_j (rx_X6_undo n) ((tIld 1 1) 36 L st M) := rfl
theorem rs_X6_undo_37 (n : Nat) (L : AL) (st : List AV) (M : List AC) : rx_X6_undo (n + 1) 37 L st M = am_j (rx_X6_undo n) ((tIc 12 2) 37 L st M) := rfl
theorem rs_X6_undo_39 (n : Nat) (L : AL) (st : List AV) (M : List AC) : rx_X6_undo (n + 1) 39 L st M = am_j (rx_X6_undo n) ((tCmge 68) 39 L st M) := rfl
theorem rs_X6_undo_42 (n : Nat) (L : AL) (st : List AV) (M : List AC) : rx_X6_undo (n + 1) 42 L st M = am_j (rx_X6_undo n) ((tAld 0 1) 42 L st M) := rfl
theorem rs_X6_undo_43 (n : Nat) (L : AL) (st : List AV) (M : List AC) : rx_X6_undo (n + 1) 43 L st M = am_j (rx_X6_undo n) ((tGf 6 2) 43 L st M) := rfl
theorem rs_X6_undo_46 (n : Nat) (L : AL) (st : List AV) (M : List AC) : rx_X6_undo (n + 1) 46 L st M = am_j (rx_X6_undo n) ((tIld 1 1) 46 L st M) := rfl
theorem rs_X6_undo_47 (n : Nat) (L : AL) (st : List AV) (M : List AC) : rx_X6_undo (n + 1) 47 L st M = am_j (rx_X6_undo n) ((tAld 0 1) 47 L st M) := rfl
theorem rs_X6_undo_48 (n : Nat) (L : AL) (st : List AV) (M : List AC) : rx_X6_undo (n + 1) 48 L st M = am_j (rx_X6_undo n) ((tGf 6 13) 48 L st M) := rfl
theorem rs_X6_undo_51 (n : Nat) (L : AL) (st : List AV) (M : List AC) : rx_X6_undo (n + 1) 51 L st M = am_j (rx_X6_undo n) ((tIc 12 2) 51 L st M) := rfl
theorem rs_X6_undo_53 (n : Nat) (L : AL) (st : List AV) (M : List AC) : rx_X6_undo (n + 1) 53 L st M = am_j (rx_X6_undo n) ((tAld 0 1) 53 L st M) := rfl
theorem rs_X6_undo_54 (n : Nat) (L : AL) (st : List AV) (M : List AC) : rx_X6_undo (n + 1) 54 L st M = am_j (rx_X6_undo n) ((tGf 6 12) 54 L st M) := rfl
theorem rs_X6_undo_57 (n : Nat) (L : AL) (st : List AV) (M : List AC) : rx_X6_undo (n + 1) 57 L st M = am_j (rx_X6_undo n) ((tI2 (fun a b => a * b)) 57 L st M) := rfl
theorem rs_X6_undo_58 (n : Nat) (L : AL) (st : List AV) (M : List AC) : rx_X6_undo (n + 1) 58 L st M = am_j (rx_X6_undo n) ((tIld 1 1) 58 L st M) := rfl
theorem rs_X6_undo_59 (n : Nat) (L : AL) (st : List AV) (M : List AC) : rx_X6_undo (n + 1) 59 L st M = am_j (rx_X6_undo n) ((tI2 (fun a b => a + b)) 59 L st M) := rfl
theorem rs_X6_undo_60 (n : Nat) (L : AL) (st : List AV) (M : List AC) : rx_X6_undo (n + 1) 60 L st M = am_j (rx_X6_undo n) (tIal 60 L st M) := rfl
theorem rs_X6_undo_61 (n : Nat) (L : AL) (st : List AV) (M : List AC) : rx_X6_undo (n + 1) 61 L st M = am_j (rx_X6_undo n) (tIas 61 L st M) := rfl
theorem rs_X6_undo_62 (n : Nat) (L : AL) (st : List AV) (M : List AC) : rx_X6_undo (n + 1) 62 L st M = am_j (rx_X6_undo n) ((tIinc 1 1) 62 L st M) := rfl
theorem rs_X6_undo_65 (n : Nat) (L : AL) (st : List AV) (M : List AC) : rx_X6_undo (n + 1) 65 L st M = am_j (rx_X6_undo n) ((tGo 36) 65 L st M) := rfl
theorem rs_X6_undo_68 (n : Nat) (L : AL) (st : List AV) (M : List AC) : rx_X6_undo (n + 1) 68 L st M = am_j (rx_X6_undo n) ((tAld 0 1) 68 L st M) := rfl
theorem rs_X6_undo_69 (n : Nat) (L : AL) (st : List AV) (M : List AC) : rx_X6_undo (n + 1) 69 L st M = am_j (rx_X6_undo n) ((tGf 6 11) 69 L st M) := rfl
theorem rs_X6_undo_9 (n : Nat) (L : AL) (st : List AV) (M : List AC) : rx_X6_undo (n + 1) 9 L st M = am_e rI st M := rfl
theorem rs_X6_undo_72 (n : Nat) (L : AL) (st : List AV) (M : List AC) : rx_X6_undo (n + 1) 72 L st M = am_e rI st M := rfl
theorem ri_X6_undo (c : Prop) [Decidable c] (p q n : Nat) (L : AL) (st : List AV) (M : List AC) : rx_X6_undo n (if c then p else q) L st M = if c then rx_X6_undo n p L st M else rx_X6_undo n q L st M := by split <;> rfl
theorem rm_X6_undo {n k pc : Nat} {L : AL} {st : List AV} {M : List AC} {x : Option AV × List AC} (h : rx_X6_undo n pc L st M = some x) (hk : n ≤ k) : rx_X6_undo k pc L st M = some x := am_r_mono n k h hk
def fn_X6_undo : Fn := am_fn rx_X6_undo 2
theorem fok_X6_undo : Fok mi_X6_undo fn_X6_undo := fun _ _ _ _ h => am_fok ok_X6_undo rk_X6_undo rfl h
theorem sp_X6_undo0 {M : List AC} {st lk len ac nx rf lr en lm : Int} {sd : Int64} (h0 : M[26]? = some (mo st lk len ac nx rf lr en lm sd)) (ha : ac = 0) : fn_X6_undo [vR 26] M = some (some (vI (-3)), M) := by
  (refine am_fnI (tb := tb_X6_undo) (n := 40) (Nat.le_of_ble_eq_true rfl) (Nat.le_of_ble_eq_true rfl) ?_; show rx_X6_undo 40 0 _ _ _ = _)
  simp [↓ri_X6_undo, rs_X6_undo_0, rs_X6_undo_1, rs_X6_undo_4, rs_X6_undo_7, rs_X6_undo_10, rs_X6_undo_11, rs_X6_undo_12, rs_X6_undo_15, rs_X6_undo_16, rs_X6_undo_17, rs_X6_undo_20, rs_X6_undo_21, rs_X6_undo_22, rs_X6_undo_25, rs_X6_undo_27, rs_X6_undo_28, rs_X6_undo_30, rs_X6_undo_31, rs_X6_undo_34, rs_X6_undo_35, rs_X6_undo_36, rs_X6_undo_37, rs_X6_undo_39, rs_X6_undo_42, rs_X6_undo_43, rs_X6_undo_46, rs_X6_undo_47, rs_X6_undo_48, rs_X6_undo_51, rs_X6_undo_53, rs_X6_undo_54, rs_X6_undo_57, rs_X6_undo_58, rs_X6_undo_59, rs_X6_undo_60, rs_X6_undo_61, rs_X6_undo_62, rs_X6_undo_65, rs_X6_undo_68, rs_X6_undo_69, rs_X6_undo_9, rs_X6_undo_72, -List.getElem?_eq_getElem, am_js, am_e, am_in, am_sl, rI, rZ, rV, rJ, rA, rC, kI, kJ, kR, am_one, am_nl, am_w8, tIc, tLc, tNul, tIld, tLld, tAld, tIst, tLst, tAst, tIinc, tI2, tDv, tL2, tLrem, tLs, tLcmp, tI2l, tL2i, tI2c, tDup, tDup2, tPop, tGo, tIfeq, tIfne, tIflt, tIfge, tIfgt, tIfle, tCmeq, tCmne, tCmlt, tCmge, tCmgt, tCmle, tNu, tTs, tGf, tPf, tGs, tIal, tIas, tBal, tBas, tAln, tSv, tSc, tSb, tSl, tSk, tCv, tCs, tCt, tMx, tMn, wr_10000, wr_100000, wr_1000000, wr_10000000, wr_100000000, wr_2400, wr_9999, wr_0, wr_1, wr_2, wr_3, wr_4, wr_5, wr_6, wr_7, wr_8, wr_9, wr_10, wr_11, wr_12, wr_13, wr_14, wr_15, wr_16, wr_17, wr_18, wr_19, wr_20, wr_21, wr_22, wr_23, wr_24, wr_25, wr_26, wr_27, wr_28, wr_29, wr_30, wr_31, wr_32, wr_33, wr_34, wr_35, wr_36, wr_37, wr_38, wr_39, wr_40, wr_41, wr_42, wr_43, wr_44, wr_45, wr_46, wr_47, wr_48, wr_49, wr_50, wr_51, wr_52, wr_53, wr_54, wr_55, wr_56, wr_57, wr_58, wr_59, wr_60, wr_61, wr_62, wr_63, wr_99, wr_100, wr_192, wr_255, wr_256, wr_343, wr_999, wr_1000, wr_2401, wr_2147483647, wr_65535, wr_m1, wr_m2, wr_m3, wr_m4, wr_m9, ak_1000, ak_1001, ak_1002, ak_0, ak_1, ak_2, ak_3, ak_4, ak_5, ak_6, ak_7, ak_8, ak_9, ak_10, ak_11, ak_12, ak_13, ak_14, ak_15, ak_16, ak_17, ak_18, ak_19, ak_20, ak_21, ak_22, ak_23, ak_24, ak_25, ak_26, ak_27, ak_28, ak_29, ak_30, ak_31, ak_32, ak_33, ak_34, ak_35, ak_36, ak_37, ak_38, ak_39, ak_40, ak_41, ak_42, ak_43, ak_44, ak_45, ak_46, ak_47, h0, mo, ha]
set_option maxRecDepth 100000 in
set_option maxHeartbeats 4000000 in
theorem sp_X6_undo {M : List AC} {st lk len ac nx rf lr en lm : Int} {sd : Int64} (h0 : M[26]? = some (mo st lk len ac nx rf lr en lm sd)) {d b s : F4} {row : List Int} (h28 : M[28]? = some (aI (nw d b s))) (h35 : M[35]? = some (aI row)) (hl : row.length = 192) (hn : 0 ≤ nx ∧ nx < 16) (ha : 0 < ac ∧ ac ≤ 16) (n9 : Int) (hn9 : (nx + 15) % 16 = n9) : fn_X6_undo [vR 26] M = some (some (vI (ac - 1)), (M.set 26 (mo st lk len (ac - 1) n9 rf lr en lm sd)).set 28 (aI (r12 row n9))) := by
  have wn1 : wr (nx + 15) = nx + 15 := wr_id (by omega) (by omega)
  have wa : wr ac = ac := wr_id (by omega) (by omega)
  have na : ¬ ac = 0 := by omega
  have em : (nx + 15).tmod 16 = n9 := by rw [Int.tmod_eq_emod_of_nonneg (by omega)]; exact hn9
  have hq : 0 ≤ n9 ∧ n9 < 16 := by omega
  clear hn9
  have u0 : wr (12 * n9) = 12 * n9 := wr_id (by omega) (by omega)
  have v0 : 0 ≤ 12 * n9 ∧ 12 * n9 < 192 := by omega
  have u1 : wr (12 * n9 + 1) = 12 * n9 + 1 := wr_id (by omega) (by omega)
  have v1 : 0 ≤ 12 * n9 + 1 ∧ 12 * n9 + 1 < 192 := by omega
  have u2 : wr (12 * n9 + 2) = 12 * n9 + 2 := wr_id (by omega) (by omega)
  have v2 : 0 ≤ 12 * n9 + 2 ∧ 12 * n9 + 2 < 192 := by omega
  have u3 : wr (12 * n9 + 3) = 12 * n9 + 3 := wr_id (by omega) (by omega)
  have v3 : 0 ≤ 12 * n9 + 3 ∧ 12 * n9 + 3 < 192 := by omega
  have u4 : wr (12 * n9 + 4) = 12 * n9 + 4 := wr_id (by omega) (by omega)
  have v4 : 0 ≤ 12 * n9 + 4 ∧ 12 * n9 + 4 < 192 := by omega
  have u5 : wr (12 * n9 + 5) = 12 * n9 + 5 := wr_id (by omega) (by omega)
  have v5 : 0 ≤ 12 * n9 + 5 ∧ 12 * n9 + 5 < 192 := by omega
  have u6 : wr (12 * n9 + 6) = 12 * n9 + 6 := wr_id (by omega) (by omega)
  have v6 : 0 ≤ 12 * n9 + 6 ∧ 12 * n9 + 6 < 192 := by omega
  have u7 : wr (12 * n9 + 7) = 12 * n9 + 7 := wr_id (by omega) (by omega)
  have v7 : 0 ≤ 12 * n9 + 7 ∧ 12 * n9 + 7 < 192 := by omega
  have u8 : wr (12 * n9 + 8) = 12 * n9 + 8 := wr_id (by omega) (by omega)
  have v8 : 0 ≤ 12 * n9 + 8 ∧ 12 * n9 + 8 < 192 := by omega
  have u9 : wr (12 * n9 + 9) = 12 * n9 + 9 := wr_id (by omega) (by omega)
  have v9 : 0 ≤ 12 * n9 + 9 ∧ 12 * n9 + 9 < 192 := by omega
  have u10 : wr (12 * n9 + 10) = 12 * n9 + 10 := wr_id (by omega) (by omega)
  have v10 : 0 ≤ 12 * n9 + 10 ∧ 12 * n9 + 10 < 192 := by omega
  have u11 : wr (12 * n9 + 11) = 12 * n9 + 11 := wr_id (by omega) (by omega)
  have v11 : 0 ≤ 12 * n9 + 11 ∧ 12 * n9 + 11 < 192 := by omega
  (refine am_fnI (tb := tb_X6_undo) (n := 400) (Nat.le_of_ble_eq_true rfl) (Nat.le_of_ble_eq_true rfl) ?_; show rx_X6_undo 400 0 _ _ _ = _)
  simp [↓ri_X6_undo, rs_X6_undo_0, rs_X6_undo_1, rs_X6_undo_4, rs_X6_undo_7, rs_X6_undo_10, rs_X6_undo_11, rs_X6_undo_12, rs_X6_undo_15, rs_X6_undo_16, rs_X6_undo_17, rs_X6_undo_20, rs_X6_undo_21, rs_X6_undo_22, rs_X6_undo_25, rs_X6_undo_27, rs_X6_undo_28, rs_X6_undo_30, rs_X6_undo_31, rs_X6_undo_34, rs_X6_undo_35, rs_X6_undo_36, rs_X6_undo_37, rs_X6_undo_39, rs_X6_undo_42, rs_X6_undo_43, rs_X6_undo_46, rs_X6_undo_47, rs_X6_undo_48, rs_X6_undo_51, rs_X6_undo_53, rs_X6_undo_54, rs_X6_undo_57, rs_X6_undo_58, rs_X6_undo_59, rs_X6_undo_60, rs_X6_undo_61, rs_X6_undo_62, rs_X6_undo_65, rs_X6_undo_68, rs_X6_undo_69, rs_X6_undo_9, rs_X6_undo_72, -List.getElem?_eq_getElem, am_js, am_e, am_in, am_sl, rI, rZ, rV, rJ, rA, rC, kI, kJ, kR, am_one, am_nl, am_w8, tIc, tLc, tNul, tIld, tLld, tAld, tIst, tLst, tAst, tIinc, tI2, tDv, tL2, tLrem, tLs, tLcmp, tI2l, tL2i, tI2c, tDup, tDup2, tPop, tGo, tIfeq, tIfne, tIflt, tIfge, tIfgt, tIfle, tCmeq, tCmne, tCmlt, tCmge, tCmgt, tCmle, tNu, tTs, tGf, tPf, tGs, tIal, tIas, tBal, tBas, tAln, tSv, tSc, tSb, tSl, tSk, tCv, tCs, tCt, tMx, tMn, wr_10000, wr_100000, wr_1000000, wr_10000000, wr_100000000, wr_2400, wr_9999, wr_0, wr_1, wr_2, wr_3, wr_4, wr_5, wr_6, wr_7, wr_8, wr_9, wr_10, wr_11, wr_12, wr_13, wr_14, wr_15, wr_16, wr_17, wr_18, wr_19, wr_20, wr_21, wr_22, wr_23, wr_24, wr_25, wr_26, wr_27, wr_28, wr_29, wr_30, wr_31, wr_32, wr_33, wr_34, wr_35, wr_36, wr_37, wr_38, wr_39, wr_40, wr_41, wr_42, wr_43, wr_44, wr_45, wr_46, wr_47, wr_48, wr_49, wr_50, wr_51, wr_52, wr_53, wr_54, wr_55, wr_56, wr_57, wr_58, wr_59, wr_60, wr_61, wr_62, wr_63, wr_99, wr_100, wr_192, wr_255, wr_256, wr_343, wr_999, wr_1000, wr_2401, wr_2147483647, wr_65535, wr_m1, wr_m2, wr_m3, wr_m4, wr_m9, ak_1000, ak_1001, ak_1002, ak_0, ak_1, ak_2, ak_3, ak_4, ak_5, ak_6, ak_7, ak_8, ak_9, ak_10, ak_11, ak_12, ak_13, ak_14, ak_15, ak_16, ak_17, ak_18, ak_19, ak_20, ak_21, ak_22, ak_23, ak_24, ak_25, ak_26, ak_27, ak_28, ak_29, ak_30, ak_31, ak_32, ak_33, ak_34, ak_35, ak_36, ak_37, ak_38, ak_39, ak_40, ak_41, ak_42, ak_43, ak_44, ak_45, ak_46, ak_47, -List.getD_eq_getElem?_getD, h0, mo, h28, h35, gs h28, gs h0, hl, wn1, wa, na, em, u0, v0, u1, v1, u2, v2, u3, v3, u4, v4, u5, v5, u6, v6, u7, v7, u8, v8, u9, v9, u10, v10, u11, v11, r12, ss (i := 26) (j := 28) (by decide)]
abbrev mi_X6_isCorner : Mi := (yX6_isCorner, cX6_isCorner, 1, some .boolean, 2)
theorem mf_X6_isCorner : am_mf mi_X6_isCorner 1 := ⟨w_co_X6_isCorner, w_in_X6, ⟨by decide +kernel, by decide +kernel⟩, by decide +kernel, by decide⟩
def tb_X6_isCorner : List (Nat × Tr) := [(0, tIld 0 1), (1, tI2l), (2, tLc 0 1), (3, tLc 3 3), (6, tCs 3 fn_X6_in)]
theorem ok_X6_isCorner : Tok mi_X6_isCorner tb_X6_isCorner :=
  Tc (sd_iload_n dX6_isCorner_0) <|
  Tc (sd_i2l dX6_isCorner_1) <|
  Tc (sd_lconst rfl dX6_isCorner_2) <|
  Tc (sd_ldc2 w_cl_X6_94 dX6_isCorner_3) <|
  Tc (sd_cs fok_X6_in mf_X6_in w_ml_X6_65 w_st_X6_in (by decide) dX6_isCorner_6) <|
  Tn
theorem rk_X6_isCorner : Rok mi_X6_isCorner rZ [9] := rk_z dX6_isCorner_9 <| rk_n
def rx_X6_isCorner : Nat → Nat → AL → List AV → List AC → Option (Option AV × List AC) := am_r tb_X6_isCorner rZ [9]
theorem rs_X6_isCorner_0 (n : Nat) (L : AL) (st : List AV) (M : List AC) : rx_X6_isCorner (n + 1) 0 L st M = am_j (rx_X6_isCorner n) ((tIld 0 1) 0 L st M) := rfl
theorem rs_X6_isCorner_1 (n : Nat) (L : AL) (st : List AV) (M : List AC) : rx_X6_isCorner (n + 1) 1 L st M = am_j (rx_X6_isCorner n) (tI2l 1 L st M) := rfl
theorem rs_X6_isCorner_2 (n : Nat) (L : AL) (st : List AV) (M : List AC) : rx_X6_isCorner (n + 1) 2 L st M = am_j (rx_X6_isCorner n) ((tLc 0 1) 2 L st M) := rfl
theorem rs_X6_isCorner_3 (n : Nat) (L : AL) (st : List AV) (M : List AC) : rx_X6_isCorner (n + 1) 3 L st M = am_j (rx_X6_isCorner n) ((tLc 3 3) 3 L st M) := rfl
theorem rs_X6_isCorner_6 (n : Nat) (L : AL) (st : List AV) (M : List AC) : rx_X6_isCorner (n + 1) 6 L st M = am_j (rx_X6_isCorner n) ((tCs 3 fn_X6_in) 6 L st M) := rfl
theorem rs_X6_isCorner_9 (n : Nat) (L : AL) (st : List AV) (M : List AC) : rx_X6_isCorner (n + 1) 9 L st M = am_e rZ st M := rfl
theorem ri_X6_isCorner (c : Prop) [Decidable c] (p q n : Nat) (L : AL) (st : List AV) (M : List AC) : rx_X6_isCorner n (if c then p else q) L st M = if c then rx_X6_isCorner n p L st M else rx_X6_isCorner n q L st M := by split <;> rfl
theorem rm_X6_isCorner {n k pc : Nat} {L : AL} {st : List AV} {M : List AC} {x : Option AV × List AC} (h : rx_X6_isCorner n pc L st M = some x) (hk : n ≤ k) : rx_X6_isCorner k pc L st M = some x := am_r_mono n k h hk
def fn_X6_isCorner : Fn := am_fn rx_X6_isCorner 1
theorem fok_X6_isCorner : Fok mi_X6_isCorner fn_X6_isCorner := fun _ _ _ _ h => am_fok ok_X6_isCorner rk_X6_isCorner rfl h
theorem sp_X6_isCorner (c : Int) (M : List AC) : fn_X6_isCorner [vI c] M = some (some (vI (if 0 ≤ wr c ∧ wr c ≤ 3 then 1 else 0)), M) := by
  (refine am_fnI (tb := tb_X6_isCorner) (n := 20) (Nat.le_of_ble_eq_true rfl) (Nat.le_of_ble_eq_true rfl) ?_; show rx_X6_isCorner 20 0 _ _ _ = _)
  by_cases h : 0 ≤ wr c ∧ wr c ≤ 3 <;>
  simp [↓ri_X6_isCorner, rs_X6_isCorner_0, rs_X6_isCorner_1, rs_X6_isCorner_2, rs_X6_isCorner_3, rs_X6_isCorner_6, rs_X6_isCorner_9, -List.getElem?_eq_getElem, am_js, am_e, am_in, am_sl, rI, rZ, rV, rJ, rA, rC, kI, kJ, kR, am_one, am_nl, am_w8, tIc, tLc, tNul, tIld, tLld, tAld, tIst, tLst, tAst, tIinc, tI2, tDv, tL2, tLrem, tLs, tLcmp, tI2l, tL2i, tI2c, tDup, tDup2, tPop, tGo, tIfeq, tIfne, tIflt, tIfge, tIfgt, tIfle, tCmeq, tCmne, tCmlt, tCmge, tCmgt, tCmle, tNu, tTs, tGf, tPf, tGs, tIal, tIas, tBal, tBas, tAln, tSv, tSc, tSb, tSl, tSk, tCv, tCs, tCt, tMx, tMn, wr_10000, wr_100000, wr_1000000, wr_10000000, wr_100000000, wr_2400, wr_9999, wr_0, wr_1, wr_2, wr_3, wr_4, wr_5, wr_6, wr_7, wr_8, wr_9, wr_10, wr_11, wr_12, wr_13, wr_14, wr_15, wr_16, wr_17, wr_18, wr_19, wr_20, wr_21, wr_22, wr_23, wr_24, wr_25, wr_26, wr_27, wr_28, wr_29, wr_30, wr_31, wr_32, wr_33, wr_34, wr_35, wr_36, wr_37, wr_38, wr_39, wr_40, wr_41, wr_42, wr_43, wr_44, wr_45, wr_46, wr_47, wr_48, wr_49, wr_50, wr_51, wr_52, wr_53, wr_54, wr_55, wr_56, wr_57, wr_58, wr_59, wr_60, wr_61, wr_62, wr_63, wr_99, wr_100, wr_192, wr_255, wr_256, wr_343, wr_999, wr_1000, wr_2401, wr_2147483647, wr_65535, wr_m1, wr_m2, wr_m3, wr_m4, wr_m9, ak_1000, ak_1001, ak_1002, ak_0, ak_1, ak_2, ak_3, ak_4, ak_5, ak_6, ak_7, ak_8, ak_9, ak_10, ak_11, ak_12, ak_13, ak_14, ak_15, ak_16, ak_17, ak_18, ak_19, ak_20, ak_21, ak_22, ak_23, ak_24, ak_25, ak_26, ak_27, ak_28, ak_29, ak_30, ak_31, ak_32, ak_33, ak_34, ak_35, ak_36, ak_37, ak_38, ak_39, ak_40, ak_41, ak_42, ak_43, ak_44, ak_45, ak_46, ak_47, sp_X6_in, -Int32.toInt_ofInt, -not_and, wr_eq, jt_0, jt_1, jt_2, jt_3, jt_4, jt_5, jt_6, jt_8, jt_12, jt_30, jt_48, jt_49, jt_51, jt_57, jt_255, jt_9999, h]
abbrev mi_X6_wipe : Mi := (yX6_wipe, cX6_wipe, 2, some .int, 1)
theorem mf_X6_wipe : am_mf mi_X6_wipe 0 := ⟨w_co_X6_wipe, w_in_X6, ⟨by decide +kernel, by decide +kernel⟩, by decide +kernel, by decide⟩
def tb_X6_wipe : List (Nat × Tr) := [(0, tAld 0 1), (1, tGf 6 7), (4, tIst 1 1), (5, tAld 0 1), (6, tIc 0 1), (7, tPf kI 6 7), (10, tIld 1 1)]
theorem ok_X6_wipe : Tok mi_X6_wipe tb_X6_wipe :=
  Tc (sd_aload_n dX6_wipe_0) <|
  Tc (sd_getf (T := TX6) rfl giX6 (by decide) w_fl_X6_69 dX6_wipe_1) <|
  Tc (sd_istore_n dX6_wipe_4) <|
  Tc (sd_aload_n dX6_wipe_5) <|
  Tc (sd_iconst rfl dX6_wipe_6) <|
  Tc (sd_putf (T := TX6) rfl giX6 (by decide) w_fl_X6_69 tyX6 tyX6_ok nmX6 (kI_ok) rfl dX6_wipe_7) <|
  Tc (sd_iload_n dX6_wipe_10) <|
  Tn
theorem rk_X6_wipe : Rok mi_X6_wipe rI [11] := rk_i dX6_wipe_11 <| rk_n
def rx_X6_wipe : Nat → Nat → AL → List AV → List AC → Option (Option AV × List AC) := am_r tb_X6_wipe rI [11]
theorem rs_X6_wipe_0 (n : Nat) (L : AL) (st : List AV) (M : List AC) : rx_X6_wipe (n + 1) 0 L st M = am_j (rx_X6_wipe n) ((tAld 0 1) 0 L st M) := rfl
theorem rs_X6_wipe_1 (n : Nat) (L : AL) (st : List AV) (M : List AC) : rx_X6_wipe (n + 1) 1 L st M = am_j (rx_X6_wipe n) ((tGf 6 7) 1 L st M) := rfl
theorem rs_X6_wipe_4 (n : Nat) (L : AL) (st : List AV) (M : List AC) : rx_X6_wipe (n + 1) 4 L st M = am_j (rx_X6_wipe n) ((tIst 1 1) 4 L st M) := rfl
theorem rs_X6_wipe_5 (n : Nat) (L : AL) (st : List AV) (M : List AC) : rx_X6_wipe (n + 1) 5 L st M = am_j (rx_X6_wipe n) ((tAld 0 1) 5 L st M) := rfl
theorem rs_X6_wipe_6 (n : Nat) (L : AL) (st : List AV) (M : List AC) : rx_X6_wipe (n + 1) 6 L st M = am_j (rx_X6_wipe n) ((tIc 0 1) 6 L st M) := rfl
theorem rs_X6_wipe_7 (n : Nat) (L : AL) (st : List AV) (M : List AC) : rx_X6_wipe (n + 1) 7 L st M = am_j (rx_X6_wipe n) ((tPf kI 6 7) 7 L st M) := rfl
theorem rs_X6_wipe_10 (n : Nat) (L : AL) (st : List AV) (M : List AC) : rx_X6_wipe (n + 1) 10 L st M = am_j (rx_X6_wipe n) ((tIld 1 1) 10 L st M) := rfl
theorem rs_X6_wipe_11 (n : Nat) (L : AL) (st : List AV) (M : List AC) : rx_X6_wipe (n + 1) 11 L st M = am_e rI st M := rfl
theorem ri_X6_wipe (c : Prop) [Decidable c] (p q n : Nat) (L : AL) (st : List AV) (M : List AC) : rx_X6_wipe n (if c then p else q) L st M = if c then rx_X6_wipe n p L st M else rx_X6_wipe n q L st M := by split <;> rfl
theorem rm_X6_wipe {n k pc : Nat} {L : AL} {st : List AV} {M : List AC} {x : Option AV × List AC} (h : rx_X6_wipe n pc L st M = some x) (hk : n ≤ k) : rx_X6_wipe k pc L st M = some x := am_r_mono n k h hk
def fn_X6_wipe : Fn := am_fn rx_X6_wipe 2
theorem fok_X6_wipe : Fok mi_X6_wipe fn_X6_wipe := fun _ _ _ _ h => am_fok ok_X6_wipe rk_X6_wipe rfl h
theorem sp_X6_wipe {M : List AC} {st lk len ac nx rf lr en lm : Int} {sd : Int64} (h0 : M[26]? = some (mo st lk len ac nx rf lr en lm sd)) : fn_X6_wipe [vR 26] M = some (some (vI len), M.set 26 (mo st lk 0 ac nx rf lr en lm sd)) := by
  (refine am_fnI (tb := tb_X6_wipe) (n := 20) (Nat.le_of_ble_eq_true rfl) (Nat.le_of_ble_eq_true rfl) ?_; show rx_X6_wipe 20 0 _ _ _ = _)
  simp [↓ri_X6_wipe, rs_X6_wipe_0, rs_X6_wipe_1, rs_X6_wipe_4, rs_X6_wipe_5, rs_X6_wipe_6, rs_X6_wipe_7, rs_X6_wipe_10, rs_X6_wipe_11, -List.getElem?_eq_getElem, am_js, am_e, am_in, am_sl, rI, rZ, rV, rJ, rA, rC, kI, kJ, kR, am_one, am_nl, am_w8, tIc, tLc, tNul, tIld, tLld, tAld, tIst, tLst, tAst, tIinc, tI2, tDv, tL2, tLrem, tLs, tLcmp, tI2l, tL2i, tI2c, tDup, tDup2, tPop, tGo, tIfeq, tIfne, tIflt, tIfge, tIfgt, tIfle, tCmeq, tCmne, tCmlt, tCmge, tCmgt, tCmle, tNu, tTs, tGf, tPf, tGs, tIal, tIas, tBal, tBas, tAln, tSv, tSc, tSb, tSl, tSk, tCv, tCs, tCt, tMx, tMn, wr_10000, wr_100000, wr_1000000, wr_10000000, wr_100000000, wr_2400, wr_9999, wr_0, wr_1, wr_2, wr_3, wr_4, wr_5, wr_6, wr_7, wr_8, wr_9, wr_10, wr_11, wr_12, wr_13, wr_14, wr_15, wr_16, wr_17, wr_18, wr_19, wr_20, wr_21, wr_22, wr_23, wr_24, wr_25, wr_26, wr_27, wr_28, wr_29, wr_30, wr_31, wr_32, wr_33, wr_34, wr_35, wr_36, wr_37, wr_38, wr_39, wr_40, wr_41, wr_42, wr_43, wr_44, wr_45, wr_46, wr_47, wr_48, wr_49, wr_50, wr_51, wr_52, wr_53, wr_54, wr_55, wr_56, wr_57, wr_58, wr_59, wr_60, wr_61, wr_62, wr_63, wr_99, wr_100, wr_192, wr_255, wr_256, wr_343, wr_999, wr_1000, wr_2401, wr_2147483647, wr_65535, wr_m1, wr_m2, wr_m3, wr_m4, wr_m9, ak_1000, ak_1001, ak_1002, ak_0, ak_1, ak_2, ak_3, ak_4, ak_5, ak_6, ak_7, ak_8, ak_9, ak_10, ak_11, ak_12, ak_13, ak_14, ak_15, ak_16, ak_17, ak_18, ak_19, ak_20, ak_21, ak_22, ak_23, ak_24, ak_25, ak_26, ak_27, ak_28, ak_29, ak_30, ak_31, ak_32, ak_33, ak_34, ak_35, ak_36, ak_37, ak_38, ak_39, ak_40, ak_41, ak_42, ak_43, ak_44, ak_45, ak_46, ak_47, h0, mo]
abbrev mi_X6_seed : Mi := (yX6_seed, cX6_seed, 5, some .long, 1)
theorem mf_X6_seed : am_mf mi_X6_seed 1 := ⟨w_co_X6_seed, w_in_X6, ⟨by decide +kernel, by decide +kernel⟩, by decide +kernel, by decide⟩
def tb_X6_seed : List (Nat × Tr) := [(0, tAld 0 1), (1, tGf 6 23), (4, tLst 3 1), (5, tAld 0 1), (6, tLld 1 1), (7, tPf kJ 6 23), (10, tLld 3 1)]
theorem ok_X6_seed : Tok mi_X6_seed tb_X6_seed :=
  Tc (sd_aload_n dX6_seed_0) <|
  Tc (sd_getf (T := TX6) rfl giX6 (by decide) w_fl_X6_238 dX6_seed_1) <|
  Tc (sd_lstore_n dX6_seed_4) <|
  Tc (sd_aload_n dX6_seed_5) <|
  Tc (sd_lload_n dX6_seed_6) <|
  Tc (sd_putf (T := TX6) rfl giX6 (by decide) w_fl_X6_238 tyX6 tyX6_ok nmX6 (kJ_ok) rfl dX6_seed_7) <|
  Tc (sd_lload_n dX6_seed_10) <|
  Tn
theorem rk_X6_seed : Rok mi_X6_seed rJ [11] := rk_j dX6_seed_11 <| rk_n
def rx_X6_seed : Nat → Nat → AL → List AV → List AC → Option (Option AV × List AC) := am_r tb_X6_seed rJ [11]
theorem rs_X6_seed_0 (n : Nat) (L : AL) (st : List AV) (M : List AC) : rx_X6_seed (n + 1) 0 L st M = am_j (rx_X6_seed n) ((tAld 0 1) 0 L st M) := rfl
theorem rs_X6_seed_1 (n : Nat) (L : AL) (st : List AV) (M : List AC) : rx_X6_seed (n + 1) 1 L st M = am_j (rx_X6_seed n) ((tGf 6 23) 1 L st M) := rfl
theorem rs_X6_seed_4 (n : Nat) (L : AL) (st : List AV) (M : List AC) : rx_X6_seed (n + 1) 4 L st M = am_j (rx_X6_seed n) ((tLst 3 1) 4 L st M) := rfl
theorem rs_X6_seed_5 (n : Nat) (L : AL) (st : List AV) (M : List AC) : rx_X6_seed (n + 1) 5 L st M = am_j (rx_X6_seed n) ((tAld 0 1) 5 L st M) := rfl
theorem rs_X6_seed_6 (n : Nat) (L : AL) (st : List AV) (M : List AC) : rx_X6_seed (n + 1) 6 L st M = am_j (rx_X6_seed n) ((tLld 1 1) 6 L st M) := rfl
theorem rs_X6_seed_7 (n : Nat) (L : AL) (st : List AV) (M : List AC) : rx_X6_seed (n + 1) 7 L st M = am_j (rx_X6_seed n) ((tPf kJ 6 23) 7 L st M) := rfl
theorem rs_X6_seed_10 (n : Nat) (L : AL) (st : List AV) (M : List AC) : rx_X6_seed (n + 1) 10 L st M = am_j (rx_X6_seed n) ((tLld 3 1) 10 L st M) := rfl
theorem rs_X6_seed_11 (n : Nat) (L : AL) (st : List AV) (M : List AC) : rx_X6_seed (n + 1) 11 L st M = am_e rJ st M := rfl
theorem ri_X6_seed (c : Prop) [Decidable c] (p q n : Nat) (L : AL) (st : List AV) (M : List AC) : rx_X6_seed n (if c then p else q) L st M = if c then rx_X6_seed n p L st M else rx_X6_seed n q L st M := by split <;> rfl
theorem rm_X6_seed {n k pc : Nat} {L : AL} {st : List AV} {M : List AC} {x : Option AV × List AC} (h : rx_X6_seed n pc L st M = some x) (hk : n ≤ k) : rx_X6_seed k pc L st M = some x := am_r_mono n k h hk
def fn_X6_seed : Fn := am_fn rx_X6_seed 5
theorem fok_X6_seed : Fok mi_X6_seed fn_X6_seed := fun _ _ _ _ h => am_fok ok_X6_seed rk_X6_seed rfl h
theorem sp_X6_seed {M : List AC} {st lk len ac nx rf lr en lm : Int} {sd : Int64} (h0 : M[26]? = some (mo st lk len ac nx rf lr en lm sd)) (w : Int64) : fn_X6_seed [vR 26, vJ w] M = some (some (vJ sd), M.set 26 (mo st lk len ac nx rf lr en lm w)) := by
  (refine am_fnI (tb := tb_X6_seed) (n := 20) (Nat.le_of_ble_eq_true rfl) (Nat.le_of_ble_eq_true rfl) ?_; show rx_X6_seed 20 0 _ _ _ = _)
  simp [↓ri_X6_seed, rs_X6_seed_0, rs_X6_seed_1, rs_X6_seed_4, rs_X6_seed_5, rs_X6_seed_6, rs_X6_seed_7, rs_X6_seed_10, rs_X6_seed_11, -List.getElem?_eq_getElem, am_js, am_e, am_in, am_sl, rI, rZ, rV, rJ, rA, rC, kI, kJ, kR, am_one, am_nl, am_w8, tIc, tLc, tNul, tIld, tLld, tAld, tIst, tLst, tAst, tIinc, tI2, tDv, tL2, tLrem, tLs, tLcmp, tI2l, tL2i, tI2c, tDup, tDup2, tPop, tGo, tIfeq, tIfne, tIflt, tIfge, tIfgt, tIfle, tCmeq, tCmne, tCmlt, tCmge, tCmgt, tCmle, tNu, tTs, tGf, tPf, tGs, tIal, tIas, tBal, tBas, tAln, tSv, tSc, tSb, tSl, tSk, tCv, tCs, tCt, tMx, tMn, wr_10000, wr_100000, wr_1000000, wr_10000000, wr_100000000, wr_2400, wr_9999, wr_0, wr_1, wr_2, wr_3, wr_4, wr_5, wr_6, wr_7, wr_8, wr_9, wr_10, wr_11, wr_12, wr_13, wr_14, wr_15, wr_16, wr_17, wr_18, wr_19, wr_20, wr_21, wr_22, wr_23, wr_24, wr_25, wr_26, wr_27, wr_28, wr_29, wr_30, wr_31, wr_32, wr_33, wr_34, wr_35, wr_36, wr_37, wr_38, wr_39, wr_40, wr_41, wr_42, wr_43, wr_44, wr_45, wr_46, wr_47, wr_48, wr_49, wr_50, wr_51, wr_52, wr_53, wr_54, wr_55, wr_56, wr_57, wr_58, wr_59, wr_60, wr_61, wr_62, wr_63, wr_99, wr_100, wr_192, wr_255, wr_256, wr_343, wr_999, wr_1000, wr_2401, wr_2147483647, wr_65535, wr_m1, wr_m2, wr_m3, wr_m4, wr_m9, ak_1000, ak_1001, ak_1002, ak_0, ak_1, ak_2, ak_3, ak_4, ak_5, ak_6, ak_7, ak_8, ak_9, ak_10, ak_11, ak_12, ak_13, ak_14, ak_15, ak_16, ak_17, ak_18, ak_19, ak_20, ak_21, ak_22, ak_23, ak_24, ak_25, ak_26, ak_27, ak_28, ak_29, ak_30, ak_31, ak_32, ak_33, ak_34, ak_35, ak_36, ak_37, ak_38, ak_39, ak_40, ak_41, ak_42, ak_43, ak_44, ak_45, ak_46, ak_47, h0, mo]
abbrev mi_X6_write : Mi := (yX6_write, cX6_write, 2, some .int, 2)
theorem mf_X6_write : am_mf mi_X6_write 1 := ⟨w_co_X6_write, w_in_X6, ⟨by decide +kernel, by decide +kernel⟩, by decide +kernel, by decide⟩
def tb_X6_write : List (Nat × Tr) := [(0, tIld 1 1), (1, tI2l), (2, tLc 0 1), (3, tLc 255 3), (6, tCs 3 fn_X6_in), (9, tIfne 15), (12, tIc (-2) 2), (15, tAld 0 1), (16, tGf 6 7), (19, tIc 24 2), (21, tCmne 27), (24, tIc (-4) 2), (27, tAld 0 1), (28, tGf 6 6), (31, tAld 0 1), (32, tGf 6 7), (35, tIld 1 1), (36, tIas), (37, tAld 0 1), (38, tDup), (39, tGf 6 7), (42, tIc 1 1), (43, tI2 (fun a b => a + b)), (44, tPf kI 6 7), (47, tAld 0 1), (48, tGf 6 7)]
theorem ok_X6_write : Tok mi_X6_write tb_X6_write :=
  Tc (sd_iload_n dX6_write_0) <|
  Tc (sd_i2l dX6_write_1) <|
  Tc (sd_lconst rfl dX6_write_2) <|
  Tc (sd_ldc2 w_cl_X6_63 dX6_write_3) <|
  Tc (sd_cs fok_X6_in mf_X6_in w_ml_X6_65 w_st_X6_in (by decide) dX6_write_6) <|
  Tc (sd_if_ne (by decide) dX6_write_9) <|
  Tc (sd_bipush (by decide +kernel) dX6_write_12) <|
  Tc (sd_aload_n dX6_write_15) <|
  Tc (sd_getf (T := TX6) rfl giX6 (by decide) w_fl_X6_69 dX6_write_16) <|
  Tc (sd_bipush (by decide +kernel) dX6_write_19) <|
  Tc (sd_cm_ne (by decide) dX6_write_21) <|
  Tc (sd_bipush (by decide +kernel) dX6_write_24) <|
  Tc (sd_aload_n dX6_write_27) <|
  Tc (sd_getf (T := TX6) rfl giX6 (by decide) w_fl_X6_22 dX6_write_28) <|
  Tc (sd_aload_n dX6_write_31) <|
  Tc (sd_getf (T := TX6) rfl giX6 (by decide) w_fl_X6_69 dX6_write_32) <|
  Tc (sd_iload_n dX6_write_35) <|
  Tc (sd_ias dX6_write_36) <|
  Tc (sd_aload_n dX6_write_37) <|
  Tc (sd_dup dX6_write_38) <|
  Tc (sd_getf (T := TX6) rfl giX6 (by decide) w_fl_X6_69 dX6_write_39) <|
  Tc (sd_iconst rfl dX6_write_42) <|
  Tc (sd_iadd dX6_write_43) <|
  Tc (sd_putf (T := TX6) rfl giX6 (by decide) w_fl_X6_69 tyX6 tyX6_ok nmX6 (kI_ok) rfl dX6_write_44) <|
  Tc (sd_aload_n dX6_write_47) <|
  Tc (sd_getf (T := TX6) rfl giX6 (by decide) w_fl_X6_69 dX6_write_48) <|
  Tn
theorem rk_X6_write : Rok mi_X6_write rI [14, 26, 51] := rk_i dX6_write_14 <| rk_i dX6_write_26 <| rk_i dX6_write_51 <| rk_n
def rx_X6_write : Nat → Nat → AL → List AV → List AC → Option (Option AV × List AC) := am_r tb_X6_write rI [14, 26, 51]
theorem rs_X6_write_0 (n : Nat) (L : AL) (st : List AV) (M : List AC) : rx_X6_write (n + 1) 0 L st M = am_j (rx_X6_write n) ((tIld 1 1) 0 L st M) := rfl
theorem rs_X6_write_1 (n : Nat) (L : AL) (st : List AV) (M : List AC) : rx_X6_write (n + 1) 1 L st M = am_j (rx_X6_write n) (tI2l 1 L st M) := rfl
theorem rs_X6_write_2 (n : Nat) (L : AL) (st : List AV) (M : List AC) : rx_X6_write (n + 1) 2 L st M = am_j (rx_X6_write n) ((tLc 0 1) 2 L st M) := rfl
theorem rs_X6_write_3 (n : Nat) (L : AL) (st : List AV) (M : List AC) : rx_X6_write (n + 1) 3 L st M = am_j (rx_X6_write n) ((tLc 255 3) 3 L st M) := rfl
theorem rs_X6_write_6 (n : Nat) (L : AL) (st : List AV) (M : List AC) : rx_X6_write (n + 1) 6 L st M = am_j (rx_X6_write n) ((tCs 3 fn_X6_in) 6 L st M) := rfl
theorem rs_X6_write_9 (n : Nat) (L : AL) (st : List AV) (M : List AC) : rx_X6_write (n + 1) 9 L st M = am_j (rx_X6_write n) ((tIfne 15) 9 L st M) := rfl
theorem rs_X6_write_12 (n : Nat) (L : AL) (st : List AV) (M : List AC) : rx_X6_write (n + 1) 12 L st M = am_j (rx_X6_write n) ((tIc (-2) 2) 12 L st M) := rfl
theorem rs_X6_write_15 (n : Nat) (L : AL) (st : List AV) (M : List AC) : rx_X6_write (n + 1) 15 L st M = am_j (rx_X6_write n) ((tAld 0 1) 15 L st M) := rfl
theorem rs_X6_write_16 (n : Nat) (L : AL) (st : List AV) (M : List AC) : rx_X6_write (n + 1) 16 L st M = am_j (rx_X6_write n) ((tGf 6 7) 16 L st M) := rfl
theorem rs_X6_write_19 (n : Nat) (L : AL) (st : List AV) (M : List AC) : rx_X6_write (n + 1) 19 L st M = am_j (rx_X6_write n) ((tIc 24 2) 19 L st M) := rfl
theorem rs_X6_write_21 (n : Nat) (L : AL) (st : List AV) (M : List AC) : rx_X6_write (n + 1) 21 L st M = am_j (rx_X6_write n) ((tCmne 27) 21 L st M) := rfl
theorem rs_X6_write_24 (n : Nat) (L : AL) (st : List AV) (M : List AC) : rx_X6_write (n + 1) 24 L st M = am_j (rx_X6_write n) ((tIc (-4) 2) 24 L st M) := rfl
theorem rs_X6_write_27 (n : Nat) (L : AL) (st : List AV) (M : List AC) : rx_X6_write (n + 1) 27 L st M = am_j (rx_X6_write n) ((tAld 0 1) 27 L st M) := rfl
theorem rs_X6_write_28 (n : Nat) (L : AL) (st : List AV) (M : List AC) : rx_X6_write (n + 1) 28 L st M = am_j (rx_X6_write n) ((tGf 6 6) 28 L st M) := rfl
theorem rs_X6_write_31 (n : Nat) (L : AL) (st : List AV) (M : List AC) : rx_X6_write (n + 1) 31 L st M = am_j (rx_X6_write n) ((tAld 0 1) 31 L st M) := rfl
theorem rs_X6_write_32 (n : Nat) (L : AL) (st : List AV) (M : List AC) : rx_X6_write (n + 1) 32 L st M = am_j (rx_X6_write n) ((tGf 6 7) 32 L st M) := rfl
theorem rs_X6_write_35 (n : Nat) (L : AL) (st : List AV) (M : List AC) : rx_X6_write (n + 1) 35 L st M = am_j (rx_X6_write n) ((tIld 1 1) 35 L st M) := rfl
theorem rs_X6_write_36 (n : Nat) (L : AL) (st : List AV) (M : List AC) : rx_X6_write (n + 1) 36 L st M = am_j (rx_X6_write n) (tIas 36 L st M) := rfl
theorem rs_X6_write_37 (n : Nat) (L : AL) (st : List AV) (M : List AC) : rx_X6_write (n + 1) 37 L st M = am_j (rx_X6_write n) ((tAld 0 1) 37 L st M) := rfl
theorem rs_X6_write_38 (n : Nat) (L : AL) (st : List AV) (M : List AC) : rx_X6_write (n + 1) 38 L st M = am_j (rx_X6_write n) (tDup 38 L st M) := rfl
theorem rs_X6_write_39 (n : Nat) (L : AL) (st : List AV) (M : List AC) : rx_X6_write (n + 1) 39 L st M = am_j (rx_X6_write n) ((tGf 6 7) 39 L st M) := rfl
theorem rs_X6_write_42 (n : Nat) (L : AL) (st : List AV) (M : List AC) : rx_X6_write (n + 1) 42 L st M = am_j (rx_X6_write n) ((tIc 1 1) 42 L st M) := rfl
theorem rs_X6_write_43 (n : Nat) (L : AL) (st : List AV) (M : List AC) : rx_X6_write (n + 1) 43 L st M = am_j (rx_X6_write n) ((tI2 (fun a b => a + b)) 43 L st M) := rfl
theorem rs_X6_write_44 (n : Nat) (L : AL) (st : List AV) (M : List AC) : rx_X6_write (n + 1) 44 L st M = am_j (rx_X6_write n) ((tPf kI 6 7) 44 L st M) := rfl
theorem rs_X6_write_47 (n : Nat) (L : AL) (st : List AV) (M : List AC) : rx_X6_write (n + 1) 47 L st M = am_j (rx_X6_write n) ((tAld 0 1) 47 L st M) := rfl
theorem rs_X6_write_48 (n : Nat) (L : AL) (st : List AV) (M : List AC) : rx_X6_write (n + 1) 48 L st M = am_j (rx_X6_write n) ((tGf 6 7) 48 L st M) := rfl
theorem rs_X6_write_14 (n : Nat) (L : AL) (st : List AV) (M : List AC) : rx_X6_write (n + 1) 14 L st M = am_e rI st M := rfl
theorem rs_X6_write_26 (n : Nat) (L : AL) (st : List AV) (M : List AC) : rx_X6_write (n + 1) 26 L st M = am_e rI st M := rfl
theorem rs_X6_write_51 (n : Nat) (L : AL) (st : List AV) (M : List AC) : rx_X6_write (n + 1) 51 L st M = am_e rI st M := rfl
theorem ri_X6_write (c : Prop) [Decidable c] (p q n : Nat) (L : AL) (st : List AV) (M : List AC) : rx_X6_write n (if c then p else q) L st M = if c then rx_X6_write n p L st M else rx_X6_write n q L st M := by split <;> rfl
theorem rm_X6_write {n k pc : Nat} {L : AL} {st : List AV} {M : List AC} {x : Option AV × List AC} (h : rx_X6_write n pc L st M = some x) (hk : n ≤ k) : rx_X6_write k pc L st M = some x := am_r_mono n k h hk
def fn_X6_write : Fn := am_fn rx_X6_write 2
theorem fok_X6_write : Fok mi_X6_write fn_X6_write := fun _ _ _ _ h => am_fok ok_X6_write rk_X6_write rfl h
theorem sp_X6_write {M : List AC} {st lk len ac nx rf lr en lm : Int} {sd : Int64} (h0 : M[26]? = some (mo st lk len ac nx rf lr en lm sd)) {txt : List Int} (h31 : M[31]? = some (aI txt)) (ht : txt.length = 24) (hl : 0 ≤ len ∧ len ≤ 24) (c : Int) (hc : -2147483648 ≤ c ∧ c < 2147483648) : fn_X6_write [vR 26, vI c] M = if 0 ≤ c ∧ c ≤ 255 then (if len = 24 then some (some (vI (-4)), M) else some (some (vI (len + 1)), (M.set 26 (mo st lk (len + 1) ac nx rf lr en lm sd)).set 31 (aI (txt.set len.toNat c)))) else some (some (vI (-2)), M) := by
  have wc : wr c = c := wr_id (by omega) (by omega)
  have wl : wr len = len := wr_id (by omega) (by omega)
  by_cases h1 : 0 ≤ c ∧ c ≤ 255
  · rw [if_pos h1]
    by_cases h2 : len = 24
    · rw [if_pos h2]
      (refine am_fnI (tb := tb_X6_write) (n := 40) (Nat.le_of_ble_eq_true rfl) (Nat.le_of_ble_eq_true rfl) ?_; show rx_X6_write 40 0 _ _ _ = _)
      simp [↓ri_X6_write, rs_X6_write_0, rs_X6_write_1, rs_X6_write_2, rs_X6_write_3, rs_X6_write_6, rs_X6_write_9, rs_X6_write_12, rs_X6_write_15, rs_X6_write_16, rs_X6_write_19, rs_X6_write_21, rs_X6_write_24, rs_X6_write_27, rs_X6_write_28, rs_X6_write_31, rs_X6_write_32, rs_X6_write_35, rs_X6_write_36, rs_X6_write_37, rs_X6_write_38, rs_X6_write_39, rs_X6_write_42, rs_X6_write_43, rs_X6_write_44, rs_X6_write_47, rs_X6_write_48, rs_X6_write_14, rs_X6_write_26, rs_X6_write_51, -List.getElem?_eq_getElem, am_js, am_e, am_in, am_sl, rI, rZ, rV, rJ, rA, rC, kI, kJ, kR, am_one, am_nl, am_w8, tIc, tLc, tNul, tIld, tLld, tAld, tIst, tLst, tAst, tIinc, tI2, tDv, tL2, tLrem, tLs, tLcmp, tI2l, tL2i, tI2c, tDup, tDup2, tPop, tGo, tIfeq, tIfne, tIflt, tIfge, tIfgt, tIfle, tCmeq, tCmne, tCmlt, tCmge, tCmgt, tCmle, tNu, tTs, tGf, tPf, tGs, tIal, tIas, tBal, tBas, tAln, tSv, tSc, tSb, tSl, tSk, tCv, tCs, tCt, tMx, tMn, wr_10000, wr_100000, wr_1000000, wr_10000000, wr_100000000, wr_2400, wr_9999, wr_0, wr_1, wr_2, wr_3, wr_4, wr_5, wr_6, wr_7, wr_8, wr_9, wr_10, wr_11, wr_12, wr_13, wr_14, wr_15, wr_16, wr_17, wr_18, wr_19, wr_20, wr_21, wr_22, wr_23, wr_24, wr_25, wr_26, wr_27, wr_28, wr_29, wr_30, wr_31, wr_32, wr_33, wr_34, wr_35, wr_36, wr_37, wr_38, wr_39, wr_40, wr_41, wr_42, wr_43, wr_44, wr_45, wr_46, wr_47, wr_48, wr_49, wr_50, wr_51, wr_52, wr_53, wr_54, wr_55, wr_56, wr_57, wr_58, wr_59, wr_60, wr_61, wr_62, wr_63, wr_99, wr_100, wr_192, wr_255, wr_256, wr_343, wr_999, wr_1000, wr_2401, wr_2147483647, wr_65535, wr_m1, wr_m2, wr_m3, wr_m4, wr_m9, ak_1000, ak_1001, ak_1002, ak_0, ak_1, ak_2, ak_3, ak_4, ak_5, ak_6, ak_7, ak_8, ak_9, ak_10, ak_11, ak_12, ak_13, ak_14, ak_15, ak_16, ak_17, ak_18, ak_19, ak_20, ak_21, ak_22, ak_23, ak_24, ak_25, ak_26, ak_27, ak_28, ak_29, ak_30, ak_31, ak_32, ak_33, ak_34, ak_35, ak_36, ak_37, ak_38, ak_39, ak_40, ak_41, ak_42, ak_43, ak_44, ak_45, ak_46, ak_47, sp_X6_in, -Int32.toInt_ofInt, -not_and, wr_eq, jt_0, jt_1, jt_2, jt_3, jt_4, jt_5, jt_6, jt_8, jt_12, jt_30, jt_48, jt_49, jt_51, jt_57, jt_255, jt_9999, h0, mo, wc, wl, h1, h2]
    · rw [if_neg h2]
      have h3 : len < 24 := by omega
      (refine am_fnI (tb := tb_X6_write) (n := 40) (Nat.le_of_ble_eq_true rfl) (Nat.le_of_ble_eq_true rfl) ?_; show rx_X6_write 40 0 _ _ _ = _)
      simp [↓ri_X6_write, rs_X6_write_0, rs_X6_write_1, rs_X6_write_2, rs_X6_write_3, rs_X6_write_6, rs_X6_write_9, rs_X6_write_12, rs_X6_write_15, rs_X6_write_16, rs_X6_write_19, rs_X6_write_21, rs_X6_write_24, rs_X6_write_27, rs_X6_write_28, rs_X6_write_31, rs_X6_write_32, rs_X6_write_35, rs_X6_write_36, rs_X6_write_37, rs_X6_write_38, rs_X6_write_39, rs_X6_write_42, rs_X6_write_43, rs_X6_write_44, rs_X6_write_47, rs_X6_write_48, rs_X6_write_14, rs_X6_write_26, rs_X6_write_51, -List.getElem?_eq_getElem, am_js, am_e, am_in, am_sl, rI, rZ, rV, rJ, rA, rC, kI, kJ, kR, am_one, am_nl, am_w8, tIc, tLc, tNul, tIld, tLld, tAld, tIst, tLst, tAst, tIinc, tI2, tDv, tL2, tLrem, tLs, tLcmp, tI2l, tL2i, tI2c, tDup, tDup2, tPop, tGo, tIfeq, tIfne, tIflt, tIfge, tIfgt, tIfle, tCmeq, tCmne, tCmlt, tCmge, tCmgt, tCmle, tNu, tTs, tGf, tPf, tGs, tIal, tIas, tBal, tBas, tAln, tSv, tSc, tSb, tSl, tSk, tCv, tCs, tCt, tMx, tMn, wr_10000, wr_100000, wr_1000000, wr_10000000, wr_100000000, wr_2400, wr_9999, wr_0, wr_1, wr_2, wr_3, wr_4, wr_5, wr_6, wr_7, wr_8, wr_9, wr_10, wr_11, wr_12, wr_13, wr_14, wr_15, wr_16, wr_17, wr_18, wr_19, wr_20, wr_21, wr_22, wr_23, wr_24, wr_25, wr_26, wr_27, wr_28, wr_29, wr_30, wr_31, wr_32, wr_33, wr_34, wr_35, wr_36, wr_37, wr_38, wr_39, wr_40, wr_41, wr_42, wr_43, wr_44, wr_45, wr_46, wr_47, wr_48, wr_49, wr_50, wr_51, wr_52, wr_53, wr_54, wr_55, wr_56, wr_57, wr_58, wr_59, wr_60, wr_61, wr_62, wr_63, wr_99, wr_100, wr_192, wr_255, wr_256, wr_343, wr_999, wr_1000, wr_2401, wr_2147483647, wr_65535, wr_m1, wr_m2, wr_m3, wr_m4, wr_m9, ak_1000, ak_1001, ak_1002, ak_0, ak_1, ak_2, ak_3, ak_4, ak_5, ak_6, ak_7, ak_8, ak_9, ak_10, ak_11, ak_12, ak_13, ak_14, ak_15, ak_16, ak_17, ak_18, ak_19, ak_20, ak_21, ak_22, ak_23, ak_24, ak_25, ak_26, ak_27, ak_28, ak_29, ak_30, ak_31, ak_32, ak_33, ak_34, ak_35, ak_36, ak_37, ak_38, ak_39, ak_40, ak_41, ak_42, ak_43, ak_44, ak_45, ak_46, ak_47, sp_X6_in, -Int32.toInt_ofInt, -not_and, wr_eq, jt_0, jt_1, jt_2, jt_3, jt_4, jt_5, jt_6, jt_8, jt_12, jt_30, jt_48, jt_49, jt_51, jt_57, jt_255, jt_9999, h0, mo, h31, gs h0, wc, wl, h1, h2, h3, ht, hl, ss (i := 26) (j := 31) (by decide)]
  · rw [if_neg h1]
    (refine am_fnI (tb := tb_X6_write) (n := 40) (Nat.le_of_ble_eq_true rfl) (Nat.le_of_ble_eq_true rfl) ?_; show rx_X6_write 40 0 _ _ _ = _)
    simp [↓ri_X6_write, rs_X6_write_0, rs_X6_write_1, rs_X6_write_2, rs_X6_write_3, rs_X6_write_6, rs_X6_write_9, rs_X6_write_12, rs_X6_write_15, rs_X6_write_16, rs_X6_write_19, rs_X6_write_21, rs_X6_write_24, rs_X6_write_27, rs_X6_write_28, rs_X6_write_31, rs_X6_write_32, rs_X6_write_35, rs_X6_write_36, rs_X6_write_37, rs_X6_write_38, rs_X6_write_39, rs_X6_write_42, rs_X6_write_43, rs_X6_write_44, rs_X6_write_47, rs_X6_write_48, rs_X6_write_14, rs_X6_write_26, rs_X6_write_51, -List.getElem?_eq_getElem, am_js, am_e, am_in, am_sl, rI, rZ, rV, rJ, rA, rC, kI, kJ, kR, am_one, am_nl, am_w8, tIc, tLc, tNul, tIld, tLld, tAld, tIst, tLst, tAst, tIinc, tI2, tDv, tL2, tLrem, tLs, tLcmp, tI2l, tL2i, tI2c, tDup, tDup2, tPop, tGo, tIfeq, tIfne, tIflt, tIfge, tIfgt, tIfle, tCmeq, tCmne, tCmlt, tCmge, tCmgt, tCmle, tNu, tTs, tGf, tPf, tGs, tIal, tIas, tBal, tBas, tAln, tSv, tSc, tSb, tSl, tSk, tCv, tCs, tCt, tMx, tMn, wr_10000, wr_100000, wr_1000000, wr_10000000, wr_100000000, wr_2400, wr_9999, wr_0, wr_1, wr_2, wr_3, wr_4, wr_5, wr_6, wr_7, wr_8, wr_9, wr_10, wr_11, wr_12, wr_13, wr_14, wr_15, wr_16, wr_17, wr_18, wr_19, wr_20, wr_21, wr_22, wr_23, wr_24, wr_25, wr_26, wr_27, wr_28, wr_29, wr_30, wr_31, wr_32, wr_33, wr_34, wr_35, wr_36, wr_37, wr_38, wr_39, wr_40, wr_41, wr_42, wr_43, wr_44, wr_45, wr_46, wr_47, wr_48, wr_49, wr_50, wr_51, wr_52, wr_53, wr_54, wr_55, wr_56, wr_57, wr_58, wr_59, wr_60, wr_61, wr_62, wr_63, wr_99, wr_100, wr_192, wr_255, wr_256, wr_343, wr_999, wr_1000, wr_2401, wr_2147483647, wr_65535, wr_m1, wr_m2, wr_m3, wr_m4, wr_m9, ak_1000, ak_1001, ak_1002, ak_0, ak_1, ak_2, ak_3, ak_4, ak_5, ak_6, ak_7, ak_8, ak_9, ak_10, ak_11, ak_12, ak_13, ak_14, ak_15, ak_16, ak_17, ak_18, ak_19, ak_20, ak_21, ak_22, ak_23, ak_24, ak_25, ak_26, ak_27, ak_28, ak_29, ak_30, ak_31, ak_32, ak_33, ak_34, ak_35, ak_36, ak_37, ak_38, ak_39, ak_40, ak_41, ak_42, ak_43, ak_44, ak_45, ak_46, ak_47, sp_X6_in, -Int32.toInt_ofInt, -not_and, wr_eq, jt_0, jt_1, jt_2, jt_3, jt_4, jt_5, jt_6, jt_8, jt_12, jt_30, jt_48, jt_49, jt_51, jt_57, jt_255, jt_9999, h0, mo, wc, wl, h1]
abbrev mi_X6_edge : Mi := (yX6_edge, cX6_edge, 3, some .int, 3)
theorem mf_X6_edge : am_mf mi_X6_edge 2 := ⟨w_co_X6_edge, w_in_X6, ⟨by decide +kernel, by decide +kernel⟩, by decide +kernel, by decide⟩
def tb_X6_edge : List (Nat × Tr) := [(0, tIld 1 1), (1, tCs 1 fn_X6_isCorner), (4, tIfne 9), (7, tIc (-1) 1), (9, tAld 0 1), (10, tCv 6 0 fn_X6_layNow), (13, tIld 2 1), (14, tIfne 26), (17, tAld 0 1), (18, tGf 6 10), (21, tIld 1 1), (22, tIal), (23, tGo 41), (26, tIld 2 1), (27, tIc 1 1), (28, tCmne 39), (31, tAld 0 1), (32, tIld 1 1), (33, tCv 6 1 fn_X6_edgePull), (36, tGo 41), (39, tIc (-2) 2)]
theorem ok_X6_edge : Tok mi_X6_edge tb_X6_edge :=
  Tc (sd_iload_n dX6_edge_0) <|
  Tc (sd_cs fok_X6_isCorner mf_X6_isCorner w_ml_X6_112 w_st_X6_isCorner (by decide) dX6_edge_1) <|
  Tc (sd_if_ne (by decide) dX6_edge_4) <|
  Tc (sd_iconst rfl dX6_edge_7) <|
  Tc (sd_aload_n dX6_edge_9) <|
  Tc (sd_cv (T := TX6) fok_X6_layNow mf_X6_layNow rfl w_ml_X6_115 w_im_X6_layNow w_se_X6_layNow (by decide) dX6_edge_10) <|
  Tc (sd_iload_n dX6_edge_13) <|
  Tc (sd_if_ne (by decide) dX6_edge_14) <|
  Tc (sd_aload_n dX6_edge_17) <|
  Tc (sd_getf (T := TX6) rfl giX6 (by decide) w_fl_X6_31 dX6_edge_18) <|
  Tc (sd_iload_n dX6_edge_21) <|
  Tc (sd_ial dX6_edge_22) <|
  Tc (sd_goto (by decide) dX6_edge_23) <|
  Tc (sd_iload_n dX6_edge_26) <|
  Tc (sd_iconst rfl dX6_edge_27) <|
  Tc (sd_cm_ne (by decide) dX6_edge_28) <|
  Tc (sd_aload_n dX6_edge_31) <|
  Tc (sd_iload_n dX6_edge_32) <|
  Tc (sd_cv (T := TX6) fok_X6_edgePull mf_X6_edgePull rfl w_ml_X6_100 w_im_X6_edgePull w_se_X6_edgePull (by decide) dX6_edge_33) <|
  Tc (sd_goto (by decide) dX6_edge_36) <|
  Tc (sd_bipush (by decide +kernel) dX6_edge_39) <|
  Tn
theorem rk_X6_edge : Rok mi_X6_edge rI [8, 41] := rk_i dX6_edge_8 <| rk_i dX6_edge_41 <| rk_n
def rx_X6_edge : Nat → Nat → AL → List AV → List AC → Option (Option AV × List AC) := am_r tb_X6_edge rI [8, 41]
theorem rs_X6_edge_0 (n : Nat) (L : AL) (st : List AV) (M : List AC) : rx_X6_edge (n + 1) 0 L st M = am_j (rx_X6_edge n) ((tIld 1 1) 0 L st M) := rfl
theorem rs_X6_edge_1 (n : Nat) (L : AL) (st : List AV) (M : List AC) : rx_X6_edge (n + 1) 1 L st M = am_j (rx_X6_edge n) ((tCs 1 fn_X6_isCorner) 1 L st M) := rfl
theorem rs_X6_edge_4 (n : Nat) (L : AL) (st : List AV) (M : List AC) : rx_X6_edge (n + 1) 4 L st M = am_j (rx_X6_edge n) ((tIfne 9) 4 L st M) := rfl
theorem rs_X6_edge_7 (n : Nat) (L : AL) (st : List AV) (M : List AC) : rx_X6_edge (n + 1) 7 L st M = am_j (rx_X6_edge n) ((tIc (-1) 1) 7 L st M) := rfl
theorem rs_X6_edge_9 (n : Nat) (L : AL) (st : List AV) (M : List AC) : rx_X6_edge (n + 1) 9 L st M = am_j (rx_X6_edge n) ((tAld 0 1) 9 L st M) := rfl
theorem rs_X6_edge_10 (n : Nat) (L : AL) (st : List AV) (M : List AC) : rx_X6_edge (n + 1) 10 L st M = am_j (rx_X6_edge n) ((tCv 6 0 fn_X6_layNow) 10 L st M) := rfl
theorem rs_X6_edge_13 (n : Nat) (L : AL) (st : List AV) (M : List AC) : rx_X6_edge (n + 1) 13 L st M = am_j (rx_X6_edge n) ((tIld 2 1) 13 L st M) := rfl
theorem rs_X6_edge_14 (n : Nat) (L : AL) (st : List AV) (M : List AC) : rx_X6_edge (n + 1) 14 L st M = am_j (rx_X6_edge n) ((tIfne 26) 14 L st M) := rfl
theorem rs_X6_edge_17 (n : Nat) (L : AL) (st : List AV) (M : List AC) : rx_X6_edge (n + 1) 17 L st M = am_j (rx_X6_edge n) ((tAld 0 1) 17 L st M) := rfl
theorem rs_X6_edge_18 (n : Nat) (L : AL) (st : List AV) (M : List AC) : rx_X6_edge (n + 1) 18 L st M = am_j (rx_X6_edge n) ((tGf 6 10) 18 L st M) := rfl
theorem rs_X6_edge_21 (n : Nat) (L : AL) (st : List AV) (M : List AC) : rx_X6_edge (n + 1) 21 L st M = am_j (rx_X6_edge n) ((tIld 1 1) 21 L st M) := rfl
theorem rs_X6_edge_22 (n : Nat) (L : AL) (st : List AV) (M : List AC) : rx_X6_edge (n + 1) 22 L st M = am_j (rx_X6_edge n) (tIal 22 L st M) := rfl
theorem rs_X6_edge_23 (n : Nat) (L : AL) (st : List AV) (M : List AC) : rx_X6_edge (n + 1) 23 L st M = am_j (rx_X6_edge n) ((tGo 41) 23 L st M) := rfl
theorem rs_X6_edge_26 (n : Nat) (L : AL) (st : List AV) (M : List AC) : rx_X6_edge (n + 1) 26 L st M = am_j (rx_X6_edge n) ((tIld 2 1) 26 L st M) := rfl
theorem rs_X6_edge_27 (n : Nat) (L : AL) (st : List AV) (M : List AC) : rx_X6_edge (n + 1) 27 L st M = am_j (rx_X6_edge n) ((tIc 1 1) 27 L st M) := rfl
theorem rs_X6_edge_28 (n : Nat) (L : AL) (st : List AV) (M : List AC) : rx_X6_edge (n + 1) 28 L st M = am_j (rx_X6_edge n) ((tCmne 39) 28 L st M) := rfl
theorem rs_X6_edge_31 (n : Nat) (L : AL) (st : List AV) (M : List AC) : rx_X6_edge (n + 1) 31 L st M = am_j (rx_X6_edge n) ((tAld 0 1) 31 L st M) := rfl
theorem rs_X6_edge_32 (n : Nat) (L : AL) (st : List AV) (M : List AC) : rx_X6_edge (n + 1) 32 L st M = am_j (rx_X6_edge n) ((tIld 1 1) 32 L st M) := rfl
theorem rs_X6_edge_33 (n : Nat) (L : AL) (st : List AV) (M : List AC) : rx_X6_edge (n + 1) 33 L st M = am_j (rx_X6_edge n) ((tCv 6 1 fn_X6_edgePull) 33 L st M) := rfl
theorem rs_X6_edge_36 (n : Nat) (L : AL) (st : List AV) (M : List AC) : rx_X6_edge (n + 1) 36 L st M = am_j (rx_X6_edge n) ((tGo 41) 36 L st M) := rfl
theorem rs_X6_edge_39 (n : Nat) (L : AL) (st : List AV) (M : List AC) : rx_X6_edge (n + 1) 39 L st M = am_j (rx_X6_edge n) ((tIc (-2) 2) 39 L st M) := rfl
theorem rs_X6_edge_8 (n : Nat) (L : AL) (st : List AV) (M : List AC) : rx_X6_edge (n + 1) 8 L st M = am_e rI st M := rfl
theorem rs_X6_edge_41 (n : Nat) (L : AL) (st : List AV) (M : List AC) : rx_X6_edge (n + 1) 41 L st M = am_e rI st M := rfl
theorem ri_X6_edge (c : Prop) [Decidable c] (p q n : Nat) (L : AL) (st : List AV) (M : List AC) : rx_X6_edge n (if c then p else q) L st M = if c then rx_X6_edge n p L st M else rx_X6_edge n q L st M := by split <;> rfl
theorem rm_X6_edge {n k pc : Nat} {L : AL} {st : List AV} {M : List AC} {x : Option AV × List AC} (h : rx_X6_edge n pc L st M = some x) (hk : n ≤ k) : rx_X6_edge k pc L st M = some x := am_r_mono n k h hk
def fn_X6_edge : Fn := am_fn rx_X6_edge 3
theorem fok_X6_edge : Fok mi_X6_edge fn_X6_edge := fun _ _ _ _ h => am_fok ok_X6_edge rk_X6_edge rfl h
theorem sp_X6_edge {M : List AC} {st lk len ac nx rf lr en lm : Int} {sd : Int64} (h0 : M[26]? = some (mo st lk len ac nx rf lr en lm sd)) {g d b s d' b' s' : F4} (h27 : M[27]? = some (aI (l4 g))) (h28 : M[28]? = some (aI (nw d b s))) (h32 : M[32]? = some (aI (l4 d'))) (h33 : M[33]? = some (aI (l4 b'))) (h34 : M[34]? = some (aI (l4 s'))) (hr : SR st g s d b) (c w : Int) (hc : -2147483648 ≤ c ∧ c < 2147483648) (hw : -2147483648 ≤ w ∧ w < 2147483648) : fn_X6_edge [vR 26, vI c, vI w] M = if 0 ≤ c ∧ c < 4 then some (some (vI (if w = 0 then g4 s c.toNat else if w = 1 then pu st s d b c.toNat else -2)), ((M.set 32 (aI (l4 d))).set 33 (aI (l4 b))).set 34 (aI (l4 s))) else some (some (vI (-1)), M) := by
  have wc : wr c = c := wr_id (by omega) (by omega)
  have ww : wr w = w := wr_id (by omega) (by omega)
  by_cases h : 0 ≤ c ∧ c < 4
  · rw [if_pos h]
    have q1 := sp_X6_layNow h0 h28 h32 h33 h34
    have hs : HD (((M.set 32 (aI (l4 d))).set 33 (aI (l4 b))).set 34 (aI (l4 s))) st g s d b := by
      refine ⟨⟨lk, len, ac, nx, rf, lr, en, lm, sd, ?_⟩, ?_, ?_, ?_, ?_⟩
      · simp [-List.getElem?_eq_getElem, h0]
      · simp [-List.getElem?_eq_getElem, h27]
      · simp [-List.getElem?_eq_getElem, gs h32]
      · simp [-List.getElem?_eq_getElem, gs h33]
      · simp [-List.getElem?_eq_getElem, gs h34]
    have q2 := sp_X6_edgePull hs hr c h
    by_cases e0 : w = 0
    · (refine am_fnI (tb := tb_X6_edge) (n := 40) (Nat.le_of_ble_eq_true rfl) (Nat.le_of_ble_eq_true rfl) ?_; show rx_X6_edge 40 0 _ _ _ = _)
      rcases c4 h with rfl | rfl | rfl | rfl <;>
      simp [↓ri_X6_edge, rs_X6_edge_0, rs_X6_edge_1, rs_X6_edge_4, rs_X6_edge_7, rs_X6_edge_9, rs_X6_edge_10, rs_X6_edge_13, rs_X6_edge_14, rs_X6_edge_17, rs_X6_edge_18, rs_X6_edge_21, rs_X6_edge_22, rs_X6_edge_23, rs_X6_edge_26, rs_X6_edge_27, rs_X6_edge_28, rs_X6_edge_31, rs_X6_edge_32, rs_X6_edge_33, rs_X6_edge_36, rs_X6_edge_39, rs_X6_edge_8, rs_X6_edge_41, -List.getElem?_eq_getElem, am_js, am_e, am_in, am_sl, rI, rZ, rV, rJ, rA, rC, kI, kJ, kR, am_one, am_nl, am_w8, tIc, tLc, tNul, tIld, tLld, tAld, tIst, tLst, tAst, tIinc, tI2, tDv, tL2, tLrem, tLs, tLcmp, tI2l, tL2i, tI2c, tDup, tDup2, tPop, tGo, tIfeq, tIfne, tIflt, tIfge, tIfgt, tIfle, tCmeq, tCmne, tCmlt, tCmge, tCmgt, tCmle, tNu, tTs, tGf, tPf, tGs, tIal, tIas, tBal, tBas, tAln, tSv, tSc, tSb, tSl, tSk, tCv, tCs, tCt, tMx, tMn, wr_10000, wr_100000, wr_1000000, wr_10000000, wr_100000000, wr_2400, wr_9999, wr_0, wr_1, wr_2, wr_3, wr_4, wr_5, wr_6, wr_7, wr_8, wr_9, wr_10, wr_11, wr_12, wr_13, wr_14, wr_15, wr_16, wr_17, wr_18, wr_19, wr_20, wr_21, wr_22, wr_23, wr_24, wr_25, wr_26, wr_27, wr_28, wr_29, wr_30, wr_31, wr_32, wr_33, wr_34, wr_35, wr_36, wr_37, wr_38, wr_39, wr_40, wr_41, wr_42, wr_43, wr_44, wr_45, wr_46, wr_47, wr_48, wr_49, wr_50, wr_51, wr_52, wr_53, wr_54, wr_55, wr_56, wr_57, wr_58, wr_59, wr_60, wr_61, wr_62, wr_63, wr_99, wr_100, wr_192, wr_255, wr_256, wr_343, wr_999, wr_1000, wr_2401, wr_2147483647, wr_65535, wr_m1, wr_m2, wr_m3, wr_m4, wr_m9, ak_1000, ak_1001, ak_1002, ak_0, ak_1, ak_2, ak_3, ak_4, ak_5, ak_6, ak_7, ak_8, ak_9, ak_10, ak_11, ak_12, ak_13, ak_14, ak_15, ak_16, ak_17, ak_18, ak_19, ak_20, ak_21, ak_22, ak_23, ak_24, ak_25, ak_26, ak_27, ak_28, ak_29, ak_30, ak_31, ak_32, ak_33, ak_34, ak_35, ak_36, ak_37, ak_38, ak_39, ak_40, ak_41, ak_42, ak_43, ak_44, ak_45, ak_46, ak_47, sp_X6_isCorner, h0, mo, q1, gs h34, ww, e0, g4]
    · by_cases e1 : w = 1
      · (refine am_fnI (tb := tb_X6_edge) (n := 40) (Nat.le_of_ble_eq_true rfl) (Nat.le_of_ble_eq_true rfl) ?_; show rx_X6_edge 40 0 _ _ _ = _)
        rcases c4 h with rfl | rfl | rfl | rfl <;> simp at q2 <;>
        simp [↓ri_X6_edge, rs_X6_edge_0, rs_X6_edge_1, rs_X6_edge_4, rs_X6_edge_7, rs_X6_edge_9, rs_X6_edge_10, rs_X6_edge_13, rs_X6_edge_14, rs_X6_edge_17, rs_X6_edge_18, rs_X6_edge_21, rs_X6_edge_22, rs_X6_edge_23, rs_X6_edge_26, rs_X6_edge_27, rs_X6_edge_28, rs_X6_edge_31, rs_X6_edge_32, rs_X6_edge_33, rs_X6_edge_36, rs_X6_edge_39, rs_X6_edge_8, rs_X6_edge_41, -List.getElem?_eq_getElem, am_js, am_e, am_in, am_sl, rI, rZ, rV, rJ, rA, rC, kI, kJ, kR, am_one, am_nl, am_w8, tIc, tLc, tNul, tIld, tLld, tAld, tIst, tLst, tAst, tIinc, tI2, tDv, tL2, tLrem, tLs, tLcmp, tI2l, tL2i, tI2c, tDup, tDup2, tPop, tGo, tIfeq, tIfne, tIflt, tIfge, tIfgt, tIfle, tCmeq, tCmne, tCmlt, tCmge, tCmgt, tCmle, tNu, tTs, tGf, tPf, tGs, tIal, tIas, tBal, tBas, tAln, tSv, tSc, tSb, tSl, tSk, tCv, tCs, tCt, tMx, tMn, wr_10000, wr_100000, wr_1000000, wr_10000000, wr_100000000, wr_2400, wr_9999, wr_0, wr_1, wr_2, wr_3, wr_4, wr_5, wr_6, wr_7, wr_8, wr_9, wr_10, wr_11, wr_12, wr_13, wr_14, wr_15, wr_16, wr_17, wr_18, wr_19, wr_20, wr_21, wr_22, wr_23, wr_24, wr_25, wr_26, wr_27, wr_28, wr_29, wr_30, wr_31, wr_32, wr_33, wr_34, wr_35, wr_36, wr_37, wr_38, wr_39, wr_40, wr_41, wr_42, wr_43, wr_44, wr_45, wr_46, wr_47, wr_48, wr_49, wr_50, wr_51, wr_52, wr_53, wr_54, wr_55, wr_56, wr_57, wr_58, wr_59, wr_60, wr_61, wr_62, wr_63, wr_99, wr_100, wr_192, wr_255, wr_256, wr_343, wr_999, wr_1000, wr_2401, wr_2147483647, wr_65535, wr_m1, wr_m2, wr_m3, wr_m4, wr_m9, ak_1000, ak_1001, ak_1002, ak_0, ak_1, ak_2, ak_3, ak_4, ak_5, ak_6, ak_7, ak_8, ak_9, ak_10, ak_11, ak_12, ak_13, ak_14, ak_15, ak_16, ak_17, ak_18, ak_19, ak_20, ak_21, ak_22, ak_23, ak_24, ak_25, ak_26, ak_27, ak_28, ak_29, ak_30, ak_31, ak_32, ak_33, ak_34, ak_35, ak_36, ak_37, ak_38, ak_39, ak_40, ak_41, ak_42, ak_43, ak_44, ak_45, ak_46, ak_47, sp_X6_isCorner, h0, mo, q1, q2, ww, e1]
      · (refine am_fnI (tb := tb_X6_edge) (n := 40) (Nat.le_of_ble_eq_true rfl) (Nat.le_of_ble_eq_true rfl) ?_; show rx_X6_edge 40 0 _ _ _ = _)
        rcases c4 h with rfl | rfl | rfl | rfl <;>
        simp [↓ri_X6_edge, rs_X6_edge_0, rs_X6_edge_1, rs_X6_edge_4, rs_X6_edge_7, rs_X6_edge_9, rs_X6_edge_10, rs_X6_edge_13, rs_X6_edge_14, rs_X6_edge_17, rs_X6_edge_18, rs_X6_edge_21, rs_X6_edge_22, rs_X6_edge_23, rs_X6_edge_26, rs_X6_edge_27, rs_X6_edge_28, rs_X6_edge_31, rs_X6_edge_32, rs_X6_edge_33, rs_X6_edge_36, rs_X6_edge_39, rs_X6_edge_8, rs_X6_edge_41, -List.getElem?_eq_getElem, am_js, am_e, am_in, am_sl, rI, rZ, rV, rJ, rA, rC, kI, kJ, kR, am_one, am_nl, am_w8, tIc, tLc, tNul, tIld, tLld, tAld, tIst, tLst, tAst, tIinc, tI2, tDv, tL2, tLrem, tLs, tLcmp, tI2l, tL2i, tI2c, tDup, tDup2, tPop, tGo, tIfeq, tIfne, tIflt, tIfge, tIfgt, tIfle, tCmeq, tCmne, tCmlt, tCmge, tCmgt, tCmle, tNu, tTs, tGf, tPf, tGs, tIal, tIas, tBal, tBas, tAln, tSv, tSc, tSb, tSl, tSk, tCv, tCs, tCt, tMx, tMn, wr_10000, wr_100000, wr_1000000, wr_10000000, wr_100000000, wr_2400, wr_9999, wr_0, wr_1, wr_2, wr_3, wr_4, wr_5, wr_6, wr_7, wr_8, wr_9, wr_10, wr_11, wr_12, wr_13, wr_14, wr_15, wr_16, wr_17, wr_18, wr_19, wr_20, wr_21, wr_22, wr_23, wr_24, wr_25, wr_26, wr_27, wr_28, wr_29, wr_30, wr_31, wr_32, wr_33, wr_34, wr_35, wr_36, wr_37, wr_38, wr_39, wr_40, wr_41, wr_42, wr_43, wr_44, wr_45, wr_46, wr_47, wr_48, wr_49, wr_50, wr_51, wr_52, wr_53, wr_54, wr_55, wr_56, wr_57, wr_58, wr_59, wr_60, wr_61, wr_62, wr_63, wr_99, wr_100, wr_192, wr_255, wr_256, wr_343, wr_999, wr_1000, wr_2401, wr_2147483647, wr_65535, wr_m1, wr_m2, wr_m3, wr_m4, wr_m9, ak_1000, ak_1001, ak_1002, ak_0, ak_1, ak_2, ak_3, ak_4, ak_5, ak_6, ak_7, ak_8, ak_9, ak_10, ak_11, ak_12, ak_13, ak_14, ak_15, ak_16, ak_17, ak_18, ak_19, ak_20, ak_21, ak_22, ak_23, ak_24, ak_25, ak_26, ak_27, ak_28, ak_29, ak_30, ak_31, ak_32, ak_33, ak_34, ak_35, ak_36, ak_37, ak_38, ak_39, ak_40, ak_41, ak_42, ak_43, ak_44, ak_45, ak_46, ak_47, sp_X6_isCorner, h0, mo, q1, ww, e0, e1]
  · rw [if_neg h]
    have h' : ¬ (0 ≤ c ∧ c ≤ 3) := by omega
    (refine am_fnI (tb := tb_X6_edge) (n := 40) (Nat.le_of_ble_eq_true rfl) (Nat.le_of_ble_eq_true rfl) ?_; show rx_X6_edge 40 0 _ _ _ = _)
    simp [↓ri_X6_edge, rs_X6_edge_0, rs_X6_edge_1, rs_X6_edge_4, rs_X6_edge_7, rs_X6_edge_9, rs_X6_edge_10, rs_X6_edge_13, rs_X6_edge_14, rs_X6_edge_17, rs_X6_edge_18, rs_X6_edge_21, rs_X6_edge_22, rs_X6_edge_23, rs_X6_edge_26, rs_X6_edge_27, rs_X6_edge_28, rs_X6_edge_31, rs_X6_edge_32, rs_X6_edge_33, rs_X6_edge_36, rs_X6_edge_39, rs_X6_edge_8, rs_X6_edge_41, -List.getElem?_eq_getElem, am_js, am_e, am_in, am_sl, rI, rZ, rV, rJ, rA, rC, kI, kJ, kR, am_one, am_nl, am_w8, tIc, tLc, tNul, tIld, tLld, tAld, tIst, tLst, tAst, tIinc, tI2, tDv, tL2, tLrem, tLs, tLcmp, tI2l, tL2i, tI2c, tDup, tDup2, tPop, tGo, tIfeq, tIfne, tIflt, tIfge, tIfgt, tIfle, tCmeq, tCmne, tCmlt, tCmge, tCmgt, tCmle, tNu, tTs, tGf, tPf, tGs, tIal, tIas, tBal, tBas, tAln, tSv, tSc, tSb, tSl, tSk, tCv, tCs, tCt, tMx, tMn, wr_10000, wr_100000, wr_1000000, wr_10000000, wr_100000000, wr_2400, wr_9999, wr_0, wr_1, wr_2, wr_3, wr_4, wr_5, wr_6, wr_7, wr_8, wr_9, wr_10, wr_11, wr_12, wr_13, wr_14, wr_15, wr_16, wr_17, wr_18, wr_19, wr_20, wr_21, wr_22, wr_23, wr_24, wr_25, wr_26, wr_27, wr_28, wr_29, wr_30, wr_31, wr_32, wr_33, wr_34, wr_35, wr_36, wr_37, wr_38, wr_39, wr_40, wr_41, wr_42, wr_43, wr_44, wr_45, wr_46, wr_47, wr_48, wr_49, wr_50, wr_51, wr_52, wr_53, wr_54, wr_55, wr_56, wr_57, wr_58, wr_59, wr_60, wr_61, wr_62, wr_63, wr_99, wr_100, wr_192, wr_255, wr_256, wr_343, wr_999, wr_1000, wr_2401, wr_2147483647, wr_65535, wr_m1, wr_m2, wr_m3, wr_m4, wr_m9, ak_1000, ak_1001, ak_1002, ak_0, ak_1, ak_2, ak_3, ak_4, ak_5, ak_6, ak_7, ak_8, ak_9, ak_10, ak_11, ak_12, ak_13, ak_14, ak_15, ak_16, ak_17, ak_18, ak_19, ak_20, ak_21, ak_22, ak_23, ak_24, ak_25, ak_26, ak_27, ak_28, ak_29, ak_30, ak_31, ak_32, ak_33, ak_34, ak_35, ak_36, ak_37, ak_38, ak_39, ak_40, ak_41, ak_42, ak_43, ak_44, ak_45, ak_46, ak_47, -not_and, sp_X6_isCorner, wc, h']
end
