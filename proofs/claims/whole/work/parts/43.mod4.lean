noncomputable section
def k12 (row : List Int) (nx : Int) (d b s : F4) : List Int := ((((((((((((row.set (12 * nx).toNat d.1).set (12 * nx + 1).toNat d.2.1).set (12 * nx + 2).toNat d.2.2.1).set (12 * nx + 3).toNat d.2.2.2).set (12 * nx + 4).toNat b.1).set (12 * nx + 5).toNat b.2.1).set (12 * nx + 6).toNat b.2.2.1).set (12 * nx + 7).toNat b.2.2.2).set (12 * nx + 8).toNat s.1).set (12 * nx + 9).toNat s.2.1).set (12 * nx + 10).toNat s.2.2.1).set (12 * nx + 11).toNat s.2.2.2)
def r12 (row : List Int) (nx : Int) : List Int := [row.getD (12 * nx).toNat 0, row.getD (12 * nx + 1).toNat 0, row.getD (12 * nx + 2).toNat 0, row.getD (12 * nx + 3).toNat 0, row.getD (12 * nx + 4).toNat 0, row.getD (12 * nx + 5).toNat 0, row.getD (12 * nx + 6).toNat 0, row.getD (12 * nx + 7).toNat 0, row.getD (12 * nx + 8).toNat 0, row.getD (12 * nx + 9).toNat 0, row.getD (12 * nx + 10).toNat 0, row.getD (12 * nx + 11).toNat 0]
abbrev mi_X6_keepAct : Mi := (yX6_keepAct, cX6_keepAct, 2, none, 1)
theorem mf_X6_keepAct : am_mf mi_X6_keepAct 0 := ⟨w_co_X6_keepAct, w_in_X6, ⟨by decide +kernel, by decide +kernel⟩, by decide +kernel, by decide⟩
def tb_X6_keepAct : List (Nat × Tr) := [(0, tIc 0 1), (1, tIst 1 1), (2, tIld 1 1), (3, tIc 12 2), (5, tCmge 34), (8, tAld 0 1), (9, tGf 6 13), (12, tIc 12 2), (14, tAld 0 1), (15, tGf 6 12), (18, tI2 (fun a b => a * b)), (19, tIld 1 1), (20, tI2 (fun a b => a + b)), (21, tAld 0 1), (22, tGf 6 2), (25, tIld 1 1), (26, tIal), (27, tIas), (28, tIinc 1 1), (31, tGo 2), (34, tAld 0 1), (35, tAld 0 1), (36, tGf 6 12), (39, tIc 1 1), (40, tI2 (fun a b => a + b)), (41, tIc 16 2), (43, tDv Int.tmod), (44, tPf kI 6 12), (47, tAld 0 1), (48, tAld 0 1), (49, tGf 6 11), (52, tIc 16 2), (54, tCmge 66), (57, tAld 0 1), (58, tGf 6 11), (61, tIc 1 1), (62, tI2 (fun a b => a + b)), (63, tGo 68), (66, tIc 16 2), (68, tPf kI 6 11)]
theorem ok_X6_keepAct : Tok mi_X6_keepAct tb_X6_keepAct :=
  Tc (sd_iconst rfl dX6_keepAct_0) <|
  Tc (sd_istore_n dX6_keepAct_1) <|
  Tc (sd_iload_n dX6_keepAct_2) <|
  Tc (sd_bipush (by decide +kernel) dX6_keepAct_3) <|
  Tc (sd_cm_ge (by decide) dX6_keepAct_5) <|
  Tc (sd_aload_n dX6_keepAct_8) <|
  Tc (sd_getf (T := TX6) rfl giX6 (by decide) w_fl_X6_34 dX6_keepAct_9) <|
  Tc (sd_bipush (by decide +kernel) dX6_keepAct_12) <|
  Tc (sd_aload_n dX6_keepAct_14) <|
  Tc (sd_getf (T := TX6) rfl giX6 (by decide) w_fl_X6_141 dX6_keepAct_15) <|
  Tc (sd_imul dX6_keepAct_18) <|
  Tc (sd_iload_n dX6_keepAct_19) <|
  Tc (sd_iadd dX6_keepAct_20) <|
  Tc (sd_aload_n dX6_keepAct_21) <|
  Tc (sd_getf (T := TX6) rfl giX6 (by decide) w_fl_X6_13 dX6_keepAct_22) <|
  Tc (sd_iload_n dX6_keepAct_25) <|
  Tc (sd_ial dX6_keepAct_26) <|
  Tc (sd_ias dX6_keepAct_27) <|
  Tc (sd_iinc dX6_keepAct_28) <|
  Tc (sd_goto (by decide) dX6_keepAct_31) <|
  Tc (sd_aload_n dX6_keepAct_34) <|
  Tc (sd_aload_n dX6_keepAct_35) <|
  Tc (sd_getf (T := TX6) rfl giX6 (by decide) w_fl_X6_141 dX6_keepAct_36) <|
  Tc (sd_iconst rfl dX6_keepAct_39) <|
  Tc (sd_iadd dX6_keepAct_40) <|
  Tc (sd_bipush (by decide +kernel) dX6_keepAct_41) <|
  Tc (sd_irem dX6_keepAct_43) <|
  Tc (sd_putf (T := TX6) rfl giX6 (by decide) w_fl_X6_141 tyX6 tyX6_ok nmX6 (kI_ok) rfl dX6_keepAct_44) <|
  Tc (sd_aload_n dX6_keepAct_47) <|
  Tc (sd_aload_n dX6_keepAct_48) <|
  Tc (sd_getf (T := TX6) rfl giX6 (by decide) w_fl_X6_91 dX6_keepAct_49) <|
  Tc (sd_bipush (by decide +kernel) dX6_keepAct_52) <|
  Tc (sd_cm_ge (by decide) dX6_keepAct_54) <|
  Tc (sd_aload_n dX6_keepAct_57) <|
  Tc (sd_getf (T := TX6) rfl giX6 (by decide) w_fl_X6_91 dX6_keepAct_58) <|
  Tc (sd_iconst rfl dX6_keepAct_61) <|
  Tc (sd_iadd dX6_keepAct_62) <|
  Tc (sd_goto (by decide) dX6_keepAct_63) <|
  Tc (sd_bipush (by decide +kernel) dX6_keepAct_66) <|
  Tc (sd_putf (T := TX6) rfl giX6 (by decide) w_fl_X6_91 tyX6 tyX6_ok nmX6 (kI_ok) rfl dX6_keepAct_68) <|
  Tn
theorem rk_X6_keepAct : Rok mi_X6_keepAct rV [71] := rk_v dX6_keepAct_71 <| rk_n
def rx_X6_keepAct : Nat → Nat → AL → List AV → List AC → Option (Option AV × List AC) := am_r tb_X6_keepAct rV [71]
theorem rs_X6_keepAct_0 (n : Nat) (L : AL) (st : List AV) (M : List AC) : rx_X6_keepAct (n + 1) 0 L st M = am_j (rx_X6_keepAct n) ((tIc 0 1) 0 L st M) := rfl
theorem rs_X6_keepAct_1 (n : Nat) (L : AL) (st : List AV) (M : List AC) : rx_X6_keepAct (n + 1) 1 L st M = am_j (rx_X6_keepAct n) ((tIst 1 1) 1 L st M) := rfl
theorem rs_X6_keepAct_2 (n : Nat) (L : AL) (st : List AV) (M : List AC) : rx_X6_keepAct (n + 1) 2 L st M = am_j (rx_X6_keepAct n) ((tIld 1 1) 2 L st M) := rfl
theorem rs_X6_keepAct_3 (n : Nat) (L : AL) (st : List AV) (M : List AC) : rx_X6_keepAct (n + 1) 3 L st M = am_j (rx_X6_keepAct n) ((tIc 12 2) 3 L st M) := rfl
theorem rs_X6_keepAct_5 (n : Nat) (L : AL) (st : List AV) (M : List AC) : rx_X6_keepAct (n + 1) 5 L st M = am_j (rx_X6_keepAct n) ((tCmge 34) 5 L st M) := rfl
theorem rs_X6_keepAct_8 (n : Nat) (L : AL) (st : List AV) (M : List AC) : rx_X6_keepAct (n + 1) 8 L st M = am_j (rx_X6_keepAct n) ((tAld 0 1) 8 L st M) := rfl
theorem rs_X6_keepAct_9 (n : Nat) (L : AL) (st : List AV) (M : List AC) : rx_X6_keepAct (n + 1) 9 L st M = am_j (rx_X6_keepAct n) ((tGf 6 13) 9 L st M) := rfl
theorem rs_X6_keepAct_12 (n : Nat) (L : AL) (st : List AV) (M : List AC) : rx_X6_keepAct (n + 1) 12 L st M = am_j (rx_X6_keepAct n) ((tIc 12 2) 12 L st M) := rfl
theorem rs_X6_keepAct_14 (n : Nat) (L : AL) (st : List AV) (M : List AC) : rx_X6_keepAct (n + 1) 14 L st M = am_j (rx_X6_keepAct n) ((tAld 0 1) 14 L st M) := rfl
theorem rs_X6_keepAct_15 (n : Nat) (L : AL) (st : List AV) (M : List AC) : rx_X6_keepAct (n + 1) 15 L st M = am_j (rx_X6_keepAct n) ((tGf 6 12) 15 L st M) := rfl
theorem rs_X6_keepAct_18 (n : Nat) (L : AL) (st : List AV) (M : List AC) : rx_X6_keepAct (n + 1) 18 L st M = am_j (rx_X6_keepAct n) ((tI2 (fun a b => a * b)) 18 L st M) := rfl
theorem rs_X6_keepAct_19 (n : Nat) (L : AL) (st : List AV) (M : List AC) : rx_X6_keepAct (n + 1) 19 L st M = am_j (rx_X6_keepAct n) ((tIld 1 1) 19 L st M) := rfl
theorem rs_X6_keepAct_20 (n : Nat) (L : AL) (st : List AV) (M : List AC) : rx_X6_keepAct (n + 1) 20 L st M = am_j (rx_X6_keepAct n) ((tI2 (fun a b => a + b)) 20 L st M) := rfl
theorem rs_X6_keepAct_21 (n : Nat) (L : AL) (st : List AV) (M : List AC) : rx_X6_keepAct (n + 1) 21 L st M = am_j (rx_X6_keepAct n) ((tAld 0 1) 21 L st M) := rfl
theorem rs_X6_keepAct_22 (n : Nat) (L : AL) (st : List AV) (M : List AC) : rx_X6_keepAct (n + 1) 22 L st M = am_j (rx_X6_keepAct n) ((tGf 6 2) 22 L st M) := rfl
theorem rs_X6_keepAct_25 (n : Nat) (L : AL) (st : List AV) (M : List AC) : rx_X6_keepAct (n + 1) 25 L st M = am_j (rx_X6_keepAct n) ((tIld 1 1) 25 L st M) := rfl
theorem rs_X6_keepAct_26 (n : Nat) (L : AL) (st : List AV) (M : List AC) : rx_X6_keepAct (n + 1) 26 L st M = am_j (rx_X6_keepAct n) (tIal 26 L st M) := rfl
theorem rs_X6_keepAct_27 (n : Nat) (L : AL) (st : List AV) (M : List AC) : rx_X6_keepAct (n + 1) 27 L st M = am_j (rx_X6_keepAct n) (tIas 27 L st M) := rfl
theorem rs_X6_keepAct_28 (n : Nat) (L : AL) (st : List AV) (M : List AC) : rx_X6_keepAct (n + 1) 28 L st M = am_j (rx_X6_keepAct n) ((tIinc 1 1) 28 L st M) := rfl
theorem rs_X6_keepAct_31 (n : Nat) (L : AL) (st : List AV) (M : List AC) : rx_X6_keepAct (n + 1) 31 L st M = am_j (rx_X6_keepAct n) ((tGo 2) 31 L st M) := rfl
theorem rs_X6_keepAct_34 (n : Nat) (L : AL) (st : List AV) (M : List AC) : rx_X6_keepAct (n + 1) 34 L st M = am_j (rx_X6_keepAct n) ((tAld 0 1) 34 L st M) := rfl
theorem rs_X6_keepAct_35 (n : Nat) (L : AL) (st : List AV) (M : List AC) : rx_X6_keepAct (n + 1) 35 L st M = am_j (rx_X6_keepAct n) ((tAld 0 1) 35 L st M) := rfl
theorem rs_X6_keepAct_36 (n : Nat) (L : AL) (st : List AV) (M : List AC) : rx_X6_keepAct (n + 1) 36 L st M = am_j (rx_X6_keepAct n) ((tGf 6 12) 36 L st M) := rfl
theorem rs_X6_keepAct_39 (n : Nat) (L : AL) (st : List AV) (M : List AC) : rx_X6_keepAct (n + 1) 39 L st M = am_j (rx_X6_keepAct n) ((tIc 1 1) 39 L st M) := rfl
theorem rs_X6_keepAct_40 (n : Nat) (L : AL) (st : List AV) (M : List AC) : rx_X6_keepAct (n + 1) 40 L st M = am_j (rx_X6_keepAct n) ((tI2 (fun a b => a + b)) 40 L st M) := rfl
theorem rs_X6_keepAct_41 (n : Nat) (L : AL) (st : List AV) (M : List AC) : rx_X6_keepAct (n + 1) 41 L st M = am_j (rx_X6_keepAct n) ((tIc 16 2) 41 L st M) := rfl
theorem rs_X6_keepAct_43 (n : Nat) (L : AL) (st : List AV) (M : List AC) : rx_X6_keepAct (n + 1) 43 L st M = am_j (rx_X6_keepAct n) ((tDv Int.tmod) 43 L st M) := rfl
theorem rs_X6_keepAct_44 (n : Nat) (L : AL) (st : List AV) (M : List AC) : rx_X6_keepAct (n + 1) 44 L st M = am_j (rx_X6_keepAct n) ((tPf kI 6 12) 44 L st M) := rfl
theorem rs_X6_keepAct_47 (n : Nat) (L : AL) (st : List AV) (M : List AC) : rx_X6_keepAct (n + 1) 47 L st M = am_j (rx_X6_keepAct n) ((tAld 0 1) 47 L st M) := rfl
theorem rs_X6_keepAct_48 (n : Nat) (L : AL) (st : List AV) (M : List AC) : rx_X6_keepAct (n + 1) 48 L st M = am_j (rx_X6_keepAct n) ((tAld 0 1) 48 L st M) := rfl
theorem rs_X6_keepAct_49 (n : Nat) (L : AL) (st : List AV) (M : List AC) : rx_X6_keepAct (n + 1) 49 L st M = am_j (rx_X6_keepAct n) ((tGf 6 11) 49 L st M) := rfl
theorem rs_X6_keepAct_52 (n : Nat) (L : AL) (st : List AV) (M : List AC) : rx_X6_keepAct (n + 1) 52 L st M = am_j (rx_X6_keepAct n) ((tIc 16 2) 52 L st M) := rfl
theorem rs_X6_keepAct_54 (n : Nat) (L : AL) (st : List AV) (M : List AC) : rx_X6_keepAct (n + 1) 54 L st M = am_j (rx_X6_keepAct n) ((tCmge 66) 54 L st M) := rfl
theorem rs_X6_keepAct_57 (n : Nat) (L : AL) (st : List AV) (M : List AC) : rx_X6_keepAct (n + 1) 57 L st M = am_j (rx_X6_keepAct n) ((tAld 0 1) 57 L st M) := rfl
theorem rs_X6_keepAct_58 (n : Nat) (L : AL) (st : List AV) (M : List AC) : rx_X6_keepAct (n + 1) 58 L st M = am_j (rx_X6_keepAct n) ((tGf 6 11) 58 L st M) := rfl
theorem rs_X6_keepAct_61 (n : Nat) (L : AL) (st : List AV) (M : List AC) : rx_X6_keepAct (n + 1) 61 L st M = am_j (rx_X6_keepAct n) ((tIc 1 1) 61 L st M) := rfl
theorem rs_X6_keepAct_62 (n : Nat) (L : AL) (st : List AV) (M : List AC) : rx_X6_keepAct (n + 1) 62 L st M = am_j (rx_X6_keepAct n) ((tI2 (fun a b => a + b)) 62 L st M) := rfl
theorem rs_X6_keepAct_63 (n : Nat) (L : AL) (st : List AV) (M : List AC) : rx_X6_keepAct (n + 1) 63 L st M = am_j (rx_X6_keepAct n) ((tGo 68) 63 L st M) := rfl
theorem rs_X6_keepAct_66 (n : Nat) (L : AL) (st : List AV) (M : List AC) : rx_X6_keepAct (n + 1) 66 L st M = am_j (rx_X6_keepAct n) ((tIc 16 2) 66 L st M) := rfl
theorem rs_X6_keepAct_68 (n : Nat) (L : AL) (st : List AV) (M : List AC) : rx_X6_keepAct (n + 1) 68 L st M = am_j (rx_X6_keepAct n) ((tPf kI 6 11) 68 L st M) := rfl
theorem rs_X6_keepAct_71 (n : Nat) (L : AL) (st : List AV) (M : List AC) : rx_X6_keepAct (n + 1) 71 L st M = am_e rV st M := rfl
theorem ri_X6_keepAct (c : Prop) [Decidable c] (p q n : Nat) (L : AL) (st : List AV) (M : List AC) : rx_X6_keepAct n (if c then p else q) L st M = if c then rx_X6_keepAct n p L st M else rx_X6_keepAct n q L st M := by split <;> rfl
theorem rm_X6_keepAct {n k pc : Nat} {L : AL} {st : List AV} {M : List AC} {x : Option AV × List AC} (h : rx_X6_keepAct n pc L st M = some x) (hk : n ≤ k) : rx_X6_keepAct k pc L st M = some x := am_r_mono n k h hk
def fn_X6_keepAct : Fn := am_fn rx_X6_keepAct 2
theorem fok_X6_keepAct : Fok mi_X6_keepAct fn_X6_keepAct := fun _ _ _ _ h => am_fok ok_X6_keepAct rk_X6_keepAct rfl h
set_option maxRecDepth 100000 in
set_option maxHeartbeats 4000000 in
theorem sp_X6_keepAct {M : List AC} {st lk len ac nx rf lr en lm : Int} {sd : Int64} (h0 : M[26]? = some (mo st lk len ac nx rf lr en lm sd)) {d b s : F4} {row : List Int} (h28 : M[28]? = some (aI (nw d b s))) (h35 : M[35]? = some (aI row)) (hl : row.length = 192) (hn : 0 ≤ nx ∧ nx < 16) (ha : 0 ≤ ac ∧ ac ≤ 16) : fn_X6_keepAct [vR 26] M = some (none, (M.set 26 (mo st lk len (if ac < 16 then ac + 1 else 16) ((nx + 1) % 16) rf lr en lm sd)).set 35 (aI (k12 row nx d b s))) := by
  have wn : wr nx = nx := wr_id (by omega) (by omega)
  have wn1 : wr (nx + 1) = nx + 1 := wr_id (by omega) (by omega)
  have wa : wr ac = ac := wr_id (by omega) (by omega)
  have em : (nx + 1).tmod 16 = (nx + 1) % 16 := Int.tmod_eq_emod_of_nonneg (by omega)
  have u0 : wr (12 * nx) = 12 * nx := wr_id (by omega) (by omega)
  have v0 : 0 ≤ 12 * nx ∧ 12 * nx < 192 := by omega
  have u1 : wr (12 * nx + 1) = 12 * nx + 1 := wr_id (by omega) (by omega)
  have v1 : 0 ≤ 12 * nx + 1 ∧ 12 * nx + 1 < 192 := by omega
  have u2 : wr (12 * nx + 2) = 12 * nx + 2 := wr_id (by omega) (by omega)
  have v2 : 0 ≤ 12 * nx + 2 ∧ 12 * nx + 2 < 192 := by omega
  have u3 : wr (12 * nx + 3) = 12 * nx + 3 := wr_id (by omega) (by omega)
  have v3 : 0 ≤ 12 * nx + 3 ∧ 12 * nx + 3 < 192 := by omega
  have u4 : wr (12 * nx + 4) = 12 * nx + 4 := wr_id (by omega) (by omega)
  have v4 : 0 ≤ 12 * nx + 4 ∧ 12 * nx + 4 < 192 := by omega
  have u5 : wr (12 * nx + 5) = 12 * nx + 5 := wr_id (by omega) (by omega)
  have v5 : 0 ≤ 12 * nx + 5 ∧ 12 * nx + 5 < 192 := by omega
  have u6 : wr (12 * nx + 6) = 12 * nx + 6 := wr_id (by omega) (by omega)
  have v6 : 0 ≤ 12 * nx + 6 ∧ 12 * nx + 6 < 192 := by omega
  have u7 : wr (12 * nx + 7) = 12 * nx + 7 := wr_id (by omega) (by omega)
  have v7 : 0 ≤ 12 * nx + 7 ∧ 12 * nx + 7 < 192 := by omega
  have u8 : wr (12 * nx + 8) = 12 * nx + 8 := wr_id (by omega) (by omega)
  have v8 : 0 ≤ 12 * nx + 8 ∧ 12 * nx + 8 < 192 := by omega
  have u9 : wr (12 * nx + 9) = 12 * nx + 9 := wr_id (by omega) (by omega)
  have v9 : 0 ≤ 12 * nx + 9 ∧ 12 * nx + 9 < 192 := by omega
  have u10 : wr (12 * nx + 10) = 12 * nx + 10 := wr_id (by omega) (by omega)
  have v10 : 0 ≤ 12 * nx + 10 ∧ 12 * nx + 10 < 192 := by omega
  have u11 : wr (12 * nx + 11) = 12 * nx + 11 := wr_id (by omega) (by omega)
  have v11 : 0 ≤ 12 * nx + 11 ∧ 12 * nx + 11 < 192 := by omega
  (refine am_fnI (tb := tb_X6_keepAct) (n := 400) (Nat.le_of_ble_eq_true rfl) (Nat.le_of_ble_eq_true rfl) ?_; show rx_X6_keepAct 400 0 _ _ _ = _)
  by_cases hA : ac < 16
  · have hB : ¬ 16 ≤ ac := by omega
    simp [↓ri_X6_keepAct, rs_X6_keepAct_0, rs_X6_keepAct_1, rs_X6_keepAct_2, rs_X6_keepAct_3, rs_X6_keepAct_5, rs_X6_keepAct_8, rs_X6_keepAct_9, rs_X6_keepAct_12, rs_X6_keepAct_14, rs_X6_keepAct_15, rs_X6_keepAct_18, rs_X6_keepAct_19, rs_X6_keepAct_20, rs_X6_keepAct_21, rs_X6_keepAct_22, rs_X6_keepAct_25, rs_X6_keepAct_26, rs_X6_keepAct_27, rs_X6_keepAct_28, rs_X6_keepAct_31, rs_X6_keepAct_34, rs_X6_keepAct_35, rs_X6_keepAct_36, rs_X6_keepAct_39, rs_X6_keepAct_40, rs_X6_keepAct_41, rs_X6_keepAct_43, rs_X6_keepAct_44, rs_X6_keepAct_47, rs_X6_keepAct_48, rs_X6_keepAct_49, rs_X6_keepAct_52, rs_X6_keepAct_54, rs_X6_keepAct_57, rs_X6_keepAct_58, rs_X6_keepAct_61, rs_X6_keepAct_62, rs_X6_keepAct_63, rs_X6_keepAct_66, rs_X6_keepAct_68, rs_X6_keepAct_71, -List.getElem?_eq_getElem, am_js, am_e, am_in, am_sl, rI, rZ, rV, rJ, rA, rC, kI, kJ, kR, am_one, am_nl, am_w8, tIc, tLc, tNul, tIld, tLld, tAld, tIst, tLst, tAst, tIinc, tI2, tDv, tL2, tLrem, tLs, tLcmp, tI2l, tL2i, tI2c, tDup, tDup2, tPop, tGo, tIfeq, tIfne, tIflt, tIfge, tIfgt, tIfle, tCmeq, tCmne, tCmlt, tCmge, tCmgt, tCmle, tNu, tTs, tGf, tPf, tGs, tIal, tIas, tBal, tBas, tAln, tSv, tSc, tSb, tSl, tSk, tCv, tCs, tCt, tMx, tMn, wr_10000, wr_100000, wr_1000000, wr_10000000, wr_100000000, wr_2400, wr_9999, wr_0, wr_1, wr_2, wr_3, wr_4, wr_5, wr_6, wr_7, wr_8, wr_9, wr_10, wr_11, wr_12, wr_13, wr_14, wr_15, wr_16, wr_17, wr_18, wr_19, wr_20, wr_21, wr_22, wr_23, wr_24, wr_25, wr_26, wr_27, wr_28, wr_29, wr_30, wr_31, wr_32, wr_33, wr_34, wr_35, wr_36, wr_37, wr_38, wr_39, wr_40, wr_41, wr_42, wr_43, wr_44, wr_45, wr_46, wr_47, wr_48, wr_49, wr_50, wr_51, wr_52, wr_53, wr_54, wr_55, wr_56, wr_57, wr_58, wr_59, wr_60, wr_61, wr_62, wr_63, wr_99, wr_100, wr_192, wr_255, wr_256, wr_343, wr_999, wr_1000, wr_2401, wr_2147483647, wr_65535, wr_m1, wr_m2, wr_m3, wr_m4, wr_m9, ak_1000, ak_1001, ak_1002, ak_0, ak_1, ak_2, ak_3, ak_4, ak_5, ak_6, ak_7, ak_8, ak_9, ak_10, ak_11, ak_12, ak_13, ak_14, ak_15, ak_16, ak_17, ak_18, ak_19, ak_20, ak_21, ak_22, ak_23, ak_24, ak_25, ak_26, ak_27, ak_28, ak_29, ak_30, ak_31, ak_32, ak_33, ak_34, ak_35, ak_36, ak_37, ak_38, ak_39, ak_40, ak_41, ak_42, ak_43, ak_44, ak_45, ak_46, ak_47, h0, mo, h28, h35, gs h35, gs h0, hl, wn, wn1, wa, em, hA, hB, u0, v0, u1, v1, u2, v2, u3, v3, u4, v4, u5, v5, u6, v6, u7, v7, u8, v8, u9, v9, u10, v10, u11, v11, k12, ss (i := 26) (j := 35) (by decide)]
  · have hB : 16 ≤ ac := by omega
    simp [↓ri_X6_keepAct, rs_X6_keepAct_0, rs_X6_keepAct_1, rs_X6_keepAct_2, rs_X6_keepAct_3, rs_X6_keepAct_5, rs_X6_keepAct_8, rs_X6_keepAct_9, rs_X6_keepAct_12, rs_X6_keepAct_14, rs_X6_keepAct_15, rs_X6_keepAct_18, rs_X6_keepAct_19, rs_X6_keepAct_20, rs_X6_keepAct_21, rs_X6_keepAct_22, rs_X6_keepAct_25, rs_X6_keepAct_26, rs_X6_keepAct_27, rs_X6_keepAct_28, rs_X6_keepAct_31, rs_X6_keepAct_34, rs_X6_keepAct_35, rs_X6_keepAct_36, rs_X6_keepAct_39, rs_X6_keepAct_40, rs_X6_keepAct_41, rs_X6_keepAct_43, rs_X6_keepAct_44, rs_X6_keepAct_47, rs_X6_keepAct_48, rs_X6_keepAct_49, rs_X6_keepAct_52, rs_X6_keepAct_54, rs_X6_keepAct_57, rs_X6_keepAct_58, rs_X6_keepAct_61, rs_X6_keepAct_62, rs_X6_keepAct_63, rs_X6_keepAct_66, rs_X6_keepAct_68, rs_X6_keepAct_71, -List.getElem?_eq_getElem, am_js, am_e, am_in, am_sl, rI, rZ, rV, rJ, rA, rC, kI, kJ, kR, am_one, am_nl, am_w8, tIc, tLc, tNul, tIld, tLld, tAld, tIst, tLst, tAst, tIinc, tI2, tDv, tL2, tLrem, tLs, tLcmp, tI2l, tL2i, tI2c, tDup, tDup2, tPop, tGo, tIfeq, tIfne, tIflt, tIfge, tIfgt, tIfle, tCmeq, tCmne, tCmlt, tCmge, tCmgt, tCmle, tNu, tTs, tGf, tPf, tGs, tIal, tIas, tBal, tBas, tAln, tSv, tSc, tSb, tSl, tSk, tCv, tCs, tCt, tMx, tMn, wr_10000, wr_100000, wr_1000000, wr_10000000, wr_100000000, wr_2400, wr_9999, wr_0, wr_1, wr_2, wr_3, wr_4, wr_5, wr_6, wr_7, wr_8, wr_9, wr_10, wr_11, wr_12, wr_13, wr_14, wr_15, wr_16, wr_17, wr_18, wr_19, wr_20, wr_21, wr_22, wr_23, wr_24, wr_25, wr_26, wr_27, wr_28, wr_29, wr_30, wr_31, wr_32, wr_33, wr_34, wr_35, wr_36, wr_37, wr_38, wr_39, wr_40, wr_41, wr_42, wr_43, wr_44, wr_45, wr_46, wr_47, wr_48, wr_49, wr_50, wr_51, wr_52, wr_53, wr_54, wr_55, wr_56, wr_57, wr_58, wr_59, wr_60, wr_61, wr_62, wr_63, wr_99, wr_100, wr_192, wr_255, wr_256, wr_343, wr_999, wr_1000, wr_2401, wr_2147483647, wr_65535, wr_m1, wr_m2, wr_m3, wr_m4, wr_m9, ak_1000, ak_1001, ak_1002, ak_0, ak_1, ak_2, ak_3, ak_4, ak_5, ak_6, ak_7, ak_8, ak_9, ak_10, ak_11, ak_12, ak_13, ak_14, ak_15, ak_16, ak_17, ak_18, ak_19, ak_20, ak_21, ak_22, ak_23, ak_24, ak_25, ak_26, ak_27, ak_28, ak_29, ak_30, ak_31, ak_32, ak_33, ak_34, ak_35, ak_36, ak_37, ak_38, ak_39, ak_40, ak_41, ak_42, ak_43, ak_44, ak_45, ak_46, ak_47, h0, mo, h28, h35, gs h35, gs h0, hl, wn, wn1, wa, em, hA, hB, u0, v0, u1, v1, u2, v2, u3, v3, u4, v4, u5, v5, u6, v6, u7, v7, u8, v8, u9, v9, u10, v10, u11, v11, k12, ss (i := 26) (j := 35) (by decide)]
abbrev mi_X6_slipNow : Mi := (yX6_slipNow, cX6_slipNow, 3, some .int, 7)
theorem mf_X6_slipNow : am_mf mi_X6_slipNow 0 := ⟨w_co_X6_slipNow, w_in_X6, ⟨by decide +kernel, by decide +kernel⟩, by decide +kernel, by decide⟩
def tb_X6_slipNow : List (Nat × Tr) := [(0, tAld 0 1), (1, tCv 6 0 fn_X6_layNow), (4, tAld 0 1), (5, tCv 6 0 fn_X6_slips), (8, tIst 1 1), (9, tIc 0 1), (10, tIst 2 1), (11, tIld 2 1), (12, tIc 4 1), (13, tCmge 34), (16, tAld 0 1), (17, tGf 6 2), (20, tIld 2 1), (21, tAld 0 1), (22, tGf 6 8), (25, tIld 2 1), (26, tIal), (27, tIas), (28, tIinc 2 1), (31, tGo 11), (34, tIld 1 1)]
theorem ok_X6_slipNow : Tok mi_X6_slipNow tb_X6_slipNow :=
  Tc (sd_aload_n dX6_slipNow_0) <|
  Tc (sd_cv (T := TX6) fok_X6_layNow mf_X6_layNow rfl w_ml_X6_115 w_im_X6_layNow w_se_X6_layNow (by decide) dX6_slipNow_1) <|
  Tc (sd_aload_n dX6_slipNow_4) <|
  Tc (sd_cv (T := TX6) fok_X6_slips mf_X6_slips rfl w_ml_X6_135 w_im_X6_slips w_se_X6_slips (by decide) dX6_slipNow_5) <|
  Tc (sd_istore_n dX6_slipNow_8) <|
  Tc (sd_iconst rfl dX6_slipNow_9) <|
  Tc (sd_istore_n dX6_slipNow_10) <|
  Tc (sd_iload_n dX6_slipNow_11) <|
  Tc (sd_iconst rfl dX6_slipNow_12) <|
  Tc (sd_cm_ge (by decide) dX6_slipNow_13) <|
  Tc (sd_aload_n dX6_slipNow_16) <|
  Tc (sd_getf (T := TX6) rfl giX6 (by decide) w_fl_X6_13 dX6_slipNow_17) <|
  Tc (sd_iload_n dX6_slipNow_20) <|
  Tc (sd_aload_n dX6_slipNow_21) <|
  Tc (sd_getf (T := TX6) rfl giX6 (by decide) w_fl_X6_25 dX6_slipNow_22) <|
  Tc (sd_iload_n dX6_slipNow_25) <|
  Tc (sd_ial dX6_slipNow_26) <|
  Tc (sd_ias dX6_slipNow_27) <|
  Tc (sd_iinc dX6_slipNow_28) <|
  Tc (sd_goto (by decide) dX6_slipNow_31) <|
  Tc (sd_iload_n dX6_slipNow_34) <|
  Tn
theorem rk_X6_slipNow : Rok mi_X6_slipNow rI [35] := rk_i dX6_slipNow_35 <| rk_n
def rx_X6_slipNow : Nat → Nat → AL → List AV → List AC → Option (Option AV × List AC) := am_r tb_X6_slipNow rI [35]
theorem rs_X6_slipNow_0 (n : Nat) (L : AL) (st : List AV) (M : List AC) : rx_X6_slipNow (n + 1) 0 L st M = am_j (rx_X6_slipNow n) ((tAld 0 1) 0 L st M) := rfl
theorem rs_X6_slipNow_1 (n : Nat) (L : AL) (st : List AV) (M : List AC) : rx_X6_slipNow (n + 1) 1 L st M = am_j (rx_X6_slipNow n) ((tCv 6 0 fn_X6_layNow) 1 L st M) := rfl
theorem rs_X6_slipNow_4 (n : Nat) (L : AL) (st : List AV) (M : List AC) : rx_X6_slipNow (n + 1) 4 L st M = am_j (rx_X6_slipNow n) ((tAld 0 1) 4 L st M) := rfl
theorem rs_X6_slipNow_5 (n : Nat) (L : AL) (st : List AV) (M : List AC) : rx_X6_slipNow (n + 1) 5 L st M = am_j (rx_X6_slipNow n) ((tCv 6 0 fn_X6_slips) 5 L st M) := rfl
theorem rs_X6_slipNow_8 (n : Nat) (L : AL) (st : List AV) (M : List AC) : rx_X6_slipNow (n + 1) 8 L st M = am_j (rx_X6_slipNow n) ((tIst 1 1) 8 L st M) := rfl
theorem rs_X6_slipNow_9 (n : Nat) (L : AL) (st : List AV) (M : List AC) : rx_X6_slipNow (n + 1) 9 L st M = am_j (rx_X6_slipNow n) ((tIc 0 1) 9 L st M) := rfl
theorem rs_X6_slipNow_10 (n : Nat) (L : AL) (st : List AV) (M : List AC) : rx_X6_slipNow (n + 1) 10 L st M = am_j (rx_X6_slipNow n) ((tIst 2 1) 10 L st M) := rfl
theorem rs_X6_slipNow_11 (n : Nat) (L : AL) (st : List AV) (M : List AC) : rx_X6_slipNow (n + 1) 11 L st M = am_j (rx_X6_slipNow n) ((tIld 2 1) 11 L st M) := rfl
theorem rs_X6_slipNow_12 (n : Nat) (L : AL) (st : List AV) (M : List AC) : rx_X6_slipNow (n + 1) 12 L st M = am_j (rx_X6_slipNow n) ((tIc 4 1) 12 L st M) := rfl
theorem rs_X6_slipNow_13 (n : Nat) (L : AL) (st : List AV) (M : List AC) : rx_X6_slipNow (n + 1) 13 L st M = am_j (rx_X6_slipNow n) ((tCmge 34) 13 L st M) := rfl
theorem rs_X6_slipNow_16 (n : Nat) (L : AL) (st : List AV) (M : List AC) : rx_X6_slipNow (n + 1) 16 L st M = am_j (rx_X6_slipNow n) ((tAld 0 1) 16 L st M) := rfl
theorem rs_X6_slipNow_17 (n : Nat) (L : AL) (st : List AV) (M : List AC) : rx_X6_slipNow (n + 1) 17 L st M = am_j (rx_X6_slipNow n) ((tGf 6 2) 17 L st M) := rfl
theorem rs_X6_slipNow_20 (n : Nat) (L : AL) (st : List AV) (M : List AC) : rx_X6_slipNow (n + 1) 20 L st M = am_j (rx_X6_slipNow n) ((tIld 2 1) 20 L st M) := rfl
theorem rs_X6_slipNow_21 (n : Nat) (L : AL) (st : List AV) (M : List AC) : rx_X6_slipNow (n + 1) 21 L st M = am_j (rx_X6_slipNow n) ((tAld 0 1) 21 L st M) := rfl
theorem rs_X6_slipNow_22 (n : Nat) (L : AL) (st : List AV) (M : List AC) : rx_X6_slipNow (n + 1) 22 L st M = am_j (rx_X6_slipNow n) ((tGf 6 8) 22 L st M) := rfl
theorem rs_X6_slipNow_25 (n : Nat) (L : AL) (st : List AV) (M : List AC) : rx_X6_slipNow (n + 1) 25 L st M = am_j (rx_X6_slipNow n) ((tIld 2 1) 25 L st M) := rfl
theorem rs_X6_slipNow_26 (n : Nat) (L : AL) (st : List AV) (M : List AC) : rx_X6_slipNow (n + 1) 26 L st M = am_j (rx_X6_slipNow n) (tIal 26 L st M) := rfl
theorem rs_X6_slipNow_27 (n : Nat) (L : AL) (st : List AV) (M : List AC) : rx_X6_slipNow (n + 1) 27 L st M = am_j (rx_X6_slipNow n) (tIas 27 L st M) := rfl
theorem rs_X6_slipNow_28 (n : Nat) (L : AL) (st : List AV) (M : List AC) : rx_X6_slipNow (n + 1) 28 L st M = am_j (rx_X6_slipNow n) ((tIinc 2 1) 28 L st M) := rfl
theorem rs_X6_slipNow_31 (n : Nat) (L : AL) (st : List AV) (M : List AC) : rx_X6_slipNow (n + 1) 31 L st M = am_j (rx_X6_slipNow n) ((tGo 11) 31 L st M) := rfl
theorem rs_X6_slipNow_34 (n : Nat) (L : AL) (st : List AV) (M : List AC) : rx_X6_slipNow (n + 1) 34 L st M = am_j (rx_X6_slipNow n) ((tIld 1 1) 34 L st M) := rfl
theorem rs_X6_slipNow_35 (n : Nat) (L : AL) (st : List AV) (M : List AC) : rx_X6_slipNow (n + 1) 35 L st M = am_e rI st M := rfl
theorem ri_X6_slipNow (c : Prop) [Decidable c] (p q n : Nat) (L : AL) (st : List AV) (M : List AC) : rx_X6_slipNow n (if c then p else q) L st M = if c then rx_X6_slipNow n p L st M else rx_X6_slipNow n q L st M := by split <;> rfl
theorem rm_X6_slipNow {n k pc : Nat} {L : AL} {st : List AV} {M : List AC} {x : Option AV × List AC} (h : rx_X6_slipNow n pc L st M = some x) (hk : n ≤ k) : rx_X6_slipNow k pc L st M = some x := am_r_mono n k h hk
def fn_X6_slipNow : Fn := am_fn rx_X6_slipNow 3
theorem fok_X6_slipNow : Fok mi_X6_slipNow fn_X6_slipNow := fun _ _ _ _ h => am_fok ok_X6_slipNow rk_X6_slipNow rfl h
theorem sp_X6_slipNow {M : List AC} {st lk len ac nx rf lr en lm : Int} {sd : Int64} (h0 : M[26]? = some (mo st lk len ac nx rf lr en lm sd)) {g d b s d' b' s' : F4} (h27 : M[27]? = some (aI (l4 g))) (h28 : M[28]? = some (aI (nw d b s))) (h32 : M[32]? = some (aI (l4 d'))) (h33 : M[33]? = some (aI (l4 b'))) (h34 : M[34]? = some (aI (l4 s'))) (hr : SR st g s d b) : fn_X6_slipNow [vR 26] M = some (some (vI (sl st g s b 4 d 0).2), (((M.set 28 (aI (nw (sl st g s b 4 d 0).1 b s))).set 32 (aI (l4 (sl st g s b 4 d 0).1))).set 33 (aI (l4 b))).set 34 (aI (l4 s))) := by
  have q1 := sp_X6_layNow h0 h28 h32 h33 h34
  have hs : HD (((M.set 32 (aI (l4 d))).set 33 (aI (l4 b))).set 34 (aI (l4 s))) st g s d b := by
    refine ⟨⟨lk, len, ac, nx, rf, lr, en, lm, sd, ?_⟩, ?_, ?_, ?_, ?_⟩
    · simp [-List.getElem?_eq_getElem, h0]
    · simp [-List.getElem?_eq_getElem, h27]
    · simp [-List.getElem?_eq_getElem, gs h32]
    · simp [-List.getElem?_eq_getElem, gs h33]
    · simp [-List.getElem?_eq_getElem, gs h34]
  have q2 := sp_X6_slips hs hr
  generalize sl st g s b 4 d 0 = q at q2 ⊢
  (refine am_fnI (tb := tb_X6_slipNow) (n := 200) (Nat.le_of_ble_eq_true rfl) (Nat.le_of_ble_eq_true rfl) ?_; show rx_X6_slipNow 200 0 _ _ _ = _)
  simp [↓ri_X6_slipNow, rs_X6_slipNow_0, rs_X6_slipNow_1, rs_X6_slipNow_4, rs_X6_slipNow_5, rs_X6_slipNow_8, rs_X6_slipNow_9, rs_X6_slipNow_10, rs_X6_slipNow_11, rs_X6_slipNow_12, rs_X6_slipNow_13, rs_X6_slipNow_16, rs_X6_slipNow_17, rs_X6_slipNow_20, rs_X6_slipNow_21, rs_X6_slipNow_22, rs_X6_slipNow_25, rs_X6_slipNow_26, rs_X6_slipNow_27, rs_X6_slipNow_28, rs_X6_slipNow_31, rs_X6_slipNow_34, rs_X6_slipNow_35, -List.getElem?_eq_getElem, am_js, am_e, am_in, am_sl, rI, rZ, rV, rJ, rA, rC, kI, kJ, kR, am_one, am_nl, am_w8, tIc, tLc, tNul, tIld, tLld, tAld, tIst, tLst, tAst, tIinc, tI2, tDv, tL2, tLrem, tLs, tLcmp, tI2l, tL2i, tI2c, tDup, tDup2, tPop, tGo, tIfeq, tIfne, tIflt, tIfge, tIfgt, tIfle, tCmeq, tCmne, tCmlt, tCmge, tCmgt, tCmle, tNu, tTs, tGf, tPf, tGs, tIal, tIas, tBal, tBas, tAln, tSv, tSc, tSb, tSl, tSk, tCv, tCs, tCt, tMx, tMn, wr_10000, wr_100000, wr_1000000, wr_10000000, wr_100000000, wr_2400, wr_9999, wr_0, wr_1, wr_2, wr_3, wr_4, wr_5, wr_6, wr_7, wr_8, wr_9, wr_10, wr_11, wr_12, wr_13, wr_14, wr_15, wr_16, wr_17, wr_18, wr_19, wr_20, wr_21, wr_22, wr_23, wr_24, wr_25, wr_26, wr_27, wr_28, wr_29, wr_30, wr_31, wr_32, wr_33, wr_34, wr_35, wr_36, wr_37, wr_38, wr_39, wr_40, wr_41, wr_42, wr_43, wr_44, wr_45, wr_46, wr_47, wr_48, wr_49, wr_50, wr_51, wr_52, wr_53, wr_54, wr_55, wr_56, wr_57, wr_58, wr_59, wr_60, wr_61, wr_62, wr_63, wr_99, wr_100, wr_192, wr_255, wr_256, wr_343, wr_999, wr_1000, wr_2401, wr_2147483647, wr_65535, wr_m1, wr_m2, wr_m3, wr_m4, wr_m9, ak_1000, ak_1001, ak_1002, ak_0, ak_1, ak_2, ak_3, ak_4, ak_5, ak_6, ak_7, ak_8, ak_9, ak_10, ak_11, ak_12, ak_13, ak_14, ak_15, ak_16, ak_17, ak_18, ak_19, ak_20, ak_21, ak_22, ak_23, ak_24, ak_25, ak_26, ak_27, ak_28, ak_29, ak_30, ak_31, ak_32, ak_33, ak_34, ak_35, ak_36, ak_37, ak_38, ak_39, ak_40, ak_41, ak_42, ak_43, ak_44, ak_45, ak_46, ak_47, h0, mo, h28, q1, q2, gs h28, gs h32, gs h33, gs h34, ss (i := 28) (j := 32) (by decide), ss (i := 28) (j := 33) (by decide), ss (i := 28) (j := 34) (by decide), ss (i := 32) (j := 33) (by decide), ss (i := 32) (j := 34) (by decide), ss (i := 33) (j := 34) (by decide)]
end
