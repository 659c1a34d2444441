noncomputable section
abbrev F3 : Type := Int × Int × Int
abbrev l3 (q : F3) : List Int := [q.1, q.2.1, q.2.2]
abbrev i3 (lo hi : Int) (q : F3) : Prop := (lo ≤ q.1 ∧ q.1 ≤ hi) ∧ (lo ≤ q.2.1 ∧ q.2.1 ≤ hi) ∧ (lo ≤ q.2.2 ∧ q.2.2 ≤ hi)
/-- the looks' cells -/
def HL (M : List AC) (n : Int) (c t : F3) : Prop := M[12]? = some (aO 0 [vI n, vR 13, vR 14]) ∧ M[13]? = some (aI (l3 c)) ∧ M[14]? = some (aI (l3 t))
def w1 (c a t : Int) : Int := if a = c then 3 * t else 10 - t
def wt (n : Int) (c t : F3) (q : Int) : Int := if n = 0 then 1 else if n = 1 then w1 q c.1 t.1 else if n = 2 then w1 q c.1 t.1 * w1 q c.2.1 t.2.1 else w1 q c.1 t.1 * w1 q c.2.1 t.2.1 * w1 q c.2.2 t.2.2
theorem w1_rng {c a t : Int} (ht : 0 ≤ t ∧ t ≤ 9) : 0 ≤ w1 c a t ∧ w1 c a t ≤ 27 := by unfold w1; split <;> omega
theorem mul_rng {x y X Y : Int} (hx : 0 ≤ x ∧ x ≤ X) (hy : 0 ≤ y ∧ y ≤ Y) : 0 ≤ x * y ∧ x * y ≤ X * Y := ⟨Int.mul_nonneg hx.1 hy.1, Int.mul_le_mul hx.2 hy.2 hy.1 (by omega)⟩
theorem wt_rng {n : Int} {c t : F3} {q : Int} (ht : i3 0 9 t) : 0 ≤ wt n c t q ∧ wt n c t q ≤ 19683 := by
  have a := w1_rng (c := q) (a := c.1) ht.1
  have b := w1_rng (c := q) (a := c.2.1) ht.2.1
  have d := w1_rng (c := q) (a := c.2.2) ht.2.2
  have e := mul_rng a b
  have f := mul_rng e d
  unfold wt
  split
  · omega
  · split
    · omega
    · split
      · omega
      · omega
abbrev mi_X0_hear : Mi := (yX0_hear, cX0_hear, 3, none, 1)
theorem mf_X0_hear : am_mf mi_X0_hear 2 := ⟨w_co_X0_hear, w_in_X0, ⟨by decide +kernel, by decide +kernel⟩, by decide +kernel, by decide⟩
def tb_X0_hear : List (Nat × Tr) := [(0, tAld 0 1), (1, tGf 0 0), (4, tIc 3 1), (5, tCmge 38), (8, tAld 0 1), (9, tGf 0 1), (12, tAld 0 1), (13, tGf 0 0), (16, tIld 1 1), (17, tIas), (18, tAld 0 1), (19, tGf 0 2), (22, tAld 0 1), (23, tGf 0 0), (26, tIld 2 1), (27, tIas), (28, tAld 0 1), (29, tDup), (30, tGf 0 0), (33, tIc 1 1), (34, tI2 (fun a b => a + b)), (35, tPf kI 0 0)]
theorem ok_X0_hear : Tok mi_X0_hear tb_X0_hear :=
  Tc (sd_aload_n dX0_hear_0) <|
  Tc (sd_getf (T := TX0) rfl giX0 (by decide) w_fl_X0_9 dX0_hear_1) <|
  Tc (sd_iconst rfl dX0_hear_4) <|
  Tc (sd_cm_ge (by decide) dX0_hear_5) <|
  Tc (sd_aload_n dX0_hear_8) <|
  Tc (sd_getf (T := TX0) rfl giX0 (by decide) w_fl_X0_15 dX0_hear_9) <|
  Tc (sd_aload_n dX0_hear_12) <|
  Tc (sd_getf (T := TX0) rfl giX0 (by decide) w_fl_X0_9 dX0_hear_13) <|
  Tc (sd_iload_n dX0_hear_16) <|
  Tc (sd_ias dX0_hear_17) <|
  Tc (sd_aload_n dX0_hear_18) <|
  Tc (sd_getf (T := TX0) rfl giX0 (by decide) w_fl_X0_19 dX0_hear_19) <|
  Tc (sd_aload_n dX0_hear_22) <|
  Tc (sd_getf (T := TX0) rfl giX0 (by decide) w_fl_X0_9 dX0_hear_23) <|
  Tc (sd_iload_n dX0_hear_26) <|
  Tc (sd_ias dX0_hear_27) <|
  Tc (sd_aload_n dX0_hear_28) <|
  Tc (sd_dup dX0_hear_29) <|
  Tc (sd_getf (T := TX0) rfl giX0 (by decide) w_fl_X0_9 dX0_hear_30) <|
  Tc (sd_iconst rfl dX0_hear_33) <|
  Tc (sd_iadd dX0_hear_34) <|
  Tc (sd_putf (T := TX0) rfl giX0 (by decide) w_fl_X0_9 tyX0 tyX0_ok nmX0 (kI_ok) rfl dX0_hear_35) <|
  Tn
theorem rk_X0_hear : Rok mi_X0_hear rV [38] := rk_v dX0_hear_38 <| rk_n
def rx_X0_hear : Nat → Nat → AL → List AV → List AC → Option (Option AV × List AC) := am_r tb_X0_hear rV [38]
theorem rs_X0_hear_0 (n : Nat) (L : AL) (st : List AV) (M : List AC) : rx_X0_hear (n + 1) 0 L st M = am_j (rx_X0_hear n) ((tAld 0 1) 0 L st M) := rfl
theorem rs_X0_hear_1 (n : Nat) (L : AL) (st : List AV) (M : List AC) : rx_X0_hear (n + 1) 1 L st M = am_j (rx_X0_hear n) ((tGf 0 0) 1 L st M) := rfl
theorem rs_X0_hear_4 (n : Nat) (L : AL) (st : List AV) (M : List AC) : rx_X0_hear (n + 1) 4 L st M = am_j (rx_X0_hear n) ((tIc 3 1) 4 L st M) := rfl
theorem rs_X0_hear_5 (n : Nat) (L : AL) (st : List AV) (M : List AC) : rx_X0_hear (n + 1) 5 L st M = am_j (rx_X0_hear n) ((tCmge 38) 5 L st M) := rfl
theorem rs_X0_hear_8 (n : Nat) (L : AL) (st : List AV) (M : List AC) : rx_X0_hear (n + 1) 8 L st M = am_j (rx_X0_hear n) ((tAld 0 1) 8 L st M) := rfl
theorem rs_X0_hear_9 (n : Nat) (L : AL) (st : List AV) (M : List AC) : rx_X0_hear (n + 1) 9 L st M = am_j (rx_X0_hear n) ((tGf 0 1) 9 L st M) := rfl
theorem rs_X0_hear_12 (n : Nat) (L : AL) (st : List AV) (M : List AC) : rx_X0_hear (n + 1) 12 L st M = am_j (rx_X0_hear n) ((tAld 0 1) 12 L st M) := rfl
theorem rs_X0_hear_13 (n : Nat) (L : AL) (st : List AV) (M : List AC) : rx_X0_hear (n + 1) 13 L st M = am_j (rx_X0_hear n) ((tGf 0 0) 13 L st M) := rfl
theorem rs_X0_hear_16 (n : Nat) (L : AL) (st : List AV) (M : List AC) : rx_X0_hear (n + 1) 16 L st M = am_j (rx_X0_hear n) ((tIld 1 1) 16 L st M) := rfl
theorem rs_X0_hear_17 (n : Nat) (L : AL) (st : List AV) (M : List AC) : rx_X0_hear (n + 1) 17 L st M = am_j (rx_X0_hear n) (tIas 17 L st M) := rfl
theorem rs_X0_hear_18 (n : Nat) (L : AL) (st : List AV) (M : List AC) : rx_X0_hear (n + 1) 18 L st M = am_j (rx_X0_hear n) ((tAld 0 1) 18 L st M) := rfl
theorem rs_X0_hear_19 (n : Nat) (L : AL) (st : List AV) (M : List AC) : rx_X0_hear (n + 1) 19 L st M = am_j (rx_X0_hear n) ((tGf 0 2) 19 L st M) := rfl
theorem rs_X0_hear_22 (n : Nat) (L : AL) (st : List AV) (M : List AC) : rx_X0_hear (n + 1) 22 L st M = am_j (rx_X0_hear n) ((tAld 0 1) 22 L st M) := rfl
theorem rs_X0_hear_23 (n : Nat) (L : AL) (st : List AV) (M : List AC) : rx_X0_hear (n + 1) 23 L st M = am_j (rx_X0_hear n) ((tGf 0 0) 23 L st M) := rfl
theorem rs_X0_hear_26 (n : Nat) (L : AL) (st : List AV) (M : List AC) : rx_X0_hear (n + 1) 26 L st M = am_j (rx_X0_hear n) ((tIld 2 1) 26 L st M) := rfl
theorem rs_X0_hear_27 (n : Nat) (L : AL) (st : List AV) (M : List AC) : rx_X0_hear (n + 1) 27 L st M = am_j (rx_X0_hear n) (tIas 27 L st M) := rfl
theorem rs_X0_hear_28 (n : Nat) (L : AL) (st : List AV) (M : List AC) : rx_X0_hear (n + 1) 28 L st M = am_j (rx_X0_hear n) ((tAld 0 1) 28 L st M) := rfl
theorem rs_X0_hear_29 (n : Nat) (L : AL) (st : List AV) (M : List AC) : rx_X0_hear (n + 1) 29 L st M = am_j (rx_X0_hear n) (tDup 29 L st M) := rfl
theorem rs_X0_hear_30 (n : Nat) (L : AL) (st : List AV) (M : List AC) : rx_X0_hear (n + 1) 30 L st M = am_j (rx_X0_hear n) ((tGf 0 0) 30 L st M) := rfl
theorem rs_X0_hear_33 (n : Nat) (L : AL) (st : List AV) (M : List AC) : rx_X0_hear (n + 1) 33 L st M = am_j (rx_X0_hear n) ((tIc 1 1) 33 L st M) := rfl
theorem rs_X0_hear_34 (n : Nat) (L : AL) (st : List AV) (M : List AC) : rx_X0_hear (n + 1) 34 L st M = am_j (rx_X0_hear n) ((tI2 (fun a b => a + b)) 34 L st M) := rfl
theorem rs_X0_hear_35 (n : Nat) (L : AL) (st : List AV) (M : List AC) : rx_X0_hear (n + 1) 35 L st M = am_j (rx_X0_hear n) ((tPf kI 0 0) 35 L st M) := rfl
theorem rs_X0_hear_38 (n : Nat) (L : AL) (st : List AV) (M : List AC) : rx_X0_hear (n + 1) 38 L st M = am_e rV st M := rfl
theorem ri_X0_hear (c : Prop) [Decidable c] (p q n : Nat) (L : AL) (st : List AV) (M : List AC) : rx_X0_hear n (if c then p else q) L st M = if c then rx_X0_hear n p L st M else rx_X0_hear n q L st M := by split <;> rfl
theorem rm_X0_hear {n k pc : Nat} {L : AL} {st : List AV} {M : List AC} {x : Option AV × List AC} (h : rx_X0_hear n pc L st M = some x) (hk : n ≤ k) : rx_X0_hear k pc L st M = some x := am_r_mono n k h hk
def fn_X0_hear : Fn := am_fn rx_X0_hear 3
theorem fok_X0_hear : Fok mi_X0_hear fn_X0_hear := fun _ _ _ _ h => am_fok ok_X0_hear rk_X0_hear rfl h
theorem sp_X0_hear {M : List AC} {n : Int} {c t : F3} (h : HL M n c t) (hn : n = 0 ∨ n = 1 ∨ n = 2) (x y : Int) : fn_X0_hear [vR 12, vI x, vI y] M = some (none, ((M.set 12 (aO 0 [vI (n + 1), vR 13, vR 14])).set 13 (aI ((l3 c).set n.toNat x))).set 14 (aI ((l3 t).set n.toNat y))) := by
  obtain ⟨h0, h1, h2⟩ := h
  (refine am_fnI (tb := tb_X0_hear) (n := 60) (Nat.le_of_ble_eq_true rfl) (Nat.le_of_ble_eq_true rfl) ?_; show rx_X0_hear 60 0 _ _ _ = _)
  rcases hn with rfl | rfl | rfl <;>
  simp [↓ri_X0_hear, rs_X0_hear_0, rs_X0_hear_1, rs_X0_hear_4, rs_X0_hear_5, rs_X0_hear_8, rs_X0_hear_9, rs_X0_hear_12, rs_X0_hear_13, rs_X0_hear_16, rs_X0_hear_17, rs_X0_hear_18, rs_X0_hear_19, rs_X0_hear_22, rs_X0_hear_23, rs_X0_hear_26, rs_X0_hear_27, rs_X0_hear_28, rs_X0_hear_29, rs_X0_hear_30, rs_X0_hear_33, rs_X0_hear_34, rs_X0_hear_35, rs_X0_hear_38, -List.getElem?_eq_getElem, am_js, am_e, am_in, am_sl, rI, rZ, rV, rJ, rA, rC, kI, kJ, kR, am_one, am_nl, am_w8, tIc, tLc, tNul, tIld, tLld, tAld, tIst, tLst, tAst, tIinc, tI2, tDv, tL2, tLrem, tLs, tLcmp, tI2l, tL2i, tI2c, tDup, tDup2, tPop, tGo, tIfeq, tIfne, tIflt, tIfge, tIfgt, tIfle, tCmeq, tCmne, tCmlt, tCmge, tCmgt, tCmle, tNu, tTs, tGf, tPf, tGs, tIal, tIas, tBal, tBas, tAln, tSv, tSc, tSb, tSl, tSk, tCv, tCs, tCt, tMx, tMn, wr_10000, wr_100000, wr_1000000, wr_10000000, wr_100000000, wr_2400, wr_9999, wr_0, wr_1, wr_2, wr_3, wr_4, wr_5, wr_6, wr_7, wr_8, wr_9, wr_10, wr_11, wr_12, wr_13, wr_14, wr_15, wr_16, wr_17, wr_18, wr_19, wr_20, wr_21, wr_22, wr_23, wr_24, wr_25, wr_26, wr_27, wr_28, wr_29, wr_30, wr_31, wr_32, wr_33, wr_34, wr_35, wr_36, wr_37, wr_38, wr_39, wr_40, wr_41, wr_42, wr_43, wr_44, wr_45, wr_46, wr_47, wr_48, wr_49, wr_50, wr_51, wr_52, wr_53, wr_54, wr_55, wr_56, wr_57, wr_58, wr_59, wr_60, wr_61, wr_62, wr_63, wr_99, wr_100, wr_192, wr_255, wr_256, wr_343, wr_999, wr_1000, wr_2401, wr_2147483647, wr_65535, wr_m1, wr_m2, wr_m3, wr_m4, wr_m9, ak_1000, ak_1001, ak_1002, ak_0, ak_1, ak_2, ak_3, ak_4, ak_5, ak_6, ak_7, ak_8, ak_9, ak_10, ak_11, ak_12, ak_13, ak_14, ak_15, ak_16, ak_17, ak_18, ak_19, ak_20, ak_21, ak_22, ak_23, ak_24, ak_25, ak_26, ak_27, ak_28, ak_29, ak_30, ak_31, ak_32, ak_33, ak_34, ak_35, ak_36, ak_37, ak_38, ak_39, ak_40, ak_41, ak_42, ak_43, ak_44, ak_45, ak_46, ak_47, h0, h1, h2, gs h0, gs h1, gs h2, ss (i := 12) (j := 13) (by decide), ss (i := 12) (j := 14) (by decide), ss (i := 13) (j := 14) (by decide)]
abbrev mi_X0_weight : Mi := (yX0_weight, cX0_weight, 4, some .int, 1)
theorem mf_X0_weight : am_mf mi_X0_weight 1 := ⟨w_co_X0_weight, w_in_X0, ⟨by decide +kernel, by decide +kernel⟩, by decide +kernel, by decide⟩
def tb_X0_weight : List (Nat × Tr) := [(0, tIc 1 1), (1, tIst 2 1), (2, tIc 0 1), (3, tIst 3 1), (4, tIld 3 1), (5, tAld 0 1), (6, tGf 0 0), (9, tCmge 56), (12, tIld 3 1), (13, tIc 3 1), (14, tCmge 56), (17, tIld 2 1), (18, tAld 0 1), (19, tGf 0 1), (22, tIld 3 1), (23, tIal), (24, tIld 1 1), (25, tCmne 39), (28, tIc 3 1), (29, tAld 0 1), (30, tGf 0 2), (33, tIld 3 1), (34, tIal), (35, tI2 (fun a b => a * b)), (36, tGo 48), (39, tIc 10 2), (41, tAld 0 1), (42, tGf 0 2), (45, tIld 3 1), (46, tIal), (47, tI2 (fun a b => a - b)), (48, tI2 (fun a b => a * b)), (49, tIst 2 1), (50, tIinc 3 1), (53, tGo 4), (56, tIld 2 1)]
theorem ok_X0_weight : Tok mi_X0_weight tb_X0_weight :=
  Tc (sd_iconst rfl dX0_weight_0) <|
  Tc (sd_istore_n dX0_weight_1) <|
  Tc (sd_iconst rfl dX0_weight_2) <|
  Tc (sd_istore_n dX0_weight_3) <|
  Tc (sd_iload_n dX0_weight_4) <|
  Tc (sd_aload_n dX0_weight_5) <|
  Tc (sd_getf (T := TX0) rfl giX0 (by decide) w_fl_X0_9 dX0_weight_6) <|
  Tc (sd_cm_ge (by decide) dX0_weight_9) <|
  Tc (sd_iload_n dX0_weight_12) <|
  Tc (sd_iconst rfl dX0_weight_13) <|
  Tc (sd_cm_ge (by decide) dX0_weight_14) <|
  Tc (sd_iload_n dX0_weight_17) <|
  Tc (sd_aload_n dX0_weight_18) <|
  Tc (sd_getf (T := TX0) rfl giX0 (by decide) w_fl_X0_15 dX0_weight_19) <|
  Tc (sd_iload_n dX0_weight_22) <|
  Tc (sd_ial dX0_weight_23) <|
  Tc (sd_iload_n dX0_weight_24) <|
  Tc (sd_cm_ne (by decide) dX0_weight_25) <|
  Tc (sd_iconst rfl dX0_weight_28) <|
  Tc (sd_aload_n dX0_weight_29) <|
  Tc (sd_getf (T := TX0) rfl giX0 (by decide) w_fl_X0_19 dX0_weight_30) <|
  Tc (sd_iload_n dX0_weight_33) <|
  Tc (sd_ial dX0_weight_34) <|
  Tc (sd_imul dX0_weight_35) <|
  Tc (sd_goto (by decide) dX0_weight_36) <|
  Tc (sd_bipush (by decide +kernel) dX0_weight_39) <|
  Tc (sd_aload_n dX0_weight_41) <|
  Tc (sd_getf (T := TX0) rfl giX0 (by decide) w_fl_X0_19 dX0_weight_42) <|
  Tc (sd_iload_n dX0_weight_45) <|
  Tc (sd_ial dX0_weight_46) <|
  Tc (sd_isub dX0_weight_47) <|
  Tc (sd_imul dX0_weight_48) <|
  Tc (sd_istore_n dX0_weight_49) <|
  Tc (sd_iinc dX0_weight_50) <|
  Tc (sd_goto (by decide) dX0_weight_53) <|
  Tc (sd_iload_n dX0_weight_56) <|
  Tn
theorem rk_X0_weight : Rok mi_X0_weight rI [57] := rk_i dX0_weight_57 <| rk_n
def rx_X0_weight : Nat → Nat → AL → List AV → List AC → Option (Option AV × List AC) := am_r tb_X0_weight rI [57]
theorem rs_X0_weight_0 (n : Nat) (L : AL) (st : List AV) (M : List AC) : rx_X0_weight (n + 1) 0 L st M = am_j (rx_X0_weight n) ((tIc 1 1) 0 L st M) := rfl
theorem rs_X0_weight_1 (n : Nat) (L : AL) (st : List AV) (M : List AC) : rx_X0_weight (n + 1) 1 L st M = am_j (rx_X0_weight n) ((tIst 2 1) 1 L st M) := rfl
theorem rs_X0_weight_2 (n : Nat) (L : AL) (st : List AV) (M : List AC) : rx_X0_weight (n + 1) 2 L st M = am_j (rx_X0_weight n) ((tIc 0 1) 2 L st M) := rfl
theorem rs_X0_weight_3 (n : Nat) (L : AL) (st : List AV) (M : List AC) : rx_X0_weight (n + 1) 3 L st M = am_j (rx_X0_weight n) ((tIst 3 1) 3 L st M) := rfl
theorem rs_X0_weight_4 (n : Nat) (L : AL) (st : List AV) (M : List AC) : rx_X0_weight (n + 1) 4 L st M = am_j (rx_X0_weight n) ((tIld 3 1) 4 L st M) := rfl
theorem rs_X0_weight_5 (n : Nat) (L : AL) (st : List AV) (M : List AC) : rx_X0_weight (n + 1) 5 L st M = am_j (rx_X0_weight n) ((tAld 0 1) 5 L st M) := rfl
theorem rs_X0_weight_6 (n : Nat) (L : AL) (st : List AV) (M : List AC) : rx_X0_weight (n + 1) 6 L st M = am_j (rx_X0_weight n) ((tGf 0 0) 6 L st M) := rfl
theorem rs_X0_weight_9 (n : Nat) (L : AL) (st : List AV) (M : List AC) : rx_X0_weight (n + 1) 9 L st M = am_j (rx_X0_weight n) ((tCmge 56) 9 L st M) := rfl
theorem rs_X0_weight_12 (n : Nat) (L : AL) (st : List AV) (M : List AC) : rx_X0_weight (n + 1) 12 L st M = am_j (rx_X0_weight n) ((tIld 3 1) 12 L st M) := rfl
theorem rs_X0_weight_13 (n : Nat) (L : AL) (st : List AV) (M : List AC) : rx_X0_weight (n + 1) 13 L st M = am_j (rx_X0_weight n) ((tIc 3 1) 13 L st M) := rfl
theorem rs_X0_weight_14 (n : Nat) (L : AL) (st : List AV) (M : List AC) : rx_X0_weight (n + 1) 14 L st M = am_j (rx_X0_weight n) ((tCmge 56) 14 L st M) := rfl
theorem rs_X0_weight_17 (n : Nat) (L : AL) (st : List AV) (M : List AC) : rx_X0_weight (n + 1) 17 L st M = am_j (rx_X0_weight n) ((tIld 2 1) 17 L st M) := rfl
theorem rs_X0_weight_18 (n : Nat) (L : AL) (st : List AV) (M : List AC) : rx_X0_weight (n + 1) 18 L st M = am_j (rx_X0_weight n) ((tAld 0 1) 18 L st M) := rfl
theorem rs_X0_weight_19 (n : Nat) (L : AL) (st : List AV) (M : List AC) : rx_X0_weight (n + 1) 19 L st M = am_j (rx_X0_weight n) ((tGf 0 1) 19 L st M) := rfl
theorem rs_X0_weight_22 (n : Nat) (L : AL) (st : List AV) (M : List AC) : rx_X0_weight (n + 1) 22 L st M = am_j (rx_X0_weight n) ((tIld 3 1) 22 L st M) := rfl
theorem rs_X0_weight_23 (n : Nat) (L : AL) (st : List AV) (M : List AC) : rx_X0_weight (n + 1) 23 L st M = am_j (rx_X0_weight n) (tIal 23 L st M) := rfl
theorem rs_X0_weight_24 (n : Nat) (L : AL) (st : List AV) (M : List AC) : rx_X0_weight (n + 1) 24 L st M = am_j (rx_X0_weight n) ((tIld 1 1) 24 L st M) := rfl
theorem rs_X0_weight_25 (n : Nat) (L : AL) (st : List AV) (M : List AC) : rx_X0_weight (n + 1) 25 L st M = am_j (rx_X0_weight n) ((tCmne 39) 25 L st M) := rfl
theorem rs_X0_weight_28 (n : Nat) (L : AL) (st : List AV) (M : List AC) : rx_X0_weight (n + 1) 28 L st M = am_j (rx_X0_weight n) ((tIc 3 1) 28 L st M) := rfl
theorem rs_X0_weight_29 (n : Nat) (L : AL) (st : List AV) (M : List AC) : rx_X0_weight (n + 1) 29 L st M = am_j (rx_X0_weight n) ((tAld 0 1) 29 L st M) := rfl
theorem rs_X0_weight_30 (n : Nat) (L : AL) (st : List AV) (M : List AC) : rx_X0_weight (n + 1) 30 L st M = am_j (rx_X0_weight n) ((tGf 0 2) 30 L st M) := rfl
theorem rs_X0_weight_33 (n : Nat) (L : AL) (st : List AV) (M : List AC) : rx_X0_weight (n + 1) 33 L st M = am_j (rx_X0_weight n) ((tIld 3 1) 33 L st M) := rfl
theorem rs_X0_weight_34 (n : Nat) (L : AL) (st : List AV) (M : List AC) : rx_X0_weight (n + 1) 34 L st M = am_j (rx_X0_weight n) (tIal 34 L st M) := rfl
theorem rs_X0_weight_35 (n : Nat) (L : AL) (st : List AV) (M : List AC) : rx_X0_weight (n + 1) 35 L st M = am_j (rx_X0_weight n) ((tI2 (fun a b => a * b)) 35 L st M) := rfl
theorem rs_X0_weight_36 (n : Nat) (L : AL) (st : List AV) (M : List AC) : rx_X0_weight (n + 1) 36 L st M = am_j (rx_X0_weight n) ((tGo 48) 36 L st M) := rfl
theorem rs_X0_weight_39 (n : Nat) (L : AL) (st : List AV) (M : List AC) : rx_X0_weight (n + 1) 39 L st M = am_j (rx_X0_weight n) ((tIc 10 2) 39 L st M) := rfl
theorem rs_X0_weight_41 (n : Nat) (L : AL) (st : List AV) (M : List AC) : rx_X0_weight (n + 1) 41 L st M = am_j (rx_X0_weight n) ((tAld 0 1) 41 L st M) := rfl
theorem rs_X0_weight_42 (n : Nat) (L : AL) (st : List AV) (M : List AC) : rx_X0_weight (n + 1) 42 L st M = am_j (rx_X0_weight n) ((tGf 0 2) 42 L st M) := rfl
theorem rs_X0_weight_45 (n : Nat) (L : AL) (st : List AV) (M : List AC) : rx_X0_weight (n + 1) 45 L st M = am_j (rx_X0_weight n) ((tIld 3 1) 45 L st M) := rfl
theorem rs_X0_weight_46 (n : Nat) (L : AL) (st : List AV) (M : List AC) : rx_X0_weight (n + 1) 46 L st M = am_j (rx_X0_weight n) (tIal 46 L st M) := rfl
theorem rs_X0_weight_47 (n : Nat) (L : AL) (st : List AV) (M : List AC) : rx_X0_weight (n + 1) 47 L st M = am_j (rx_X0_weight n) ((tI2 (fun a b => a - b)) 47 L st M) := rfl
theorem rs_X0_weight_48 (n : Nat) (L : AL) (st : List AV) (M : List AC) : rx_X0_weight (n + 1) 48 L st M = am_j (rx_X0_weight n) ((tI2 (fun a b => a * b)) 48 L st M) := rfl
theorem rs_X0_weight_49 (n : Nat) (L : AL) (st : List AV) (M : List AC) : rx_X0_weight (n + 1) 49 L st M = am_j (rx_X0_weight n) ((tIst 2 1) 49 L st M) := rfl
theorem rs_X0_weight_50 (n : Nat) (L : AL) (st : List AV) (M : List AC) : rx_X0_weight (n + 1) 50 L st M = am_j (rx_X0_weight n) ((tIinc 3 1) 50 L st M) := rfl
theorem rs_X0_weight_53 (n : Nat) (L : AL) (st : List AV) (M : List AC) : rx_X0_weight (n + 1) 53 L st M = am_j (rx_X0_weight n) ((tGo 4) 53 L st M) := rfl
theorem rs_X0_weight_56 (n : Nat) (L : AL) (st : List AV) (M : List AC) : rx_X0_weight (n + 1) 56 L st M = am_j (rx_X0_weight n) ((tIld 2 1) 56 L st M) := rfl
theorem rs_X0_weight_57 (n : Nat) (L : AL) (st : List AV) (M : List AC) : rx_X0_weight (n + 1) 57 L st M = am_e rI st M := rfl
theorem ri_X0_weight (c : Prop) [Decidable c] (p q n : Nat) (L : AL) (st : List AV) (M : List AC) : rx_X0_weight n (if c then p else q) L st M = if c then rx_X0_weight n p L st M else rx_X0_weight n q L st M := by split <;> rfl
theorem rm_X0_weight {n k pc : Nat} {L : AL} {st : List AV} {M : List AC} {x : Option AV × List AC} (h : rx_X0_weight n pc L st M = some x) (hk : n ≤ k) : rx_X0_weight k pc L st M = some x := am_r_mono n k h hk
def fn_X0_weight : Fn := am_fn rx_X0_weight 4
theorem fok_X0_weight : Fok mi_X0_weight fn_X0_weight := fun _ _ _ _ h => am_fok ok_X0_weight rk_X0_weight rfl h
theorem sp_X0_weight {M : List AC} {n : Int} {c t : F3} (h : HL M n c t) (hn : 0 ≤ n ∧ n ≤ 3) (hc : i3 0 3 c) (q : Int) (hq : 0 ≤ q ∧ q < 4) : fn_X0_weight [vR 12, vI q] M = some (some (vI (wt n c t q)), M) := by
  obtain ⟨h0, h1, h2⟩ := h
  obtain ⟨⟨a1, a2⟩, ⟨b1, b2⟩, d1, d2⟩ := hc
  have e0 : wr c.1 = c.1 := wr_id (by omega) (by omega)
  have e1 : wr c.2.1 = c.2.1 := wr_id (by omega) (by omega)
  have e2 : wr c.2.2 = c.2.2 := wr_id (by omega) (by omega)
  have eq : wr q = q := wr_id (by omega) (by omega)
  (refine am_fnI (tb := tb_X0_weight) (n := 120) (Nat.le_of_ble_eq_true rfl) (Nat.le_of_ble_eq_true rfl) ?_; show rx_X0_weight 120 0 _ _ _ = _)
  obtain rfl | rfl | rfl | rfl : n = 0 ∨ n = 1 ∨ n = 2 ∨ n = 3 := by omega
  · simp [↓ri_X0_weight, rs_X0_weight_0, rs_X0_weight_1, rs_X0_weight_2, rs_X0_weight_3, rs_X0_weight_4, rs_X0_weight_5, rs_X0_weight_6, rs_X0_weight_9, rs_X0_weight_12, rs_X0_weight_13, rs_X0_weight_14, rs_X0_weight_17, rs_X0_weight_18, rs_X0_weight_19, rs_X0_weight_22, rs_X0_weight_23, rs_X0_weight_24, rs_X0_weight_25, rs_X0_weight_28, rs_X0_weight_29, rs_X0_weight_30, rs_X0_weight_33, rs_X0_weight_34, rs_X0_weight_35, rs_X0_weight_36, rs_X0_weight_39, rs_X0_weight_41, rs_X0_weight_42, rs_X0_weight_45, rs_X0_weight_46, rs_X0_weight_47, rs_X0_weight_48, rs_X0_weight_49, rs_X0_weight_50, rs_X0_weight_53, rs_X0_weight_56, rs_X0_weight_57, -List.getElem?_eq_getElem, am_js, am_e, am_in, am_sl, rI, rZ, rV, rJ, rA, rC, kI, kJ, kR, am_one, am_nl, am_w8, tIc, tLc, tNul, tIld, tLld, tAld, tIst, tLst, tAst, tIinc, tI2, tDv, tL2, tLrem, tLs, tLcmp, tI2l, tL2i, tI2c, tDup, tDup2, tPop, tGo, tIfeq, tIfne, tIflt, tIfge, tIfgt, tIfle, tCmeq, tCmne, tCmlt, tCmge, tCmgt, tCmle, tNu, tTs, tGf, tPf, tGs, tIal, tIas, tBal, tBas, tAln, tSv, tSc, tSb, tSl, tSk, tCv, tCs, tCt, tMx, tMn, wr_10000, wr_100000, wr_1000000, wr_10000000, wr_100000000, wr_2400, wr_9999, wr_0, wr_1, wr_2, wr_3, wr_4, wr_5, wr_6, wr_7, wr_8, wr_9, wr_10, wr_11, wr_12, wr_13, wr_14, wr_15, wr_16, wr_17, wr_18, wr_19, wr_20, wr_21, wr_22, wr_23, wr_24, wr_25, wr_26, wr_27, wr_28, wr_29, wr_30, wr_31, wr_32, wr_33, wr_34, wr_35, wr_36, wr_37, wr_38, wr_39, wr_40, wr_41, wr_42, wr_43, wr_44, wr_45, wr_46, wr_47, wr_48, wr_49, wr_50, wr_51, wr_52, wr_53, wr_54, wr_55, wr_56, wr_57, wr_58, wr_59, wr_60, wr_61, wr_62, wr_63, wr_99, wr_100, wr_192, wr_255, wr_256, wr_343, wr_999, wr_1000, wr_2401, wr_2147483647, wr_65535, wr_m1, wr_m2, wr_m3, wr_m4, wr_m9, ak_1000, ak_1001, ak_1002, ak_0, ak_1, ak_2, ak_3, ak_4, ak_5, ak_6, ak_7, ak_8, ak_9, ak_10, ak_11, ak_12, ak_13, ak_14, ak_15, ak_16, ak_17, ak_18, ak_19, ak_20, ak_21, ak_22, ak_23, ak_24, ak_25, ak_26, ak_27, ak_28, ak_29, ak_30, ak_31, ak_32, ak_33, ak_34, ak_35, ak_36, ak_37, ak_38, ak_39, ak_40, ak_41, ak_42, ak_43, ak_44, ak_45, ak_46, ak_47, h0, h1, h2, wt]
  · simp [↓ri_X0_weight, rs_X0_weight_0, rs_X0_weight_1, rs_X0_weight_2, rs_X0_weight_3, rs_X0_weight_4, rs_X0_weight_5, rs_X0_weight_6, rs_X0_weight_9, rs_X0_weight_12, rs_X0_weight_13, rs_X0_weight_14, rs_X0_weight_17, rs_X0_weight_18, rs_X0_weight_19, rs_X0_weight_22, rs_X0_weight_23, rs_X0_weight_24, rs_X0_weight_25, rs_X0_weight_28, rs_X0_weight_29, rs_X0_weight_30, rs_X0_weight_33, rs_X0_weight_34, rs_X0_weight_35, rs_X0_weight_36, rs_X0_weight_39, rs_X0_weight_41, rs_X0_weight_42, rs_X0_weight_45, rs_X0_weight_46, rs_X0_weight_47, rs_X0_weight_48, rs_X0_weight_49, rs_X0_weight_50, rs_X0_weight_53, rs_X0_weight_56, rs_X0_weight_57, -List.getElem?_eq_getElem, am_js, am_e, am_in, am_sl, rI, rZ, rV, rJ, rA, rC, kI, kJ, kR, am_one, am_nl, am_w8, tIc, tLc, tNul, tIld, tLld, tAld, tIst, tLst, tAst, tIinc, tI2, tDv, tL2, tLrem, tLs, tLcmp, tI2l, tL2i, tI2c, tDup, tDup2, tPop, tGo, tIfeq, tIfne, tIflt, tIfge, tIfgt, tIfle, tCmeq, tCmne, tCmlt, tCmge, tCmgt, tCmle, tNu, tTs, tGf, tPf, tGs, tIal, tIas, tBal, tBas, tAln, tSv, tSc, tSb, tSl, tSk, tCv, tCs, tCt, tMx, tMn, wr_10000, wr_100000, wr_1000000, wr_10000000, wr_100000000, wr_2400, wr_9999, wr_0, wr_1, wr_2, wr_3, wr_4, wr_5, wr_6, wr_7, wr_8, wr_9, wr_10, wr_11, wr_12, wr_13, wr_14, wr_15, wr_16, wr_17, wr_18, wr_19, wr_20, wr_21, wr_22, wr_23, wr_24, wr_25, wr_26, wr_27, wr_28, wr_29, wr_30, wr_31, wr_32, wr_33, wr_34, wr_35, wr_36, wr_37, wr_38, wr_39, wr_40, wr_41, wr_42, wr_43, wr_44, wr_45, wr_46, wr_47, wr_48, wr_49, wr_50, wr_51, wr_52, wr_53, wr_54, wr_55, wr_56, wr_57, wr_58, wr_59, wr_60, wr_61, wr_62, wr_63, wr_99, wr_100, wr_192, wr_255, wr_256, wr_343, wr_999, wr_1000, wr_2401, wr_2147483647, wr_65535, wr_m1, wr_m2, wr_m3, wr_m4, wr_m9, ak_1000, ak_1001, ak_1002, ak_0, ak_1, ak_2, ak_3, ak_4, ak_5, ak_6, ak_7, ak_8, ak_9, ak_10, ak_11, ak_12, ak_13, ak_14, ak_15, ak_16, ak_17, ak_18, ak_19, ak_20, ak_21, ak_22, ak_23, ak_24, ak_25, ak_26, ak_27, ak_28, ak_29, ak_30, ak_31, ak_32, ak_33, ak_34, ak_35, ak_36, ak_37, ak_38, ak_39, ak_40, ak_41, ak_42, ak_43, ak_44, ak_45, ak_46, ak_47, h0, h1, h2, wt, w1, e0, e1, e2, eq]
    (repeat' split) <;> rfl
  · by_cases x0 : c.1 = q <;> by_cases x1 : c.2.1 = q <;>
    simp [↓ri_X0_weight, rs_X0_weight_0, rs_X0_weight_1, rs_X0_weight_2, rs_X0_weight_3, rs_X0_weight_4, rs_X0_weight_5, rs_X0_weight_6, rs_X0_weight_9, rs_X0_weight_12, rs_X0_weight_13, rs_X0_weight_14, rs_X0_weight_17, rs_X0_weight_18, rs_X0_weight_19, rs_X0_weight_22, rs_X0_weight_23, rs_X0_weight_24, rs_X0_weight_25, rs_X0_weight_28, rs_X0_weight_29, rs_X0_weight_30, rs_X0_weight_33, rs_X0_weight_34, rs_X0_weight_35, rs_X0_weight_36, rs_X0_weight_39, rs_X0_weight_41, rs_X0_weight_42, rs_X0_weight_45, rs_X0_weight_46, rs_X0_weight_47, rs_X0_weight_48, rs_X0_weight_49, rs_X0_weight_50, rs_X0_weight_53, rs_X0_weight_56, rs_X0_weight_57, -List.getElem?_eq_getElem, am_js, am_e, am_in, am_sl, rI, rZ, rV, rJ, rA, rC, kI, kJ, kR, am_one, am_nl, am_w8, tIc, tLc, tNul, tIld, tLld, tAld, tIst, tLst, tAst, tIinc, tI2, tDv, tL2, tLrem, tLs, tLcmp, tI2l, tL2i, tI2c, tDup, tDup2, tPop, tGo, tIfeq, tIfne, tIflt, tIfge, tIfgt, tIfle, tCmeq, tCmne, tCmlt, tCmge, tCmgt, tCmle, tNu, tTs, tGf, tPf, tGs, tIal, tIas, tBal, tBas, tAln, tSv, tSc, tSb, tSl, tSk, tCv, tCs, tCt, tMx, tMn, wr_10000, wr_100000, wr_1000000, wr_10000000, wr_100000000, wr_2400, wr_9999, wr_0, wr_1, wr_2, wr_3, wr_4, wr_5, wr_6, wr_7, wr_8, wr_9, wr_10, wr_11, wr_12, wr_13, wr_14, wr_15, wr_16, wr_17, wr_18, wr_19, wr_20, wr_21, wr_22, wr_23, wr_24, wr_25, wr_26, wr_27, wr_28, wr_29, wr_30, wr_31, wr_32, wr_33, wr_34, wr_35, wr_36, wr_37, wr_38, wr_39, wr_40, wr_41, wr_42, wr_43, wr_44, wr_45, wr_46, wr_47, wr_48, wr_49, wr_50, wr_51, wr_52, wr_53, wr_54, wr_55, wr_56, wr_57, wr_58, wr_59, wr_60, wr_61, wr_62, wr_63, wr_99, wr_100, wr_192, wr_255, wr_256, wr_343, wr_999, wr_1000, wr_2401, wr_2147483647, wr_65535, wr_m1, wr_m2, wr_m3, wr_m4, wr_m9, ak_1000, ak_1001, ak_1002, ak_0, ak_1, ak_2, ak_3, ak_4, ak_5, ak_6, ak_7, ak_8, ak_9, ak_10, ak_11, ak_12, ak_13, ak_14, ak_15, ak_16, ak_17, ak_18, ak_19, ak_20, ak_21, ak_22, ak_23, ak_24, ak_25, ak_26, ak_27, ak_28, ak_29, ak_30, ak_31, ak_32, ak_33, ak_34, ak_35, ak_36, ak_37, ak_38, ak_39, ak_40, ak_41, ak_42, ak_43, ak_44, ak_45, ak_46, ak_47, h0, h1, h2, wt, w1, e0, e1, e2, eq, x0, x1]
  · by_cases x0 : c.1 = q <;> by_cases x1 : c.2.1 = q <;> by_cases x2 : c.2.2 = q <;>
    simp [↓ri_X0_weight, rs_X0_weight_0, rs_X0_weight_1, rs_X0_weight_2, rs_X0_weight_3, rs_X0_weight_4, rs_X0_weight_5, rs_X0_weight_6, rs_X0_weight_9, rs_X0_weight_12, rs_X0_weight_13, rs_X0_weight_14, rs_X0_weight_17, rs_X0_weight_18, rs_X0_weight_19, rs_X0_weight_22, rs_X0_weight_23, rs_X0_weight_24, rs_X0_weight_25, rs_X0_weight_28, rs_X0_weight_29, rs_X0_weight_30, rs_X0_weight_33, rs_X0_weight_34, rs_X0_weight_35, rs_X0_weight_36, rs_X0_weight_39, rs_X0_weight_41, rs_X0_weight_42, rs_X0_weight_45, rs_X0_weight_46, rs_X0_weight_47, rs_X0_weight_48, rs_X0_weight_49, rs_X0_weight_50, rs_X0_weight_53, rs_X0_weight_56, rs_X0_weight_57, -List.getElem?_eq_getElem, am_js, am_e, am_in, am_sl, rI, rZ, rV, rJ, rA, rC, kI, kJ, kR, am_one, am_nl, am_w8, tIc, tLc, tNul, tIld, tLld, tAld, tIst, tLst, tAst, tIinc, tI2, tDv, tL2, tLrem, tLs, tLcmp, tI2l, tL2i, tI2c, tDup, tDup2, tPop, tGo, tIfeq, tIfne, tIflt, tIfge, tIfgt, tIfle, tCmeq, tCmne, tCmlt, tCmge, tCmgt, tCmle, tNu, tTs, tGf, tPf, tGs, tIal, tIas, tBal, tBas, tAln, tSv, tSc, tSb, tSl, tSk, tCv, tCs, tCt, tMx, tMn, wr_10000, wr_100000, wr_1000000, wr_10000000, wr_100000000, wr_2400, wr_9999, wr_0, wr_1, wr_2, wr_3, wr_4, wr_5, wr_6, wr_7, wr_8, wr_9, wr_10, wr_11, wr_12, wr_13, wr_14, wr_15, wr_16, wr_17, wr_18, wr_19, wr_20, wr_21, wr_22, wr_23, wr_24, wr_25, wr_26, wr_27, wr_28, wr_29, wr_30, wr_31, wr_32, wr_33, wr_34, wr_35, wr_36, wr_37, wr_38, wr_39, wr_40, wr_41, wr_42, wr_43, wr_44, wr_45, wr_46, wr_47, wr_48, wr_49, wr_50, wr_51, wr_52, wr_53, wr_54, wr_55, wr_56, wr_57, wr_58, wr_59, wr_60, wr_61, wr_62, wr_63, wr_99, wr_100, wr_192, wr_255, wr_256, wr_343, wr_999, wr_1000, wr_2401, wr_2147483647, wr_65535, wr_m1, wr_m2, wr_m3, wr_m4, wr_m9, ak_1000, ak_1001, ak_1002, ak_0, ak_1, ak_2, ak_3, ak_4, ak_5, ak_6, ak_7, ak_8, ak_9, ak_10, ak_11, ak_12, ak_13, ak_14, ak_15, ak_16, ak_17, ak_18, ak_19, ak_20, ak_21, ak_22, ak_23, ak_24, ak_25, ak_26, ak_27, ak_28, ak_29, ak_30, ak_31, ak_32, ak_33, ak_34, ak_35, ak_36, ak_37, ak_38, ak_39, ak_40, ak_41, ak_42, ak_43, ak_44, ak_45, ak_46, ak_47, h0, h1, h2, wt, w1, e0, e1, e2, eq, x0, x1, x2]
abbrev mi_X0_weightOfAll : Mi := (yX0_weightOfAll, cX0_weightOfAll, 1, some .int, 2)
theorem mf_X0_weightOfAll : am_mf mi_X0_weightOfAll 0 := ⟨w_co_X0_weightOfAll, w_in_X0, ⟨by decide +kernel, by decide +kernel⟩, by decide +kernel, by decide⟩
def tb_X0_weightOfAll : List (Nat × Tr) := [(0, tAld 0 1), (1, tIc 0 1), (2, tCv 0 1 fn_X0_weight), (5, tAld 0 1), (6, tIc 1 1), (7, tCv 0 1 fn_X0_weight), (10, tI2 (fun a b => a + b)), (11, tAld 0 1), (12, tIc 2 1), (13, tCv 0 1 fn_X0_weight), (16, tI2 (fun a b => a + b)), (17, tAld 0 1), (18, tIc 3 1), (19, tCv 0 1 fn_X0_weight), (22, tI2 (fun a b => a + b))]
theorem ok_X0_weightOfAll : Tok mi_X0_weightOfAll tb_X0_weightOfAll :=
  Tc (sd_aload_n dX0_weightOfAll_0) <|
  Tc (sd_iconst rfl dX0_weightOfAll_1) <|
  Tc (sd_cv (T := TX0) fok_X0_weight mf_X0_weight rfl w_ml_X0_22 w_im_X0_weight w_se_X0_weight (by decide) dX0_weightOfAll_2) <|
  Tc (sd_aload_n dX0_weightOfAll_5) <|
  Tc (sd_iconst rfl dX0_weightOfAll_6) <|
  Tc (sd_cv (T := TX0) fok_X0_weight mf_X0_weight rfl w_ml_X0_22 w_im_X0_weight w_se_X0_weight (by decide) dX0_weightOfAll_7) <|
  Tc (sd_iadd dX0_weightOfAll_10) <|
  Tc (sd_aload_n dX0_weightOfAll_11) <|
  Tc (sd_iconst rfl dX0_weightOfAll_12) <|
  Tc (sd_cv (T := TX0) fok_X0_weight mf_X0_weight rfl w_ml_X0_22 w_im_X0_weight w_se_X0_weight (by decide) dX0_weightOfAll_13) <|
  Tc (sd_iadd dX0_weightOfAll_16) <|
  Tc (sd_aload_n dX0_weightOfAll_17) <|
  Tc (sd_iconst rfl dX0_weightOfAll_18) <|
  Tc (sd_cv (T := TX0) fok_X0_weight mf_X0_weight rfl w_ml_X0_22 w_im_X0_weight w_se_X0_weight (by decide) dX0_weightOfAll_19) <|
  Tc (sd_iadd dX0_weightOfAll_22) <|
  Tn
theorem rk_X0_weightOfAll : Rok mi_X0_weightOfAll rI [23] := rk_i dX0_weightOfAll_23 <| rk_n
def rx_X0_weightOfAll : Nat → Nat → AL → List AV → List AC → Option (Option AV × List AC) := am_r tb_X0_weightOfAll rI [23]
theorem rs_X0_weightOfAll_0 (n : Nat) (L : AL) (st : List AV) (M : List AC) : rx_X0_weightOfAll (n + 1) 0 L st M = am_j (rx_X0_weightOfAll n) ((tAld 0 1) 0 L st M) := rfl
theorem rs_X0_weightOfAll_1 (n : Nat) (L : AL) (st : List AV) (M : List AC) : rx_X0_weightOfAll (n + 1) 1 L st M = am_j (rx_X0_weightOfAll n) ((tIc 0 1) 1 L st M) := rfl
theorem rs_X0_weightOfAll_2 (n : Nat) (L : AL) (st : List AV) (M : List AC) : rx_X0_weightOfAll (n + 1) 2 L st M = am_j (rx_X0_weightOfAll n) ((tCv 0 1 fn_X0_weight) 2 L st M) := rfl
theorem rs_X0_weightOfAll_5 (n : Nat) (L : AL) (st : List AV) (M : List AC) : rx_X0_weightOfAll (n + 1) 5 L st M = am_j (rx_X0_weightOfAll n) ((tAld 0 1) 5 L st M) := rfl
theorem rs_X0_weightOfAll_6 (n : Nat) (L : AL) (st : List AV) (M : List AC) : rx_X0_weightOfAll (n + 1) 6 L st M = am_j (rx_X0_weightOfAll n) ((tIc 1 1) 6 L st M) := rfl
theorem rs_X0_weightOfAll_7 (n : Nat) (L : AL) (st : List AV) (M : List AC) : rx_X0_weightOfAll (n + 1) 7 L st M = am_j (rx_X0_weightOfAll n) ((tCv 0 1 fn_X0_weight) 7 L st M) := rfl
theorem rs_X0_weightOfAll_10 (n : Nat) (L : AL) (st : List AV) (M : List AC) : rx_X0_weightOfAll (n + 1) 10 L st M = am_j (rx_X0_weightOfAll n) ((tI2 (fun a b => a + b)) 10 L st M) := rfl
theorem rs_X0_weightOfAll_11 (n : Nat) (L : AL) (st : List AV) (M : List AC) : rx_X0_weightOfAll (n + 1) 11 L st M = am_j (rx_X0_weightOfAll n) ((tAld 0 1) 11 L st M) := rfl
theorem rs_X0_weightOfAll_12 (n : Nat) (L : AL) (st : List AV) (M : List AC) : rx_X0_weightOfAll (n + 1) 12 L st M = am_j (rx_X0_weightOfAll n) ((tIc 2 1) 12 L st M) := rfl
theorem rs_X0_weightOfAll_13 (n : Nat) (L : AL) (st : List AV) (M : List AC) : rx_X0_weightOfAll (n + 1) 13 L st M = am_j (rx_X0_weightOfAll n) ((tCv 0 1 fn_X0_weight) 13 L st M) := rfl
theorem rs_X0_weightOfAll_16 (n : Nat) (L : AL) (st : List AV) (M : List AC) : rx_X0_weightOfAll (n + 1) 16 L st M = am_j (rx_X0_weightOfAll n) ((tI2 (fun a b => a + b)) 16 L st M) := rfl
theorem rs_X0_weightOfAll_17 (n : Nat) (L : AL) (st : List AV) (M : List AC) : rx_X0_weightOfAll (n + 1) 17 L st M = am_j (rx_X0_weightOfAll n) ((tAld 0 1) 17 L st M) := rfl
theorem rs_X0_weightOfAll_18 (n : Nat) (L : AL) (st : List AV) (M : List AC) : rx_X0_weightOfAll (n + 1) 18 L st M = am_j (rx_X0_weightOfAll n) ((tIc 3 1) 18 L st M) := rfl
theorem rs_X0_weightOfAll_19 (n : Nat) (L : AL) (st : List AV) (M : List AC) : rx_X0_weightOfAll (n + 1) 19 L st M = am_j (rx_X0_weightOfAll n) ((tCv 0 1 fn_X0_weight) 19 L st M) := rfl
theorem rs_X0_weightOfAll_22 (n : Nat) (L : AL) (st : List AV) (M : List AC) : rx_X0_weightOfAll (n + 1) 22 L st M = am_j (rx_X0_weightOfAll n) ((tI2 (fun a b => a + b)) 22 L st M) := rfl
theorem rs_X0_weightOfAll_23 (n : Nat) (L : AL) (st : List AV) (M : List AC) : rx_X0_weightOfAll (n + 1) 23 L st M = am_e rI st M := rfl
theorem ri_X0_weightOfAll (c : Prop) [Decidable c] (p q n : Nat) (L : AL) (st : List AV) (M : List AC) : rx_X0_weightOfAll n (if c then p else q) L st M = if c then rx_X0_weightOfAll n p L st M else rx_X0_weightOfAll n q L st M := by split <;> rfl
theorem rm_X0_weightOfAll {n k pc : Nat} {L : AL} {st : List AV} {M : List AC} {x : Option AV × List AC} (h : rx_X0_weightOfAll n pc L st M = some x) (hk : n ≤ k) : rx_X0_weightOfAll k pc L st M = some x := am_r_mono n k h hk
def fn_X0_weightOfAll : Fn := am_fn rx_X0_weightOfAll 1
theorem fok_X0_weightOfAll : Fok mi_X0_weightOfAll fn_X0_weightOfAll := fun _ _ _ _ h => am_fok ok_X0_weightOfAll rk_X0_weightOfAll rfl h
def wa (n : Int) (c t : F3) : Int := wt n c t 0 + wt n c t 1 + wt n c t 2 + wt n c t 3
theorem sp_X0_weightOfAll {M : List AC} {n : Int} {c t : F3} (h : HL M n c t) (hn : 0 ≤ n ∧ n ≤ 3) (hc : i3 0 3 c) : fn_X0_weightOfAll [vR 12] M = some (some (vI (wa n c t)), M) := by
  obtain ⟨h0, h1, h2⟩ := id h
  (refine am_fnI (tb := tb_X0_weightOfAll) (n := 60) (Nat.le_of_ble_eq_true rfl) (Nat.le_of_ble_eq_true rfl) ?_; show rx_X0_weightOfAll 60 0 _ _ _ = _)
  simp [↓ri_X0_weightOfAll, rs_X0_weightOfAll_0, rs_X0_weightOfAll_1, rs_X0_weightOfAll_2, rs_X0_weightOfAll_5, rs_X0_weightOfAll_6, rs_X0_weightOfAll_7, rs_X0_weightOfAll_10, rs_X0_weightOfAll_11, rs_X0_weightOfAll_12, rs_X0_weightOfAll_13, rs_X0_weightOfAll_16, rs_X0_weightOfAll_17, rs_X0_weightOfAll_18, rs_X0_weightOfAll_19, rs_X0_weightOfAll_22, rs_X0_weightOfAll_23, -List.getElem?_eq_getElem, am_js, am_e, am_in, am_sl, rI, rZ, rV, rJ, rA, rC, kI, kJ, kR, am_one, am_nl, am_w8, tIc, tLc, tNul, tIld, tLld, tAld, tIst, tLst, tAst, tIinc, tI2, tDv, tL2, tLrem, tLs, tLcmp, tI2l, tL2i, tI2c, tDup, tDup2, tPop, tGo, tIfeq, tIfne, tIflt, tIfge, tIfgt, tIfle, tCmeq, tCmne, tCmlt, tCmge, tCmgt, tCmle, tNu, tTs, tGf, tPf, tGs, tIal, tIas, tBal, tBas, tAln, tSv, tSc, tSb, tSl, tSk, tCv, tCs, tCt, tMx, tMn, wr_10000, wr_100000, wr_1000000, wr_10000000, wr_100000000, wr_2400, wr_9999, wr_0, wr_1, wr_2, wr_3, wr_4, wr_5, wr_6, wr_7, wr_8, wr_9, wr_10, wr_11, wr_12, wr_13, wr_14, wr_15, wr_16, wr_17, wr_18, wr_19, wr_20, wr_21, wr_22, wr_23, wr_24, wr_25, wr_26, wr_27, wr_28, wr_29, wr_30, wr_31, wr_32, wr_33, wr_34, wr_35, wr_36, wr_37, wr_38, wr_39, wr_40, wr_41, wr_42, wr_43, wr_44, wr_45, wr_46, wr_47, wr_48, wr_49, wr_50, wr_51, wr_52, wr_53, wr_54, wr_55, wr_56, wr_57, wr_58, wr_59, wr_60, wr_61, wr_62, wr_63, wr_99, wr_100, wr_192, wr_255, wr_256, wr_343, wr_999, wr_1000, wr_2401, wr_2147483647, wr_65535, wr_m1, wr_m2, wr_m3, wr_m4, wr_m9, ak_1000, ak_1001, ak_1002, ak_0, ak_1, ak_2, ak_3, ak_4, ak_5, ak_6, ak_7, ak_8, ak_9, ak_10, ak_11, ak_12, ak_13, ak_14, ak_15, ak_16, ak_17, ak_18, ak_19, ak_20, ak_21, ak_22, ak_23, ak_24, ak_25, ak_26, ak_27, ak_28, ak_29, ak_30, ak_31, ak_32, ak_33, ak_34, ak_35, ak_36, ak_37, ak_38, ak_39, ak_40, ak_41, ak_42, ak_43, ak_44, ak_45, ak_46, ak_47, h0, sp_X0_weight h hn hc, wa]
/-- is o ahead of c -/
def ah (W : Int → Int) (c o : Int) : Int := if W c < W o ∨ (W o = W c ∧ o < c) then 1 else 0
def tr (W : Int → Int) : Int := sm (fun c => (1 + sm (ah W c) 4 0) * W c) 4 0
abbrev mi_X0_weightOfTries : Mi := (yX0_weightOfTries, cX0_weightOfTries, 6, some .int, 2)
theorem mf_X0_weightOfTries : am_mf mi_X0_weightOfTries 0 := ⟨w_co_X0_weightOfTries, w_in_X0, ⟨by decide +kernel, by decide +kernel⟩, by decide +kernel, by decide⟩
def tb_X0_weightOfTries : List (Nat × Tr) := [(0, tIc 0 1), (1, tIst 1 1), (2, tIc 0 1), (3, tIst 2 1), (4, tIld 2 1), (5, tIc 4 1), (6, tCmge 96), (9, tIc 1 1), (10, tIst 3 1), (11, tIc 0 1), (12, tIst 4 2), (14, tIld 4 2), (16, tIc 4 1), (17, tCmge 80), (20, tAld 0 1), (21, tIld 4 2), (23, tCv 0 1 fn_X0_weight), (26, tAld 0 1), (27, tIld 2 1), (28, tCv 0 1 fn_X0_weight), (31, tCmgt 54), (34, tAld 0 1), (35, tIld 4 2), (37, tCv 0 1 fn_X0_weight), (40, tAld 0 1), (41, tIld 2 1), (42, tCv 0 1 fn_X0_weight), (45, tCmne 58), (48, tIld 4 2), (50, tIld 2 1), (51, tCmge 58), (54, tIc 1 1), (55, tGo 59), (58, tIc 0 1), (59, tIst 5 2), (61, tIld 3 1), (62, tIld 5 2), (64, tIfeq 71), (67, tIc 1 1), (68, tGo 72), (71, tIc 0 1), (72, tI2 (fun a b => a + b)), (73, tIst 3 1), (74, tIinc 4 1), (77, tGo 14), (80, tIld 1 1), (81, tIld 3 1), (82, tAld 0 1), (83, tIld 2 1), (84, tCv 0 1 fn_X0_weight), (87, tI2 (fun a b => a * b)), (88, tI2 (fun a b => a + b)), (89, tIst 1 1), (90, tIinc 2 1), (93, tGo 4), (96, tIld 1 1)]
theorem ok_X0_weightOfTries : Tok mi_X0_weightOfTries tb_X0_weightOfTries :=
  Tc (sd_iconst rfl dX0_weightOfTries_0) <|
  Tc (sd_istore_n dX0_weightOfTries_1) <|
  Tc (sd_iconst rfl dX0_weightOfTries_2) <|
  Tc (sd_istore_n dX0_weightOfTries_3) <|
  Tc (sd_iload_n dX0_weightOfTries_4) <|
  Tc (sd_iconst rfl dX0_weightOfTries_5) <|
  Tc (sd_cm_ge (by decide) dX0_weightOfTries_6) <|
  Tc (sd_iconst rfl dX0_weightOfTries_9) <|
  Tc (sd_istore_n dX0_weightOfTries_10) <|
  Tc (sd_iconst rfl dX0_weightOfTries_11) <|
  Tc (sd_istore dX0_weightOfTries_12) <|
  Tc (sd_iload dX0_weightOfTries_14) <|
  Tc (sd_iconst rfl dX0_weightOfTries_16) <|
  Tc (sd_cm_ge (by decide) dX0_weightOfTries_17) <|
  Tc (sd_aload_n dX0_weightOfTries_20) <|
  Tc (sd_iload dX0_weightOfTries_21) <|
  Tc (sd_cv (T := TX0) fok_X0_weight mf_X0_weight rfl w_ml_X0_22 w_im_X0_weight w_se_X0_weight (by decide) dX0_weightOfTries_23) <|
  Tc (sd_aload_n dX0_weightOfTries_26) <|
  Tc (sd_iload_n dX0_weightOfTries_27) <|
  Tc (sd_cv (T := TX0) fok_X0_weight mf_X0_weight rfl w_ml_X0_22 w_im_X0_weight w_se_X0_weight (by decide) dX0_weightOfTries_28) <|
  Tc (sd_cm_gt (by decide) dX0_weightOfTries_31) <|
  Tc (sd_aload_n dX0_weightOfTries_34) <|
  Tc (sd_iload dX0_weightOfTries_35) <|
  Tc (sd_cv (T := TX0) fok_X0_weight mf_X0_weight rfl w_ml_X0_22 w_im_X0_weight w_se_X0_weight (by decide) dX0_weightOfTries_37) <|
  Tc (sd_aload_n dX0_weightOfTries_40) <|
  Tc (sd_iload_n dX0_weightOfTries_41) <|
  Tc (sd_cv (T := TX0) fok_X0_weight mf_X0_weight rfl w_ml_X0_22 w_im_X0_weight w_se_X0_weight (by decide) dX0_weightOfTries_42) <|
  Tc (sd_cm_ne (by decide) dX0_weightOfTries_45) <|
  Tc (sd_iload dX0_weightOfTries_48) <|
  Tc (sd_iload_n dX0_weightOfTries_50) <|
  Tc (sd_cm_ge (by decide) dX0_weightOfTries_51) <|
  Tc (sd_iconst rfl dX0_weightOfTries_54) <|
  Tc (sd_goto (by decide) dX0_weightOfTries_55) <|
  Tc (sd_iconst rfl dX0_weightOfTries_58) <|
  Tc (sd_istore dX0_weightOfTries_59) <|
  Tc (sd_iload_n dX0_weightOfTries_61) <|
  Tc (sd_iload dX0_weightOfTries_62) <|
  Tc (sd_if_eq (by decide) dX0_weightOfTries_64) <|
  Tc (sd_iconst rfl dX0_weightOfTries_67) <|
  Tc (sd_goto (by decide) dX0_weightOfTries_68) <|
  Tc (sd_iconst rfl dX0_weightOfTries_71) <|
  Tc (sd_iadd dX0_weightOfTries_72) <|
  Tc (sd_istore_n dX0_weightOfTries_73) <|
  Tc (sd_iinc dX0_weightOfTries_74) <|
  Tc (sd_goto (by decide) dX0_weightOfTries_77) <|
  Tc (sd_iload_n dX0_weightOfTries_80) <|
  Tc (sd_iload_n dX0_weightOfTries_81) <|
  Tc (sd_aload_n dX0_weightOfTries_82) <|
  Tc (sd_iload_n dX0_weightOfTries_83) <|
  Tc (sd_cv (T := TX0) fok_X0_weight mf_X0_weight rfl w_ml_X0_22 w_im_X0_weight w_se_X0_weight (by decide) dX0_weightOfTries_84) <|
  Tc (sd_imul dX0_weightOfTries_87) <|
  Tc (sd_iadd dX0_weightOfTries_88) <|
  Tc (sd_istore_n dX0_weightOfTries_89) <|
  Tc (sd_iinc dX0_weightOfTries_90) <|
  Tc (sd_goto (by decide) dX0_weightOfTries_93) <|
  Tc (sd_iload_n dX0_weightOfTries_96) <|
  Tn
theorem rk_X0_weightOfTries : Rok mi_X0_weightOfTries rI [97] := rk_i dX0_weightOfTries_97 <| rk_n
def rx_X0_weightOfTries : Nat → Nat → AL → List AV → List AC → Option (Option AV × List AC) := am_r tb_X0_weightOfTries rI [97]
theorem rs_X0_weightOfTries_0 (n : Nat) (L : AL) (st : List AV) (M : List AC) : rx_X0_weightOfTries (n + 1) 0 L st M = am_j (rx_X0_weightOfTries n) ((tIc 0 1) 0 L st M) := rfl
theorem rs_X0_weightOfTries_1 (n : Nat) (L : AL) (st : List AV) (M : List AC) : rx_X0_weightOfTries (n + 1) 1 L st M = am_j (rx_X0_weightOfTries n) ((tIst 1 1) 1 L st M) := rfl
theorem rs_X0_weightOfTries_2 (n : Nat) (L : AL) (st : List AV) (M : List AC) : rx_X0_weightOfTries (n + 1) 2 L st M = am_j (rx_X0_weightOfTries n) ((tIc 0 1) 2 L st M) := rfl
theorem rs_X0_weightOfTries_3 (n : Nat) (L : AL) (st : List AV) (M : List AC) : rx_X0_weightOfTries (n + 1) 3 L st M = am_j (rx_X0_weightOfTries n) ((tIst 2 1) 3 L st M) := rfl
theorem rs_X0_weightOfTries_4 (n : Nat) (L : AL) (st : List AV) (M : List AC) : rx_X0_weightOfTries (n + 1) 4 L st M = am_j (rx_X0_weightOfTries n) ((tIld 2 1) 4 L st M) := rfl
theorem rs_X0_weightOfTries_5 (n : Nat) (L : AL) (st : List AV) (M : List AC) : rx_X0_weightOfTries (n + 1) 5 L st M = am_j (rx_X0_weightOfTries n) ((tIc 4 1) 5 L st M) := rfl
theorem rs_X0_weightOfTries_6 (n : Nat) (L : AL) (st : List AV) (M : List AC) : rx_X0_weightOfTries (n + 1) 6 L st M = am_j (rx_X0_weightOfTries n) ((tCmge 96) 6 L st M) := rfl
theorem rs_X0_weightOfTries_9 (n : Nat) (L : AL) (st : List AV) (M : List AC) : rx_X0_weightOfTries (n + 1) 9 L st M = am_j (rx_X0_weightOfTries n) ((tIc 1 1) 9 L st M) := rfl
theorem rs_X0_weightOfTries_10 (n : Nat) (L : AL) (st : List AV) (M : List AC) : rx_X0_weightOfTries (n + 1) 10 L st M = am_j (rx_X0_weightOfTries n) ((tIst 3 1) 10 L st M) := rfl
theorem rs_X0_weightOfTries_11 (n : Nat) (L : AL) (st : List AV) (M : List AC) : rx_X0_weightOfTries (n + 1) 11 L st M = am_j (rx_X0_weightOfTries n) ((tIc 0 1) 11 L st M) := rfl
theorem rs_X0_weightOfTries_12 (n : Nat) (L : AL) (st : List AV) (M : List AC) : rx_X0_weightOfTries (n + 1) 12 L st M = am_j (rx_X0_weightOfTries n) ((tIst 4 2) 12 L st M) := rfl
theorem rs_X0_weightOfTries_14 (n : Nat) (L : AL) (st : List AV) (M : List AC) : rx_X0_weightOfTries (n + 1) 14 L st M = am_j (rx_X0_weightOfTries n) ((tIld 4 2) 14 L st M) := rfl
theorem rs_X0_weightOfTries_16 (n : Nat) (L : AL) (st : List AV) (M : List AC) : rx_X0_weightOfTries (n + 1) 16 L st M = am_j (rx_X0_weightOfTries n) ((tIc 4 1) 16 L st M) := rfl
theorem rs_X0_weightOfTries_17 (n : Nat) (L : AL) (st : List AV) (M : List AC) : rx_X0_weightOfTries (n + 1) 17 L st M = am_j (rx_X0_weightOfTries n) ((tCmge 80) 17 L st M) := rfl
theorem rs_X0_weightOfTries_20 (n : Nat) (L : AL) (st : List AV) (M : List AC) : rx_X0_weightOfTries (n + 1) 20 L st M = am_j (rx_X0_weightOfTries n) ((tAld 0 1) 20 L st M) := rfl
theorem rs_X0_weightOfTries_21 (n : Nat) (L : AL) (st : List AV) (M : List AC) : rx_X0_weightOfTries (n + 1) 21 L st M = am_j (rx_X0_weightOfTries n) ((tIld 4 2) 21 L st M) := rfl
theorem rs_X0_weightOfTries_23 (n : Nat) (L : AL) (st : List AV) (M : List AC) : rx_X0_weightOfTries (n + 1) 23 L st M = am_j (rx_X0_weightOfTries n) ((tCv 0 1 fn_X0_weight) 23 L st M) := rfl
theorem rs_X0_weightOfTries_26 (n : Nat) (L : AL) (st : List AV) (M : List AC) : rx_X0_weightOfTries (n + 1) 26 L st M = am_j (rx_X0_weightOfTries n) ((tAld 0 1) 26 L st M) := rfl
theorem rs_X0_weightOfTries_27 (n : Nat) (L : AL) (st : List AV) (M : List AC) : rx_X0_weightOfTries (n + 1) 27 L st M = am_j (rx_X0_weightOfTries n) ((tIld 2 1) 27 L st M) := rfl
theorem rs_X0_weightOfTries_28 (n : Nat) (L : AL) (st : List AV) (M : List AC) : rx_X0_weightOfTries (n + 1) 28 L st M = am_j (rx_X0_weightOfTries n) ((tCv 0 1 fn_X0_weight) 28 L st M) := rfl
theorem rs_X0_weightOfTries_31 (n : Nat) (L : AL) (st : List AV) (M : List AC) : rx_X0_weightOfTries (n + 1) 31 L st M = am_j (rx_X0_weightOfTries n) ((tCmgt 54) 31 L st M) := rfl
theorem rs_X0_weightOfTries_34 (n : Nat) (L : AL) (st : List AV) (M : List AC) : rx_X0_weightOfTries (n + 1) 34 L st M = am_j (rx_X0_weightOfTries n) ((tAld 0 1) 34 L st M) := rfl
theorem rs_X0_weightOfTries_35 (n : Nat) (L : AL) (st : List AV) (M : List AC) : rx_X0_weightOfTries (n + 1) 35 L st M = am_j (rx_X0_weightOfTries n) ((tIld 4 2) 35 L st M) := rfl
theorem rs_X0_weightOfTries_37 (n : Nat) (L : AL) (st : List AV) (M : List AC) : rx_X0_weightOfTries (n + 1) 37 L st M = am_j (rx_X0_weightOfTries n) ((tCv 0 1 fn_X0_weight) 37 L st M) := rfl
theorem rs_X0_weightOfTries_40 (n : Nat) (L : AL) (st : List AV) (M : List AC) : rx_X0_weightOfTries (n + 1) 40 L st M = am_j (rx_X0_weightOfTries n) ((tAld 0 1) 40 L st M) := rfl
theorem rs_X0_weightOfTries_41 (n : Nat) (L : AL) (st : List AV) (M : List AC) : rx_X0_weightOfTries (n + 1) 41 L st M = am_j (rx_X0_weightOfTries n) ((tIld 2 1) 41 L st M) := rfl
theorem rs_X0_weightOfTries_42 (n : Nat) (L : AL) (st : List AV) (M : List AC) : rx_X0_weightOfTries (n + 1) 42 L st M = am_j (rx_X0_weightOfTries n) ((tCv 0 1 fn_X0_weight) 42 L st M) := rfl
theorem rs_X0_weightOfTries_45 (n : Nat) (L : AL) (st : List AV) (M : List AC) : rx_X0_weightOfTries (n + 1) 45 L st M = am_j (rx_X0_weightOfTries n) ((tCmne 58) 45 L st M) := rfl
theorem rs_X0_weightOfTries_48 (n : Nat) (L : AL) (st : List AV) (M : List AC) : rx_X0_weightOfTries (n + 1) 48 L st M = am_j (rx_X0_weightOfTries n) ((tIld 4 2) 48 L st M) := rfl
theorem rs_X0_weightOfTries_50 (n : Nat) (L : AL) (st : List AV) (M : List AC) : rx_X0_weightOfTries (n + 1) 50 L st M = am_j (rx_X0_weightOfTries n) ((tIld 2 1) 50 L st M) := rfl
theorem rs_X0_weightOfTries_51 (n : Nat) (L : AL) (st : List AV) (M : List AC) : rx_X0_weightOfTries (n + 1) 51 L st M = am_j (rx_X0_weightOfTries n) ((tCmge 58) 51 L st M) := rfl
theorem rs_X0_weightOfTries_54 (n : Nat) (L : AL) (st : List AV) (M : List AC) : rx_X0_weightOfTries (n + 1) 54 L st M = am_j (rx_X0_weightOfTries n) ((tIc 1 1) 54 L st M) := rfl
theorem rs_X0_weightOfTries_55 (n : Nat) (L : AL) (st : List AV) (M : List AC) : rx_X0_weightOfTries (n + 1) 55 L st M = am_j (rx_X0_weightOfTries n) ((tGo 59) 55 L st M) := rfl
theorem rs_X0_weightOfTries_58 (n : Nat) (L : AL) (st : List AV) (M : List AC) : rx_X0_weightOfTries (n + 1) 58 L st M = am_j (rx_X0_weightOfTries n) ((tIc 0 1) 58 L st M) := rfl
theorem rs_X0_weightOfTries_59 (n : Nat) (L : AL) (st : List AV) (M : List AC) : rx_X0_weightOfTries (n + 1) 59 L st M = am_j (rx_X0_weightOfTries n) ((tIst 5 2) 59 L st M) := rfl
theorem rs_X0_weightOfTries_61 (n : Nat) (L : AL) (st : List AV) (M : List AC) : rx_X0_weightOfTries (n + 1) 61 L st M = am_j (rx_X0_weightOfTries n) ((tIld 3 1) 61 L st M) := rfl
theorem rs_X0_weightOfTries_62 (n : Nat) (L : AL) (st : List AV) (M : List AC) : rx_X0_weightOfTries (n + 1) 62 L st M = am_j (rx_X0_weightOfTries n) ((tIld 5 2) 62 L st M) := rfl
theorem rs_X0_weightOfTries_64 (n : Nat) (L : AL) (st : List AV) (M : List AC) : rx_X0_weightOfTries (n + 1) 64 L st M = am_j (rx_X0_weightOfTries n) ((tIfeq 71) 64 L st M) := rfl
theorem rs_X0_weightOfTries_67 (n : Nat) (L : AL) (st : List AV) (M : List AC) : rx_X0_weightOfTries (n + 1) 67 L st M = am_j (rx_X0_weightOfTries n) ((tIc 1 1) 67 L st M) := rfl
theorem rs_X0_weightOfTries_68 (n : Nat) (L : AL) (st : List AV) (M : List AC) : rx_X0_weightOfTries (n + 1) 68 L st M = am_j (rx_X0_weightOfTries n) ((tGo 72) 68 L st M) := rfl
theorem rs_X0_weightOfTries_71 (n : Nat) (L : AL) (st : List AV) (M : List AC) : rx_X0_weightOfTries (n + 1) 71 L st M = am_j (rx_X0_weightOfTries n) ((tIc 0 1) 71 L st M) := rfl
theorem rs_X0_weightOfTries_72 (n : Nat) (L : AL) (st : List AV) (M : List AC) : rx_X0_weightOfTries (n + 1) 72 L st M = am_j (rx_X0_weightOfTries n) ((tI2 (fun a b => a + b)) 72 L st M) := rfl
theorem rs_X0_weightOfTries_73 (n : Nat) (L : AL) (st : List AV) (M : List AC) : rx_X0_weightOfTries (n + 1) 73 L st M = am_j (rx_X0_weightOfTries n) ((tIst 3 1) 73 L st M) := rfl
theorem rs_X0_weightOfTries_74 (n : Nat) (L : AL) (st : List AV) (M : List AC) : rx_X0_weightOfTries (n + 1) 74 L st M = am_j (rx_X0_weightOfTries n) ((tIinc 4 1) 74 L st M) := rfl
theorem rs_X0_weightOfTries_77 (n : Nat) (L : AL) (st : List AV) (M : List AC) : rx_X0_weightOfTries (n + 1) 77 L st M = am_j (rx_X0_weightOfTries n) ((tGo 14) 77 L st M) := rfl
theorem rs_X0_weightOfTries_80 (n : Nat) (L : AL) (st : List AV) (M : List AC) : rx_X0_weightOfTries (n + 1) 80 L st M = am_j (rx_X0_weightOfTries n) ((tIld 1 1) 80 L st M) := rfl
theorem rs_X0_weightOfTries_81 (n : Nat) (L : AL) (st : List AV) (M : List AC) : rx_X0_weightOfTries (n + 1) 81 L st M = am_j (rx_X0_weightOfTries n) ((tIld 3 1) 81 L st M) := rfl
theorem rs_X0_weightOfTries_82 (n : Nat) (L : AL) (st : List AV) (M : List AC) : rx_X0_weightOfTries (n + 1) 82 L st M = am_j (rx_X0_weightOfTries n) ((tAld 0 1) 82 L st M) := rfl
theorem rs_X0_weightOfTries_83 (n : Nat) (L : AL) (st : List AV) (M : List AC) : rx_X0_weightOfTries (n + 1) 83 L st M = am_j (rx_X0_weightOfTries n) ((tIld 2 1) 83 L st M) := rfl
theorem rs_X0_weightOfTries_84 (n : Nat) (L : AL) (st : List AV) (M : List AC) : rx_X0_weightOfTries (n + 1) 84 L st M = am_j (rx_X0_weightOfTries n) ((tCv 0 1 fn_X0_weight) 84 L st M) := rfl
theorem rs_X0_weightOfTries_87 (n : Nat) (L : AL) (st : List AV) (M : List AC) : rx_X0_weightOfTries (n + 1) 87 L st M = am_j (rx_X0_weightOfTries n) ((tI2 (fun a b => a * b)) 87 L st M) := rfl
theorem rs_X0_weightOfTries_88 (n : Nat) (L : AL) (st : List AV) (M : List AC) : rx_X0_weightOfTries (n + 1) 88 L st M = am_j (rx_X0_weightOfTries n) ((tI2 (fun a b => a + b)) 88 L st M) := rfl
theorem rs_X0_weightOfTries_89 (n : Nat) (L : AL) (st : List AV) (M : List AC) : rx_X0_weightOfTries (n + 1) 89 L st M = am_j (rx_X0_weightOfTries n) ((tIst 1 1) 89 L st M) := rfl
theorem rs_X0_weightOfTries_90 (n : Nat) (L : AL) (st : List AV) (M : List AC) : rx_X0_weightOfTries (n + 1) 90 L st M = am_j (rx_X0_weightOfTries n) ((tIinc 2 1) 90 L st M) := rfl
theorem rs_X0_weightOfTries_93 (n : Nat) (L : AL) (st : List AV) (M : List AC) : rx_X0_weightOfTries (n + 1) 93 L st M = am_j (rx_X0_weightOfTries n) ((tGo 4) 93 L st M) := rfl
theorem rs_X0_weightOfTries_96 (n : Nat) (L : AL) (st : List AV) (M : List AC) : rx_X0_weightOfTries (n + 1) 96 L st M = am_j (rx_X0_weightOfTries n) ((tIld 1 1) 96 L st M) := rfl
theorem rs_X0_weightOfTries_97 (n : Nat) (L : AL) (st : List AV) (M : List AC) : rx_X0_weightOfTries (n + 1) 97 L st M = am_e rI st M := rfl
theorem ri_X0_weightOfTries (c : Prop) [Decidable c] (p q n : Nat) (L : AL) (st : List AV) (M : List AC) : rx_X0_weightOfTries n (if c then p else q) L st M = if c then rx_X0_weightOfTries n p L st M else rx_X0_weightOfTries n q L st M := by split <;> rfl
theorem rm_X0_weightOfTries {n k pc : Nat} {L : AL} {st : List AV} {M : List AC} {x : Option AV × List AC} (h : rx_X0_weightOfTries n pc L st M = some x) (hk : n ≤ k) : rx_X0_weightOfTries k pc L st M = some x := am_r_mono n k h hk
def fn_X0_weightOfTries : Fn := am_fn rx_X0_weightOfTries 6
theorem fok_X0_weightOfTries : Fok mi_X0_weightOfTries fn_X0_weightOfTries := fun _ _ _ _ h => am_fok ok_X0_weightOfTries rk_X0_weightOfTries rfl h
theorem l1_X0_weightOfTries {M : List AC} {W : Int → Int} (hM : ∃ fs, M[12]? = some (aO 0 fs)) (hW : ∀ q : Int, 0 ≤ q → q < 4 → fn_X0_weight [vR 12, vI q] M = some (some (vI (W q)), M)) (hw : ∀ q : Int, 0 ≤ W q ∧ W q ≤ 19683) (c z : Int) (hc : 0 ≤ c ∧ c < 4) (x : Option AV × List AC) (N : Nat) : ∀ (n : Nat) (j p : Int) (x5 : Option AV), j + n = 4 → 0 ≤ j →
    (∀ x5', Ru rx_X0_weightOfTries N 80 [some (vR 12), some (vI z), some (vI c), some (vI (p + sm (ah W c) n j)), some (vI 4), x5'] [] M x) → Ru rx_X0_weightOfTries (N + 60 * n + 10) 14 [some (vR 12), some (vI z), some (vI c), some (vI p), some (vI j), x5] [] M x
  | 0, j, p, x5, hj, h0, kk => by
    have e : j = 4 := by omega
    subst e
    obtain ⟨n, hn, h⟩ := kk x5
    refine ⟨n + 9 + 1, by omega, ?_⟩
    rw [rs_X0_weightOfTries_14]
    simp only [sm, Int.add_zero] at h
    simp [↓ri_X0_weightOfTries, rs_X0_weightOfTries_0, rs_X0_weightOfTries_1, rs_X0_weightOfTries_2, rs_X0_weightOfTries_3, rs_X0_weightOfTries_4, rs_X0_weightOfTries_5, rs_X0_weightOfTries_6, rs_X0_weightOfTries_9, rs_X0_weightOfTries_10, rs_X0_weightOfTries_11, rs_X0_weightOfTries_12, rs_X0_weightOfTries_16, rs_X0_weightOfTries_17, rs_X0_weightOfTries_20, rs_X0_weightOfTries_21, rs_X0_weightOfTries_23, rs_X0_weightOfTries_26, rs_X0_weightOfTries_27, rs_X0_weightOfTries_28, rs_X0_weightOfTries_31, rs_X0_weightOfTries_34, rs_X0_weightOfTries_35, rs_X0_weightOfTries_37, rs_X0_weightOfTries_40, rs_X0_weightOfTries_41, rs_X0_weightOfTries_42, rs_X0_weightOfTries_45, rs_X0_weightOfTries_48, rs_X0_weightOfTries_50, rs_X0_weightOfTries_51, rs_X0_weightOfTries_54, rs_X0_weightOfTries_55, rs_X0_weightOfTries_58, rs_X0_weightOfTries_59, rs_X0_weightOfTries_61, rs_X0_weightOfTries_62, rs_X0_weightOfTries_64, rs_X0_weightOfTries_67, rs_X0_weightOfTries_68, rs_X0_weightOfTries_71, rs_X0_weightOfTries_72, rs_X0_weightOfTries_73, rs_X0_weightOfTries_74, rs_X0_weightOfTries_77, rs_X0_weightOfTries_81, rs_X0_weightOfTries_82, rs_X0_weightOfTries_83, rs_X0_weightOfTries_84, rs_X0_weightOfTries_87, rs_X0_weightOfTries_88, rs_X0_weightOfTries_89, rs_X0_weightOfTries_90, rs_X0_weightOfTries_93, rs_X0_weightOfTries_96, rs_X0_weightOfTries_97, -List.getElem?_eq_getElem, am_js, am_e, am_in, am_sl, rI, rZ, rV, rJ, rA, rC, kI, kJ, kR, am_one, am_nl, am_w8, tIc, tLc, tNul, tIld, tLld, tAld, tIst, tLst, tAst, tIinc, tI2, tDv, tL2, tLrem, tLs, tLcmp, tI2l, tL2i, tI2c, tDup, tDup2, tPop, tGo, tIfeq, tIfne, tIflt, tIfge, tIfgt, tIfle, tCmeq, tCmne, tCmlt, tCmge, tCmgt, tCmle, tNu, tTs, tGf, tPf, tGs, tIal, tIas, tBal, tBas, tAln, tSv, tSc, tSb, tSl, tSk, tCv, tCs, tCt, tMx, tMn, wr_10000, wr_100000, wr_1000000, wr_10000000, wr_100000000, wr_2400, wr_9999, wr_0, wr_1, wr_2, wr_3, wr_4, wr_5, wr_6, wr_7, wr_8, wr_9, wr_10, wr_11, wr_12, wr_13, wr_14, wr_15, wr_16, wr_17, wr_18, wr_19, wr_20, wr_21, wr_22, wr_23, wr_24, wr_25, wr_26, wr_27, wr_28, wr_29, wr_30, wr_31, wr_32, wr_33, wr_34, wr_35, wr_36, wr_37, wr_38, wr_39, wr_40, wr_41, wr_42, wr_43, wr_44, wr_45, wr_46, wr_47, wr_48, wr_49, wr_50, wr_51, wr_52, wr_53, wr_54, wr_55, wr_56, wr_57, wr_58, wr_59, wr_60, wr_61, wr_62, wr_63, wr_99, wr_100, wr_192, wr_255, wr_256, wr_343, wr_999, wr_1000, wr_2401, wr_2147483647, wr_65535, wr_m1, wr_m2, wr_m3, wr_m4, wr_m9, ak_1000, ak_1001, ak_1002, ak_0, ak_1, ak_2, ak_3, ak_4, ak_5, ak_6, ak_7, ak_8, ak_9, ak_10, ak_11, ak_12, ak_13, ak_14, ak_15, ak_16, ak_17, ak_18, ak_19, ak_20, ak_21, ak_22, ak_23, ak_24, ak_25, ak_26, ak_27, ak_28, ak_29, ak_30, ak_31, ak_32, ak_33, ak_34, ak_35, ak_36, ak_37, ak_38, ak_39, ak_40, ak_41, ak_42, ak_43, ak_44, ak_45, ak_46, ak_47]
    exact rm_X0_weightOfTries h (by omega)
  | n + 1, j, p, x5, hj, h0, kk => by
    obtain ⟨fs, hM⟩ := hM
    have wj : wr j = j := wr_id (by omega) (by omega)
    have wc : wr c = c := wr_id (by omega) (by omega)
    have nj : ¬ 4 ≤ j := by omega
    have hWj := hW j h0 (by omega)
    have hWc := hW c hc.1 hc.2
    have bj := hw j
    have bc := hw c
    have vj : wr (W j) = W j := wr_id (by omega) (by omega)
    have vc : wr (W c) = W c := wr_id (by omega) (by omega)
    have ih := l1_X0_weightOfTries ⟨fs, hM⟩ hW hw c z hc x N n (j + 1) (p + ah W c j) (some (vI (ah W c j))) (by omega) (by omega) (by
      intro x5'
      have := kk x5'
      simpa only [sm, Int.add_assoc] using this)
    obtain ⟨n', hn, h⟩ := ih
    refine ⟨n' + 59 + 1, by omega, ?_⟩
    rw [rs_X0_weightOfTries_14]
    by_cases q1 : W c < W j
    · have e : ah W c j = 1 := by rw [ah, if_pos (Or.inl q1)]
      rw [e] at h
      simp [↓ri_X0_weightOfTries, rs_X0_weightOfTries_0, rs_X0_weightOfTries_1, rs_X0_weightOfTries_2, rs_X0_weightOfTries_3, rs_X0_weightOfTries_4, rs_X0_weightOfTries_5, rs_X0_weightOfTries_6, rs_X0_weightOfTries_9, rs_X0_weightOfTries_10, rs_X0_weightOfTries_11, rs_X0_weightOfTries_12, rs_X0_weightOfTries_16, rs_X0_weightOfTries_17, rs_X0_weightOfTries_20, rs_X0_weightOfTries_21, rs_X0_weightOfTries_23, rs_X0_weightOfTries_26, rs_X0_weightOfTries_27, rs_X0_weightOfTries_28, rs_X0_weightOfTries_31, rs_X0_weightOfTries_34, rs_X0_weightOfTries_35, rs_X0_weightOfTries_37, rs_X0_weightOfTries_40, rs_X0_weightOfTries_41, rs_X0_weightOfTries_42, rs_X0_weightOfTries_45, rs_X0_weightOfTries_48, rs_X0_weightOfTries_50, rs_X0_weightOfTries_51, rs_X0_weightOfTries_54, rs_X0_weightOfTries_55, rs_X0_weightOfTries_58, rs_X0_weightOfTries_59, rs_X0_weightOfTries_61, rs_X0_weightOfTries_62, rs_X0_weightOfTries_64, rs_X0_weightOfTries_67, rs_X0_weightOfTries_68, rs_X0_weightOfTries_71, rs_X0_weightOfTries_72, rs_X0_weightOfTries_73, rs_X0_weightOfTries_74, rs_X0_weightOfTries_77, rs_X0_weightOfTries_81, rs_X0_weightOfTries_82, rs_X0_weightOfTries_83, rs_X0_weightOfTries_84, rs_X0_weightOfTries_87, rs_X0_weightOfTries_88, rs_X0_weightOfTries_89, rs_X0_weightOfTries_90, rs_X0_weightOfTries_93, rs_X0_weightOfTries_96, rs_X0_weightOfTries_97, -List.getElem?_eq_getElem, am_js, am_e, am_in, am_sl, rI, rZ, rV, rJ, rA, rC, kI, kJ, kR, am_one, am_nl, am_w8, tIc, tLc, tNul, tIld, tLld, tAld, tIst, tLst, tAst, tIinc, tI2, tDv, tL2, tLrem, tLs, tLcmp, tI2l, tL2i, tI2c, tDup, tDup2, tPop, tGo, tIfeq, tIfne, tIflt, tIfge, tIfgt, tIfle, tCmeq, tCmne, tCmlt, tCmge, tCmgt, tCmle, tNu, tTs, tGf, tPf, tGs, tIal, tIas, tBal, tBas, tAln, tSv, tSc, tSb, tSl, tSk, tCv, tCs, tCt, tMx, tMn, wr_10000, wr_100000, wr_1000000, wr_10000000, wr_100000000, wr_2400, wr_9999, wr_0, wr_1, wr_2, wr_3, wr_4, wr_5, wr_6, wr_7, wr_8, wr_9, wr_10, wr_11, wr_12, wr_13, wr_14, wr_15, wr_16, wr_17, wr_18, wr_19, wr_20, wr_21, wr_22, wr_23, wr_24, wr_25, wr_26, wr_27, wr_28, wr_29, wr_30, wr_31, wr_32, wr_33, wr_34, wr_35, wr_36, wr_37, wr_38, wr_39, wr_40, wr_41, wr_42, wr_43, wr_44, wr_45, wr_46, wr_47, wr_48, wr_49, wr_50, wr_51, wr_52, wr_53, wr_54, wr_55, wr_56, wr_57, wr_58, wr_59, wr_60, wr_61, wr_62, wr_63, wr_99, wr_100, wr_192, wr_255, wr_256, wr_343, wr_999, wr_1000, wr_2401, wr_2147483647, wr_65535, wr_m1, wr_m2, wr_m3, wr_m4, wr_m9, ak_1000, ak_1001, ak_1002, ak_0, ak_1, ak_2, ak_3, ak_4, ak_5, ak_6, ak_7, ak_8, ak_9, ak_10, ak_11, ak_12, ak_13, ak_14, ak_15, ak_16, ak_17, ak_18, ak_19, ak_20, ak_21, ak_22, ak_23, ak_24, ak_25, ak_26, ak_27, ak_28, ak_29, ak_30, ak_31, ak_32, ak_33, ak_34, ak_35, ak_36, ak_37, ak_38, ak_39, ak_40, ak_41, ak_42, ak_43, ak_44, ak_45, ak_46, ak_47, wj, nj, hM, hWj, hWc, vj, vc, q1]
      exact rm_X0_weightOfTries h (by omega)
    · by_cases q2 : W j = W c
      · by_cases q3 : j < c
        · have e : ah W c j = 1 := by rw [ah, if_pos (Or.inr ⟨q2, q3⟩)]
          rw [e] at h
          have q4 : ¬ c ≤ j := by omega
          simp [↓ri_X0_weightOfTries, rs_X0_weightOfTries_0, rs_X0_weightOfTries_1, rs_X0_weightOfTries_2, rs_X0_weightOfTries_3, rs_X0_weightOfTries_4, rs_X0_weightOfTries_5, rs_X0_weightOfTries_6, rs_X0_weightOfTries_9, rs_X0_weightOfTries_10, rs_X0_weightOfTries_11, rs_X0_weightOfTries_12, rs_X0_weightOfTries_16, rs_X0_weightOfTries_17, rs_X0_weightOfTries_20, rs_X0_weightOfTries_21, rs_X0_weightOfTries_23, rs_X0_weightOfTries_26, rs_X0_weightOfTries_27, rs_X0_weightOfTries_28, rs_X0_weightOfTries_31, rs_X0_weightOfTries_34, rs_X0_weightOfTries_35, rs_X0_weightOfTries_37, rs_X0_weightOfTries_40, rs_X0_weightOfTries_41, rs_X0_weightOfTries_42, rs_X0_weightOfTries_45, rs_X0_weightOfTries_48, rs_X0_weightOfTries_50, rs_X0_weightOfTries_51, rs_X0_weightOfTries_54, rs_X0_weightOfTries_55, rs_X0_weightOfTries_58, rs_X0_weightOfTries_59, rs_X0_weightOfTries_61, rs_X0_weightOfTries_62, rs_X0_weightOfTries_64, rs_X0_weightOfTries_67, rs_X0_weightOfTries_68, rs_X0_weightOfTries_71, rs_X0_weightOfTries_72, rs_X0_weightOfTries_73, rs_X0_weightOfTries_74, rs_X0_weightOfTries_77, rs_X0_weightOfTries_81, rs_X0_weightOfTries_82, rs_X0_weightOfTries_83, rs_X0_weightOfTries_84, rs_X0_weightOfTries_87, rs_X0_weightOfTries_88, rs_X0_weightOfTries_89, rs_X0_weightOfTries_90, rs_X0_weightOfTries_93, rs_X0_weightOfTries_96, rs_X0_weightOfTries_97, -List.getElem?_eq_getElem, am_js, am_e, am_in, am_sl, rI, rZ, rV, rJ, rA, rC, kI, kJ, kR, am_one, am_nl, am_w8, tIc, tLc, tNul, tIld, tLld, tAld, tIst, tLst, tAst, tIinc, tI2, tDv, tL2, tLrem, tLs, tLcmp, tI2l, tL2i, tI2c, tDup, tDup2, tPop, tGo, tIfeq, tIfne, tIflt, tIfge, tIfgt, tIfle, tCmeq, tCmne, tCmlt, tCmge, tCmgt, tCmle, tNu, tTs, tGf, tPf, tGs, tIal, tIas, tBal, tBas, tAln, tSv, tSc, tSb, tSl, tSk, tCv, tCs, tCt, tMx, tMn, wr_10000, wr_100000, wr_1000000, wr_10000000, wr_100000000, wr_2400, wr_9999, wr_0, wr_1, wr_2, wr_3, wr_4, wr_5, wr_6, wr_7, wr_8, wr_9, wr_10, wr_11, wr_12, wr_13, wr_14, wr_15, wr_16, wr_17, wr_18, wr_19, wr_20, wr_21, wr_22, wr_23, wr_24, wr_25, wr_26, wr_27, wr_28, wr_29, wr_30, wr_31, wr_32, wr_33, wr_34, wr_35, wr_36, wr_37, wr_38, wr_39, wr_40, wr_41, wr_42, wr_43, wr_44, wr_45, wr_46, wr_47, wr_48, wr_49, wr_50, wr_51, wr_52, wr_53, wr_54, wr_55, wr_56, wr_57, wr_58, wr_59, wr_60, wr_61, wr_62, wr_63, wr_99, wr_100, wr_192, wr_255, wr_256, wr_343, wr_999, wr_1000, wr_2401, wr_2147483647, wr_65535, wr_m1, wr_m2, wr_m3, wr_m4, wr_m9, ak_1000, ak_1001, ak_1002, ak_0, ak_1, ak_2, ak_3, ak_4, ak_5, ak_6, ak_7, ak_8, ak_9, ak_10, ak_11, ak_12, ak_13, ak_14, ak_15, ak_16, ak_17, ak_18, ak_19, ak_20, ak_21, ak_22, ak_23, ak_24, ak_25, ak_26, ak_27, ak_28, ak_29, ak_30, ak_31, ak_32, ak_33, ak_34, ak_35, ak_36, ak_37, ak_38, ak_39, ak_40, ak_41, ak_42, ak_43, ak_44, ak_45, ak_46, ak_47, wj, wc, nj, hM, hWj, hWc, vj, vc, q1, q2, q3, q4]
          exact rm_X0_weightOfTries h (by omega)
        · have e : ah W c j = 0 := by rw [ah, if_neg (by omega)]
          rw [e] at h
          have q4 : c ≤ j := by omega
          simp only [Int.add_zero] at h
          simp [↓ri_X0_weightOfTries, rs_X0_weightOfTries_0, rs_X0_weightOfTries_1, rs_X0_weightOfTries_2, rs_X0_weightOfTries_3, rs_X0_weightOfTries_4, rs_X0_weightOfTries_5, rs_X0_weightOfTries_6, rs_X0_weightOfTries_9, rs_X0_weightOfTries_10, rs_X0_weightOfTries_11, rs_X0_weightOfTries_12, rs_X0_weightOfTries_16, rs_X0_weightOfTries_17, rs_X0_weightOfTries_20, rs_X0_weightOfTries_21, rs_X0_weightOfTries_23, rs_X0_weightOfTries_26, rs_X0_weightOfTries_27, rs_X0_weightOfTries_28, rs_X0_weightOfTries_31, rs_X0_weightOfTries_34, rs_X0_weightOfTries_35, rs_X0_weightOfTries_37, rs_X0_weightOfTries_40, rs_X0_weightOfTries_41, rs_X0_weightOfTries_42, rs_X0_weightOfTries_45, rs_X0_weightOfTries_48, rs_X0_weightOfTries_50, rs_X0_weightOfTries_51, rs_X0_weightOfTries_54, rs_X0_weightOfTries_55, rs_X0_weightOfTries_58, rs_X0_weightOfTries_59, rs_X0_weightOfTries_61, rs_X0_weightOfTries_62, rs_X0_weightOfTries_64, rs_X0_weightOfTries_67, rs_X0_weightOfTries_68, rs_X0_weightOfTries_71, rs_X0_weightOfTries_72, rs_X0_weightOfTries_73, rs_X0_weightOfTries_74, rs_X0_weightOfTries_77, rs_X0_weightOfTries_81, rs_X0_weightOfTries_82, rs_X0_weightOfTries_83, rs_X0_weightOfTries_84, rs_X0_weightOfTries_87, rs_X0_weightOfTries_88, rs_X0_weightOfTries_89, rs_X0_weightOfTries_90, rs_X0_weightOfTries_93, rs_X0_weightOfTries_96, rs_X0_weightOfTries_97, -List.getElem?_eq_getElem, am_js, am_e, am_in, am_sl, rI, rZ, rV, rJ, rA, rC, kI, kJ, kR, am_one, am_nl, am_w8, tIc, tLc, tNul, tIld, tLld, tAld, tIst, tLst, tAst, tIinc, tI2, tDv, tL2, tLrem, tLs, tLcmp, tI2l, tL2i, tI2c, tDup, tDup2, tPop, tGo, tIfeq, tIfne, tIflt, tIfge, tIfgt, tIfle, tCmeq, tCmne, tCmlt, tCmge, tCmgt, tCmle, tNu, tTs, tGf, tPf, tGs, tIal, tIas, tBal, tBas, tAln, tSv, tSc, tSb, tSl, tSk, tCv, tCs, tCt, tMx, tMn, wr_10000, wr_100000, wr_1000000, wr_10000000, wr_100000000, wr_2400, wr_9999, wr_0, wr_1, wr_2, wr_3, wr_4, wr_5, wr_6, wr_7, wr_8, wr_9, wr_10, wr_11, wr_12, wr_13, wr_14, wr_15, wr_16, wr_17, wr_18, wr_19, wr_20, wr_21, wr_22, wr_23, wr_24, wr_25, wr_26, wr_27, wr_28, wr_29, wr_30, wr_31, wr_32, wr_33, wr_34, wr_35, wr_36, wr_37, wr_38, wr_39, wr_40, wr_41, wr_42, wr_43, wr_44, wr_45, wr_46, wr_47, wr_48, wr_49, wr_50, wr_51, wr_52, wr_53, wr_54, wr_55, wr_56, wr_57, wr_58, wr_59, wr_60, wr_61, wr_62, wr_63, wr_99, wr_100, wr_192, wr_255, wr_256, wr_343, wr_999, wr_1000, wr_2401, wr_2147483647, wr_65535, wr_m1, wr_m2, wr_m3, wr_m4, wr_m9, ak_1000, ak_1001, ak_1002, ak_0, ak_1, ak_2, ak_3, ak_4, ak_5, ak_6, ak_7, ak_8, ak_9, ak_10, ak_11, ak_12, ak_13, ak_14, ak_15, ak_16, ak_17, ak_18, ak_19, ak_20, ak_21, ak_22, ak_23, ak_24, ak_25, ak_26, ak_27, ak_28, ak_29, ak_30, ak_31, ak_32, ak_33, ak_34, ak_35, ak_36, ak_37, ak_38, ak_39, ak_40, ak_41, ak_42, ak_43, ak_44, ak_45, ak_46, ak_47, wj, wc, nj, hM, hWj, hWc, vj, vc, q1, q2, q3, q4]
          exact rm_X0_weightOfTries h (by omega)
      · have e : ah W c j = 0 := by rw [ah, if_neg (by omega)]
        rw [e] at h
        simp only [Int.add_zero] at h
        simp [↓ri_X0_weightOfTries, rs_X0_weightOfTries_0, rs_X0_weightOfTries_1, rs_X0_weightOfTries_2, rs_X0_weightOfTries_3, rs_X0_weightOfTries_4, rs_X0_weightOfTries_5, rs_X0_weightOfTries_6, rs_X0_weightOfTries_9, rs_X0_weightOfTries_10, rs_X0_weightOfTries_11, rs_X0_weightOfTries_12, rs_X0_weightOfTries_16, rs_X0_weightOfTries_17, rs_X0_weightOfTries_20, rs_X0_weightOfTries_21, rs_X0_weightOfTries_23, rs_X0_weightOfTries_26, rs_X0_weightOfTries_27, rs_X0_weightOfTries_28, rs_X0_weightOfTries_31, rs_X0_weightOfTries_34, rs_X0_weightOfTries_35, rs_X0_weightOfTries_37, rs_X0_weightOfTries_40, rs_X0_weightOfTries_41, rs_X0_weightOfTries_42, rs_X0_weightOfTries_45, rs_X0_weightOfTries_48, rs_X0_weightOfTries_50, rs_X0_weightOfTries_51, rs_X0_weightOfTries_54, rs_X0_weightOfTries_55, rs_X0_weightOfTries_58, rs_X0_weightOfTries_59, rs_X0_weightOfTries_61, rs_X0_weightOfTries_62, rs_X0_weightOfTries_64, rs_X0_weightOfTries_67, rs_X0_weightOfTries_68, rs_X0_weightOfTries_71, rs_X0_weightOfTries_72, rs_X0_weightOfTries_73, rs_X0_weightOfTries_74, rs_X0_weightOfTries_77, rs_X0_weightOfTries_81, rs_X0_weightOfTries_82, rs_X0_weightOfTries_83, rs_X0_weightOfTries_84, rs_X0_weightOfTries_87, rs_X0_weightOfTries_88, rs_X0_weightOfTries_89, rs_X0_weightOfTries_90, rs_X0_weightOfTries_93, rs_X0_weightOfTries_96, rs_X0_weightOfTries_97, -List.getElem?_eq_getElem, am_js, am_e, am_in, am_sl, rI, rZ, rV, rJ, rA, rC, kI, kJ, kR, am_one, am_nl, am_w8, tIc, tLc, tNul, tIld, tLld, tAld, tIst, tLst, tAst, tIinc, tI2, tDv, tL2, tLrem, tLs, tLcmp, tI2l, tL2i, tI2c, tDup, tDup2, tPop, tGo, tIfeq, tIfne, tIflt, tIfge, tIfgt, tIfle, tCmeq, tCmne, tCmlt, tCmge, tCmgt, tCmle, tNu, tTs, tGf, tPf, tGs, tIal, tIas, tBal, tBas, tAln, tSv, tSc, tSb, tSl, tSk, tCv, tCs, tCt, tMx, tMn, wr_10000, wr_100000, wr_1000000, wr_10000000, wr_100000000, wr_2400, wr_9999, wr_0, wr_1, wr_2, wr_3, wr_4, wr_5, wr_6, wr_7, wr_8, wr_9, wr_10, wr_11, wr_12, wr_13, wr_14, wr_15, wr_16, wr_17, wr_18, wr_19, wr_20, wr_21, wr_22, wr_23, wr_24, wr_25, wr_26, wr_27, wr_28, wr_29, wr_30, wr_31, wr_32, wr_33, wr_34, wr_35, wr_36, wr_37, wr_38, wr_39, wr_40, wr_41, wr_42, wr_43, wr_44, wr_45, wr_46, wr_47, wr_48, wr_49, wr_50, wr_51, wr_52, wr_53, wr_54, wr_55, wr_56, wr_57, wr_58, wr_59, wr_60, wr_61, wr_62, wr_63, wr_99, wr_100, wr_192, wr_255, wr_256, wr_343, wr_999, wr_1000, wr_2401, wr_2147483647, wr_65535, wr_m1, wr_m2, wr_m3, wr_m4, wr_m9, ak_1000, ak_1001, ak_1002, ak_0, ak_1, ak_2, ak_3, ak_4, ak_5, ak_6, ak_7, ak_8, ak_9, ak_10, ak_11, ak_12, ak_13, ak_14, ak_15, ak_16, ak_17, ak_18, ak_19, ak_20, ak_21, ak_22, ak_23, ak_24, ak_25, ak_26, ak_27, ak_28, ak_29, ak_30, ak_31, ak_32, ak_33, ak_34, ak_35, ak_36, ak_37, ak_38, ak_39, ak_40, ak_41, ak_42, ak_43, ak_44, ak_45, ak_46, ak_47, wj, wc, nj, hM, hWj, hWc, vj, vc, q1, q2]
        exact rm_X0_weightOfTries h (by omega)
theorem l0_X0_weightOfTries {M : List AC} {W : Int → Int} (hM : ∃ fs, M[12]? = some (aO 0 fs)) (hW : ∀ q : Int, 0 ≤ q → q < 4 → fn_X0_weight [vR 12, vI q] M = some (some (vI (W q)), M)) (hw : ∀ q : Int, 0 ≤ W q ∧ W q ≤ 19683) : ∀ (n : Nat) (j z : Int) (x3 x4 x5 : Option AV), j + n = 4 → 0 ≤ j →
    Ru rx_X0_weightOfTries (400 * n + 10) 4 [some (vR 12), some (vI z), some (vI j), x3, x4, x5] [] M (some (vI (z + sm (fun c => (1 + sm (ah W c) 4 0) * W c) n j)), M)
  | 0, j, z, x3, x4, x5, hj, h0 => by
    have e : j = 4 := by omega
    subst e
    refine ⟨10, by omega, ?_⟩
    simp only [sm, Int.add_zero]
    simp [↓ri_X0_weightOfTries, rs_X0_weightOfTries_0, rs_X0_weightOfTries_1, rs_X0_weightOfTries_2, rs_X0_weightOfTries_3, rs_X0_weightOfTries_4, rs_X0_weightOfTries_5, rs_X0_weightOfTries_6, rs_X0_weightOfTries_9, rs_X0_weightOfTries_10, rs_X0_weightOfTries_11, rs_X0_weightOfTries_12, rs_X0_weightOfTries_14, rs_X0_weightOfTries_16, rs_X0_weightOfTries_17, rs_X0_weightOfTries_20, rs_X0_weightOfTries_21, rs_X0_weightOfTries_23, rs_X0_weightOfTries_26, rs_X0_weightOfTries_27, rs_X0_weightOfTries_28, rs_X0_weightOfTries_31, rs_X0_weightOfTries_34, rs_X0_weightOfTries_35, rs_X0_weightOfTries_37, rs_X0_weightOfTries_40, rs_X0_weightOfTries_41, rs_X0_weightOfTries_42, rs_X0_weightOfTries_45, rs_X0_weightOfTries_48, rs_X0_weightOfTries_50, rs_X0_weightOfTries_51, rs_X0_weightOfTries_54, rs_X0_weightOfTries_55, rs_X0_weightOfTries_58, rs_X0_weightOfTries_59, rs_X0_weightOfTries_61, rs_X0_weightOfTries_62, rs_X0_weightOfTries_64, rs_X0_weightOfTries_67, rs_X0_weightOfTries_68, rs_X0_weightOfTries_71, rs_X0_weightOfTries_72, rs_X0_weightOfTries_73, rs_X0_weightOfTries_74, rs_X0_weightOfTries_77, rs_X0_weightOfTries_80, rs_X0_weightOfTries_81, rs_X0_weightOfTries_82, rs_X0_weightOfTries_83, rs_X0_weightOfTries_84, rs_X0_weightOfTries_87, rs_X0_weightOfTries_88, rs_X0_weightOfTries_89, rs_X0_weightOfTries_90, rs_X0_weightOfTries_93, rs_X0_weightOfTries_96, rs_X0_weightOfTries_97, -List.getElem?_eq_getElem, am_js, am_e, am_in, am_sl, rI, rZ, rV, rJ, rA, rC, kI, kJ, kR, am_one, am_nl, am_w8, tIc, tLc, tNul, tIld, tLld, tAld, tIst, tLst, tAst, tIinc, tI2, tDv, tL2, tLrem, tLs, tLcmp, tI2l, tL2i, tI2c, tDup, tDup2, tPop, tGo, tIfeq, tIfne, tIflt, tIfge, tIfgt, tIfle, tCmeq, tCmne, tCmlt, tCmge, tCmgt, tCmle, tNu, tTs, tGf, tPf, tGs, tIal, tIas, tBal, tBas, tAln, tSv, tSc, tSb, tSl, tSk, tCv, tCs, tCt, tMx, tMn, wr_10000, wr_100000, wr_1000000, wr_10000000, wr_100000000, wr_2400, wr_9999, wr_0, wr_1, wr_2, wr_3, wr_4, wr_5, wr_6, wr_7, wr_8, wr_9, wr_10, wr_11, wr_12, wr_13, wr_14, wr_15, wr_16, wr_17, wr_18, wr_19, wr_20, wr_21, wr_22, wr_23, wr_24, wr_25, wr_26, wr_27, wr_28, wr_29, wr_30, wr_31, wr_32, wr_33, wr_34, wr_35, wr_36, wr_37, wr_38, wr_39, wr_40, wr_41, wr_42, wr_43, wr_44, wr_45, wr_46, wr_47, wr_48, wr_49, wr_50, wr_51, wr_52, wr_53, wr_54, wr_55, wr_56, wr_57, wr_58, wr_59, wr_60, wr_61, wr_62, wr_63, wr_99, wr_100, wr_192, wr_255, wr_256, wr_343, wr_999, wr_1000, wr_2401, wr_2147483647, wr_65535, wr_m1, wr_m2, wr_m3, wr_m4, wr_m9, ak_1000, ak_1001, ak_1002, ak_0, ak_1, ak_2, ak_3, ak_4, ak_5, ak_6, ak_7, ak_8, ak_9, ak_10, ak_11, ak_12, ak_13, ak_14, ak_15, ak_16, ak_17, ak_18, ak_19, ak_20, ak_21, ak_22, ak_23, ak_24, ak_25, ak_26, ak_27, ak_28, ak_29, ak_30, ak_31, ak_32, ak_33, ak_34, ak_35, ak_36, ak_37, ak_38, ak_39, ak_40, ak_41, ak_42, ak_43, ak_44, ak_45, ak_46, ak_47]
  | n + 1, j, z, x3, x4, x5, hj, h0 => by
    obtain ⟨fs, hM⟩ := hM
    have wj : wr j = j := wr_id (by omega) (by omega)
    have nj : ¬ 4 ≤ j := by omega
    have hWj := hW j h0 (by omega)
    have ih := l1_X0_weightOfTries ⟨fs, hM⟩ hW hw j z ⟨h0, by omega⟩ (some (vI (z + sm (fun c => (1 + sm (ah W c) 4 0) * W c) (n + 1) j)), M) (400 * n + 30) 4 0 1 x5 (by omega) (by omega) (by
      intro x5'
      obtain ⟨n2, hn2, h2⟩ := l0_X0_weightOfTries ⟨fs, hM⟩ hW hw n (j + 1) (z + (1 + sm (ah W j) 4 0) * W j) (some (vI (1 + sm (ah W j) 4 0))) (some (vI 4)) x5' (by omega) (by omega)
      refine ⟨n2 + 19 + 1, by omega, ?_⟩
      rw [rs_X0_weightOfTries_80]
      rw [Int.add_assoc] at h2
      have e : sm (fun c => (1 + sm (ah W c) 4 0) * W c) (n + 1) j = (1 + sm (ah W j) 4 0) * W j + sm (fun c => (1 + sm (ah W c) 4 0) * W c) n (j + 1) := rfl
      rw [e]
      generalize sm (ah W j) 4 0 = sj at h2 ⊢
      generalize sm (fun c => (1 + sm (ah W c) 4 0) * W c) n (j + 1) = sr at h2 ⊢
      simp [↓ri_X0_weightOfTries, rs_X0_weightOfTries_0, rs_X0_weightOfTries_1, rs_X0_weightOfTries_2, rs_X0_weightOfTries_3, rs_X0_weightOfTries_5, rs_X0_weightOfTries_6, rs_X0_weightOfTries_9, rs_X0_weightOfTries_10, rs_X0_weightOfTries_11, rs_X0_weightOfTries_12, rs_X0_weightOfTries_14, rs_X0_weightOfTries_16, rs_X0_weightOfTries_17, rs_X0_weightOfTries_20, rs_X0_weightOfTries_21, rs_X0_weightOfTries_23, rs_X0_weightOfTries_26, rs_X0_weightOfTries_27, rs_X0_weightOfTries_28, rs_X0_weightOfTries_31, rs_X0_weightOfTries_34, rs_X0_weightOfTries_35, rs_X0_weightOfTries_37, rs_X0_weightOfTries_40, rs_X0_weightOfTries_41, rs_X0_weightOfTries_42, rs_X0_weightOfTries_45, rs_X0_weightOfTries_48, rs_X0_weightOfTries_50, rs_X0_weightOfTries_51, rs_X0_weightOfTries_54, rs_X0_weightOfTries_55, rs_X0_weightOfTries_58, rs_X0_weightOfTries_59, rs_X0_weightOfTries_61, rs_X0_weightOfTries_62, rs_X0_weightOfTries_64, rs_X0_weightOfTries_67, rs_X0_weightOfTries_68, rs_X0_weightOfTries_71, rs_X0_weightOfTries_72, rs_X0_weightOfTries_73, rs_X0_weightOfTries_74, rs_X0_weightOfTries_77, rs_X0_weightOfTries_81, rs_X0_weightOfTries_82, rs_X0_weightOfTries_83, rs_X0_weightOfTries_84, rs_X0_weightOfTries_87, rs_X0_weightOfTries_88, rs_X0_weightOfTries_89, rs_X0_weightOfTries_90, rs_X0_weightOfTries_93, rs_X0_weightOfTries_96, rs_X0_weightOfTries_97, -List.getElem?_eq_getElem, am_js, am_e, am_in, am_sl, rI, rZ, rV, rJ, rA, rC, kI, kJ, kR, am_one, am_nl, am_w8, tIc, tLc, tNul, tIld, tLld, tAld, tIst, tLst, tAst, tIinc, tI2, tDv, tL2, tLrem, tLs, tLcmp, tI2l, tL2i, tI2c, tDup, tDup2, tPop, tGo, tIfeq, tIfne, tIflt, tIfge, tIfgt, tIfle, tCmeq, tCmne, tCmlt, tCmge, tCmgt, tCmle, tNu, tTs, tGf, tPf, tGs, tIal, tIas, tBal, tBas, tAln, tSv, tSc, tSb, tSl, tSk, tCv, tCs, tCt, tMx, tMn, wr_10000, wr_100000, wr_1000000, wr_10000000, wr_100000000, wr_2400, wr_9999, wr_0, wr_1, wr_2, wr_3, wr_4, wr_5, wr_6, wr_7, wr_8, wr_9, wr_10, wr_11, wr_12, wr_13, wr_14, wr_15, wr_16, wr_17, wr_18, wr_19, wr_20, wr_21, wr_22, wr_23, wr_24, wr_25, wr_26, wr_27, wr_28, wr_29, wr_30, wr_31, wr_32, wr_33, wr_34, wr_35, wr_36, wr_37, wr_38, wr_39, wr_40, wr_41, wr_42, wr_43, wr_44, wr_45, wr_46, wr_47, wr_48, wr_49, wr_50, wr_51, wr_52, wr_53, wr_54, wr_55, wr_56, wr_57, wr_58, wr_59, wr_60, wr_61, wr_62, wr_63, wr_99, wr_100, wr_192, wr_255, wr_256, wr_343, wr_999, wr_1000, wr_2401, wr_2147483647, wr_65535, wr_m1, wr_m2, wr_m3, wr_m4, wr_m9, ak_1000, ak_1001, ak_1002, ak_0, ak_1, ak_2, ak_3, ak_4, ak_5, ak_6, ak_7, ak_8, ak_9, ak_10, ak_11, ak_12, ak_13, ak_14, ak_15, ak_16, ak_17, ak_18, ak_19, ak_20, ak_21, ak_22, ak_23, ak_24, ak_25, ak_26, ak_27, ak_28, ak_29, ak_30, ak_31, ak_32, ak_33, ak_34, ak_35, ak_36, ak_37, ak_38, ak_39, ak_40, ak_41, ak_42, ak_43, ak_44, ak_45, ak_46, ak_47, hM, hWj]
      exact rm_X0_weightOfTries h2 (by omega))
    obtain ⟨n', hn, h⟩ := ih
    refine ⟨n' + 39 + 1, by omega, ?_⟩
    rw [rs_X0_weightOfTries_4]
    generalize sm (fun c => (1 + sm (ah W c) 4 0) * W c) (n + 1) j = sr at h ⊢
    simp [↓ri_X0_weightOfTries, rs_X0_weightOfTries_0, rs_X0_weightOfTries_1, rs_X0_weightOfTries_2, rs_X0_weightOfTries_3, rs_X0_weightOfTries_5, rs_X0_weightOfTries_6, rs_X0_weightOfTries_9, rs_X0_weightOfTries_10, rs_X0_weightOfTries_11, rs_X0_weightOfTries_12, rs_X0_weightOfTries_16, rs_X0_weightOfTries_17, rs_X0_weightOfTries_20, rs_X0_weightOfTries_21, rs_X0_weightOfTries_23, rs_X0_weightOfTries_26, rs_X0_weightOfTries_27, rs_X0_weightOfTries_28, rs_X0_weightOfTries_31, rs_X0_weightOfTries_34, rs_X0_weightOfTries_35, rs_X0_weightOfTries_37, rs_X0_weightOfTries_40, rs_X0_weightOfTries_41, rs_X0_weightOfTries_42, rs_X0_weightOfTries_45, rs_X0_weightOfTries_48, rs_X0_weightOfTries_50, rs_X0_weightOfTries_51, rs_X0_weightOfTries_54, rs_X0_weightOfTries_55, rs_X0_weightOfTries_58, rs_X0_weightOfTries_59, rs_X0_weightOfTries_61, rs_X0_weightOfTries_62, rs_X0_weightOfTries_64, rs_X0_weightOfTries_67, rs_X0_weightOfTries_68, rs_X0_weightOfTries_71, rs_X0_weightOfTries_72, rs_X0_weightOfTries_73, rs_X0_weightOfTries_74, rs_X0_weightOfTries_77, rs_X0_weightOfTries_80, rs_X0_weightOfTries_81, rs_X0_weightOfTries_82, rs_X0_weightOfTries_83, rs_X0_weightOfTries_84, rs_X0_weightOfTries_87, rs_X0_weightOfTries_88, rs_X0_weightOfTries_89, rs_X0_weightOfTries_90, rs_X0_weightOfTries_93, rs_X0_weightOfTries_96, rs_X0_weightOfTries_97, -List.getElem?_eq_getElem, am_js, am_e, am_in, am_sl, rI, rZ, rV, rJ, rA, rC, kI, kJ, kR, am_one, am_nl, am_w8, tIc, tLc, tNul, tIld, tLld, tAld, tIst, tLst, tAst, tIinc, tI2, tDv, tL2, tLrem, tLs, tLcmp, tI2l, tL2i, tI2c, tDup, tDup2, tPop, tGo, tIfeq, tIfne, tIflt, tIfge, tIfgt, tIfle, tCmeq, tCmne, tCmlt, tCmge, tCmgt, tCmle, tNu, tTs, tGf, tPf, tGs, tIal, tIas, tBal, tBas, tAln, tSv, tSc, tSb, tSl, tSk, tCv, tCs, tCt, tMx, tMn, wr_10000, wr_100000, wr_1000000, wr_10000000, wr_100000000, wr_2400, wr_9999, wr_0, wr_1, wr_2, wr_3, wr_4, wr_5, wr_6, wr_7, wr_8, wr_9, wr_10, wr_11, wr_12, wr_13, wr_14, wr_15, wr_16, wr_17, wr_18, wr_19, wr_20, wr_21, wr_22, wr_23, wr_24, wr_25, wr_26, wr_27, wr_28, wr_29, wr_30, wr_31, wr_32, wr_33, wr_34, wr_35, wr_36, wr_37, wr_38, wr_39, wr_40, wr_41, wr_42, wr_43, wr_44, wr_45, wr_46, wr_47, wr_48, wr_49, wr_50, wr_51, wr_52, wr_53, wr_54, wr_55, wr_56, wr_57, wr_58, wr_59, wr_60, wr_61, wr_62, wr_63, wr_99, wr_100, wr_192, wr_255, wr_256, wr_343, wr_999, wr_1000, wr_2401, wr_2147483647, wr_65535, wr_m1, wr_m2, wr_m3, wr_m4, wr_m9, ak_1000, ak_1001, ak_1002, ak_0, ak_1, ak_2, ak_3, ak_4, ak_5, ak_6, ak_7, ak_8, ak_9, ak_10, ak_11, ak_12, ak_13, ak_14, ak_15, ak_16, ak_17, ak_18, ak_19, ak_20, ak_21, ak_22, ak_23, ak_24, ak_25, ak_26, ak_27, ak_28, ak_29, ak_30, ak_31, ak_32, ak_33, ak_34, ak_35, ak_36, ak_37, ak_38, ak_39, ak_40, ak_41, ak_42, ak_43, ak_44, ak_45, ak_46, ak_47, wj, nj]
    exact rm_X0_weightOfTries h (by omega)
theorem sp_X0_weightOfTries {M : List AC} {n : Int} {c t : F3} (h : HL M n c t) (hn : 0 ≤ n ∧ n ≤ 3) (hc : i3 0 3 c) (ht : i3 0 9 t) : fn_X0_weightOfTries [vR 12] M = some (some (vI (tr (wt n c t))), M) := by
  obtain ⟨n', hn', h'⟩ := l0_X0_weightOfTries (W := wt n c t) ⟨_, h.1⟩ (fun q h1 h2 => sp_X0_weight h hn hc q ⟨h1, h2⟩) (fun q => wt_rng ht) 4 0 0 none none none (by omega) (by omega)
  rw [Int.zero_add] at h'
  (refine am_fnR (tb := tb_X0_weightOfTries) (N := 3000) (Nat.le_of_ble_eq_true rfl) (Nat.le_of_ble_eq_true rfl) ?_; show Ru rx_X0_weightOfTries 3000 0 _ _ _ _)
  refine ⟨n' + 4, by omega, ?_⟩
  unfold tr
  simp [↓ri_X0_weightOfTries, rs_X0_weightOfTries_0, rs_X0_weightOfTries_1, rs_X0_weightOfTries_2, rs_X0_weightOfTries_3, rs_X0_weightOfTries_5, rs_X0_weightOfTries_6, rs_X0_weightOfTries_9, rs_X0_weightOfTries_10, rs_X0_weightOfTries_11, rs_X0_weightOfTries_12, rs_X0_weightOfTries_14, rs_X0_weightOfTries_16, rs_X0_weightOfTries_17, rs_X0_weightOfTries_20, rs_X0_weightOfTries_21, rs_X0_weightOfTries_23, rs_X0_weightOfTries_26, rs_X0_weightOfTries_27, rs_X0_weightOfTries_28, rs_X0_weightOfTries_31, rs_X0_weightOfTries_34, rs_X0_weightOfTries_35, rs_X0_weightOfTries_37, rs_X0_weightOfTries_40, rs_X0_weightOfTries_41, rs_X0_weightOfTries_42, rs_X0_weightOfTries_45, rs_X0_weightOfTries_48, rs_X0_weightOfTries_50, rs_X0_weightOfTries_51, rs_X0_weightOfTries_54, rs_X0_weightOfTries_55, rs_X0_weightOfTries_58, rs_X0_weightOfTries_59, rs_X0_weightOfTries_61, rs_X0_weightOfTries_62, rs_X0_weightOfTries_64, rs_X0_weightOfTries_67, rs_X0_weightOfTries_68, rs_X0_weightOfTries_71, rs_X0_weightOfTries_72, rs_X0_weightOfTries_73, rs_X0_weightOfTries_74, rs_X0_weightOfTries_77, rs_X0_weightOfTries_80, rs_X0_weightOfTries_81, rs_X0_weightOfTries_82, rs_X0_weightOfTries_83, rs_X0_weightOfTries_84, rs_X0_weightOfTries_87, rs_X0_weightOfTries_88, rs_X0_weightOfTries_89, rs_X0_weightOfTries_90, rs_X0_weightOfTries_93, rs_X0_weightOfTries_96, rs_X0_weightOfTries_97, -List.getElem?_eq_getElem, am_js, am_e, am_in, am_sl, rI, rZ, rV, rJ, rA, rC, kI, kJ, kR, am_one, am_nl, am_w8, tIc, tLc, tNul, tIld, tLld, tAld, tIst, tLst, tAst, tIinc, tI2, tDv, tL2, tLrem, tLs, tLcmp, tI2l, tL2i, tI2c, tDup, tDup2, tPop, tGo, tIfeq, tIfne, tIflt, tIfge, tIfgt, tIfle, tCmeq, tCmne, tCmlt, tCmge, tCmgt, tCmle, tNu, tTs, tGf, tPf, tGs, tIal, tIas, tBal, tBas, tAln, tSv, tSc, tSb, tSl, tSk, tCv, tCs, tCt, tMx, tMn, wr_10000, wr_100000, wr_1000000, wr_10000000, wr_100000000, wr_2400, wr_9999, wr_0, wr_1, wr_2, wr_3, wr_4, wr_5, wr_6, wr_7, wr_8, wr_9, wr_10, wr_11, wr_12, wr_13, wr_14, wr_15, wr_16, wr_17, wr_18, wr_19, wr_20, wr_21, wr_22, wr_23, wr_24, wr_25, wr_26, wr_27, wr_28, wr_29, wr_30, wr_31, wr_32, wr_33, wr_34, wr_35, wr_36, wr_37, wr_38, wr_39, wr_40, wr_41, wr_42, wr_43, wr_44, wr_45, wr_46, wr_47, wr_48, wr_49, wr_50, wr_51, wr_52, wr_53, wr_54, wr_55, wr_56, wr_57, wr_58, wr_59, wr_60, wr_61, wr_62, wr_63, wr_99, wr_100, wr_192, wr_255, wr_256, wr_343, wr_999, wr_1000, wr_2401, wr_2147483647, wr_65535, wr_m1, wr_m2, wr_m3, wr_m4, wr_m9, ak_1000, ak_1001, ak_1002, ak_0, ak_1, ak_2, ak_3, ak_4, ak_5, ak_6, ak_7, ak_8, ak_9, ak_10, ak_11, ak_12, ak_13, ak_14, ak_15, ak_16, ak_17, ak_18, ak_19, ak_20, ak_21, ak_22, ak_23, ak_24, ak_25, ak_26, ak_27, ak_28, ak_29, ak_30, ak_31, ak_32, ak_33, ak_34, ak_35, ak_36, ak_37, ak_38, ak_39, ak_40, ak_41, ak_42, ak_43, ak_44, ak_45, ak_46, ak_47]
  exact h'
end
