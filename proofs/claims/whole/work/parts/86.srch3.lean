noncomputable section
/-! the component's search: queue, how many stand in it, trail, spent -/
abbrev S3 : Type := List Int × Int × List Int × List Int
def se (sz gl : Int) : AC := aO 3 [vR 7, vR 44, vI sz, vR 45, vR 46, vI gl]
def U3 (M : List AC) (gl : Int) (d : F4) (S : S3) : List AC := ((((M.set 10 (aI (l4 d))).set 43 (se S.2.1 gl)).set 44 (aI S.1)).set 45 (aI S.2.2.1)).set 46 (aI S.2.2.2)
theorem U3_10 {M : List AC} {gl : Int} {d d' : F4} {S : S3} : (U3 M gl d S).set 10 (aI (l4 d')) = U3 M gl d' S := by
  simp [U3, ss (i := 10) (j := 43) (by decide), ss (i := 10) (j := 44) (by decide), ss (i := 10) (j := 45) (by decide), ss (i := 10) (j := 46) (by decide), ss (i := 43) (j := 44) (by decide), ss (i := 43) (j := 45) (by decide), ss (i := 43) (j := 46) (by decide), ss (i := 44) (j := 45) (by decide), ss (i := 44) (j := 46) (by decide), ss (i := 45) (j := 46) (by decide)]
theorem U3_U3 {M : List AC} {gl gl' : Int} {d d' : F4} {S S' : S3} : U3 (U3 M gl d S) gl' d' S' = U3 M gl' d' S' := by
  simp [U3, ss (i := 10) (j := 43) (by decide), ss (i := 10) (j := 44) (by decide), ss (i := 10) (j := 45) (by decide), ss (i := 10) (j := 46) (by decide), ss (i := 43) (j := 44) (by decide), ss (i := 43) (j := 45) (by decide), ss (i := 43) (j := 46) (by decide), ss (i := 44) (j := 45) (by decide), ss (i := 44) (j := 46) (by decide), ss (i := 45) (j := 46) (by decide)]
def H3 (M : List AC) (st : Int) (g s b : F4) : Prop := 46 < M.length ∧ M[7]? = some (aO 4 [vI st, vR 8, vR 9, vR 10, vR 11]) ∧ M[8]? = some (aI (l4 g)) ∧ M[9]? = some (aI (l4 s)) ∧ M[11]? = some (aI (l4 b))
theorem U3_at {M : List AC} {st : Int} {g s b : F4} (h : H3 M st g s b) (gl : Int) (d : F4) (S : S3) : HS (U3 M gl d S) 7 st g s d b ∧ (U3 M gl d S)[43]? = some (se S.2.1 gl) ∧ (U3 M gl d S)[44]? = some (aI S.1) ∧ (U3 M gl d S)[45]? = some (aI S.2.2.1) ∧ (U3 M gl d S)[46]? = some (aI S.2.2.2) := by
  obtain ⟨hl, h7, h8, h9, h11⟩ := h
  have a : 10 < M.length := by omega
  have b : 43 < M.length := by omega
  have c : 44 < M.length := by omega
  have e : 45 < M.length := by omega
  unfold U3
  refine ⟨HS.of7 ?_ ?_ ?_ ?_ ?_, ?_, ?_, ?_, ?_⟩ <;> simp [-List.getElem?_eq_getElem, h7, h8, h9, h11, a, b, c, e, hl]
abbrev mi_X3_state : Mi := (yX3_state, cX3_state, 3, some .int, 1)
theorem mf_X3_state : am_mf mi_X3_state 0 := ⟨w_co_X3_state, w_in_X3, ⟨by decide +kernel, by decide +kernel⟩, by decide +kernel, by decide⟩
def tb_X3_state : List (Nat × Tr) := [(0, tIc 0 1), (1, tIst 1 1), (2, tIc 0 1), (3, tIst 2 1), (4, tIld 2 1), (5, tIc 4 1), (6, tCmge 33), (9, tIld 1 1), (10, tAld 0 1), (11, tGf 3 0), (14, tGf 4 3), (17, tIld 2 1), (18, tIal), (19, tGs (vR 1001)), (22, tIld 2 1), (23, tIal), (24, tI2 (fun a b => a * b)), (25, tI2 (fun a b => a + b)), (26, tIst 1 1), (27, tIinc 2 1), (30, tGo 4), (33, tIld 1 1)]
theorem ok_X3_state : Tok mi_X3_state tb_X3_state :=
  Tc (sd_iconst rfl dX3_state_0) <|
  Tc (sd_istore_n dX3_state_1) <|
  Tc (sd_iconst rfl dX3_state_2) <|
  Tc (sd_istore_n dX3_state_3) <|
  Tc (sd_iload_n dX3_state_4) <|
  Tc (sd_iconst rfl dX3_state_5) <|
  Tc (sd_cm_ge (by decide) dX3_state_6) <|
  Tc (sd_iload_n dX3_state_9) <|
  Tc (sd_aload_n dX3_state_10) <|
  Tc (sd_getf (T := TX3) rfl giX3 (by decide) w_fl_X3_28 dX3_state_11) <|
  Tc (sd_getf (T := TX4) rfl giX4 (by decide) w_fl_X3_69 dX3_state_14) <|
  Tc (sd_iload_n dX3_state_17) <|
  Tc (sd_ial dX3_state_18) <|
  Tc (sd_gsSevensN (List.mem_of_getElem? (i := 7) rfl) dX3_state_19) <|
  Tc (sd_iload_n dX3_state_22) <|
  Tc (sd_ial dX3_state_23) <|
  Tc (sd_imul dX3_state_24) <|
  Tc (sd_iadd dX3_state_25) <|
  Tc (sd_istore_n dX3_state_26) <|
  Tc (sd_iinc dX3_state_27) <|
  Tc (sd_goto (by decide) dX3_state_30) <|
  Tc (sd_iload_n dX3_state_33) <|
  Tn
theorem rk_X3_state : Rok mi_X3_state rI [34] := rk_i dX3_state_34 <| rk_n
def rx_X3_state : Nat → Nat → AL → List AV → List AC → Option (Option AV × List AC) := am_r tb_X3_state rI [34]
theorem rs_X3_state_0 (n : Nat) (L : AL) (st : List AV) (M : List AC) : rx_X3_state (n + 1) 0 L st M = am_j (rx_X3_state n) ((tIc 0 1) 0 L st M) := rfl
theorem rs_X3_state_1 (n : Nat) (L : AL) (st : List AV) (M : List AC) : rx_X3_state (n + 1) 1 L st M = am_j (rx_X3_state n) ((tIst 1 1) 1 L st M) := rfl
theorem rs_X3_state_2 (n : Nat) (L : AL) (st : List AV) (M : List AC) : rx_X3_state (n + 1) 2 L st M = am_j (rx_X3_state n) ((tIc 0 1) 2 L st M) := rfl
theorem rs_X3_state_3 (n : Nat) (L : AL) (st : List AV) (M : List AC) : rx_X3_state (n + 1) 3 L st M = am_j (rx_X3_state n) ((tIst 2 1) 3 L st M) := rfl
theorem rs_X3_state_4 (n : Nat) (L : AL) (st : List AV) (M : List AC) : rx_X3_state (n + 1) 4 L st M = am_j (rx_X3_state n) ((tIld 2 1) 4 L st M) := rfl
theorem rs_X3_state_5 (n : Nat) (L : AL) (st : List AV) (M : List AC) : rx_X3_state (n + 1) 5 L st M = am_j (rx_X3_state n) ((tIc 4 1) 5 L st M) := rfl
theorem rs_X3_state_6 (n : Nat) (L : AL) (st : List AV) (M : List AC) : rx_X3_state (n + 1) 6 L st M = am_j (rx_X3_state n) ((tCmge 33) 6 L st M) := rfl
theorem rs_X3_state_9 (n : Nat) (L : AL) (st : List AV) (M : List AC) : rx_X3_state (n + 1) 9 L st M = am_j (rx_X3_state n) ((tIld 1 1) 9 L st M) := rfl
theorem rs_X3_state_10 (n : Nat) (L : AL) (st : List AV) (M : List AC) : rx_X3_state (n + 1) 10 L st M = am_j (rx_X3_state n) ((tAld 0 1) 10 L st M) := rfl
theorem rs_X3_state_11 (n : Nat) (L : AL) (st : List AV) (M : List AC) : rx_X3_state (n + 1) 11 L st M = am_j (rx_X3_state n) ((tGf 3 0) 11 L st M) := rfl
theorem rs_X3_state_14 (n : Nat) (L : AL) (st : List AV) (M : List AC) : rx_X3_state (n + 1) 14 L st M = am_j (rx_X3_state n) ((tGf 4 3) 14 L st M) := rfl
theorem rs_X3_state_17 (n : Nat) (L : AL) (st : List AV) (M : List AC) : rx_X3_state (n + 1) 17 L st M = am_j (rx_X3_state n) ((tIld 2 1) 17 L st M) := rfl
theorem rs_X3_state_18 (n : Nat) (L : AL) (st : List AV) (M : List AC) : rx_X3_state (n + 1) 18 L st M = am_j (rx_X3_state n) (tIal 18 L st M) := rfl
theorem rs_X3_state_19 (n : Nat) (L : AL) (st : List AV) (M : List AC) : rx_X3_state (n + 1) 19 L st M = am_j (rx_X3_state n) ((tGs (vR 1001)) 19 L st M) := rfl
theorem rs_X3_state_22 (n : Nat) (L : AL) (st : List AV) (M : List AC) : rx_X3_state (n + 1) 22 L st M = am_j (rx_X3_state n) ((tIld 2 1) 22 L st M) := rfl
theorem rs_X3_state_23 (n : Nat) (L : AL) (st : List AV) (M : List AC) : rx_X3_state (n + 1) 23 L st M = am_j (rx_X3_state n) (tIal 23 L st M) := rfl
theorem rs_X3_state_24 (n : Nat) (L : AL) (st : List AV) (M : List AC) : rx_X3_state (n + 1) 24 L st M = am_j (rx_X3_state n) ((tI2 (fun a b => a * b)) 24 L st M) := rfl
theorem rs_X3_state_25 (n : Nat) (L : AL) (st : List AV) (M : List AC) : rx_X3_state (n + 1) 25 L st M = am_j (rx_X3_state n) ((tI2 (fun a b => a + b)) 25 L st M) := rfl
theorem rs_X3_state_26 (n : Nat) (L : AL) (st : List AV) (M : List AC) : rx_X3_state (n + 1) 26 L st M = am_j (rx_X3_state n) ((tIst 1 1) 26 L st M) := rfl
theorem rs_X3_state_27 (n : Nat) (L : AL) (st : List AV) (M : List AC) : rx_X3_state (n + 1) 27 L st M = am_j (rx_X3_state n) ((tIinc 2 1) 27 L st M) := rfl
theorem rs_X3_state_30 (n : Nat) (L : AL) (st : List AV) (M : List AC) : rx_X3_state (n + 1) 30 L st M = am_j (rx_X3_state n) ((tGo 4) 30 L st M) := rfl
theorem rs_X3_state_33 (n : Nat) (L : AL) (st : List AV) (M : List AC) : rx_X3_state (n + 1) 33 L st M = am_j (rx_X3_state n) ((tIld 1 1) 33 L st M) := rfl
theorem rs_X3_state_34 (n : Nat) (L : AL) (st : List AV) (M : List AC) : rx_X3_state (n + 1) 34 L st M = am_e rI st M := rfl
theorem ri_X3_state (c : Prop) [Decidable c] (p q n : Nat) (L : AL) (st : List AV) (M : List AC) : rx_X3_state n (if c then p else q) L st M = if c then rx_X3_state n p L st M else rx_X3_state n q L st M := by split <;> rfl
theorem rm_X3_state {n k pc : Nat} {L : AL} {st : List AV} {M : List AC} {x : Option AV × List AC} (h : rx_X3_state n pc L st M = some x) (hk : n ≤ k) : rx_X3_state k pc L st M = some x := am_r_mono n k h hk
def fn_X3_state : Fn := am_fn rx_X3_state 3
theorem fok_X3_state : Fok mi_X3_state fn_X3_state := fun _ _ _ _ h => am_fok ok_X3_state rk_X3_state rfl h
theorem sp_X3_state {V : List AC} {st : Int} {g s d b : F4} (hs : HS V 7 st g s d b) {sz gl : Int} (h43 : V[43]? = some (se sz gl)) : fn_X3_state [vR 43] V = some (some (vI (so d)), V) := by
  obtain ⟨j0, -, -, j3, -⟩ := hs.seven
  have e : d.1 * 343 + d.2.1 * 49 + d.2.2.1 * 7 + d.2.2.2 = so d := by unfold so; omega
  rw [← e]
  simp only [se] at h43
  (refine am_fnI (tb := tb_X3_state) (n := 120) (Nat.le_of_ble_eq_true rfl) (Nat.le_of_ble_eq_true rfl) ?_; show rx_X3_state 120 0 _ _ _ = _)
  simp [↓ri_X3_state, rs_X3_state_0, rs_X3_state_1, rs_X3_state_2, rs_X3_state_3, rs_X3_state_4, rs_X3_state_5, rs_X3_state_6, rs_X3_state_9, rs_X3_state_10, rs_X3_state_11, rs_X3_state_14, rs_X3_state_17, rs_X3_state_18, rs_X3_state_19, rs_X3_state_22, rs_X3_state_23, rs_X3_state_24, rs_X3_state_25, rs_X3_state_26, rs_X3_state_27, rs_X3_state_30, rs_X3_state_33, rs_X3_state_34, -List.getElem?_eq_getElem, am_js, am_e, am_in, am_sl, rI, rZ, rV, rJ, rA, rC, kI, kJ, kR, am_one, am_nl, am_w8, tIc, tLc, tNul, tIld, tLld, tAld, tIst, tLst, tAst, tIinc, tI2, tDv, tL2, tLrem, tLs, tLcmp, tI2l, tL2i, tI2c, tDup, tDup2, tPop, tGo, tIfeq, tIfne, tIflt, tIfge, tIfgt, tIfle, tCmeq, tCmne, tCmlt, tCmge, tCmgt, tCmle, tNu, tTs, tGf, tPf, tGs, tIal, tIas, tBal, tBas, tAln, tSv, tSc, tSb, tSl, tSk, tCv, tCs, tCt, tMx, tMn, wr_10000, wr_100000, wr_1000000, wr_10000000, wr_100000000, wr_2400, wr_9999, wr_0, wr_1, wr_2, wr_3, wr_4, wr_5, wr_6, wr_7, wr_8, wr_9, wr_10, wr_11, wr_12, wr_13, wr_14, wr_15, wr_16, wr_17, wr_18, wr_19, wr_20, wr_21, wr_22, wr_23, wr_24, wr_25, wr_26, wr_27, wr_28, wr_29, wr_30, wr_31, wr_32, wr_33, wr_34, wr_35, wr_36, wr_37, wr_38, wr_39, wr_40, wr_41, wr_42, wr_43, wr_44, wr_45, wr_46, wr_47, wr_48, wr_49, wr_50, wr_51, wr_52, wr_53, wr_54, wr_55, wr_56, wr_57, wr_58, wr_59, wr_60, wr_61, wr_62, wr_63, wr_99, wr_100, wr_192, wr_255, wr_256, wr_343, wr_999, wr_1000, wr_2401, wr_2147483647, wr_65535, wr_m1, wr_m2, wr_m3, wr_m4, wr_m9, ak_1000, ak_1001, ak_1002, ak_0, ak_1, ak_2, ak_3, ak_4, ak_5, ak_6, ak_7, ak_8, ak_9, ak_10, ak_11, ak_12, ak_13, ak_14, ak_15, ak_16, ak_17, ak_18, ak_19, ak_20, ak_21, ak_22, ak_23, ak_24, ak_25, ak_26, ak_27, ak_28, ak_29, ak_30, ak_31, ak_32, ak_33, ak_34, ak_35, ak_36, ak_37, ak_38, ak_39, ak_40, ak_41, ak_42, ak_43, ak_44, ak_45, ak_46, ak_47, h43, j0, j3, am_sevens]
abbrev mi_X3_lay : Mi := (yX3_lay, cX3_lay, 3, none, 1)
theorem mf_X3_lay : am_mf mi_X3_lay 1 := ⟨w_co_X3_lay, w_in_X3, ⟨by decide +kernel, by decide +kernel⟩, by decide +kernel, by decide⟩
def tb_X3_lay : List (Nat × Tr) := [(0, tIc 0 1), (1, tIst 2 1), (2, tIld 2 1), (3, tIc 4 1), (4, tCmge 32), (7, tAld 0 1), (8, tGf 3 0), (11, tGf 4 3), (14, tIld 2 1), (15, tIld 1 1), (16, tGs (vR 1001)), (19, tIld 2 1), (20, tIal), (21, tDv Int.tdiv), (22, tIc 7 2), (24, tDv Int.tmod), (25, tIas), (26, tIinc 2 1), (29, tGo 2)]
theorem ok_X3_lay : Tok mi_X3_lay tb_X3_lay :=
  Tc (sd_iconst rfl dX3_lay_0) <|
  Tc (sd_istore_n dX3_lay_1) <|
  Tc (sd_iload_n dX3_lay_2) <|
  Tc (sd_iconst rfl dX3_lay_3) <|
  Tc (sd_cm_ge (by decide) dX3_lay_4) <|
  Tc (sd_aload_n dX3_lay_7) <|
  Tc (sd_getf (T := TX3) rfl giX3 (by decide) w_fl_X3_28 dX3_lay_8) <|
  Tc (sd_getf (T := TX4) rfl giX4 (by decide) w_fl_X3_69 dX3_lay_11) <|
  Tc (sd_iload_n dX3_lay_14) <|
  Tc (sd_iload_n dX3_lay_15) <|
  Tc (sd_gsSevensN (List.mem_of_getElem? (i := 7) rfl) dX3_lay_16) <|
  Tc (sd_iload_n dX3_lay_19) <|
  Tc (sd_ial dX3_lay_20) <|
  Tc (sd_idiv dX3_lay_21) <|
  Tc (sd_bipush (by decide +kernel) dX3_lay_22) <|
  Tc (sd_irem dX3_lay_24) <|
  Tc (sd_ias dX3_lay_25) <|
  Tc (sd_iinc dX3_lay_26) <|
  Tc (sd_goto (by decide) dX3_lay_29) <|
  Tn
theorem rk_X3_lay : Rok mi_X3_lay rV [32] := rk_v dX3_lay_32 <| rk_n
def rx_X3_lay : Nat → Nat → AL → List AV → List AC → Option (Option AV × List AC) := am_r tb_X3_lay rV [32]
theorem rs_X3_lay_0 (n : Nat) (L : AL) (st : List AV) (M : List AC) : rx_X3_lay (n + 1) 0 L st M = am_j (rx_X3_lay n) ((tIc 0 1) 0 L st M) := rfl
theorem rs_X3_lay_1 (n : Nat) (L : AL) (st : List AV) (M : List AC) : rx_X3_lay (n + 1) 1 L st M = am_j (rx_X3_lay n) ((tIst 2 1) 1 L st M) := rfl
theorem rs_X3_lay_2 (n : Nat) (L : AL) (st : List AV) (M : List AC) : rx_X3_lay (n + 1) 2 L st M = am_j (rx_X3_lay n) ((tIld 2 1) 2 L st M) := rfl
theorem rs_X3_lay_3 (n : Nat) (L : AL) (st : List AV) (M : List AC) : rx_X3_lay (n + 1) 3 L st M = am_j (rx_X3_lay n) ((tIc 4 1) 3 L st M) := rfl
theorem rs_X3_lay_4 (n : Nat) (L : AL) (st : List AV) (M : List AC) : rx_X3_lay (n + 1) 4 L st M = am_j (rx_X3_lay n) ((tCmge 32) 4 L st M) := rfl
theorem rs_X3_lay_7 (n : Nat) (L : AL) (st : List AV) (M : List AC) : rx_X3_lay (n + 1) 7 L st M = am_j (rx_X3_lay n) ((tAld 0 1) 7 L st M) := rfl
theorem rs_X3_lay_8 (n : Nat) (L : AL) (st : List AV) (M : List AC) : rx_X3_lay (n + 1) 8 L st M = am_j (rx_X3_lay n) ((tGf 3 0) 8 L st M) := rfl
theorem rs_X3_lay_11 (n : Nat) (L : AL) (st : List AV) (M : List AC) : rx_X3_lay (n + 1) 11 L st M = am_j (rx_X3_lay n) ((tGf 4 3) 11 L st M) := rfl
theorem rs_X3_lay_14 (n : Nat) (L : AL) (st : List AV) (M : List AC) : rx_X3_lay (n + 1) 14 L st M = am_j (rx_X3_lay n) ((tIld 2 1) 14 L st M) := rfl
theorem rs_X3_lay_15 (n : Nat) (L : AL) (st : List AV) (M : List AC) : rx_X3_lay (n + 1) 15 L st M = am_j (rx_X3_lay n) ((tIld 1 1) 15 L st M) := rfl
theorem rs_X3_lay_16 (n : Nat) (L : AL) (st : List AV) (M : List AC) : rx_X3_lay (n + 1) 16 L st M = am_j (rx_X3_lay n) ((tGs (vR 1001)) 16 L st M) := rfl
theorem rs_X3_lay_19 (n : Nat) (L : AL) (st : List AV) (M : List AC) : rx_X3_lay (n + 1) 19 L st M = am_j (rx_X3_lay n) ((tIld 2 1) 19 L st M) := rfl
theorem rs_X3_lay_20 (n : Nat) (L : AL) (st : List AV) (M : List AC) : rx_X3_lay (n + 1) 20 L st M = am_j (rx_X3_lay n) (tIal 20 L st M) := rfl
theorem rs_X3_lay_21 (n : Nat) (L : AL) (st : List AV) (M : List AC) : rx_X3_lay (n + 1) 21 L st M = am_j (rx_X3_lay n) ((tDv Int.tdiv) 21 L st M) := rfl
theorem rs_X3_lay_22 (n : Nat) (L : AL) (st : List AV) (M : List AC) : rx_X3_lay (n + 1) 22 L st M = am_j (rx_X3_lay n) ((tIc 7 2) 22 L st M) := rfl
theorem rs_X3_lay_24 (n : Nat) (L : AL) (st : List AV) (M : List AC) : rx_X3_lay (n + 1) 24 L st M = am_j (rx_X3_lay n) ((tDv Int.tmod) 24 L st M) := rfl
theorem rs_X3_lay_25 (n : Nat) (L : AL) (st : List AV) (M : List AC) : rx_X3_lay (n + 1) 25 L st M = am_j (rx_X3_lay n) (tIas 25 L st M) := rfl
theorem rs_X3_lay_26 (n : Nat) (L : AL) (st : List AV) (M : List AC) : rx_X3_lay (n + 1) 26 L st M = am_j (rx_X3_lay n) ((tIinc 2 1) 26 L st M) := rfl
theorem rs_X3_lay_29 (n : Nat) (L : AL) (st : List AV) (M : List AC) : rx_X3_lay (n + 1) 29 L st M = am_j (rx_X3_lay n) ((tGo 2) 29 L st M) := rfl
theorem rs_X3_lay_32 (n : Nat) (L : AL) (st : List AV) (M : List AC) : rx_X3_lay (n + 1) 32 L st M = am_e rV st M := rfl
theorem ri_X3_lay (c : Prop) [Decidable c] (p q n : Nat) (L : AL) (st : List AV) (M : List AC) : rx_X3_lay n (if c then p else q) L st M = if c then rx_X3_lay n p L st M else rx_X3_lay n q L st M := by split <;> rfl
theorem rm_X3_lay {n k pc : Nat} {L : AL} {st : List AV} {M : List AC} {x : Option AV × List AC} (h : rx_X3_lay n pc L st M = some x) (hk : n ≤ k) : rx_X3_lay k pc L st M = some x := am_r_mono n k h hk
def fn_X3_lay : Fn := am_fn rx_X3_lay 3
theorem fok_X3_lay : Fok mi_X3_lay fn_X3_lay := fun _ _ _ _ h => am_fok ok_X3_lay rk_X3_lay rfl h
theorem sp_X3_lay {V : List AC} {st : Int} {g s d b : F4} (hs : HS V 7 st g s d b) {sz gl : Int} (h43 : V[43]? = some (se sz gl)) (x : Int) (hx : 0 ≤ x ∧ x < 2401) : fn_X3_lay [vR 43, vI x] V = some (none, V.set 10 (aI (l4 (su x)))) := by
  obtain ⟨j0, -, -, j3, -⟩ := hs.seven
  have wx : wr x = x := wr_id (by omega) (by omega)
  have e1 : x.tdiv 343 = x / 343 := Int.tdiv_eq_ediv_of_nonneg hx.1
  have e2 : x.tdiv 49 = x / 49 := Int.tdiv_eq_ediv_of_nonneg hx.1
  have e3 : x.tdiv 7 = x / 7 := Int.tdiv_eq_ediv_of_nonneg hx.1
  have w1' : wr (x / 343) = x / 343 := wr_id (by omega) (by omega)
  have w2 : wr (x / 49) = x / 49 := wr_id (by omega) (by omega)
  have w3 : wr (x / 7) = x / 7 := wr_id (by omega) (by omega)
  have e4 : (x / 343).tmod 7 = x / 343 := by rw [Int.tmod_eq_emod_of_nonneg (by omega)]; omega
  have e5 : (x / 49).tmod 7 = x / 49 % 7 := Int.tmod_eq_emod_of_nonneg (by omega)
  have e6 : (x / 7).tmod 7 = x / 7 % 7 := Int.tmod_eq_emod_of_nonneg (by omega)
  have e7 : x.tmod 7 = x % 7 := Int.tmod_eq_emod_of_nonneg hx.1
  simp only [se] at h43
  (refine am_fnI (tb := tb_X3_lay) (n := 120) (Nat.le_of_ble_eq_true rfl) (Nat.le_of_ble_eq_true rfl) ?_; show rx_X3_lay 120 0 _ _ _ = _)
  simp [↓ri_X3_lay, rs_X3_lay_0, rs_X3_lay_1, rs_X3_lay_2, rs_X3_lay_3, rs_X3_lay_4, rs_X3_lay_7, rs_X3_lay_8, rs_X3_lay_11, rs_X3_lay_14, rs_X3_lay_15, rs_X3_lay_16, rs_X3_lay_19, rs_X3_lay_20, rs_X3_lay_21, rs_X3_lay_22, rs_X3_lay_24, rs_X3_lay_25, rs_X3_lay_26, rs_X3_lay_29, rs_X3_lay_32, -List.getElem?_eq_getElem, am_js, am_e, am_in, am_sl, rI, rZ, rV, rJ, rA, rC, kI, kJ, kR, am_one, am_nl, am_w8, tIc, tLc, tNul, tIld, tLld, tAld, tIst, tLst, tAst, tIinc, tI2, tDv, tL2, tLrem, tLs, tLcmp, tI2l, tL2i, tI2c, tDup, tDup2, tPop, tGo, tIfeq, tIfne, tIflt, tIfge, tIfgt, tIfle, tCmeq, tCmne, tCmlt, tCmge, tCmgt, tCmle, tNu, tTs, tGf, tPf, tGs, tIal, tIas, tBal, tBas, tAln, tSv, tSc, tSb, tSl, tSk, tCv, tCs, tCt, tMx, tMn, wr_10000, wr_100000, wr_1000000, wr_10000000, wr_100000000, wr_2400, wr_9999, wr_0, wr_1, wr_2, wr_3, wr_4, wr_5, wr_6, wr_7, wr_8, wr_9, wr_10, wr_11, wr_12, wr_13, wr_14, wr_15, wr_16, wr_17, wr_18, wr_19, wr_20, wr_21, wr_22, wr_23, wr_24, wr_25, wr_26, wr_27, wr_28, wr_29, wr_30, wr_31, wr_32, wr_33, wr_34, wr_35, wr_36, wr_37, wr_38, wr_39, wr_40, wr_41, wr_42, wr_43, wr_44, wr_45, wr_46, wr_47, wr_48, wr_49, wr_50, wr_51, wr_52, wr_53, wr_54, wr_55, wr_56, wr_57, wr_58, wr_59, wr_60, wr_61, wr_62, wr_63, wr_99, wr_100, wr_192, wr_255, wr_256, wr_343, wr_999, wr_1000, wr_2401, wr_2147483647, wr_65535, wr_m1, wr_m2, wr_m3, wr_m4, wr_m9, ak_1000, ak_1001, ak_1002, ak_0, ak_1, ak_2, ak_3, ak_4, ak_5, ak_6, ak_7, ak_8, ak_9, ak_10, ak_11, ak_12, ak_13, ak_14, ak_15, ak_16, ak_17, ak_18, ak_19, ak_20, ak_21, ak_22, ak_23, ak_24, ak_25, ak_26, ak_27, ak_28, ak_29, ak_30, ak_31, ak_32, ak_33, ak_34, ak_35, ak_36, ak_37, ak_38, ak_39, ak_40, ak_41, ak_42, ak_43, ak_44, ak_45, ak_46, ak_47, h43, j0, j3, gs j3, am_sevens, wx, e1, e2, e3, w1', w2, w3, e4, e5, e6, e7, su]
abbrev mi_X3_without : Mi := (yX3_without, cX3_without, 2, some .int, 1)
theorem mf_X3_without : am_mf mi_X3_without 2 := ⟨w_co_X3_without, w_in_X3, ⟨by decide +kernel, by decide +kernel⟩, by decide +kernel, by decide⟩
def tb_X3_without : List (Nat × Tr) := [(0, tIld 0 1), (1, tIld 0 1), (2, tGs (vR 1001)), (5, tIld 1 1), (6, tIal), (7, tDv Int.tdiv), (8, tIc 7 2), (10, tDv Int.tmod), (11, tGs (vR 1001)), (14, tIld 1 1), (15, tIal), (16, tI2 (fun a b => a * b)), (17, tI2 (fun a b => a - b))]
theorem ok_X3_without : Tok mi_X3_without tb_X3_without :=
  Tc (sd_iload_n dX3_without_0) <|
  Tc (sd_iload_n dX3_without_1) <|
  Tc (sd_gsSevensN (List.mem_of_getElem? (i := 7) rfl) dX3_without_2) <|
  Tc (sd_iload_n dX3_without_5) <|
  Tc (sd_ial dX3_without_6) <|
  Tc (sd_idiv dX3_without_7) <|
  Tc (sd_bipush (by decide +kernel) dX3_without_8) <|
  Tc (sd_irem dX3_without_10) <|
  Tc (sd_gsSevensN (List.mem_of_getElem? (i := 7) rfl) dX3_without_11) <|
  Tc (sd_iload_n dX3_without_14) <|
  Tc (sd_ial dX3_without_15) <|
  Tc (sd_imul dX3_without_16) <|
  Tc (sd_isub dX3_without_17) <|
  Tn
theorem rk_X3_without : Rok mi_X3_without rI [18] := rk_i dX3_without_18 <| rk_n
def rx_X3_without : Nat → Nat → AL → List AV → List AC → Option (Option AV × List AC) := am_r tb_X3_without rI [18]
theorem rs_X3_without_0 (n : Nat) (L : AL) (st : List AV) (M : List AC) : rx_X3_without (n + 1) 0 L st M = am_j (rx_X3_without n) ((tIld 0 1) 0 L st M) := rfl
theorem rs_X3_without_1 (n : Nat) (L : AL) (st : List AV) (M : List AC) : rx_X3_without (n + 1) 1 L st M = am_j (rx_X3_without n) ((tIld 0 1) 1 L st M) := rfl
theorem rs_X3_without_2 (n : Nat) (L : AL) (st : List AV) (M : List AC) : rx_X3_without (n + 1) 2 L st M = am_j (rx_X3_without n) ((tGs (vR 1001)) 2 L st M) := rfl
theorem rs_X3_without_5 (n : Nat) (L : AL) (st : List AV) (M : List AC) : rx_X3_without (n + 1) 5 L st M = am_j (rx_X3_without n) ((tIld 1 1) 5 L st M) := rfl
theorem rs_X3_without_6 (n : Nat) (L : AL) (st : List AV) (M : List AC) : rx_X3_without (n + 1) 6 L st M = am_j (rx_X3_without n) (tIal 6 L st M) := rfl
theorem rs_X3_without_7 (n : Nat) (L : AL) (st : List AV) (M : List AC) : rx_X3_without (n + 1) 7 L st M = am_j (rx_X3_without n) ((tDv Int.tdiv) 7 L st M) := rfl
theorem rs_X3_without_8 (n : Nat) (L : AL) (st : List AV) (M : List AC) : rx_X3_without (n + 1) 8 L st M = am_j (rx_X3_without n) ((tIc 7 2) 8 L st M) := rfl
theorem rs_X3_without_10 (n : Nat) (L : AL) (st : List AV) (M : List AC) : rx_X3_without (n + 1) 10 L st M = am_j (rx_X3_without n) ((tDv Int.tmod) 10 L st M) := rfl
theorem rs_X3_without_11 (n : Nat) (L : AL) (st : List AV) (M : List AC) : rx_X3_without (n + 1) 11 L st M = am_j (rx_X3_without n) ((tGs (vR 1001)) 11 L st M) := rfl
theorem rs_X3_without_14 (n : Nat) (L : AL) (st : List AV) (M : List AC) : rx_X3_without (n + 1) 14 L st M = am_j (rx_X3_without n) ((tIld 1 1) 14 L st M) := rfl
theorem rs_X3_without_15 (n : Nat) (L : AL) (st : List AV) (M : List AC) : rx_X3_without (n + 1) 15 L st M = am_j (rx_X3_without n) (tIal 15 L st M) := rfl
theorem rs_X3_without_16 (n : Nat) (L : AL) (st : List AV) (M : List AC) : rx_X3_without (n + 1) 16 L st M = am_j (rx_X3_without n) ((tI2 (fun a b => a * b)) 16 L st M) := rfl
theorem rs_X3_without_17 (n : Nat) (L : AL) (st : List AV) (M : List AC) : rx_X3_without (n + 1) 17 L st M = am_j (rx_X3_without n) ((tI2 (fun a b => a - b)) 17 L st M) := rfl
theorem rs_X3_without_18 (n : Nat) (L : AL) (st : List AV) (M : List AC) : rx_X3_without (n + 1) 18 L st M = am_e rI st M := rfl
theorem ri_X3_without (c : Prop) [Decidable c] (p q n : Nat) (L : AL) (st : List AV) (M : List AC) : rx_X3_without n (if c then p else q) L st M = if c then rx_X3_without n p L st M else rx_X3_without n q L st M := by split <;> rfl
theorem rm_X3_without {n k pc : Nat} {L : AL} {st : List AV} {M : List AC} {x : Option AV × List AC} (h : rx_X3_without n pc L st M = some x) (hk : n ≤ k) : rx_X3_without k pc L st M = some x := am_r_mono n k h hk
def fn_X3_without : Fn := am_fn rx_X3_without 2
theorem fok_X3_without : Fok mi_X3_without fn_X3_without := fun _ _ _ _ h => am_fok ok_X3_without rk_X3_without rfl h
theorem sp_X3_without (x c : Int) (hx : 0 ≤ x ∧ x < 2401) (hc : 0 ≤ c ∧ c < 4) (V : List AC) : fn_X3_without [vI x, vI c] V = some (some (vI (so (s4 (su x) c.toNat 0))), V) := by
  have wx : wr x = x := wr_id (by omega) (by omega)
  have e1 : x.tdiv 343 = x / 343 := Int.tdiv_eq_ediv_of_nonneg hx.1
  have e2 : x.tdiv 49 = x / 49 := Int.tdiv_eq_ediv_of_nonneg hx.1
  have e3 : x.tdiv 7 = x / 7 := Int.tdiv_eq_ediv_of_nonneg hx.1
  have w1' : wr (x / 343) = x / 343 := wr_id (by omega) (by omega)
  have w2 : wr (x / 49) = x / 49 := wr_id (by omega) (by omega)
  have w3 : wr (x / 7) = x / 7 := wr_id (by omega) (by omega)
  have e4 : (x / 343).tmod 7 = x / 343 % 7 := Int.tmod_eq_emod_of_nonneg (by omega)
  have e5 : (x / 49).tmod 7 = x / 49 % 7 := Int.tmod_eq_emod_of_nonneg (by omega)
  have e6 : (x / 7).tmod 7 = x / 7 % 7 := Int.tmod_eq_emod_of_nonneg (by omega)
  have e7 : x.tmod 7 = x % 7 := Int.tmod_eq_emod_of_nonneg hx.1
  rcases c4 hc with rfl | rfl | rfl | rfl
  · have e : so (s4 (su x) (0 : Int).toNat 0) = x - x / 343 % 7 * 343 := by simp only [so, s4, su, Int.toNat_zero]; omega
    rw [e]
    (refine am_fnI (tb := tb_X3_without) (n := 40) (Nat.le_of_ble_eq_true rfl) (Nat.le_of_ble_eq_true rfl) ?_; show rx_X3_without 40 0 _ _ _ = _)
    simp [↓ri_X3_without, rs_X3_without_0, rs_X3_without_1, rs_X3_without_2, rs_X3_without_5, rs_X3_without_6, rs_X3_without_7, rs_X3_without_8, rs_X3_without_10, rs_X3_without_11, rs_X3_without_14, rs_X3_without_15, rs_X3_without_16, rs_X3_without_17, rs_X3_without_18, -List.getElem?_eq_getElem, am_js, am_e, am_in, am_sl, rI, rZ, rV, rJ, rA, rC, kI, kJ, kR, am_one, am_nl, am_w8, tIc, tLc, tNul, tIld, tLld, tAld, tIst, tLst, tAst, tIinc, tI2, tDv, tL2, tLrem, tLs, tLcmp, tI2l, tL2i, tI2c, tDup, tDup2, tPop, tGo, tIfeq, tIfne, tIflt, tIfge, tIfgt, tIfle, tCmeq, tCmne, tCmlt, tCmge, tCmgt, tCmle, tNu, tTs, tGf, tPf, tGs, tIal, tIas, tBal, tBas, tAln, tSv, tSc, tSb, tSl, tSk, tCv, tCs, tCt, tMx, tMn, wr_10000, wr_100000, wr_1000000, wr_10000000, wr_100000000, wr_2400, wr_9999, wr_0, wr_1, wr_2, wr_3, wr_4, wr_5, wr_6, wr_7, wr_8, wr_9, wr_10, wr_11, wr_12, wr_13, wr_14, wr_15, wr_16, wr_17, wr_18, wr_19, wr_20, wr_21, wr_22, wr_23, wr_24, wr_25, wr_26, wr_27, wr_28, wr_29, wr_30, wr_31, wr_32, wr_33, wr_34, wr_35, wr_36, wr_37, wr_38, wr_39, wr_40, wr_41, wr_42, wr_43, wr_44, wr_45, wr_46, wr_47, wr_48, wr_49, wr_50, wr_51, wr_52, wr_53, wr_54, wr_55, wr_56, wr_57, wr_58, wr_59, wr_60, wr_61, wr_62, wr_63, wr_99, wr_100, wr_192, wr_255, wr_256, wr_343, wr_999, wr_1000, wr_2401, wr_2147483647, wr_65535, wr_m1, wr_m2, wr_m3, wr_m4, wr_m9, ak_1000, ak_1001, ak_1002, ak_0, ak_1, ak_2, ak_3, ak_4, ak_5, ak_6, ak_7, ak_8, ak_9, ak_10, ak_11, ak_12, ak_13, ak_14, ak_15, ak_16, ak_17, ak_18, ak_19, ak_20, ak_21, ak_22, ak_23, ak_24, ak_25, ak_26, ak_27, ak_28, ak_29, ak_30, ak_31, ak_32, ak_33, ak_34, ak_35, ak_36, ak_37, ak_38, ak_39, ak_40, ak_41, ak_42, ak_43, ak_44, ak_45, ak_46, ak_47, am_sevens, wx, e1, w1', e4]
  · have e : so (s4 (su x) (1 : Int).toNat 0) = x - x / 49 % 7 * 49 := by simp only [so, s4, su, Int.toNat_one]; omega
    rw [e]
    (refine am_fnI (tb := tb_X3_without) (n := 40) (Nat.le_of_ble_eq_true rfl) (Nat.le_of_ble_eq_true rfl) ?_; show rx_X3_without 40 0 _ _ _ = _)
    simp [↓ri_X3_without, rs_X3_without_0, rs_X3_without_1, rs_X3_without_2, rs_X3_without_5, rs_X3_without_6, rs_X3_without_7, rs_X3_without_8, rs_X3_without_10, rs_X3_without_11, rs_X3_without_14, rs_X3_without_15, rs_X3_without_16, rs_X3_without_17, rs_X3_without_18, -List.getElem?_eq_getElem, am_js, am_e, am_in, am_sl, rI, rZ, rV, rJ, rA, rC, kI, kJ, kR, am_one, am_nl, am_w8, tIc, tLc, tNul, tIld, tLld, tAld, tIst, tLst, tAst, tIinc, tI2, tDv, tL2, tLrem, tLs, tLcmp, tI2l, tL2i, tI2c, tDup, tDup2, tPop, tGo, tIfeq, tIfne, tIflt, tIfge, tIfgt, tIfle, tCmeq, tCmne, tCmlt, tCmge, tCmgt, tCmle, tNu, tTs, tGf, tPf, tGs, tIal, tIas, tBal, tBas, tAln, tSv, tSc, tSb, tSl, tSk, tCv, tCs, tCt, tMx, tMn, wr_10000, wr_100000, wr_1000000, wr_10000000, wr_100000000, wr_2400, wr_9999, wr_0, wr_1, wr_2, wr_3, wr_4, wr_5, wr_6, wr_7, wr_8, wr_9, wr_10, wr_11, wr_12, wr_13, wr_14, wr_15, wr_16, wr_17, wr_18, wr_19, wr_20, wr_21, wr_22, wr_23, wr_24, wr_25, wr_26, wr_27, wr_28, wr_29, wr_30, wr_31, wr_32, wr_33, wr_34, wr_35, wr_36, wr_37, wr_38, wr_39, wr_40, wr_41, wr_42, wr_43, wr_44, wr_45, wr_46, wr_47, wr_48, wr_49, wr_50, wr_51, wr_52, wr_53, wr_54, wr_55, wr_56, wr_57, wr_58, wr_59, wr_60, wr_61, wr_62, wr_63, wr_99, wr_100, wr_192, wr_255, wr_256, wr_343, wr_999, wr_1000, wr_2401, wr_2147483647, wr_65535, wr_m1, wr_m2, wr_m3, wr_m4, wr_m9, ak_1000, ak_1001, ak_1002, ak_0, ak_1, ak_2, ak_3, ak_4, ak_5, ak_6, ak_7, ak_8, ak_9, ak_10, ak_11, ak_12, ak_13, ak_14, ak_15, ak_16, ak_17, ak_18, ak_19, ak_20, ak_21, ak_22, ak_23, ak_24, ak_25, ak_26, ak_27, ak_28, ak_29, ak_30, ak_31, ak_32, ak_33, ak_34, ak_35, ak_36, ak_37, ak_38, ak_39, ak_40, ak_41, ak_42, ak_43, ak_44, ak_45, ak_46, ak_47, am_sevens, wx, e2, w2, e5]
  · have e : so (s4 (su x) (2 : Int).toNat 0) = x - x / 7 % 7 * 7 := by simp only [so, s4, su, show Int.toNat 2 = 2 from rfl]; omega
    rw [e]
    (refine am_fnI (tb := tb_X3_without) (n := 40) (Nat.le_of_ble_eq_true rfl) (Nat.le_of_ble_eq_true rfl) ?_; show rx_X3_without 40 0 _ _ _ = _)
    simp [↓ri_X3_without, rs_X3_without_0, rs_X3_without_1, rs_X3_without_2, rs_X3_without_5, rs_X3_without_6, rs_X3_without_7, rs_X3_without_8, rs_X3_without_10, rs_X3_without_11, rs_X3_without_14, rs_X3_without_15, rs_X3_without_16, rs_X3_without_17, rs_X3_without_18, -List.getElem?_eq_getElem, am_js, am_e, am_in, am_sl, rI, rZ, rV, rJ, rA, rC, kI, kJ, kR, am_one, am_nl, am_w8, tIc, tLc, tNul, tIld, tLld, tAld, tIst, tLst, tAst, tIinc, tI2, tDv, tL2, tLrem, tLs, tLcmp, tI2l, tL2i, tI2c, tDup, tDup2, tPop, tGo, tIfeq, tIfne, tIflt, tIfge, tIfgt, tIfle, tCmeq, tCmne, tCmlt, tCmge, tCmgt, tCmle, tNu, tTs, tGf, tPf, tGs, tIal, tIas, tBal, tBas, tAln, tSv, tSc, tSb, tSl, tSk, tCv, tCs, tCt, tMx, tMn, wr_10000, wr_100000, wr_1000000, wr_10000000, wr_100000000, wr_2400, wr_9999, wr_0, wr_1, wr_2, wr_3, wr_4, wr_5, wr_6, wr_7, wr_8, wr_9, wr_10, wr_11, wr_12, wr_13, wr_14, wr_15, wr_16, wr_17, wr_18, wr_19, wr_20, wr_21, wr_22, wr_23, wr_24, wr_25, wr_26, wr_27, wr_28, wr_29, wr_30, wr_31, wr_32, wr_33, wr_34, wr_35, wr_36, wr_37, wr_38, wr_39, wr_40, wr_41, wr_42, wr_43, wr_44, wr_45, wr_46, wr_47, wr_48, wr_49, wr_50, wr_51, wr_52, wr_53, wr_54, wr_55, wr_56, wr_57, wr_58, wr_59, wr_60, wr_61, wr_62, wr_63, wr_99, wr_100, wr_192, wr_255, wr_256, wr_343, wr_999, wr_1000, wr_2401, wr_2147483647, wr_65535, wr_m1, wr_m2, wr_m3, wr_m4, wr_m9, ak_1000, ak_1001, ak_1002, ak_0, ak_1, ak_2, ak_3, ak_4, ak_5, ak_6, ak_7, ak_8, ak_9, ak_10, ak_11, ak_12, ak_13, ak_14, ak_15, ak_16, ak_17, ak_18, ak_19, ak_20, ak_21, ak_22, ak_23, ak_24, ak_25, ak_26, ak_27, ak_28, ak_29, ak_30, ak_31, ak_32, ak_33, ak_34, ak_35, ak_36, ak_37, ak_38, ak_39, ak_40, ak_41, ak_42, ak_43, ak_44, ak_45, ak_46, ak_47, am_sevens, wx, e3, w3, e6]
  · have e : so (s4 (su x) (3 : Int).toNat 0) = x - x % 7 := by simp only [so, s4, su, show Int.toNat 3 = 3 from rfl]; omega
    rw [e]
    (refine am_fnI (tb := tb_X3_without) (n := 40) (Nat.le_of_ble_eq_true rfl) (Nat.le_of_ble_eq_true rfl) ?_; show rx_X3_without 40 0 _ _ _ = _)
    simp [↓ri_X3_without, rs_X3_without_0, rs_X3_without_1, rs_X3_without_2, rs_X3_without_5, rs_X3_without_6, rs_X3_without_7, rs_X3_without_8, rs_X3_without_10, rs_X3_without_11, rs_X3_without_14, rs_X3_without_15, rs_X3_without_16, rs_X3_without_17, rs_X3_without_18, -List.getElem?_eq_getElem, am_js, am_e, am_in, am_sl, rI, rZ, rV, rJ, rA, rC, kI, kJ, kR, am_one, am_nl, am_w8, tIc, tLc, tNul, tIld, tLld, tAld, tIst, tLst, tAst, tIinc, tI2, tDv, tL2, tLrem, tLs, tLcmp, tI2l, tL2i, tI2c, tDup, tDup2, tPop, tGo, tIfeq, tIfne, tIflt, tIfge, tIfgt, tIfle, tCmeq, tCmne, tCmlt, tCmge, tCmgt, tCmle, tNu, tTs, tGf, tPf, tGs, tIal, tIas, tBal, tBas, tAln, tSv, tSc, tSb, tSl, tSk, tCv, tCs, tCt, tMx, tMn, wr_10000, wr_100000, wr_1000000, wr_10000000, wr_100000000, wr_2400, wr_9999, wr_0, wr_1, wr_2, wr_3, wr_4, wr_5, wr_6, wr_7, wr_8, wr_9, wr_10, wr_11, wr_12, wr_13, wr_14, wr_15, wr_16, wr_17, wr_18, wr_19, wr_20, wr_21, wr_22, wr_23, wr_24, wr_25, wr_26, wr_27, wr_28, wr_29, wr_30, wr_31, wr_32, wr_33, wr_34, wr_35, wr_36, wr_37, wr_38, wr_39, wr_40, wr_41, wr_42, wr_43, wr_44, wr_45, wr_46, wr_47, wr_48, wr_49, wr_50, wr_51, wr_52, wr_53, wr_54, wr_55, wr_56, wr_57, wr_58, wr_59, wr_60, wr_61, wr_62, wr_63, wr_99, wr_100, wr_192, wr_255, wr_256, wr_343, wr_999, wr_1000, wr_2401, wr_2147483647, wr_65535, wr_m1, wr_m2, wr_m3, wr_m4, wr_m9, ak_1000, ak_1001, ak_1002, ak_0, ak_1, ak_2, ak_3, ak_4, ak_5, ak_6, ak_7, ak_8, ak_9, ak_10, ak_11, ak_12, ak_13, ak_14, ak_15, ak_16, ak_17, ak_18, ak_19, ak_20, ak_21, ak_22, ak_23, ak_24, ak_25, ak_26, ak_27, ak_28, ak_29, ak_30, ak_31, ak_32, ak_33, ak_34, ak_35, ak_36, ak_37, ak_38, ak_39, ak_40, ak_41, ak_42, ak_43, ak_44, ak_45, ak_46, ak_47, am_sevens, wx, e7]
abbrev mi_X3_isDeep : Mi := (yX3_isDeep, cX3_isDeep, 3, some .boolean, 1)
theorem mf_X3_isDeep : am_mf mi_X3_isDeep 2 := ⟨w_co_X3_isDeep, w_in_X3, ⟨by decide +kernel, by decide +kernel⟩, by decide +kernel, by decide⟩
def tb_X3_isDeep : List (Nat × Tr) := [(0, tIc 0 1), (1, tIst 2 1), (2, tIld 2 1), (3, tIc 4 1), (4, tCmge 29), (7, tIld 0 1), (8, tGs (vR 1001)), (11, tIld 2 1), (12, tIal), (13, tDv Int.tdiv), (14, tIc 7 2), (16, tDv Int.tmod), (17, tIld 1 1), (18, tCmge 23), (21, tIc 0 1), (23, tIinc 2 1), (26, tGo 2), (29, tIc 1 1)]
theorem ok_X3_isDeep : Tok mi_X3_isDeep tb_X3_isDeep :=
  Tc (sd_iconst rfl dX3_isDeep_0) <|
  Tc (sd_istore_n dX3_isDeep_1) <|
  Tc (sd_iload_n dX3_isDeep_2) <|
  Tc (sd_iconst rfl dX3_isDeep_3) <|
  Tc (sd_cm_ge (by decide) dX3_isDeep_4) <|
  Tc (sd_iload_n dX3_isDeep_7) <|
  Tc (sd_gsSevensN (List.mem_of_getElem? (i := 7) rfl) dX3_isDeep_8) <|
  Tc (sd_iload_n dX3_isDeep_11) <|
  Tc (sd_ial dX3_isDeep_12) <|
  Tc (sd_idiv dX3_isDeep_13) <|
  Tc (sd_bipush (by decide +kernel) dX3_isDeep_14) <|
  Tc (sd_irem dX3_isDeep_16) <|
  Tc (sd_iload_n dX3_isDeep_17) <|
  Tc (sd_cm_ge (by decide) dX3_isDeep_18) <|
  Tc (sd_iconst rfl dX3_isDeep_21) <|
  Tc (sd_iinc dX3_isDeep_23) <|
  Tc (sd_goto (by decide) dX3_isDeep_26) <|
  Tc (sd_iconst rfl dX3_isDeep_29) <|
  Tn
theorem rk_X3_isDeep : Rok mi_X3_isDeep rZ [22, 30] := rk_z dX3_isDeep_22 <| rk_z dX3_isDeep_30 <| rk_n
def rx_X3_isDeep : Nat → Nat → AL → List AV → List AC → Option (Option AV × List AC) := am_r tb_X3_isDeep rZ [22, 30]
theorem rs_X3_isDeep_0 (n : Nat) (L : AL) (st : List AV) (M : List AC) : rx_X3_isDeep (n + 1) 0 L st M = am_j (rx_X3_isDeep n) ((tIc 0 1) 0 L st M) := rfl
theorem rs_X3_isDeep_1 (n : Nat) (L : AL) (st : List AV) (M : List AC) : rx_X3_isDeep (n + 1) 1 L st M = am_j (rx_X3_isDeep n) ((tIst 2 1) 1 L st M) := rfl
theorem rs_X3_isDeep_2 (n : Nat) (L : AL) (st : List AV) (M : List AC) : rx_X3_isDeep (n + 1) 2 L st M = am_j (rx_X3_isDeep n) ((tIld 2 1) 2 L st M) := rfl
theorem rs_X3_isDeep_3 (n : Nat) (L : AL) (st : List AV) (M : List AC) : rx_X3_isDeep (n + 1) 3 L st M = am_j (rx_X3_isDeep n) ((tIc 4 1) 3 L st M) := rfl
theorem rs_X3_isDeep_4 (n : Nat) (L : AL) (st : List AV) (M : List AC) : rx_X3_isDeep (n + 1) 4 L st M = am_j (rx_X3_isDeep n) ((tCmge 29) 4 L st M) := rfl
theorem rs_X3_isDeep_7 (n : Nat) (L : AL) (st : List AV) (M : List AC) : rx_X3_isDeep (n + 1) 7 L st M = am_j (rx_X3_isDeep n) ((tIld 0 1) 7 L st M) := rfl
theorem rs_X3_isDeep_8 (n : Nat) (L : AL) (st : List AV) (M : List AC) : rx_X3_isDeep (n + 1) 8 L st M = am_j (rx_X3_isDeep n) ((tGs (vR 1001)) 8 L st M) := rfl
theorem rs_X3_isDeep_11 (n : Nat) (L : AL) (st : List AV) (M : List AC) : rx_X3_isDeep (n + 1) 11 L st M = am_j (rx_X3_isDeep n) ((tIld 2 1) 11 L st M) := rfl
theorem rs_X3_isDeep_12 (n : Nat) (L : AL) (st : List AV) (M : List AC) : rx_X3_isDeep (n + 1) 12 L st M = am_j (rx_X3_isDeep n) (tIal 12 L st M) := rfl
theorem rs_X3_isDeep_13 (n : Nat) (L : AL) (st : List AV) (M : List AC) : rx_X3_isDeep (n + 1) 13 L st M = am_j (rx_X3_isDeep n) ((tDv Int.tdiv) 13 L st M) := rfl
theorem rs_X3_isDeep_14 (n : Nat) (L : AL) (st : List AV) (M : List AC) : rx_X3_isDeep (n + 1) 14 L st M = am_j (rx_X3_isDeep n) ((tIc 7 2) 14 L st M) := rfl
theorem rs_X3_isDeep_16 (n : Nat) (L : AL) (st : List AV) (M : List AC) : rx_X3_isDeep (n + 1) 16 L st M = am_j (rx_X3_isDeep n) ((tDv Int.tmod) 16 L st M) := rfl
theorem rs_X3_isDeep_17 (n : Nat) (L : AL) (st : List AV) (M : List AC) : rx_X3_isDeep (n + 1) 17 L st M = am_j (rx_X3_isDeep n) ((tIld 1 1) 17 L st M) := rfl
theorem rs_X3_isDeep_18 (n : Nat) (L : AL) (st : List AV) (M : List AC) : rx_X3_isDeep (n + 1) 18 L st M = am_j (rx_X3_isDeep n) ((tCmge 23) 18 L st M) := rfl
theorem rs_X3_isDeep_21 (n : Nat) (L : AL) (st : List AV) (M : List AC) : rx_X3_isDeep (n + 1) 21 L st M = am_j (rx_X3_isDeep n) ((tIc 0 1) 21 L st M) := rfl
theorem rs_X3_isDeep_23 (n : Nat) (L : AL) (st : List AV) (M : List AC) : rx_X3_isDeep (n + 1) 23 L st M = am_j (rx_X3_isDeep n) ((tIinc 2 1) 23 L st M) := rfl
theorem rs_X3_isDeep_26 (n : Nat) (L : AL) (st : List AV) (M : List AC) : rx_X3_isDeep (n + 1) 26 L st M = am_j (rx_X3_isDeep n) ((tGo 2) 26 L st M) := rfl
theorem rs_X3_isDeep_29 (n : Nat) (L : AL) (st : List AV) (M : List AC) : rx_X3_isDeep (n + 1) 29 L st M = am_j (rx_X3_isDeep n) ((tIc 1 1) 29 L st M) := rfl
theorem rs_X3_isDeep_22 (n : Nat) (L : AL) (st : List AV) (M : List AC) : rx_X3_isDeep (n + 1) 22 L st M = am_e rZ st M := rfl
theorem rs_X3_isDeep_30 (n : Nat) (L : AL) (st : List AV) (M : List AC) : rx_X3_isDeep (n + 1) 30 L st M = am_e rZ st M := rfl
theorem ri_X3_isDeep (c : Prop) [Decidable c] (p q n : Nat) (L : AL) (st : List AV) (M : List AC) : rx_X3_isDeep n (if c then p else q) L st M = if c then rx_X3_isDeep n p L st M else rx_X3_isDeep n q L st M := by split <;> rfl
theorem rm_X3_isDeep {n k pc : Nat} {L : AL} {st : List AV} {M : List AC} {x : Option AV × List AC} (h : rx_X3_isDeep n pc L st M = some x) (hk : n ≤ k) : rx_X3_isDeep k pc L st M = some x := am_r_mono n k h hk
def fn_X3_isDeep : Fn := am_fn rx_X3_isDeep 3
theorem fok_X3_isDeep : Fok mi_X3_isDeep fn_X3_isDeep := fun _ _ _ _ h => am_fok ok_X3_isDeep rk_X3_isDeep rfl h
theorem sp_X3_isDeep (x m : Int) (hx : 0 ≤ x ∧ x < 2401) (hm : 0 ≤ m ∧ m ≤ 6) (V : List AC) : fn_X3_isDeep [vI x, vI m] V = some (some (vI (if m ≤ (su x).1 ∧ m ≤ (su x).2.1 ∧ m ≤ (su x).2.2.1 ∧ m ≤ (su x).2.2.2 then 1 else 0)), V) := by
  have wx : wr x = x := wr_id (by omega) (by omega)
  have wm : wr m = m := wr_id (by omega) (by omega)
  have e1 : x.tdiv 343 = x / 343 := Int.tdiv_eq_ediv_of_nonneg hx.1
  have e2 : x.tdiv 49 = x / 49 := Int.tdiv_eq_ediv_of_nonneg hx.1
  have e3 : x.tdiv 7 = x / 7 := Int.tdiv_eq_ediv_of_nonneg hx.1
  have w1' : wr (x / 343) = x / 343 := wr_id (by omega) (by omega)
  have w2 : wr (x / 49) = x / 49 := wr_id (by omega) (by omega)
  have w3 : wr (x / 7) = x / 7 := wr_id (by omega) (by omega)
  have e4 : (x / 343).tmod 7 = (su x).1 := by rw [Int.tmod_eq_emod_of_nonneg (by omega)]; show x / 343 % 7 = x / 343; omega
  have e5 : (x / 49).tmod 7 = (su x).2.1 := Int.tmod_eq_emod_of_nonneg (by omega)
  have e6 : (x / 7).tmod 7 = (su x).2.2.1 := Int.tmod_eq_emod_of_nonneg (by omega)
  have e7 : x.tmod 7 = (su x).2.2.2 := Int.tmod_eq_emod_of_nonneg hx.1
  have hs := su_rng hx
  generalize su x = u at e4 e5 e6 e7 hs ⊢
  obtain ⟨u0, u1, u2, u3⟩ := i4_wr hs (by decide) (by decide)
  (refine am_fnI (tb := tb_X3_isDeep) (n := 120) (Nat.le_of_ble_eq_true rfl) (Nat.le_of_ble_eq_true rfl) ?_; show rx_X3_isDeep 120 0 _ _ _ = _)
  by_cases a0 : m ≤ u.1 <;> by_cases a1 : m ≤ u.2.1 <;> by_cases a2 : m ≤ u.2.2.1 <;> by_cases a3 : m ≤ u.2.2.2 <;>
  simp [↓ri_X3_isDeep, rs_X3_isDeep_0, rs_X3_isDeep_1, rs_X3_isDeep_2, rs_X3_isDeep_3, rs_X3_isDeep_4, rs_X3_isDeep_7, rs_X3_isDeep_8, rs_X3_isDeep_11, rs_X3_isDeep_12, rs_X3_isDeep_13, rs_X3_isDeep_14, rs_X3_isDeep_16, rs_X3_isDeep_17, rs_X3_isDeep_18, rs_X3_isDeep_21, rs_X3_isDeep_23, rs_X3_isDeep_26, rs_X3_isDeep_29, rs_X3_isDeep_22, rs_X3_isDeep_30, -List.getElem?_eq_getElem, am_js, am_e, am_in, am_sl, rI, rZ, rV, rJ, rA, rC, kI, kJ, kR, am_one, am_nl, am_w8, tIc, tLc, tNul, tIld, tLld, tAld, tIst, tLst, tAst, tIinc, tI2, tDv, tL2, tLrem, tLs, tLcmp, tI2l, tL2i, tI2c, tDup, tDup2, tPop, tGo, tIfeq, tIfne, tIflt, tIfge, tIfgt, tIfle, tCmeq, tCmne, tCmlt, tCmge, tCmgt, tCmle, tNu, tTs, tGf, tPf, tGs, tIal, tIas, tBal, tBas, tAln, tSv, tSc, tSb, tSl, tSk, tCv, tCs, tCt, tMx, tMn, wr_10000, wr_100000, wr_1000000, wr_10000000, wr_100000000, wr_2400, wr_9999, wr_0, wr_1, wr_2, wr_3, wr_4, wr_5, wr_6, wr_7, wr_8, wr_9, wr_10, wr_11, wr_12, wr_13, wr_14, wr_15, wr_16, wr_17, wr_18, wr_19, wr_20, wr_21, wr_22, wr_23, wr_24, wr_25, wr_26, wr_27, wr_28, wr_29, wr_30, wr_31, wr_32, wr_33, wr_34, wr_35, wr_36, wr_37, wr_38, wr_39, wr_40, wr_41, wr_42, wr_43, wr_44, wr_45, wr_46, wr_47, wr_48, wr_49, wr_50, wr_51, wr_52, wr_53, wr_54, wr_55, wr_56, wr_57, wr_58, wr_59, wr_60, wr_61, wr_62, wr_63, wr_99, wr_100, wr_192, wr_255, wr_256, wr_343, wr_999, wr_1000, wr_2401, wr_2147483647, wr_65535, wr_m1, wr_m2, wr_m3, wr_m4, wr_m9, ak_1000, ak_1001, ak_1002, ak_0, ak_1, ak_2, ak_3, ak_4, ak_5, ak_6, ak_7, ak_8, ak_9, ak_10, ak_11, ak_12, ak_13, ak_14, ak_15, ak_16, ak_17, ak_18, ak_19, ak_20, ak_21, ak_22, ak_23, ak_24, ak_25, ak_26, ak_27, ak_28, ak_29, ak_30, ak_31, ak_32, ak_33, ak_34, ak_35, ak_36, ak_37, ak_38, ak_39, ak_40, ak_41, ak_42, ak_43, ak_44, ak_45, ak_46, ak_47, am_sevens, wx, wm, e1, e2, e3, w1', w2, w3, e4, e5, e6, e7, u0, u1, u2, u3, a0, a1, a2, a3]
abbrev mi_J7_fill_53178 : Mi := (yJ7_fill_53178, cJ7_fill_53178, 4, none, 1)
theorem mf_J7_fill_53178 : am_mf mi_J7_fill_53178 2 := ⟨w_co_J7_fill_53178, w_in_J7, ⟨by decide +kernel, by decide +kernel⟩, by decide +kernel, by decide⟩
def tb_J7_fill_53178 : List (Nat × Tr) := [(0, tIc 0 1), (1, tIst 2 1), (2, tAld 0 1), (3, tAln), (4, tIst 3 1), (5, tIld 2 1), (6, tIld 3 1), (7, tCmge 20), (10, tAld 0 1), (11, tIld 2 1), (12, tIld 1 1), (13, tIas), (14, tIinc 2 1), (17, tGo 5)]
theorem ok_J7_fill_53178 : Tok mi_J7_fill_53178 tb_J7_fill_53178 :=
  Tc (sd_iconst rfl dJ7_fill_53178_0) <|
  Tc (sd_istore_n dJ7_fill_53178_1) <|
  Tc (sd_aload_n dJ7_fill_53178_2) <|
  Tc (sd_aln dJ7_fill_53178_3) <|
  Tc (sd_istore_n dJ7_fill_53178_4) <|
  Tc (sd_iload_n dJ7_fill_53178_5) <|
  Tc (sd_iload_n dJ7_fill_53178_6) <|
  Tc (sd_cm_ge (by decide) dJ7_fill_53178_7) <|
  Tc (sd_aload_n dJ7_fill_53178_10) <|
  Tc (sd_iload_n dJ7_fill_53178_11) <|
  Tc (sd_iload_n dJ7_fill_53178_12) <|
  Tc (sd_ias dJ7_fill_53178_13) <|
  Tc (sd_iinc dJ7_fill_53178_14) <|
  Tc (sd_goto (by decide) dJ7_fill_53178_17) <|
  Tn
theorem rk_J7_fill_53178 : Rok mi_J7_fill_53178 rV [20] := rk_v dJ7_fill_53178_20 <| rk_n
def rx_J7_fill_53178 : Nat → Nat → AL → List AV → List AC → Option (Option AV × List AC) := am_r tb_J7_fill_53178 rV [20]
theorem rs_J7_fill_53178_0 (n : Nat) (L : AL) (st : List AV) (M : List AC) : rx_J7_fill_53178 (n + 1) 0 L st M = am_j (rx_J7_fill_53178 n) ((tIc 0 1) 0 L st M) := rfl
theorem rs_J7_fill_53178_1 (n : Nat) (L : AL) (st : List AV) (M : List AC) : rx_J7_fill_53178 (n + 1) 1 L st M = am_j (rx_J7_fill_53178 n) ((tIst 2 1) 1 L st M) := rfl
theorem rs_J7_fill_53178_2 (n : Nat) (L : AL) (st : List AV) (M : List AC) : rx_J7_fill_53178 (n + 1) 2 L st M = am_j (rx_J7_fill_53178 n) ((tAld 0 1) 2 L st M) := rfl
theorem rs_J7_fill_53178_3 (n : Nat) (L : AL) (st : List AV) (M : List AC) : rx_J7_fill_53178 (n + 1) 3 L st M = am_j (rx_J7_fill_53178 n) (tAln 3 L st M) := rfl
theorem rs_J7_fill_53178_4 (n : Nat) (L : AL) (st : List AV) (M : List AC) : rx_J7_fill_53178 (n + 1) 4 L st M = am_j (rx_J7_fill_53178 n) ((tIst 3 1) 4 L st M) := rfl
theorem rs_J7_fill_53178_5 (n : Nat) (L : AL) (st : List AV) (M : List AC) : rx_J7_fill_53178 (n + 1) 5 L st M = am_j (rx_J7_fill_53178 n) ((tIld 2 1) 5 L st M) := rfl
theorem rs_J7_fill_53178_6 (n : Nat) (L : AL) (st : List AV) (M : List AC) : rx_J7_fill_53178 (n + 1) 6 L st M = am_j (rx_J7_fill_53178 n) ((tIld 3 1) 6 L st M) := rfl
theorem rs_J7_fill_53178_7 (n : Nat) (L : AL) (st : List AV) (M : List AC) : rx_J7_fill_53178 (n + 1) 7 L st M = am_j (rx_J7_fill_53178 n) ((tCmge 20) 7 L st M) := rfl
theorem rs_J7_fill_53178_10 (n : Nat) (L : AL) (st : List AV) (M : List AC) : rx_J7_fill_53178 (n + 1) 10 L st M = am_j (rx_J7_fill_53178 n) ((tAld 0 1) 10 L st M) := rfl
theorem rs_J7_fill_53178_11 (n : Nat) (L : AL) (st : List AV) (M : List AC) : rx_J7_fill_53178 (n + 1) 11 L st M = am_j (rx_J7_fill_53178 n) ((tIld 2 1) 11 L st M) := rfl
theorem rs_J7_fill_53178_12 (n : Nat) (L : AL) (st : List AV) (M : List AC) : rx_J7_fill_53178 (n + 1) 12 L st M = am_j (rx_J7_fill_53178 n) ((tIld 1 1) 12 L st M) := rfl
theorem rs_J7_fill_53178_13 (n : Nat) (L : AL) (st : List AV) (M : List AC) : rx_J7_fill_53178 (n + 1) 13 L st M = am_j (rx_J7_fill_53178 n) (tIas 13 L st M) := rfl
theorem rs_J7_fill_53178_14 (n : Nat) (L : AL) (st : List AV) (M : List AC) : rx_J7_fill_53178 (n + 1) 14 L st M = am_j (rx_J7_fill_53178 n) ((tIinc 2 1) 14 L st M) := rfl
theorem rs_J7_fill_53178_17 (n : Nat) (L : AL) (st : List AV) (M : List AC) : rx_J7_fill_53178 (n + 1) 17 L st M = am_j (rx_J7_fill_53178 n) ((tGo 5) 17 L st M) := rfl
theorem rs_J7_fill_53178_20 (n : Nat) (L : AL) (st : List AV) (M : List AC) : rx_J7_fill_53178 (n + 1) 20 L st M = am_e rV st M := rfl
theorem ri_J7_fill_53178 (c : Prop) [Decidable c] (p q n : Nat) (L : AL) (st : List AV) (M : List AC) : rx_J7_fill_53178 n (if c then p else q) L st M = if c then rx_J7_fill_53178 n p L st M else rx_J7_fill_53178 n q L st M := by split <;> rfl
theorem rm_J7_fill_53178 {n k pc : Nat} {L : AL} {st : List AV} {M : List AC} {x : Option AV × List AC} (h : rx_J7_fill_53178 n pc L st M = some x) (hk : n ≤ k) : rx_J7_fill_53178 k pc L st M = some x := am_r_mono n k h hk
def fn_J7_fill_53178 : Fn := am_fn rx_J7_fill_53178 4
theorem fok_J7_fill_53178 : Fok mi_J7_fill_53178 fn_J7_fill_53178 := fun _ _ _ _ h => am_fok ok_J7_fill_53178 rk_J7_fill_53178 rfl h
theorem lp_J7_fill {M : List AC} {q : Nat} (hq : q < M.length) (hk : am_k q = none) (v : Int) (N : Nat) (hN : N ≤ 10000) : ∀ (n k : Nat) (A : List Int), A.length = N → k + n = N →
    Ru rx_J7_fill_53178 (20 * n + 10) 5 [some (vR q), some (vI v), some (vI (k : Int)), some (vI (N : Int))] [] (M.set q (aI A)) (none, M.set q (aI (fil v n k A)))
  | 0, k, A, hA, hkn => by
    have e : k = N := by omega
    subst e
    have wk : wr (k : Int) = k := wr_id (by omega) (by omega)
    refine ⟨9 + 1, by omega, ?_⟩
    rw [rs_J7_fill_53178_5, fil]
    simp [↓ri_J7_fill_53178, rs_J7_fill_53178_0, rs_J7_fill_53178_1, rs_J7_fill_53178_2, rs_J7_fill_53178_3, rs_J7_fill_53178_4, rs_J7_fill_53178_6, rs_J7_fill_53178_7, rs_J7_fill_53178_10, rs_J7_fill_53178_11, rs_J7_fill_53178_12, rs_J7_fill_53178_13, rs_J7_fill_53178_14, rs_J7_fill_53178_17, rs_J7_fill_53178_20, -List.getElem?_eq_getElem, am_js, am_e, am_in, am_sl, rI, rZ, rV, rJ, rA, rC, kI, kJ, kR, am_one, am_nl, am_w8, tIc, tLc, tNul, tIld, tLld, tAld, tIst, tLst, tAst, tIinc, tI2, tDv, tL2, tLrem, tLs, tLcmp, tI2l, tL2i, tI2c, tDup, tDup2, tPop, tGo, tIfeq, tIfne, tIflt, tIfge, tIfgt, tIfle, tCmeq, tCmne, tCmlt, tCmge, tCmgt, tCmle, tNu, tTs, tGf, tPf, tGs, tIal, tIas, tBal, tBas, tAln, tSv, tSc, tSb, tSl, tSk, tCv, tCs, tCt, tMx, tMn, wr_10000, wr_100000, wr_1000000, wr_10000000, wr_100000000, wr_2400, wr_9999, wr_0, wr_1, wr_2, wr_3, wr_4, wr_5, wr_6, wr_7, wr_8, wr_9, wr_10, wr_11, wr_12, wr_13, wr_14, wr_15, wr_16, wr_17, wr_18, wr_19, wr_20, wr_21, wr_22, wr_23, wr_24, wr_25, wr_26, wr_27, wr_28, wr_29, wr_30, wr_31, wr_32, wr_33, wr_34, wr_35, wr_36, wr_37, wr_38, wr_39, wr_40, wr_41, wr_42, wr_43, wr_44, wr_45, wr_46, wr_47, wr_48, wr_49, wr_50, wr_51, wr_52, wr_53, wr_54, wr_55, wr_56, wr_57, wr_58, wr_59, wr_60, wr_61, wr_62, wr_63, wr_99, wr_100, wr_192, wr_255, wr_256, wr_343, wr_999, wr_1000, wr_2401, wr_2147483647, wr_65535, wr_m1, wr_m2, wr_m3, wr_m4, wr_m9, ak_1000, ak_1001, ak_1002, ak_0, ak_1, ak_2, ak_3, ak_4, ak_5, ak_6, ak_7, ak_8, ak_9, ak_10, ak_11, ak_12, ak_13, ak_14, ak_15, ak_16, ak_17, ak_18, ak_19, ak_20, ak_21, ak_22, ak_23, ak_24, ak_25, ak_26, ak_27, ak_28, ak_29, ak_30, ak_31, ak_32, ak_33, ak_34, ak_35, ak_36, ak_37, ak_38, ak_39, ak_40, ak_41, ak_42, ak_43, ak_44, ak_45, ak_46, ak_47, wk]
  | n + 1, k, A, hA, hkn => by
    have wk : wr (k : Int) = k := wr_id (by omega) (by omega)
    have wn : wr (N : Int) = N := wr_id (by omega) (by omega)
    have nk : ¬ (N : Int) ≤ k := by omega
    have kN : (k : Int) < N := by omega
    obtain ⟨m, hm, h⟩ := lp_J7_fill hq hk v N hN n (k + 1) (A.set k v) (by rw [List.length_set]; exact hA) (by omega)
    have e1 : ((k + 1 : Nat) : Int) = (k : Int) + 1 := by omega
    rw [e1] at h
    have i0 : (M.set q (aI A))[q]? = some (aI A) := List.getElem?_set_self hq
    have eN : (A.length : Int) = N := by omega
    refine ⟨m + 19 + 1, by omega, ?_⟩
    rw [rs_J7_fill_53178_5, fil]
    simp [↓ri_J7_fill_53178, rs_J7_fill_53178_0, rs_J7_fill_53178_1, rs_J7_fill_53178_2, rs_J7_fill_53178_3, rs_J7_fill_53178_4, rs_J7_fill_53178_6, rs_J7_fill_53178_7, rs_J7_fill_53178_10, rs_J7_fill_53178_11, rs_J7_fill_53178_12, rs_J7_fill_53178_13, rs_J7_fill_53178_14, rs_J7_fill_53178_17, rs_J7_fill_53178_20, -List.getElem?_eq_getElem, am_js, am_e, am_in, am_sl, rI, rZ, rV, rJ, rA, rC, kI, kJ, kR, am_one, am_nl, am_w8, tIc, tLc, tNul, tIld, tLld, tAld, tIst, tLst, tAst, tIinc, tI2, tDv, tL2, tLrem, tLs, tLcmp, tI2l, tL2i, tI2c, tDup, tDup2, tPop, tGo, tIfeq, tIfne, tIflt, tIfge, tIfgt, tIfle, tCmeq, tCmne, tCmlt, tCmge, tCmgt, tCmle, tNu, tTs, tGf, tPf, tGs, tIal, tIas, tBal, tBas, tAln, tSv, tSc, tSb, tSl, tSk, tCv, tCs, tCt, tMx, tMn, wr_10000, wr_100000, wr_1000000, wr_10000000, wr_100000000, wr_2400, wr_9999, wr_0, wr_1, wr_2, wr_3, wr_4, wr_5, wr_6, wr_7, wr_8, wr_9, wr_10, wr_11, wr_12, wr_13, wr_14, wr_15, wr_16, wr_17, wr_18, wr_19, wr_20, wr_21, wr_22, wr_23, wr_24, wr_25, wr_26, wr_27, wr_28, wr_29, wr_30, wr_31, wr_32, wr_33, wr_34, wr_35, wr_36, wr_37, wr_38, wr_39, wr_40, wr_41, wr_42, wr_43, wr_44, wr_45, wr_46, wr_47, wr_48, wr_49, wr_50, wr_51, wr_52, wr_53, wr_54, wr_55, wr_56, wr_57, wr_58, wr_59, wr_60, wr_61, wr_62, wr_63, wr_99, wr_100, wr_192, wr_255, wr_256, wr_343, wr_999, wr_1000, wr_2401, wr_2147483647, wr_65535, wr_m1, wr_m2, wr_m3, wr_m4, wr_m9, ak_1000, ak_1001, ak_1002, ak_0, ak_1, ak_2, ak_3, ak_4, ak_5, ak_6, ak_7, ak_8, ak_9, ak_10, ak_11, ak_12, ak_13, ak_14, ak_15, ak_16, ak_17, ak_18, ak_19, ak_20, ak_21, ak_22, ak_23, ak_24, ak_25, ak_26, ak_27, ak_28, ak_29, ak_30, ak_31, ak_32, ak_33, ak_34, ak_35, ak_36, ak_37, ak_38, ak_39, ak_40, ak_41, ak_42, ak_43, ak_44, ak_45, ak_46, ak_47, wk, wn, nk, i0, hk, eN, kN, hA]
    first
      | exact rm_J7_fill_53178 h (by omega)
      | (have nn : ¬ N ≤ k := by omega
         simp only [nn, if_false]
         exact rm_J7_fill_53178 h (by omega))
theorem sp_J7_fill {M : List AC} {q N : Nat} {A : List Int} (h : M[q]? = some (aI A)) (hA : A.length = N) (hN : N ≤ 10000) (hk : am_k q = none) (v : Int) : fn_J7_fill_53178 [vR q, vI v] M = some (none, M.set q (aI (List.replicate N v))) := by
  obtain ⟨m, hm, h'⟩ := lp_J7_fill (len_of h) hk v N hN N 0 A hA (by omega)
  rw [set_same h, fil_rep v A N hA] at h'
  generalize List.replicate N v = R at h' ⊢
  have eN : (A.length : Int) = N := by omega
  (refine am_fnR (tb := tb_J7_fill_53178) (N := 300000) (Nat.le_of_ble_eq_true rfl) (Nat.le_of_ble_eq_true rfl) ?_; show Ru rx_J7_fill_53178 300000 0 _ _ _ _)
  refine ⟨m + 10, by omega, ?_⟩
  simp at h'
  simp [↓ri_J7_fill_53178, rs_J7_fill_53178_0, rs_J7_fill_53178_1, rs_J7_fill_53178_2, rs_J7_fill_53178_3, rs_J7_fill_53178_4, rs_J7_fill_53178_6, rs_J7_fill_53178_7, rs_J7_fill_53178_10, rs_J7_fill_53178_11, rs_J7_fill_53178_12, rs_J7_fill_53178_13, rs_J7_fill_53178_14, rs_J7_fill_53178_17, rs_J7_fill_53178_20, -List.getElem?_eq_getElem, am_js, am_e, am_in, am_sl, rI, rZ, rV, rJ, rA, rC, kI, kJ, kR, am_one, am_nl, am_w8, tIc, tLc, tNul, tIld, tLld, tAld, tIst, tLst, tAst, tIinc, tI2, tDv, tL2, tLrem, tLs, tLcmp, tI2l, tL2i, tI2c, tDup, tDup2, tPop, tGo, tIfeq, tIfne, tIflt, tIfge, tIfgt, tIfle, tCmeq, tCmne, tCmlt, tCmge, tCmgt, tCmle, tNu, tTs, tGf, tPf, tGs, tIal, tIas, tBal, tBas, tAln, tSv, tSc, tSb, tSl, tSk, tCv, tCs, tCt, tMx, tMn, wr_10000, wr_100000, wr_1000000, wr_10000000, wr_100000000, wr_2400, wr_9999, wr_0, wr_1, wr_2, wr_3, wr_4, wr_5, wr_6, wr_7, wr_8, wr_9, wr_10, wr_11, wr_12, wr_13, wr_14, wr_15, wr_16, wr_17, wr_18, wr_19, wr_20, wr_21, wr_22, wr_23, wr_24, wr_25, wr_26, wr_27, wr_28, wr_29, wr_30, wr_31, wr_32, wr_33, wr_34, wr_35, wr_36, wr_37, wr_38, wr_39, wr_40, wr_41, wr_42, wr_43, wr_44, wr_45, wr_46, wr_47, wr_48, wr_49, wr_50, wr_51, wr_52, wr_53, wr_54, wr_55, wr_56, wr_57, wr_58, wr_59, wr_60, wr_61, wr_62, wr_63, wr_99, wr_100, wr_192, wr_255, wr_256, wr_343, wr_999, wr_1000, wr_2401, wr_2147483647, wr_65535, wr_m1, wr_m2, wr_m3, wr_m4, wr_m9, ak_1000, ak_1001, ak_1002, ak_0, ak_1, ak_2, ak_3, ak_4, ak_5, ak_6, ak_7, ak_8, ak_9, ak_10, ak_11, ak_12, ak_13, ak_14, ak_15, ak_16, ak_17, ak_18, ak_19, ak_20, ak_21, ak_22, ak_23, ak_24, ak_25, ak_26, ak_27, ak_28, ak_29, ak_30, ak_31, ak_32, ak_33, ak_34, ak_35, ak_36, ak_37, ak_38, ak_39, ak_40, ak_41, ak_42, ak_43, ak_44, ak_45, ak_46, ak_47, h, hk, eN, hA]
  exact rm_J7_fill_53178 h' (by omega)
end
