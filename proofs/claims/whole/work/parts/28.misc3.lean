noncomputable section
/-- a memory's cells at p -/
def HM (M : List AC) (p : Nat) (ld lb ls : List Int) : Prop := M[p]? = some (aO 1 [vR (p + 1), vR (p + 2), vR (p + 3)]) ∧ M[p + 1]? = some (aI ld) ∧ M[p + 2]? = some (aI lb) ∧ M[p + 3]? = some (aI ls)
abbrev mi_X1_take : Mi := (yX1_take, cX1_take, 3, none, 2)
theorem mf_X1_take : am_mf mi_X1_take 2 := ⟨w_co_X1_take, w_in_X1, ⟨by decide +kernel, by decide +kernel⟩, by decide +kernel, by decide⟩
def tb_X1_take : List (Nat × Tr) := [(0, tIld 1 1), (1, tIflt 52), (4, tIld 1 1), (5, tAld 0 1), (6, tGf 1 0), (9, tAln), (10, tCmge 52), (13, tAld 0 1), (14, tGf 1 0), (17, tIld 1 1), (18, tAld 2 1), (19, tGf 4 3), (22, tCs 1 fn_X5_asFigures), (25, tIas), (26, tAld 0 1), (27, tGf 1 1), (30, tIld 1 1), (31, tAld 2 1), (32, tGf 4 4), (35, tCs 1 fn_X5_asFigures), (38, tIas), (39, tAld 0 1), (40, tGf 1 2), (43, tIld 1 1), (44, tAld 2 1), (45, tGf 4 2), (48, tCs 1 fn_X5_asFigures), (51, tIas)]
theorem ok_X1_take : Tok mi_X1_take tb_X1_take :=
  Tc (sd_iload_n dX1_take_0) <|
  Tc (sd_if_lt (by decide) dX1_take_1) <|
  Tc (sd_iload_n dX1_take_4) <|
  Tc (sd_aload_n dX1_take_5) <|
  Tc (sd_getf (T := TX1) rfl giX1 (by decide) w_fl_X1_13 dX1_take_6) <|
  Tc (sd_aln dX1_take_9) <|
  Tc (sd_cm_ge (by decide) dX1_take_10) <|
  Tc (sd_aload_n dX1_take_13) <|
  Tc (sd_getf (T := TX1) rfl giX1 (by decide) w_fl_X1_13 dX1_take_14) <|
  Tc (sd_iload_n dX1_take_17) <|
  Tc (sd_aload_n dX1_take_18) <|
  Tc (sd_getf (T := TX4) rfl giX4 (by decide) w_fl_X1_25 dX1_take_19) <|
  Tc (sd_csN fok_X5_asFigures mf_X5_asFigures (List.mem_of_getElem? (i := 3) rfl) w_st_X5_asFigures (by decide) dX1_take_22) <|
  Tc (sd_ias dX1_take_25) <|
  Tc (sd_aload_n dX1_take_26) <|
  Tc (sd_getf (T := TX1) rfl giX1 (by decide) w_fl_X1_19 dX1_take_27) <|
  Tc (sd_iload_n dX1_take_30) <|
  Tc (sd_aload_n dX1_take_31) <|
  Tc (sd_getf (T := TX4) rfl giX4 (by decide) w_fl_X1_34 dX1_take_32) <|
  Tc (sd_csN fok_X5_asFigures mf_X5_asFigures (List.mem_of_getElem? (i := 3) rfl) w_st_X5_asFigures (by decide) dX1_take_35) <|
  Tc (sd_ias dX1_take_38) <|
  Tc (sd_aload_n dX1_take_39) <|
  Tc (sd_getf (T := TX1) rfl giX1 (by decide) w_fl_X1_22 dX1_take_40) <|
  Tc (sd_iload_n dX1_take_43) <|
  Tc (sd_aload_n dX1_take_44) <|
  Tc (sd_getf (T := TX4) rfl giX4 (by decide) w_fl_X1_35 dX1_take_45) <|
  Tc (sd_csN fok_X5_asFigures mf_X5_asFigures (List.mem_of_getElem? (i := 3) rfl) w_st_X5_asFigures (by decide) dX1_take_48) <|
  Tc (sd_ias dX1_take_51) <|
  Tn
theorem rk_X1_take : Rok mi_X1_take rV [52] := rk_v dX1_take_52 <| rk_n
def rx_X1_take : Nat → Nat → AL → List AV → List AC → Option (Option AV × List AC) := am_r tb_X1_take rV [52]
theorem rs_X1_take_0 (n : Nat) (L : AL) (st : List AV) (M : List AC) : rx_X1_take (n + 1) 0 L st M = am_j (rx_X1_take n) ((tIld 1 1) 0 L st M) := rfl
theorem rs_X1_take_1 (n : Nat) (L : AL) (st : List AV) (M : List AC) : rx_X1_take (n + 1) 1 L st M = am_j (rx_X1_take n) ((tIflt 52) 1 L st M) := rfl
theorem rs_X1_take_4 (n : Nat) (L : AL) (st : List AV) (M : List AC) : rx_X1_take (n + 1) 4 L st M = am_j (rx_X1_take n) ((tIld 1 1) 4 L st M) := rfl
theorem rs_X1_take_5 (n : Nat) (L : AL) (st : List AV) (M : List AC) : rx_X1_take (n + 1) 5 L st M = am_j (rx_X1_take n) ((tAld 0 1) 5 L st M) := rfl
theorem rs_X1_take_6 (n : Nat) (L : AL) (st : List AV) (M : List AC) : rx_X1_take (n + 1) 6 L st M = am_j (rx_X1_take n) ((tGf 1 0) 6 L st M) := rfl
theorem rs_X1_take_9 (n : Nat) (L : AL) (st : List AV) (M : List AC) : rx_X1_take (n + 1) 9 L st M = am_j (rx_X1_take n) (tAln 9 L st M) := rfl
theorem rs_X1_take_10 (n : Nat) (L : AL) (st : List AV) (M : List AC) : rx_X1_take (n + 1) 10 L st M = am_j (rx_X1_take n) ((tCmge 52) 10 L st M) := rfl
theorem rs_X1_take_13 (n : Nat) (L : AL) (st : List AV) (M : List AC) : rx_X1_take (n + 1) 13 L st M = am_j (rx_X1_take n) ((tAld 0 1) 13 L st M) := rfl
theorem rs_X1_take_14 (n : Nat) (L : AL) (st : List AV) (M : List AC) : rx_X1_take (n + 1) 14 L st M = am_j (rx_X1_take n) ((tGf 1 0) 14 L st M) := rfl
theorem rs_X1_take_17 (n : Nat) (L : AL) (st : List AV) (M : List AC) : rx_X1_take (n + 1) 17 L st M = am_j (rx_X1_take n) ((tIld 1 1) 17 L st M) := rfl
theorem rs_X1_take_18 (n : Nat) (L : AL) (st : List AV) (M : List AC) : rx_X1_take (n + 1) 18 L st M = am_j (rx_X1_take n) ((tAld 2 1) 18 L st M) := rfl
theorem rs_X1_take_19 (n : Nat) (L : AL) (st : List AV) (M : List AC) : rx_X1_take (n + 1) 19 L st M = am_j (rx_X1_take n) ((tGf 4 3) 19 L st M) := rfl
theorem rs_X1_take_22 (n : Nat) (L : AL) (st : List AV) (M : List AC) : rx_X1_take (n + 1) 22 L st M = am_j (rx_X1_take n) ((tCs 1 fn_X5_asFigures) 22 L st M) := rfl
theorem rs_X1_take_25 (n : Nat) (L : AL) (st : List AV) (M : List AC) : rx_X1_take (n + 1) 25 L st M = am_j (rx_X1_take n) (tIas 25 L st M) := rfl
theorem rs_X1_take_26 (n : Nat) (L : AL) (st : List AV) (M : List AC) : rx_X1_take (n + 1) 26 L st M = am_j (rx_X1_take n) ((tAld 0 1) 26 L st M) := rfl
theorem rs_X1_take_27 (n : Nat) (L : AL) (st : List AV) (M : List AC) : rx_X1_take (n + 1) 27 L st M = am_j (rx_X1_take n) ((tGf 1 1) 27 L st M) := rfl
theorem rs_X1_take_30 (n : Nat) (L : AL) (st : List AV) (M : List AC) : rx_X1_take (n + 1) 30 L st M = am_j (rx_X1_take n) ((tIld 1 1) 30 L st M) := rfl
theorem rs_X1_take_31 (n : Nat) (L : AL) (st : List AV) (M : List AC) : rx_X1_take (n + 1) 31 L st M = am_j (rx_X1_take n) ((tAld 2 1) 31 L st M) := rfl
theorem rs_X1_take_32 (n : Nat) (L : AL) (st : List AV) (M : List AC) : rx_X1_take (n + 1) 32 L st M = am_j (rx_X1_take n) ((tGf 4 4) 32 L st M) := rfl
theorem rs_X1_take_35 (n : Nat) (L : AL) (st : List AV) (M : List AC) : rx_X1_take (n + 1) 35 L st M = am_j (rx_X1_take n) ((tCs 1 fn_X5_asFigures) 35 L st M) := rfl
theorem rs_X1_take_38 (n : Nat) (L : AL) (st : List AV) (M : List AC) : rx_X1_take (n + 1) 38 L st M = am_j (rx_X1_take n) (tIas 38 L st M) := rfl
theorem rs_X1_take_39 (n : Nat) (L : AL) (st : List AV) (M : List AC) : rx_X1_take (n + 1) 39 L st M = am_j (rx_X1_take n) ((tAld 0 1) 39 L st M) := rfl
theorem rs_X1_take_40 (n : Nat) (L : AL) (st : List AV) (M : List AC) : rx_X1_take (n + 1) 40 L st M = am_j (rx_X1_take n) ((tGf 1 2) 40 L st M) := rfl
theorem rs_X1_take_43 (n : Nat) (L : AL) (st : List AV) (M : List AC) : rx_X1_take (n + 1) 43 L st M = am_j (rx_X1_take n) ((tIld 1 1) 43 L st M) := rfl
theorem rs_X1_take_44 (n : Nat) (L : AL) (st : List AV) (M : List AC) : rx_X1_take (n + 1) 44 L st M = am_j (rx_X1_take n) ((tAld 2 1) 44 L st M) := rfl
theorem rs_X1_take_45 (n : Nat) (L : AL) (st : List AV) (M : List AC) : rx_X1_take (n + 1) 45 L st M = am_j (rx_X1_take n) ((tGf 4 2) 45 L st M) := rfl
theorem rs_X1_take_48 (n : Nat) (L : AL) (st : List AV) (M : List AC) : rx_X1_take (n + 1) 48 L st M = am_j (rx_X1_take n) ((tCs 1 fn_X5_asFigures) 48 L st M) := rfl
theorem rs_X1_take_51 (n : Nat) (L : AL) (st : List AV) (M : List AC) : rx_X1_take (n + 1) 51 L st M = am_j (rx_X1_take n) (tIas 51 L st M) := rfl
theorem rs_X1_take_52 (n : Nat) (L : AL) (st : List AV) (M : List AC) : rx_X1_take (n + 1) 52 L st M = am_e rV st M := rfl
theorem ri_X1_take (c : Prop) [Decidable c] (p q n : Nat) (L : AL) (st : List AV) (M : List AC) : rx_X1_take n (if c then p else q) L st M = if c then rx_X1_take n p L st M else rx_X1_take n q L st M := by split <;> rfl
theorem rm_X1_take {n k pc : Nat} {L : AL} {st : List AV} {M : List AC} {x : Option AV × List AC} (h : rx_X1_take n pc L st M = some x) (hk : n ≤ k) : rx_X1_take k pc L st M = some x := am_r_mono n k h hk
def fn_X1_take : Fn := am_fn rx_X1_take 3
theorem fok_X1_take : Fok mi_X1_take fn_X1_take := fun _ _ _ _ h => am_fok ok_X1_take rk_X1_take rfl h
theorem sp_X1_take {M : List AC} {p : Nat} {ld lb ls : List Int} {st : Int} {g s d b : F4} (hp : p = 15 ∨ p = 19) (hm : HM M p ld lb ls) (hs : HS M 2 st g s d b) (i : Int) (hi : 0 ≤ i ∧ i < ld.length) (h1 : lb.length = ld.length) (h2 : ls.length = ld.length) (hn : ld.length < 1000) : fn_X1_take [vR p, vI i, vR 2] M = some (none, ((M.set (p + 1) (aI (ld.set i.toNat (fg d)))).set (p + 2) (aI (lb.set i.toNat (fg b)))).set (p + 3) (aI (ls.set i.toNat (fg s)))) := by
  obtain ⟨-, s0, s1, s2, s3, s4⟩ := hs
  obtain ⟨m0, m1, m2, m3⟩ := hm
  have wi : wr i = i := wr_id (by omega) (by omega)
  have ni : ¬ i < 0 := by omega
  have nl : wr (ld.length : Int) = ld.length := wr_id (by omega) (by omega)
  have ni2 : ¬ (ld.length : Int) ≤ i := by omega
  rcases hp with rfl | rfl <;>
  (simp only [Nat.reduceAdd] at s0 s1 s2 s3 s4 m0 m1 m2 m3
   have f1 := sp_X5_asFigures (M := M) (q := 5) s3 rfl
   (refine am_fnI (tb := tb_X1_take) (n := 60) (Nat.le_of_ble_eq_true rfl) (Nat.le_of_ble_eq_true rfl) ?_; show rx_X1_take 60 0 _ _ _ = _)
   simp only [Nat.reduceAdd])
  · have f2 := sp_X5_asFigures (M := M.set 16 (aI (ld.set i.toNat (fg d)))) (q := 6) (v := b) (by rw [List.getElem?_set_ne (by decide)]; exact s4) rfl
    have f3 := sp_X5_asFigures (M := (M.set 16 (aI (ld.set i.toNat (fg d)))).set 17 (aI (lb.set i.toNat (fg b)))) (q := 4) (v := s) (by rw [List.getElem?_set_ne (by decide), List.getElem?_set_ne (by decide)]; exact s2) rfl
    simp [↓ri_X1_take, rs_X1_take_0, rs_X1_take_1, rs_X1_take_4, rs_X1_take_5, rs_X1_take_6, rs_X1_take_9, rs_X1_take_10, rs_X1_take_13, rs_X1_take_14, rs_X1_take_17, rs_X1_take_18, rs_X1_take_19, rs_X1_take_22, rs_X1_take_25, rs_X1_take_26, rs_X1_take_27, rs_X1_take_30, rs_X1_take_31, rs_X1_take_32, rs_X1_take_35, rs_X1_take_38, rs_X1_take_39, rs_X1_take_40, rs_X1_take_43, rs_X1_take_44, rs_X1_take_45, rs_X1_take_48, rs_X1_take_51, rs_X1_take_52, -List.getElem?_eq_getElem, am_js, am_e, am_in, am_sl, rI, rZ, rV, rJ, rA, rC, kI, kJ, kR, am_one, am_nl, am_w8, tIc, tLc, tNul, tIld, tLld, tAld, tIst, tLst, tAst, tIinc, tI2, tDv, tL2, tLrem, tLs, tLcmp, tI2l, tL2i, tI2c, tDup, tDup2, tPop, tGo, tIfeq, tIfne, tIflt, tIfge, tIfgt, tIfle, tCmeq, tCmne, tCmlt, tCmge, tCmgt, tCmle, tNu, tTs, tGf, tPf, tGs, tIal, tIas, tBal, tBas, tAln, tSv, tSc, tSb, tSl, tSk, tCv, tCs, tCt, tMx, tMn, wr_10000, wr_100000, wr_1000000, wr_10000000, wr_100000000, wr_2400, wr_9999, wr_0, wr_1, wr_2, wr_3, wr_4, wr_5, wr_6, wr_7, wr_8, wr_9, wr_10, wr_11, wr_12, wr_13, wr_14, wr_15, wr_16, wr_17, wr_18, wr_19, wr_20, wr_21, wr_22, wr_23, wr_24, wr_25, wr_26, wr_27, wr_28, wr_29, wr_30, wr_31, wr_32, wr_33, wr_34, wr_35, wr_36, wr_37, wr_38, wr_39, wr_40, wr_41, wr_42, wr_43, wr_44, wr_45, wr_46, wr_47, wr_48, wr_49, wr_50, wr_51, wr_52, wr_53, wr_54, wr_55, wr_56, wr_57, wr_58, wr_59, wr_60, wr_61, wr_62, wr_63, wr_99, wr_100, wr_192, wr_255, wr_256, wr_343, wr_999, wr_1000, wr_2401, wr_2147483647, wr_65535, wr_m1, wr_m2, wr_m3, wr_m4, wr_m9, ak_1000, ak_1001, ak_1002, ak_0, ak_1, ak_2, ak_3, ak_4, ak_5, ak_6, ak_7, ak_8, ak_9, ak_10, ak_11, ak_12, ak_13, ak_14, ak_15, ak_16, ak_17, ak_18, ak_19, ak_20, ak_21, ak_22, ak_23, ak_24, ak_25, ak_26, ak_27, ak_28, ak_29, ak_30, ak_31, ak_32, ak_33, ak_34, ak_35, ak_36, ak_37, ak_38, ak_39, ak_40, ak_41, ak_42, ak_43, ak_44, ak_45, ak_46, ak_47, s0, s1, s2, s3, s4, m0, m1, m2, m3, wi, ni, ni2, nl, f1, f2, f3, hi, h1, h2]
  · have f2 := sp_X5_asFigures (M := M.set 20 (aI (ld.set i.toNat (fg d)))) (q := 6) (v := b) (by rw [List.getElem?_set_ne (by decide)]; exact s4) rfl
    have f3 := sp_X5_asFigures (M := (M.set 20 (aI (ld.set i.toNat (fg d)))).set 21 (aI (lb.set i.toNat (fg b)))) (q := 4) (v := s) (by rw [List.getElem?_set_ne (by decide), List.getElem?_set_ne (by decide)]; exact s2) rfl
    simp [↓ri_X1_take, rs_X1_take_0, rs_X1_take_1, rs_X1_take_4, rs_X1_take_5, rs_X1_take_6, rs_X1_take_9, rs_X1_take_10, rs_X1_take_13, rs_X1_take_14, rs_X1_take_17, rs_X1_take_18, rs_X1_take_19, rs_X1_take_22, rs_X1_take_25, rs_X1_take_26, rs_X1_take_27, rs_X1_take_30, rs_X1_take_31, rs_X1_take_32, rs_X1_take_35, rs_X1_take_38, rs_X1_take_39, rs_X1_take_40, rs_X1_take_43, rs_X1_take_44, rs_X1_take_45, rs_X1_take_48, rs_X1_take_51, rs_X1_take_52, -List.getElem?_eq_getElem, am_js, am_e, am_in, am_sl, rI, rZ, rV, rJ, rA, rC, kI, kJ, kR, am_one, am_nl, am_w8, tIc, tLc, tNul, tIld, tLld, tAld, tIst, tLst, tAst, tIinc, tI2, tDv, tL2, tLrem, tLs, tLcmp, tI2l, tL2i, tI2c, tDup, tDup2, tPop, tGo, tIfeq, tIfne, tIflt, tIfge, tIfgt, tIfle, tCmeq, tCmne, tCmlt, tCmge, tCmgt, tCmle, tNu, tTs, tGf, tPf, tGs, tIal, tIas, tBal, tBas, tAln, tSv, tSc, tSb, tSl, tSk, tCv, tCs, tCt, tMx, tMn, wr_10000, wr_100000, wr_1000000, wr_10000000, wr_100000000, wr_2400, wr_9999, wr_0, wr_1, wr_2, wr_3, wr_4, wr_5, wr_6, wr_7, wr_8, wr_9, wr_10, wr_11, wr_12, wr_13, wr_14, wr_15, wr_16, wr_17, wr_18, wr_19, wr_20, wr_21, wr_22, wr_23, wr_24, wr_25, wr_26, wr_27, wr_28, wr_29, wr_30, wr_31, wr_32, wr_33, wr_34, wr_35, wr_36, wr_37, wr_38, wr_39, wr_40, wr_41, wr_42, wr_43, wr_44, wr_45, wr_46, wr_47, wr_48, wr_49, wr_50, wr_51, wr_52, wr_53, wr_54, wr_55, wr_56, wr_57, wr_58, wr_59, wr_60, wr_61, wr_62, wr_63, wr_99, wr_100, wr_192, wr_255, wr_256, wr_343, wr_999, wr_1000, wr_2401, wr_2147483647, wr_65535, wr_m1, wr_m2, wr_m3, wr_m4, wr_m9, ak_1000, ak_1001, ak_1002, ak_0, ak_1, ak_2, ak_3, ak_4, ak_5, ak_6, ak_7, ak_8, ak_9, ak_10, ak_11, ak_12, ak_13, ak_14, ak_15, ak_16, ak_17, ak_18, ak_19, ak_20, ak_21, ak_22, ak_23, ak_24, ak_25, ak_26, ak_27, ak_28, ak_29, ak_30, ak_31, ak_32, ak_33, ak_34, ak_35, ak_36, ak_37, ak_38, ak_39, ak_40, ak_41, ak_42, ak_43, ak_44, ak_45, ak_46, ak_47, s0, s1, s2, s3, s4, m0, m1, m2, m3, wi, ni, ni2, nl, f1, f2, f3, hi, h1, h2]
end
