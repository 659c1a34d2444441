noncomputable section
theorem su_rng {x : Int} (h : 0 ≤ x ∧ x < 2401) : i4 0 6 (su x) := by
  have a1 : 0 ≤ x / 343 ∧ x / 343 ≤ 6 := by omega
  have a2 : 0 ≤ x / 49 % 7 ∧ x / 49 % 7 ≤ 6 := by omega
  have a3 : 0 ≤ x / 7 % 7 ∧ x / 7 % 7 ≤ 6 := by omega
  have a4 : 0 ≤ x % 7 ∧ x % 7 ≤ 6 := by omega
  exact ⟨a1, a2, a3, a4⟩
/-- how many of n states from x on are rows of m, and the first of them -/
def fr (st : Int) (g s b : F4) (m : Int) : Nat → Int → Int × Int → Int × Int
  | 0, _, q => q
  | n + 1, x, q => if (m ≤ (su x).1 ∧ m ≤ (su x).2.1 ∧ m ≤ (su x).2.2.1 ∧ m ≤ (su x).2.2.2) ∧ fs st g s (su x) b = -9 then fr st g s b m n (x + 1) (q.1 + 1, if q.1 = 0 then fg (su x) else q.2) else fr st g s b m n (x + 1) q
abbrev mi_X6_findRows : Mi := (yX6_findRows, cX6_findRows, 3, none, 7)
theorem mf_X6_findRows : am_mf mi_X6_findRows 1 := ⟨w_co_X6_findRows, w_in_X6, ⟨by decide +kernel, by decide +kernel⟩, by decide +kernel, by decide⟩
def tb_X6_findRows : List (Nat × Tr) := [(0, tAld 0 1), (1, tIc 0 1), (2, tPf kI 6 14), (5, tAld 0 1), (6, tIc (-9) 2), (8, tPf kI 6 15), (11, tIc 0 1), (12, tIst 2 1), (13, tIld 2 1), (14, tIc 2401 3), (17, tCmge 78), (20, tAld 0 1), (21, tIld 2 1), (22, tCv 6 1 fn_X6_layState), (25, tAld 0 1), (26, tIld 1 1), (27, tCv 6 1 fn_X6_isDeep), (30, tIfeq 72), (33, tAld 0 1), (34, tCv 6 0 fn_X6_allHold), (37, tIfeq 72), (40, tAld 0 1), (41, tAld 0 1), (42, tGf 6 14), (45, tIfne 55), (48, tAld 0 1), (49, tCv 6 0 fn_X6_told), (52, tGo 59), (55, tAld 0 1), (56, tGf 6 15), (59, tPf kI 6 15), (62, tAld 0 1), (63, tDup), (64, tGf 6 14), (67, tIc 1 1), (68, tI2 (fun a b => a + b)), (69, tPf kI 6 14), (72, tIinc 2 1), (75, tGo 13)]
theorem ok_X6_findRows : Tok mi_X6_findRows tb_X6_findRows :=
  Tc (sd_aload_n dX6_findRows_0) <|
  Tc (sd_iconst rfl dX6_findRows_1) <|
  Tc (sd_putf (T := TX6) rfl giX6 (by decide) w_fl_X6_155 tyX6 tyX6_ok nmX6 (kI_ok) rfl dX6_findRows_2) <|
  Tc (sd_aload_n dX6_findRows_5) <|
  Tc (sd_bipush (by decide +kernel) dX6_findRows_6) <|
  Tc (sd_putf (T := TX6) rfl giX6 (by decide) w_fl_X6_158 tyX6 tyX6_ok nmX6 (kI_ok) rfl dX6_findRows_8) <|
  Tc (sd_iconst rfl dX6_findRows_11) <|
  Tc (sd_istore_n dX6_findRows_12) <|
  Tc (sd_iload_n dX6_findRows_13) <|
  Tc (sd_sipush (by decide +kernel) dX6_findRows_14) <|
  Tc (sd_cm_ge (by decide) dX6_findRows_17) <|
  Tc (sd_aload_n dX6_findRows_20) <|
  Tc (sd_iload_n dX6_findRows_21) <|
  Tc (sd_cv (T := TX6) fok_X6_layState mf_X6_layState rfl w_ml_X6_161 w_im_X6_layState w_se_X6_layState (by decide) dX6_findRows_22) <|
  Tc (sd_aload_n dX6_findRows_25) <|
  Tc (sd_iload_n dX6_findRows_26) <|
  Tc (sd_cv (T := TX6) fok_X6_isDeep mf_X6_isDeep rfl w_ml_X6_164 w_im_X6_isDeep w_se_X6_isDeep (by decide) dX6_findRows_27) <|
  Tc (sd_if_eq (by decide) dX6_findRows_30) <|
  Tc (sd_aload_n dX6_findRows_33) <|
  Tc (sd_cv (T := TX6) fok_X6_allHold mf_X6_allHold rfl w_ml_X6_167 w_im_X6_allHold w_se_X6_allHold (by decide) dX6_findRows_34) <|
  Tc (sd_if_eq (by decide) dX6_findRows_37) <|
  Tc (sd_aload_n dX6_findRows_40) <|
  Tc (sd_aload_n dX6_findRows_41) <|
  Tc (sd_getf (T := TX6) rfl giX6 (by decide) w_fl_X6_155 dX6_findRows_42) <|
  Tc (sd_if_ne (by decide) dX6_findRows_45) <|
  Tc (sd_aload_n dX6_findRows_48) <|
  Tc (sd_cv (T := TX6) fok_X6_told mf_X6_told rfl w_ml_X6_138 w_im_X6_told w_se_X6_told (by decide) dX6_findRows_49) <|
  Tc (sd_goto (by decide) dX6_findRows_52) <|
  Tc (sd_aload_n dX6_findRows_55) <|
  Tc (sd_getf (T := TX6) rfl giX6 (by decide) w_fl_X6_158 dX6_findRows_56) <|
  Tc (sd_putf (T := TX6) rfl giX6 (by decide) w_fl_X6_158 tyX6 tyX6_ok nmX6 (kI_ok) rfl dX6_findRows_59) <|
  Tc (sd_aload_n dX6_findRows_62) <|
  Tc (sd_dup dX6_findRows_63) <|
  Tc (sd_getf (T := TX6) rfl giX6 (by decide) w_fl_X6_155 dX6_findRows_64) <|
  Tc (sd_iconst rfl dX6_findRows_67) <|
  Tc (sd_iadd dX6_findRows_68) <|
  Tc (sd_putf (T := TX6) rfl giX6 (by decide) w_fl_X6_155 tyX6 tyX6_ok nmX6 (kI_ok) rfl dX6_findRows_69) <|
  Tc (sd_iinc dX6_findRows_72) <|
  Tc (sd_goto (by decide) dX6_findRows_75) <|
  Tn
theorem rk_X6_findRows : Rok mi_X6_findRows rV [78] := rk_v dX6_findRows_78 <| rk_n
def rx_X6_findRows : Nat → Nat → AL → List AV → List AC → Option (Option AV × List AC) := am_r tb_X6_findRows rV [78]
theorem rs_X6_findRows_0 (n : Nat) (L : AL) (st : List AV) (M : List AC) : rx_X6_findRows (n + 1) 0 L st M = am_j (rx_X6_findRows n) ((tAld 0 1) 0 L st M) := rfl
theorem rs_X6_findRows_1 (n : Nat) (L : AL) (st : List AV) (M : List AC) : rx_X6_findRows (n + 1) 1 L st M = am_j (rx_X6_findRows n) ((tIc 0 1) 1 L st M) := rfl
theorem rs_X6_findRows_2 (n : Nat) (L : AL) (st : List AV) (M : List AC) : rx_X6_findRows (n + 1) 2 L st M = am_j (rx_X6_findRows n) ((tPf kI 6 14) 2 L st M) := rfl
theorem rs_X6_findRows_5 (n : Nat) (L : AL) (st : List AV) (M : List AC) : rx_X6_findRows (n + 1) 5 L st M = am_j (rx_X6_findRows n) ((tAld 0 1) 5 L st M) := rfl
theorem rs_X6_findRows_6 (n : Nat) (L : AL) (st : List AV) (M : List AC) : rx_X6_findRows (n + 1) 6 L st M = am_j (rx_X6_findRows n) ((tIc (-9) 2) 6 L st M) := rfl
theorem rs_X6_findRows_8 (n : Nat) (L : AL) (st : List AV) (M : List AC) : rx_X6_findRows (n + 1) 8 L st M = am_j (rx_X6_findRows n) ((tPf kI 6 15) 8 L st M) := rfl
theorem rs_X6_findRows_11 (n : Nat) (L : AL) (st : List AV) (M : List AC) : rx_X6_findRows (n + 1) 11 L st M = am_j (rx_X6_findRows n) ((tIc 0 1) 11 L st M) := rfl
theorem rs_X6_findRows_12 (n : Nat) (L : AL) (st : List AV) (M : List AC) : rx_X6_findRows (n + 1) 12 L st M = am_j (rx_X6_findRows n) ((tIst 2 1) 12 L st M) := rfl
theorem rs_X6_findRows_13 (n : Nat) (L : AL) (st : List AV) (M : List AC) : rx_X6_findRows (n + 1) 13 L st M = am_j (rx_X6_findRows n) ((tIld 2 1) 13 L st M) := rfl
theorem rs_X6_findRows_14 (n : Nat) (L : AL) (st : List AV) (M : List AC) : rx_X6_findRows (n + 1) 14 L st M = am_j (rx_X6_findRows n) ((tIc 2401 3) 14 L st M) := rfl
theorem rs_X6_findRows_17 (n : Nat) (L : AL) (st : List AV) (M : List AC) : rx_X6_findRows (n + 1) 17 L st M = am_j (rx_X6_findRows n) ((tCmge 78) 17 L st M) := rfl
theorem rs_X6_findRows_20 (n : Nat) (L : AL) (st : List AV) (M : List AC) : rx_X6_findRows (n + 1) 20 L st M = am_j (rx_X6_findRows n) ((tAld 0 1) 20 L st M) := rfl
theorem rs_X6_findRows_21 (n : Nat) (L : AL) (st : List AV) (M : List AC) : rx_X6_findRows (n + 1) 21 L st M = am_j (rx_X6_findRows n) ((tIld 2 1) 21 L st M) := rfl
theorem rs_X6_findRows_22 (n : Nat) (L : AL) (st : List AV) (M : List AC) : rx_X6_findRows (n + 1) 22 L st M = am_j (rx_X6_findRows n) ((tCv 6 1 fn_X6_layState) 22 L st M) := rfl
theorem rs_X6_findRows_25 (n : Nat) (L : AL) (st : List AV) (M : List AC) : rx_X6_findRows (n + 1) 25 L st M = am_j (rx_X6_findRows n) ((tAld 0 1) 25 L st M) := rfl
theorem rs_X6_findRows_26 (n : Nat) (L : AL) (st : List AV) (M : List AC) : rx_X6_findRows (n + 1) 26 L st M = am_j (rx_X6_findRows n) ((tIld 1 1) 26 L st M) := rfl
theorem rs_X6_findRows_27 (n : Nat) (L : AL) (st : List AV) (M : List AC) : rx_X6_findRows (n + 1) 27 L st M = am_j (rx_X6_findRows n) ((tCv 6 1 fn_X6_isDeep) 27 L st M) := rfl
theorem rs_X6_findRows_30 (n : Nat) (L : AL) (st : List AV) (M : List AC) : rx_X6_findRows (n + 1) 30 L st M = am_j (rx_X6_findRows n) ((tIfeq 72) 30 L st M) := rfl
theorem rs_X6_findRows_33 (n : Nat) (L : AL) (st : List AV) (M : List AC) : rx_X6_findRows (n + 1) 33 L st M = am_j (rx_X6_findRows n) ((tAld 0 1) 33 L st M) := rfl
theorem rs_X6_findRows_34 (n : Nat) (L : AL) (st : List AV) (M : List AC) : rx_X6_findRows (n + 1) 34 L st M = am_j (rx_X6_findRows n) ((tCv 6 0 fn_X6_allHold) 34 L st M) := rfl
theorem rs_X6_findRows_37 (n : Nat) (L : AL) (st : List AV) (M : List AC) : rx_X6_findRows (n + 1) 37 L st M = am_j (rx_X6_findRows n) ((tIfeq 72) 37 L st M) := rfl
theorem rs_X6_findRows_40 (n : Nat) (L : AL) (st : List AV) (M : List AC) : rx_X6_findRows (n + 1) 40 L st M = am_j (rx_X6_findRows n) ((tAld 0 1) 40 L st M) := rfl
theorem rs_X6_findRows_41 (n : Nat) (L : AL) (st : List AV) (M : List AC) : rx_X6_findRows (n + 1) 41 L st M = am_j (rx_X6_findRows n) ((tAld 0 1) 41 L st M) := rfl
theorem rs_X6_findRows_42 (n : Nat) (L : AL) (st : List AV) (M : List AC) : rx_X6_findRows (n + 1) 42 L st M = am_j (rx_X6_findRows n) ((tGf 6 14) 42 L st M) := rfl
theorem rs_X6_findRows_45 (n : Nat) (L : AL) (st : List AV) (M : List AC) : rx_X6_findRows (n + 1) 45 L st M = am_j (rx_X6_findRows n) ((tIfne 55) 45 L st M) := rfl
theorem rs_X6_findRows_48 (n : Nat) (L : AL) (st : List AV) (M : List AC) : rx_X6_findRows (n + 1) 48 L st M = am_j (rx_X6_findRows n) ((tAld 0 1) 48 L st M) := rfl
theorem rs_X6_findRows_49 (n : Nat) (L : AL) (st : List AV) (M : List AC) : rx_X6_findRows (n + 1) 49 L st M = am_j (rx_X6_findRows n) ((tCv 6 0 fn_X6_told) 49 L st M) := rfl
theorem rs_X6_findRows_52 (n : Nat) (L : AL) (st : List AV) (M : List AC) : rx_X6_findRows (n + 1) 52 L st M = am_j (rx_X6_findRows n) ((tGo 59) 52 L st M) := rfl
theorem rs_X6_findRows_55 (n : Nat) (L : AL) (st : List AV) (M : List AC) : rx_X6_findRows (n + 1) 55 L st M = am_j (rx_X6_findRows n) ((tAld 0 1) 55 L st M) := rfl
theorem rs_X6_findRows_56 (n : Nat) (L : AL) (st : List AV) (M : List AC) : rx_X6_findRows (n + 1) 56 L st M = am_j (rx_X6_findRows n) ((tGf 6 15) 56 L st M) := rfl
theorem rs_X6_findRows_59 (n : Nat) (L : AL) (st : List AV) (M : List AC) : rx_X6_findRows (n + 1) 59 L st M = am_j (rx_X6_findRows n) ((tPf kI 6 15) 59 L st M) := rfl
theorem rs_X6_findRows_62 (n : Nat) (L : AL) (st : List AV) (M : List AC) : rx_X6_findRows (n + 1) 62 L st M = am_j (rx_X6_findRows n) ((tAld 0 1) 62 L st M) := rfl
theorem rs_X6_findRows_63 (n : Nat) (L : AL) (st : List AV) (M : List AC) : rx_X6_findRows (n + 1) 63 L st M = am_j (rx_X6_findRows n) (tDup 63 L st M) := rfl
theorem rs_X6_findRows_64 (n : Nat) (L : AL) (st : List AV) (M : List AC) : rx_X6_findRows (n + 1) 64 L st M = am_j (rx_X6_findRows n) ((tGf 6 14) 64 L st M) := rfl
theorem rs_X6_findRows_67 (n : Nat) (L : AL) (st : List AV) (M : List AC) : rx_X6_findRows (n + 1) 67 L st M = am_j (rx_X6_findRows n) ((tIc 1 1) 67 L st M) := rfl
theorem rs_X6_findRows_68 (n : Nat) (L : AL) (st : List AV) (M : List AC) : rx_X6_findRows (n + 1) 68 L st M = am_j (rx_X6_findRows n) ((tI2 (fun a b => a + b)) 68 L st M) := rfl
theorem rs_X6_findRows_69 (n : Nat) (L : AL) (st : List AV) (M : List AC) : rx_X6_findRows (n + 1) 69 L st M = am_j (rx_X6_findRows n) ((tPf kI 6 14) 69 L st M) := rfl
theorem rs_X6_findRows_72 (n : Nat) (L : AL) (st : List AV) (M : List AC) : rx_X6_findRows (n + 1) 72 L st M = am_j (rx_X6_findRows n) ((tIinc 2 1) 72 L st M) := rfl
theorem rs_X6_findRows_75 (n : Nat) (L : AL) (st : List AV) (M : List AC) : rx_X6_findRows (n + 1) 75 L st M = am_j (rx_X6_findRows n) ((tGo 13) 75 L st M) := rfl
theorem rs_X6_findRows_78 (n : Nat) (L : AL) (st : List AV) (M : List AC) : rx_X6_findRows (n + 1) 78 L st M = am_e rV st M := rfl
theorem ri_X6_findRows (c : Prop) [Decidable c] (p q n : Nat) (L : AL) (st : List AV) (M : List AC) : rx_X6_findRows n (if c then p else q) L st M = if c then rx_X6_findRows n p L st M else rx_X6_findRows n q L st M := by split <;> rfl
theorem rm_X6_findRows {n k pc : Nat} {L : AL} {st : List AV} {M : List AC} {x : Option AV × List AC} (h : rx_X6_findRows n pc L st M = some x) (hk : n ≤ k) : rx_X6_findRows k pc L st M = some x := am_r_mono n k h hk
def fn_X6_findRows : Fn := am_fn rx_X6_findRows 3
theorem fok_X6_findRows : Fok mi_X6_findRows fn_X6_findRows := fun _ _ _ _ h => am_fok ok_X6_findRows rk_X6_findRows rfl h
theorem lp_X6_findRows {st lk len ac nx en lm m : Int} {sd : Int64} {g s b : F4} (hst : 1 ≤ st ∧ st ≤ 3) (hg : i4 1 9 g) (hs9 : i4 0 9 s) (hb : i4 0 3 b) (hm : 0 ≤ m ∧ m ≤ 6) : ∀ (n : Nat) (x c l : Int) (d' : F4) (M : List AC), M[26]? = some (mo st lk len ac nx c l en lm sd) → M[27]? = some (aI (l4 g)) → M[32]? = some (aI (l4 d')) → M[33]? = some (aI (l4 b)) → M[34]? = some (aI (l4 s)) → x + n = 2401 → 0 ≤ x → 0 ≤ c ∧ c ≤ x →
    Ru rx_X6_findRows (60 * n + 10) 13 [some (vR 26), some (vI m), some (vI x)] [] M (none, (M.set 26 (mo st lk len ac nx (fr st g s b m n x (c, l)).1 (fr st g s b m n x (c, l)).2 en lm sd)).set 32 (aI (l4 (if n = 0 then d' else (6, 6, 6, 6)))))
  | 0, x, c, l, d', M, h0, h27, h32, h33, h34, hx, hx0, hc => by
    have e : x = 2401 := by omega
    subst e
    have e1 : (M.set 26 (mo st lk len ac nx c l en lm sd)) = M := set_same h0
    refine ⟨9 + 1, by omega, ?_⟩
    rw [rs_X6_findRows_13]
    simp only [fr, if_true]
    rw [e1, set_same h32]
    simp [↓ri_X6_findRows, rs_X6_findRows_0, rs_X6_findRows_1, rs_X6_findRows_2, rs_X6_findRows_5, rs_X6_findRows_6, rs_X6_findRows_8, rs_X6_findRows_11, rs_X6_findRows_12, rs_X6_findRows_14, rs_X6_findRows_17, rs_X6_findRows_20, rs_X6_findRows_21, rs_X6_findRows_22, rs_X6_findRows_25, rs_X6_findRows_26, rs_X6_findRows_27, rs_X6_findRows_30, rs_X6_findRows_33, rs_X6_findRows_34, rs_X6_findRows_37, rs_X6_findRows_40, rs_X6_findRows_41, rs_X6_findRows_42, rs_X6_findRows_45, rs_X6_findRows_48, rs_X6_findRows_49, rs_X6_findRows_52, rs_X6_findRows_55, rs_X6_findRows_56, rs_X6_findRows_59, rs_X6_findRows_62, rs_X6_findRows_63, rs_X6_findRows_64, rs_X6_findRows_67, rs_X6_findRows_68, rs_X6_findRows_69, rs_X6_findRows_72, rs_X6_findRows_75, rs_X6_findRows_78, -List.getElem?_eq_getElem, am_js, am_e, am_in, am_sl, rI, rZ, rV, rJ, rA, rC, kI, kJ, kR, am_one, am_nl, am_w8, tIc, tLc, tNul, tIld, tLld, tAld, tIst, tLst, tAst, tIinc, tI2, tDv, tL2, tLrem, tLs, tLcmp, tI2l, tL2i, tI2c, tDup, tDup2, tPop, tGo, tIfeq, tIfne, tIflt, tIfge, tIfgt, tIfle, tCmeq, tCmne, tCmlt, tCmge, tCmgt, tCmle, tNu, tTs, tGf, tPf, tGs, tIal, tIas, tBal, tBas, tAln, tSv, tSc, tSb, tSl, tSk, tCv, tCs, tCt, tMx, tMn, wr_10000, wr_100000, wr_1000000, wr_10000000, wr_100000000, wr_2400, wr_9999, wr_0, wr_1, wr_2, wr_3, wr_4, wr_5, wr_6, wr_7, wr_8, wr_9, wr_10, wr_11, wr_12, wr_13, wr_14, wr_15, wr_16, wr_17, wr_18, wr_19, wr_20, wr_21, wr_22, wr_23, wr_24, wr_25, wr_26, wr_27, wr_28, wr_29, wr_30, wr_31, wr_32, wr_33, wr_34, wr_35, wr_36, wr_37, wr_38, wr_39, wr_40, wr_41, wr_42, wr_43, wr_44, wr_45, wr_46, wr_47, wr_48, wr_49, wr_50, wr_51, wr_52, wr_53, wr_54, wr_55, wr_56, wr_57, wr_58, wr_59, wr_60, wr_61, wr_62, wr_63, wr_99, wr_100, wr_192, wr_255, wr_256, wr_343, wr_999, wr_1000, wr_2401, wr_2147483647, wr_65535, wr_m1, wr_m2, wr_m3, wr_m4, wr_m9, ak_1000, ak_1001, ak_1002, ak_0, ak_1, ak_2, ak_3, ak_4, ak_5, ak_6, ak_7, ak_8, ak_9, ak_10, ak_11, ak_12, ak_13, ak_14, ak_15, ak_16, ak_17, ak_18, ak_19, ak_20, ak_21, ak_22, ak_23, ak_24, ak_25, ak_26, ak_27, ak_28, ak_29, ak_30, ak_31, ak_32, ak_33, ak_34, ak_35, ak_36, ak_37, ak_38, ak_39, ak_40, ak_41, ak_42, ak_43, ak_44, ak_45, ak_46, ak_47]
  | n + 1, x, c, l, d', M, h0, h27, h32, h33, h34, hx, hx0, hc => by
    have wx : wr x = x := wr_id (by omega) (by omega)
    have wc : wr c = c := wr_id (by omega) (by omega)
    have nx9 : ¬ 2401 ≤ x := by omega
    have hsr : SR st g s (su x) b := ⟨hst, hg, hs9, su_rng ⟨hx0, by omega⟩, hb⟩
    have q1 := sp_X6_layState h0 h32 x ⟨hx0, by omega⟩
    have i0 : (M.set 32 (aI (l4 (su x))))[26]? = some (mo st lk len ac nx c l en lm sd) := by rw [List.getElem?_set_ne (by decide)]; exact h0
    have i32 : (M.set 32 (aI (l4 (su x))))[32]? = some (aI (l4 (su x))) := List.getElem?_set_self (len_of h32)
    have i27 : (M.set 32 (aI (l4 (su x))))[27]? = some (aI (l4 g)) := by rw [List.getElem?_set_ne (by decide)]; exact h27
    have i33 : (M.set 32 (aI (l4 (su x))))[33]? = some (aI (l4 b)) := by rw [List.getElem?_set_ne (by decide)]; exact h33
    have i34 : (M.set 32 (aI (l4 (su x))))[34]? = some (aI (l4 s)) := by rw [List.getElem?_set_ne (by decide)]; exact h34
    have hs : HD (M.set 32 (aI (l4 (su x)))) st g s (su x) b := ⟨⟨lk, len, ac, nx, c, l, en, lm, sd, i0⟩, i27, i32, i33, i34⟩
    have q2 := sp_X6_isDeep i0 i32 (su_rng ⟨hx0, by omega⟩) m hm
    have q3 := sp_X6_allHold hs hsr
    have q4 := sp_X6_told i0 i32
    have e6 : (if n = 0 then su x else (6, 6, 6, 6)) = ((6, 6, 6, 6) : F4) := by
      by_cases h : n = 0
      · have e : x = 2400 := by omega
        subst e
        rw [if_pos h]
        simp [su]
      · rw [if_neg h]
    have e7 : (if n + 1 = 0 then d' else (6, 6, 6, 6)) = ((6, 6, 6, 6) : F4) := if_neg (by omega)
    by_cases hq : (m ≤ (su x).1 ∧ m ≤ (su x).2.1 ∧ m ≤ (su x).2.2.1 ∧ m ≤ (su x).2.2.2) ∧ fs st g s (su x) b = -9
    · have e : fr st g s b m (n + 1) x (c, l) = fr st g s b m n (x + 1) (c + 1, if c = 0 then fg (su x) else l) := by rw [fr, if_pos hq]
      rw [if_pos hq.1] at q2
      rw [if_pos hq.2] at q3
      have ih := lp_X6_findRows (lk := lk) (len := len) (ac := ac) (nx := nx) (en := en) (lm := lm) (sd := sd) hst hg hs9 hb hm n (x + 1) (c + 1) (if c = 0 then fg (su x) else l) (su x) ((M.set 26 (mo st lk len ac nx (c + 1) (if c = 0 then fg (su x) else l) en lm sd)).set 32 (aI (l4 (su x)))) (by simp [-List.getElem?_eq_getElem, gs h0]) (by simp [-List.getElem?_eq_getElem, h27]) (by simp [-List.getElem?_eq_getElem, gs h32]) (by simp [-List.getElem?_eq_getElem, h33]) (by simp [-List.getElem?_eq_getElem, h34]) (by omega) (by omega) (by omega)
      rw [e, e7]
      rw [e6] at ih
      generalize fr st g s b m n (x + 1) (c + 1, if c = 0 then fg (su x) else l) = q at ih ⊢
      obtain ⟨k, hk, h⟩ := ih
      refine ⟨k + 59 + 1, by omega, ?_⟩
      rw [rs_X6_findRows_13]
      generalize su x = u at *
      clear hsr hs e hq e6 e7 i27 i33 i34
      by_cases hc0 : c = 0
      · simp [hc0, mo, ss (i := 26) (j := 32) (by decide)] at h
        simp [↓ri_X6_findRows, rs_X6_findRows_0, rs_X6_findRows_1, rs_X6_findRows_2, rs_X6_findRows_5, rs_X6_findRows_6, rs_X6_findRows_8, rs_X6_findRows_11, rs_X6_findRows_12, rs_X6_findRows_14, rs_X6_findRows_17, rs_X6_findRows_20, rs_X6_findRows_21, rs_X6_findRows_22, rs_X6_findRows_25, rs_X6_findRows_26, rs_X6_findRows_27, rs_X6_findRows_30, rs_X6_findRows_33, rs_X6_findRows_34, rs_X6_findRows_37, rs_X6_findRows_40, rs_X6_findRows_41, rs_X6_findRows_42, rs_X6_findRows_45, rs_X6_findRows_48, rs_X6_findRows_49, rs_X6_findRows_52, rs_X6_findRows_55, rs_X6_findRows_56, rs_X6_findRows_59, rs_X6_findRows_62, rs_X6_findRows_63, rs_X6_findRows_64, rs_X6_findRows_67, rs_X6_findRows_68, rs_X6_findRows_69, rs_X6_findRows_72, rs_X6_findRows_75, rs_X6_findRows_78, -List.getElem?_eq_getElem, am_js, am_e, am_in, am_sl, rI, rZ, rV, rJ, rA, rC, kI, kJ, kR, am_one, am_nl, am_w8, tIc, tLc, tNul, tIld, tLld, tAld, tIst, tLst, tAst, tIinc, tI2, tDv, tL2, tLrem, tLs, tLcmp, tI2l, tL2i, tI2c, tDup, tDup2, tPop, tGo, tIfeq, tIfne, tIflt, tIfge, tIfgt, tIfle, tCmeq, tCmne, tCmlt, tCmge, tCmgt, tCmle, tNu, tTs, tGf, tPf, tGs, tIal, tIas, tBal, tBas, tAln, tSv, tSc, tSb, tSl, tSk, tCv, tCs, tCt, tMx, tMn, wr_10000, wr_100000, wr_1000000, wr_10000000, wr_100000000, wr_2400, wr_9999, wr_0, wr_1, wr_2, wr_3, wr_4, wr_5, wr_6, wr_7, wr_8, wr_9, wr_10, wr_11, wr_12, wr_13, wr_14, wr_15, wr_16, wr_17, wr_18, wr_19, wr_20, wr_21, wr_22, wr_23, wr_24, wr_25, wr_26, wr_27, wr_28, wr_29, wr_30, wr_31, wr_32, wr_33, wr_34, wr_35, wr_36, wr_37, wr_38, wr_39, wr_40, wr_41, wr_42, wr_43, wr_44, wr_45, wr_46, wr_47, wr_48, wr_49, wr_50, wr_51, wr_52, wr_53, wr_54, wr_55, wr_56, wr_57, wr_58, wr_59, wr_60, wr_61, wr_62, wr_63, wr_99, wr_100, wr_192, wr_255, wr_256, wr_343, wr_999, wr_1000, wr_2401, wr_2147483647, wr_65535, wr_m1, wr_m2, wr_m3, wr_m4, wr_m9, ak_1000, ak_1001, ak_1002, ak_0, ak_1, ak_2, ak_3, ak_4, ak_5, ak_6, ak_7, ak_8, ak_9, ak_10, ak_11, ak_12, ak_13, ak_14, ak_15, ak_16, ak_17, ak_18, ak_19, ak_20, ak_21, ak_22, ak_23, ak_24, ak_25, ak_26, ak_27, ak_28, ak_29, ak_30, ak_31, ak_32, ak_33, ak_34, ak_35, ak_36, ak_37, ak_38, ak_39, ak_40, ak_41, ak_42, ak_43, ak_44, ak_45, ak_46, ak_47, h0, mo, wx, wc, nx9, q1, q2, q3, q4, gs h0, gs h32, hc0, ss (i := 26) (j := 32) (by decide)]
        exact rm_X6_findRows h (by omega)
      · simp [hc0, mo, ss (i := 26) (j := 32) (by decide)] at h
        simp [↓ri_X6_findRows, rs_X6_findRows_0, rs_X6_findRows_1, rs_X6_findRows_2, rs_X6_findRows_5, rs_X6_findRows_6, rs_X6_findRows_8, rs_X6_findRows_11, rs_X6_findRows_12, rs_X6_findRows_14, rs_X6_findRows_17, rs_X6_findRows_20, rs_X6_findRows_21, rs_X6_findRows_22, rs_X6_findRows_25, rs_X6_findRows_26, rs_X6_findRows_27, rs_X6_findRows_30, rs_X6_findRows_33, rs_X6_findRows_34, rs_X6_findRows_37, rs_X6_findRows_40, rs_X6_findRows_41, rs_X6_findRows_42, rs_X6_findRows_45, rs_X6_findRows_48, rs_X6_findRows_49, rs_X6_findRows_52, rs_X6_findRows_55, rs_X6_findRows_56, rs_X6_findRows_59, rs_X6_findRows_62, rs_X6_findRows_63, rs_X6_findRows_64, rs_X6_findRows_67, rs_X6_findRows_68, rs_X6_findRows_69, rs_X6_findRows_72, rs_X6_findRows_75, rs_X6_findRows_78, -List.getElem?_eq_getElem, am_js, am_e, am_in, am_sl, rI, rZ, rV, rJ, rA, rC, kI, kJ, kR, am_one, am_nl, am_w8, tIc, tLc, tNul, tIld, tLld, tAld, tIst, tLst, tAst, tIinc, tI2, tDv, tL2, tLrem, tLs, tLcmp, tI2l, tL2i, tI2c, tDup, tDup2, tPop, tGo, tIfeq, tIfne, tIflt, tIfge, tIfgt, tIfle, tCmeq, tCmne, tCmlt, tCmge, tCmgt, tCmle, tNu, tTs, tGf, tPf, tGs, tIal, tIas, tBal, tBas, tAln, tSv, tSc, tSb, tSl, tSk, tCv, tCs, tCt, tMx, tMn, wr_10000, wr_100000, wr_1000000, wr_10000000, wr_100000000, wr_2400, wr_9999, wr_0, wr_1, wr_2, wr_3, wr_4, wr_5, wr_6, wr_7, wr_8, wr_9, wr_10, wr_11, wr_12, wr_13, wr_14, wr_15, wr_16, wr_17, wr_18, wr_19, wr_20, wr_21, wr_22, wr_23, wr_24, wr_25, wr_26, wr_27, wr_28, wr_29, wr_30, wr_31, wr_32, wr_33, wr_34, wr_35, wr_36, wr_37, wr_38, wr_39, wr_40, wr_41, wr_42, wr_43, wr_44, wr_45, wr_46, wr_47, wr_48, wr_49, wr_50, wr_51, wr_52, wr_53, wr_54, wr_55, wr_56, wr_57, wr_58, wr_59, wr_60, wr_61, wr_62, wr_63, wr_99, wr_100, wr_192, wr_255, wr_256, wr_343, wr_999, wr_1000, wr_2401, wr_2147483647, wr_65535, wr_m1, wr_m2, wr_m3, wr_m4, wr_m9, ak_1000, ak_1001, ak_1002, ak_0, ak_1, ak_2, ak_3, ak_4, ak_5, ak_6, ak_7, ak_8, ak_9, ak_10, ak_11, ak_12, ak_13, ak_14, ak_15, ak_16, ak_17, ak_18, ak_19, ak_20, ak_21, ak_22, ak_23, ak_24, ak_25, ak_26, ak_27, ak_28, ak_29, ak_30, ak_31, ak_32, ak_33, ak_34, ak_35, ak_36, ak_37, ak_38, ak_39, ak_40, ak_41, ak_42, ak_43, ak_44, ak_45, ak_46, ak_47, h0, mo, wx, wc, nx9, q1, q2, q3, q4, gs h0, gs h32, hc0, ss (i := 26) (j := 32) (by decide)]
        exact rm_X6_findRows h (by omega)
    · have e : fr st g s b m (n + 1) x (c, l) = fr st g s b m n (x + 1) (c, l) := by rw [fr, if_neg hq]
      have ih := lp_X6_findRows (lk := lk) (len := len) (ac := ac) (nx := nx) (en := en) (lm := lm) (sd := sd) hst hg hs9 hb hm n (x + 1) c l (su x) (M.set 32 (aI (l4 (su x)))) i0 i27 i32 i33 i34 (by omega) (by omega) (by omega)
      rw [e, e7]
      rw [e6] at ih
      generalize fr st g s b m n (x + 1) (c, l) = q at ih ⊢
      obtain ⟨k, hk, h⟩ := ih
      refine ⟨k + 59 + 1, by omega, ?_⟩
      rw [rs_X6_findRows_13]
      generalize hU : su x = u at *
      clear hsr hs e e6 e7 i27 i33 i34
      simp [mo, ss (i := 26) (j := 32) (by decide)] at h
      by_cases hq1 : m ≤ u.1 ∧ m ≤ u.2.1 ∧ m ≤ u.2.2.1 ∧ m ≤ u.2.2.2
      · have hq2 : ¬ fs st g s u b = -9 := fun z => hq ⟨hq1, z⟩
        rw [if_pos hq1] at q2
        rw [if_neg hq2] at q3
        simp [↓ri_X6_findRows, rs_X6_findRows_0, rs_X6_findRows_1, rs_X6_findRows_2, rs_X6_findRows_5, rs_X6_findRows_6, rs_X6_findRows_8, rs_X6_findRows_11, rs_X6_findRows_12, rs_X6_findRows_14, rs_X6_findRows_17, rs_X6_findRows_20, rs_X6_findRows_21, rs_X6_findRows_22, rs_X6_findRows_25, rs_X6_findRows_26, rs_X6_findRows_27, rs_X6_findRows_30, rs_X6_findRows_33, rs_X6_findRows_34, rs_X6_findRows_37, rs_X6_findRows_40, rs_X6_findRows_41, rs_X6_findRows_42, rs_X6_findRows_45, rs_X6_findRows_48, rs_X6_findRows_49, rs_X6_findRows_52, rs_X6_findRows_55, rs_X6_findRows_56, rs_X6_findRows_59, rs_X6_findRows_62, rs_X6_findRows_63, rs_X6_findRows_64, rs_X6_findRows_67, rs_X6_findRows_68, rs_X6_findRows_69, rs_X6_findRows_72, rs_X6_findRows_75, rs_X6_findRows_78, -List.getElem?_eq_getElem, am_js, am_e, am_in, am_sl, rI, rZ, rV, rJ, rA, rC, kI, kJ, kR, am_one, am_nl, am_w8, tIc, tLc, tNul, tIld, tLld, tAld, tIst, tLst, tAst, tIinc, tI2, tDv, tL2, tLrem, tLs, tLcmp, tI2l, tL2i, tI2c, tDup, tDup2, tPop, tGo, tIfeq, tIfne, tIflt, tIfge, tIfgt, tIfle, tCmeq, tCmne, tCmlt, tCmge, tCmgt, tCmle, tNu, tTs, tGf, tPf, tGs, tIal, tIas, tBal, tBas, tAln, tSv, tSc, tSb, tSl, tSk, tCv, tCs, tCt, tMx, tMn, wr_10000, wr_100000, wr_1000000, wr_10000000, wr_100000000, wr_2400, wr_9999, wr_0, wr_1, wr_2, wr_3, wr_4, wr_5, wr_6, wr_7, wr_8, wr_9, wr_10, wr_11, wr_12, wr_13, wr_14, wr_15, wr_16, wr_17, wr_18, wr_19, wr_20, wr_21, wr_22, wr_23, wr_24, wr_25, wr_26, wr_27, wr_28, wr_29, wr_30, wr_31, wr_32, wr_33, wr_34, wr_35, wr_36, wr_37, wr_38, wr_39, wr_40, wr_41, wr_42, wr_43, wr_44, wr_45, wr_46, wr_47, wr_48, wr_49, wr_50, wr_51, wr_52, wr_53, wr_54, wr_55, wr_56, wr_57, wr_58, wr_59, wr_60, wr_61, wr_62, wr_63, wr_99, wr_100, wr_192, wr_255, wr_256, wr_343, wr_999, wr_1000, wr_2401, wr_2147483647, wr_65535, wr_m1, wr_m2, wr_m3, wr_m4, wr_m9, ak_1000, ak_1001, ak_1002, ak_0, ak_1, ak_2, ak_3, ak_4, ak_5, ak_6, ak_7, ak_8, ak_9, ak_10, ak_11, ak_12, ak_13, ak_14, ak_15, ak_16, ak_17, ak_18, ak_19, ak_20, ak_21, ak_22, ak_23, ak_24, ak_25, ak_26, ak_27, ak_28, ak_29, ak_30, ak_31, ak_32, ak_33, ak_34, ak_35, ak_36, ak_37, ak_38, ak_39, ak_40, ak_41, ak_42, ak_43, ak_44, ak_45, ak_46, ak_47, h0, mo, wx, wc, nx9, q1, q2, q3, gs h32, ss (i := 26) (j := 32) (by decide)]
        exact rm_X6_findRows h (by omega)
      · rw [if_neg hq1] at q2
        simp [↓ri_X6_findRows, rs_X6_findRows_0, rs_X6_findRows_1, rs_X6_findRows_2, rs_X6_findRows_5, rs_X6_findRows_6, rs_X6_findRows_8, rs_X6_findRows_11, rs_X6_findRows_12, rs_X6_findRows_14, rs_X6_findRows_17, rs_X6_findRows_20, rs_X6_findRows_21, rs_X6_findRows_22, rs_X6_findRows_25, rs_X6_findRows_26, rs_X6_findRows_27, rs_X6_findRows_30, rs_X6_findRows_33, rs_X6_findRows_34, rs_X6_findRows_37, rs_X6_findRows_40, rs_X6_findRows_41, rs_X6_findRows_42, rs_X6_findRows_45, rs_X6_findRows_48, rs_X6_findRows_49, rs_X6_findRows_52, rs_X6_findRows_55, rs_X6_findRows_56, rs_X6_findRows_59, rs_X6_findRows_62, rs_X6_findRows_63, rs_X6_findRows_64, rs_X6_findRows_67, rs_X6_findRows_68, rs_X6_findRows_69, rs_X6_findRows_72, rs_X6_findRows_75, rs_X6_findRows_78, -List.getElem?_eq_getElem, am_js, am_e, am_in, am_sl, rI, rZ, rV, rJ, rA, rC, kI, kJ, kR, am_one, am_nl, am_w8, tIc, tLc, tNul, tIld, tLld, tAld, tIst, tLst, tAst, tIinc, tI2, tDv, tL2, tLrem, tLs, tLcmp, tI2l, tL2i, tI2c, tDup, tDup2, tPop, tGo, tIfeq, tIfne, tIflt, tIfge, tIfgt, tIfle, tCmeq, tCmne, tCmlt, tCmge, tCmgt, tCmle, tNu, tTs, tGf, tPf, tGs, tIal, tIas, tBal, tBas, tAln, tSv, tSc, tSb, tSl, tSk, tCv, tCs, tCt, tMx, tMn, wr_10000, wr_100000, wr_1000000, wr_10000000, wr_100000000, wr_2400, wr_9999, wr_0, wr_1, wr_2, wr_3, wr_4, wr_5, wr_6, wr_7, wr_8, wr_9, wr_10, wr_11, wr_12, wr_13, wr_14, wr_15, wr_16, wr_17, wr_18, wr_19, wr_20, wr_21, wr_22, wr_23, wr_24, wr_25, wr_26, wr_27, wr_28, wr_29, wr_30, wr_31, wr_32, wr_33, wr_34, wr_35, wr_36, wr_37, wr_38, wr_39, wr_40, wr_41, wr_42, wr_43, wr_44, wr_45, wr_46, wr_47, wr_48, wr_49, wr_50, wr_51, wr_52, wr_53, wr_54, wr_55, wr_56, wr_57, wr_58, wr_59, wr_60, wr_61, wr_62, wr_63, wr_99, wr_100, wr_192, wr_255, wr_256, wr_343, wr_999, wr_1000, wr_2401, wr_2147483647, wr_65535, wr_m1, wr_m2, wr_m3, wr_m4, wr_m9, ak_1000, ak_1001, ak_1002, ak_0, ak_1, ak_2, ak_3, ak_4, ak_5, ak_6, ak_7, ak_8, ak_9, ak_10, ak_11, ak_12, ak_13, ak_14, ak_15, ak_16, ak_17, ak_18, ak_19, ak_20, ak_21, ak_22, ak_23, ak_24, ak_25, ak_26, ak_27, ak_28, ak_29, ak_30, ak_31, ak_32, ak_33, ak_34, ak_35, ak_36, ak_37, ak_38, ak_39, ak_40, ak_41, ak_42, ak_43, ak_44, ak_45, ak_46, ak_47, h0, mo, wx, wc, nx9, q1, q2, gs h32, ss (i := 26) (j := 32) (by decide)]
        exact rm_X6_findRows h (by omega)
/-- how many rows of m there are, and the least (-9: none) -/
def fr0 (st : Int) (g s b : F4) (m : Int) : Int × Int := fr st g s b m 2401 0 (0, -9)
theorem sp_X6_findRows {M : List AC} {st lk len ac nx rf lr en lm : Int} {sd : Int64} (h0 : M[26]? = some (mo st lk len ac nx rf lr en lm sd)) {g s d b : F4} (h27 : M[27]? = some (aI (l4 g))) (h32 : M[32]? = some (aI (l4 d))) (h33 : M[33]? = some (aI (l4 b))) (h34 : M[34]? = some (aI (l4 s))) (hst : 1 ≤ st ∧ st ≤ 3) (hg : i4 1 9 g) (hs9 : i4 0 9 s) (hb : i4 0 3 b) (m : Int) (hm : 0 ≤ m ∧ m ≤ 6) : fn_X6_findRows [vR 26, vI m] M = some (none, (M.set 26 (mo st lk len ac nx (fr0 st g s b m).1 (fr0 st g s b m).2 en lm sd)).set 32 (aI (l4 (6, 6, 6, 6)))) := by
  obtain ⟨n, hn, h⟩ := lp_X6_findRows (lk := lk) (len := len) (ac := ac) (nx := nx) (en := en) (lm := lm) (sd := sd) hst hg hs9 hb hm 2401 0 0 (-9) d (M.set 26 (mo st lk len ac nx 0 (-9) en lm sd)) (List.getElem?_set_self (len_of h0)) (by rw [List.getElem?_set_ne (by decide)]; exact h27) (by rw [List.getElem?_set_ne (by decide)]; exact h32) (by rw [List.getElem?_set_ne (by decide)]; exact h33) (by rw [List.getElem?_set_ne (by decide)]; exact h34) (by omega) (by omega) (by omega)
  rw [if_neg (by decide)] at h
  change rx_X6_findRows n 13 _ _ _ = some (none, ((M.set 26 _).set 26 (mo st lk len ac nx (fr0 st g s b m).1 (fr0 st g s b m).2 en lm sd)).set 32 _) at h
  generalize fr0 st g s b m = q at h ⊢
  rw [List.set_set] at h
  (refine am_fnR (tb := tb_X6_findRows) (N := 200000) (Nat.le_of_ble_eq_true rfl) (Nat.le_of_ble_eq_true rfl) ?_; show Ru rx_X6_findRows 200000 0 _ _ _ _)
  refine ⟨n + 10, by omega, ?_⟩
  simp only [mo] at h ⊢
  simp [↓ri_X6_findRows, rs_X6_findRows_0, rs_X6_findRows_1, rs_X6_findRows_2, rs_X6_findRows_5, rs_X6_findRows_6, rs_X6_findRows_8, rs_X6_findRows_11, rs_X6_findRows_12, rs_X6_findRows_14, rs_X6_findRows_17, rs_X6_findRows_20, rs_X6_findRows_21, rs_X6_findRows_22, rs_X6_findRows_25, rs_X6_findRows_26, rs_X6_findRows_27, rs_X6_findRows_30, rs_X6_findRows_33, rs_X6_findRows_34, rs_X6_findRows_37, rs_X6_findRows_40, rs_X6_findRows_41, rs_X6_findRows_42, rs_X6_findRows_45, rs_X6_findRows_48, rs_X6_findRows_49, rs_X6_findRows_52, rs_X6_findRows_55, rs_X6_findRows_56, rs_X6_findRows_59, rs_X6_findRows_62, rs_X6_findRows_63, rs_X6_findRows_64, rs_X6_findRows_67, rs_X6_findRows_68, rs_X6_findRows_69, rs_X6_findRows_72, rs_X6_findRows_75, rs_X6_findRows_78, -List.getElem?_eq_getElem, am_js, am_e, am_in, am_sl, rI, rZ, rV, rJ, rA, rC, kI, kJ, kR, am_one, am_nl, am_w8, tIc, tLc, tNul, tIld, tLld, tAld, tIst, tLst, tAst, tIinc, tI2, tDv, tL2, tLrem, tLs, tLcmp, tI2l, tL2i, tI2c, tDup, tDup2, tPop, tGo, tIfeq, tIfne, tIflt, tIfge, tIfgt, tIfle, tCmeq, tCmne, tCmlt, tCmge, tCmgt, tCmle, tNu, tTs, tGf, tPf, tGs, tIal, tIas, tBal, tBas, tAln, tSv, tSc, tSb, tSl, tSk, tCv, tCs, tCt, tMx, tMn, wr_10000, wr_100000, wr_1000000, wr_10000000, wr_100000000, wr_2400, wr_9999, wr_0, wr_1, wr_2, wr_3, wr_4, wr_5, wr_6, wr_7, wr_8, wr_9, wr_10, wr_11, wr_12, wr_13, wr_14, wr_15, wr_16, wr_17, wr_18, wr_19, wr_20, wr_21, wr_22, wr_23, wr_24, wr_25, wr_26, wr_27, wr_28, wr_29, wr_30, wr_31, wr_32, wr_33, wr_34, wr_35, wr_36, wr_37, wr_38, wr_39, wr_40, wr_41, wr_42, wr_43, wr_44, wr_45, wr_46, wr_47, wr_48, wr_49, wr_50, wr_51, wr_52, wr_53, wr_54, wr_55, wr_56, wr_57, wr_58, wr_59, wr_60, wr_61, wr_62, wr_63, wr_99, wr_100, wr_192, wr_255, wr_256, wr_343, wr_999, wr_1000, wr_2401, wr_2147483647, wr_65535, wr_m1, wr_m2, wr_m3, wr_m4, wr_m9, ak_1000, ak_1001, ak_1002, ak_0, ak_1, ak_2, ak_3, ak_4, ak_5, ak_6, ak_7, ak_8, ak_9, ak_10, ak_11, ak_12, ak_13, ak_14, ak_15, ak_16, ak_17, ak_18, ak_19, ak_20, ak_21, ak_22, ak_23, ak_24, ak_25, ak_26, ak_27, ak_28, ak_29, ak_30, ak_31, ak_32, ak_33, ak_34, ak_35, ak_36, ak_37, ak_38, ak_39, ak_40, ak_41, ak_42, ak_43, ak_44, ak_45, ak_46, ak_47, h0, mo, gs h0]
  exact rm_X6_findRows h (by omega)
end
