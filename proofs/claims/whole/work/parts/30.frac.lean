noncomputable section
theorem wr_64 : wr 64 = 64 := wr_id (by decide) (by decide)
abbrev mi_X5_fraction : Mi := (yX5_fraction, cX5_fraction, 7, some .int, 1)
theorem mf_X5_fraction : am_mf mi_X5_fraction 3 := ⟨w_co_X5_fraction, w_in_X5, ⟨by decide +kernel, by decide +kernel⟩, by decide +kernel, by decide⟩
def tb_X5_fraction : List (Nat × Tr) := [(0, tIld 1 1), (1, tIst 3 1), (2, tIld 0 1), (3, tIst 4 2), (5, tIc 0 1), (6, tIst 5 2), (8, tIld 5 2), (10, tIc 64 2), (12, tCmge 39), (15, tIld 4 2), (17, tIfeq 39), (20, tIld 3 1), (21, tIld 4 2), (23, tDv Int.tmod), (24, tIst 6 2), (26, tIld 4 2), (28, tIst 3 1), (29, tIld 6 2), (31, tIst 4 2), (33, tIinc 5 1), (36, tGo 8), (39, tIld 3 1), (40, tIfne 45), (43, tIc 0 1), (45, tIld 2 1), (46, tIfeq 53), (49, tIld 0 1), (50, tGo 54), (53, tIld 1 1), (54, tIld 3 1), (55, tDv Int.tdiv)]
theorem ok_X5_fraction : Tok mi_X5_fraction tb_X5_fraction :=
  Tc (sd_iload_n dX5_fraction_0) <|
  Tc (sd_istore_n dX5_fraction_1) <|
  Tc (sd_iload_n dX5_fraction_2) <|
  Tc (sd_istore dX5_fraction_3) <|
  Tc (sd_iconst rfl dX5_fraction_5) <|
  Tc (sd_istore dX5_fraction_6) <|
  Tc (sd_iload dX5_fraction_8) <|
  Tc (sd_bipush (by decide +kernel) dX5_fraction_10) <|
  Tc (sd_cm_ge (by decide) dX5_fraction_12) <|
  Tc (sd_iload dX5_fraction_15) <|
  Tc (sd_if_eq (by decide) dX5_fraction_17) <|
  Tc (sd_iload_n dX5_fraction_20) <|
  Tc (sd_iload dX5_fraction_21) <|
  Tc (sd_irem dX5_fraction_23) <|
  Tc (sd_istore dX5_fraction_24) <|
  Tc (sd_iload dX5_fraction_26) <|
  Tc (sd_istore_n dX5_fraction_28) <|
  Tc (sd_iload dX5_fraction_29) <|
  Tc (sd_istore dX5_fraction_31) <|
  Tc (sd_iinc dX5_fraction_33) <|
  Tc (sd_goto (by decide) dX5_fraction_36) <|
  Tc (sd_iload_n dX5_fraction_39) <|
  Tc (sd_if_ne (by decide) dX5_fraction_40) <|
  Tc (sd_iconst rfl dX5_fraction_43) <|
  Tc (sd_iload_n dX5_fraction_45) <|
  Tc (sd_if_eq (by decide) dX5_fraction_46) <|
  Tc (sd_iload_n dX5_fraction_49) <|
  Tc (sd_goto (by decide) dX5_fraction_50) <|
  Tc (sd_iload_n dX5_fraction_53) <|
  Tc (sd_iload_n dX5_fraction_54) <|
  Tc (sd_idiv dX5_fraction_55) <|
  Tn
theorem rk_X5_fraction : Rok mi_X5_fraction rI [44, 56] := rk_i dX5_fraction_44 <| rk_i dX5_fraction_56 <| rk_n
def rx_X5_fraction : Nat → Nat → AL → List AV → List AC → Option (Option AV × List AC) := am_r tb_X5_fraction rI [44, 56]
theorem rs_X5_fraction_0 (n : Nat) (L : AL) (st : List AV) (M : List AC) : rx_X5_fraction (n + 1) 0 L st M = am_j (rx_X5_fraction n) ((tIld 1 1) 0 L st M) := rfl
theorem rs_X5_fraction_1 (n : Nat) (L : AL) (st : List AV) (M : List AC) : rx_X5_fraction (n + 1) 1 L st M = am_j (rx_X5_fraction n) ((tIst 3 1) 1 L st M) := rfl
theorem rs_X5_fraction_2 (n : Nat) (L : AL) (st : List AV) (M : List AC) : rx_X5_fraction (n + 1) 2 L st M = am_j (rx_X5_fraction n) ((tIld 0 1) 2 L st M) := rfl
theorem rs_X5_fraction_3 (n : Nat) (L : AL) (st : List AV) (M : List AC) : rx_X5_fraction (n + 1) 3 L st M = am_j (rx_X5_fraction n) ((tIst 4 2) 3 L st M) := rfl
theorem rs_X5_fraction_5 (n : Nat) (L : AL) (st : List AV) (M : List AC) : rx_X5_fraction (n + 1) 5 L st M = am_j (rx_X5_fraction n) ((tIc 0 1) 5 L st M) := rfl
theorem rs_X5_fraction_6 (n : Nat) (L : AL) (st : List AV) (M : List AC) : rx_X5_fraction (n + 1) 6 L st M = am_j (rx_X5_fraction n) ((tIst 5 2) 6 L st M) := rfl
theorem rs_X5_fraction_8 (n : Nat) (L : AL) (st : List AV) (M : List AC) : rx_X5_fraction (n + 1) 8 L st M = am_j (rx_X5_fraction n) ((tIld 5 2) 8 L st M) := rfl
theorem rs_X5_fraction_10 (n : Nat) (L : AL) (st : List AV) (M : List AC) : rx_X5_fraction (n + 1) 10 L st M = am_j (rx_X5_fraction n) ((tIc 64 2) 10 L st M) := rfl
theorem rs_X5_fraction_12 (n : Nat) (L : AL) (st : List AV) (M : List AC) : rx_X5_fraction (n + 1) 12 L st M = am_j (rx_X5_fraction n) ((tCmge 39) 12 L st M) := rfl
theorem rs_X5_fraction_15 (n : Nat) (L : AL) (st : List AV) (M : List AC) : rx_X5_fraction (n + 1) 15 L st M = am_j (rx_X5_fraction n) ((tIld 4 2) 15 L st M) := rfl
theorem rs_X5_fraction_17 (n : Nat) (L : AL) (st : List AV) (M : List AC) : rx_X5_fraction (n + 1) 17 L st M = am_j (rx_X5_fraction n) ((tIfeq 39) 17 L st M) := rfl
theorem rs_X5_fraction_20 (n : Nat) (L : AL) (st : List AV) (M : List AC) : rx_X5_fraction (n + 1) 20 L st M = am_j (rx_X5_fraction n) ((tIld 3 1) 20 L st M) := rfl
theorem rs_X5_fraction_21 (n : Nat) (L : AL) (st : List AV) (M : List AC) : rx_X5_fraction (n + 1) 21 L st M = am_j (rx_X5_fraction n) ((tIld 4 2) 21 L st M) := rfl
theorem rs_X5_fraction_23 (n : Nat) (L : AL) (st : List AV) (M : List AC) : rx_X5_fraction (n + 1) 23 L st M = am_j (rx_X5_fraction n) ((tDv Int.tmod) 23 L st M) := rfl
theorem rs_X5_fraction_24 (n : Nat) (L : AL) (st : List AV) (M : List AC) : rx_X5_fraction (n + 1) 24 L st M = am_j (rx_X5_fraction n) ((tIst 6 2) 24 L st M) := rfl
theorem rs_X5_fraction_26 (n : Nat) (L : AL) (st : List AV) (M : List AC) : rx_X5_fraction (n + 1) 26 L st M = am_j (rx_X5_fraction n) ((tIld 4 2) 26 L st M) := rfl
theorem rs_X5_fraction_28 (n : Nat) (L : AL) (st : List AV) (M : List AC) : rx_X5_fraction (n + 1) 28 L st M = am_j (rx_X5_fraction n) ((tIst 3 1) 28 L st M) := rfl
theorem rs_X5_fraction_29 (n : Nat) (L : AL) (st : List AV) (M : List AC) : rx_X5_fraction (n + 1) 29 L st M = am_j (rx_X5_fraction n) ((tIld 6 2) 29 L st M) := rfl
theorem rs_X5_fraction_31 (n : Nat) (L : AL) (st : List AV) (M : List AC) : rx_X5_fraction (n + 1) 31 L st M = am_j (rx_X5_fraction n) ((tIst 4 2) 31 L st M) := rfl
theorem rs_X5_fraction_33 (n : Nat) (L : AL) (st : List AV) (M : List AC) : rx_X5_fraction (n + 1) 33 L st M = am_j (rx_X5_fraction n) ((tIinc 5 1) 33 L st M) := rfl
theorem rs_X5_fraction_36 (n : Nat) (L : AL) (st : List AV) (M : List AC) : rx_X5_fraction (n + 1) 36 L st M = am_j (rx_X5_fraction n) ((tGo 8) 36 L st M) := rfl
theorem rs_X5_fraction_39 (n : Nat) (L : AL) (st : List AV) (M : List AC) : rx_X5_fraction (n + 1) 39 L st M = am_j (rx_X5_fraction n) ((tIld 3 1) 39 L st M) := rfl
theorem rs_X5_fraction_40 (n : Nat) (L : AL) (st : List AV) (M : List AC) : rx_X5_fraction (n + 1) 40 L st M = am_j (rx_X5_fraction n) ((tIfne 45) 40 L st M) := rfl
theorem rs_X5_fraction_43 (n : Nat) (L : AL) (st : List AV) (M : List AC) : rx_X5_fraction (n + 1) 43 L st M = am_j (rx_X5_fraction n) ((tIc 0 1) 43 L st M) := rfl
theorem rs_X5_fraction_45 (n : Nat) (L : AL) (st : List AV) (M : List AC) : rx_X5_fraction (n + 1) 45 L st M = am_j (rx_X5_fraction n) ((tIld 2 1) 45 L st M) := rfl
theorem rs_X5_fraction_46 (n : Nat) (L : AL) (st : List AV) (M : List AC) : rx_X5_fraction (n + 1) 46 L st M = am_j (rx_X5_fraction n) ((tIfeq 53) 46 L st M) := rfl
theorem rs_X5_fraction_49 (n : Nat) (L : AL) (st : List AV) (M : List AC) : rx_X5_fraction (n + 1) 49 L st M = am_j (rx_X5_fraction n) ((tIld 0 1) 49 L st M) := rfl
theorem rs_X5_fraction_50 (n : Nat) (L : AL) (st : List AV) (M : List AC) : rx_X5_fraction (n + 1) 50 L st M = am_j (rx_X5_fraction n) ((tGo 54) 50 L st M) := rfl
theorem rs_X5_fraction_53 (n : Nat) (L : AL) (st : List AV) (M : List AC) : rx_X5_fraction (n + 1) 53 L st M = am_j (rx_X5_fraction n) ((tIld 1 1) 53 L st M) := rfl
theorem rs_X5_fraction_54 (n : Nat) (L : AL) (st : List AV) (M : List AC) : rx_X5_fraction (n + 1) 54 L st M = am_j (rx_X5_fraction n) ((tIld 3 1) 54 L st M) := rfl
theorem rs_X5_fraction_55 (n : Nat) (L : AL) (st : List AV) (M : List AC) : rx_X5_fraction (n + 1) 55 L st M = am_j (rx_X5_fraction n) ((tDv Int.tdiv) 55 L st M) := rfl
theorem rs_X5_fraction_44 (n : Nat) (L : AL) (st : List AV) (M : List AC) : rx_X5_fraction (n + 1) 44 L st M = am_e rI st M := rfl
theorem rs_X5_fraction_56 (n : Nat) (L : AL) (st : List AV) (M : List AC) : rx_X5_fraction (n + 1) 56 L st M = am_e rI st M := rfl
theorem ri_X5_fraction (c : Prop) [Decidable c] (p q n : Nat) (L : AL) (st : List AV) (M : List AC) : rx_X5_fraction n (if c then p else q) L st M = if c then rx_X5_fraction n p L st M else rx_X5_fraction n q L st M := by split <;> rfl
theorem rm_X5_fraction {n k pc : Nat} {L : AL} {st : List AV} {M : List AC} {x : Option AV × List AC} (h : rx_X5_fraction n pc L st M = some x) (hk : n ≤ k) : rx_X5_fraction k pc L st M = some x := am_r_mono n k h hk
def fn_X5_fraction : Fn := am_fn rx_X5_fraction 7
theorem fok_X5_fraction : Fok mi_X5_fraction fn_X5_fraction := fun _ _ _ _ h => am_fok ok_X5_fraction rk_X5_fraction rfl h
def mid_fraction (a b u : Int) (d : Nat) (x : Option AV × List AC) (M : List AC) (N : Nat) : Prop := ∀ y4 y5 y6 : Option AV, Ru rx_X5_fraction N 39 [some (vI a), some (vI b), some (vI u), some (vI (d : Int)), y4, y5, y6] [] M x
theorem lp_X5_fraction (a b u : Int) (M : List AC) (x : Option AV × List AC) (N : Nat) : ∀ (m : Nat) (p q : Nat) (j : Int) (x6 : Option AV), q ≤ p → p * q < 2 ^ m → p < 2147483648 → j + m ≤ 64 → 0 ≤ j → mid_fraction a b u (Nat.gcd p q) x M N →
    Ru rx_X5_fraction (N + 30 * m + 30) 8 [some (vI a), some (vI b), some (vI u), some (vI (p : Int)), some (vI (q : Int)), some (vI j), x6] [] M x := by
  intro m
  induction m with
  | zero =>
    intro p q j x6 hqp hpq hp hj h0 kk
    have hq : q = 0 := by
      rcases Nat.eq_zero_or_pos q with e | e
      · exact e
      · have := Nat.mul_pos (Nat.lt_of_lt_of_le e hqp) e
        omega
    subst hq
    obtain ⟨n, hn, h⟩ := kk (some (vI 0)) (some (vI j)) x6
    rw [Nat.gcd_zero_right] at h
    have wj : wr j = j := wr_id (by omega) (by omega)
    refine ⟨n + 19 + 1, by omega, ?_⟩
    rw [rs_X5_fraction_8]
    by_cases hj2 : 64 ≤ j <;>
    simp [↓ri_X5_fraction, rs_X5_fraction_0, rs_X5_fraction_1, rs_X5_fraction_2, rs_X5_fraction_3, rs_X5_fraction_5, rs_X5_fraction_6, rs_X5_fraction_10, rs_X5_fraction_12, rs_X5_fraction_15, rs_X5_fraction_17, rs_X5_fraction_20, rs_X5_fraction_21, rs_X5_fraction_23, rs_X5_fraction_24, rs_X5_fraction_26, rs_X5_fraction_28, rs_X5_fraction_29, rs_X5_fraction_31, rs_X5_fraction_33, rs_X5_fraction_36, rs_X5_fraction_40, rs_X5_fraction_43, rs_X5_fraction_45, rs_X5_fraction_46, rs_X5_fraction_49, rs_X5_fraction_50, rs_X5_fraction_53, rs_X5_fraction_54, rs_X5_fraction_55, rs_X5_fraction_44, rs_X5_fraction_56, -List.getElem?_eq_getElem, am_js, am_e, am_in, am_sl, rI, rZ, rV, rJ, rA, rC, kI, kJ, kR, am_one, am_nl, am_w8, tIc, tLc, tNul, tIld, tLld, tAld, tIst, tLst, tAst, tIinc, tI2, tDv, tL2, tLrem, tLs, tLcmp, tI2l, tL2i, tI2c, tDup, tDup2, tPop, tGo, tIfeq, tIfne, tIflt, tIfge, tIfgt, tIfle, tCmeq, tCmne, tCmlt, tCmge, tCmgt, tCmle, tNu, tTs, tGf, tPf, tGs, tIal, tIas, tBal, tBas, tAln, tSv, tSc, tSb, tSl, tSk, tCv, tCs, tCt, tMx, tMn, wr_10000, wr_100000, wr_1000000, wr_10000000, wr_100000000, wr_2400, wr_9999, wr_0, wr_1, wr_2, wr_3, wr_4, wr_5, wr_6, wr_7, wr_8, wr_9, wr_10, wr_11, wr_12, wr_13, wr_14, wr_15, wr_16, wr_17, wr_18, wr_19, wr_20, wr_21, wr_22, wr_23, wr_24, wr_25, wr_26, wr_27, wr_28, wr_29, wr_30, wr_31, wr_32, wr_33, wr_34, wr_35, wr_36, wr_37, wr_38, wr_39, wr_40, wr_41, wr_42, wr_43, wr_44, wr_45, wr_46, wr_47, wr_48, wr_49, wr_50, wr_51, wr_52, wr_53, wr_54, wr_55, wr_56, wr_57, wr_58, wr_59, wr_60, wr_61, wr_62, wr_63, wr_99, wr_100, wr_192, wr_255, wr_256, wr_343, wr_999, wr_1000, wr_2401, wr_2147483647, wr_65535, wr_m1, wr_m2, wr_m3, wr_m4, wr_m9, ak_1000, ak_1001, ak_1002, ak_0, ak_1, ak_2, ak_3, ak_4, ak_5, ak_6, ak_7, ak_8, ak_9, ak_10, ak_11, ak_12, ak_13, ak_14, ak_15, ak_16, ak_17, ak_18, ak_19, ak_20, ak_21, ak_22, ak_23, ak_24, ak_25, ak_26, ak_27, ak_28, ak_29, ak_30, ak_31, ak_32, ak_33, ak_34, ak_35, ak_36, ak_37, ak_38, ak_39, ak_40, ak_41, ak_42, ak_43, ak_44, ak_45, ak_46, ak_47, wr_64, wj, hj2] <;> exact rm_X5_fraction h (by omega)
  | succ m ih =>
    intro p q j x6 hqp hpq hp hj h0 kk
    have wj : wr j = j := wr_id (by omega) (by omega)
    have nj : ¬ 64 ≤ j := by omega
    rcases Nat.eq_zero_or_pos q with e | e
    · subst e
      obtain ⟨n, hn, h⟩ := kk (some (vI 0)) (some (vI j)) x6
      rw [Nat.gcd_zero_right] at h
      refine ⟨n + 19 + 1, by omega, ?_⟩
      rw [rs_X5_fraction_8]
      simp [↓ri_X5_fraction, rs_X5_fraction_0, rs_X5_fraction_1, rs_X5_fraction_2, rs_X5_fraction_3, rs_X5_fraction_5, rs_X5_fraction_6, rs_X5_fraction_10, rs_X5_fraction_12, rs_X5_fraction_15, rs_X5_fraction_17, rs_X5_fraction_20, rs_X5_fraction_21, rs_X5_fraction_23, rs_X5_fraction_24, rs_X5_fraction_26, rs_X5_fraction_28, rs_X5_fraction_29, rs_X5_fraction_31, rs_X5_fraction_33, rs_X5_fraction_36, rs_X5_fraction_40, rs_X5_fraction_43, rs_X5_fraction_45, rs_X5_fraction_46, rs_X5_fraction_49, rs_X5_fraction_50, rs_X5_fraction_53, rs_X5_fraction_54, rs_X5_fraction_55, rs_X5_fraction_44, rs_X5_fraction_56, -List.getElem?_eq_getElem, am_js, am_e, am_in, am_sl, rI, rZ, rV, rJ, rA, rC, kI, kJ, kR, am_one, am_nl, am_w8, tIc, tLc, tNul, tIld, tLld, tAld, tIst, tLst, tAst, tIinc, tI2, tDv, tL2, tLrem, tLs, tLcmp, tI2l, tL2i, tI2c, tDup, tDup2, tPop, tGo, tIfeq, tIfne, tIflt, tIfge, tIfgt, tIfle, tCmeq, tCmne, tCmlt, tCmge, tCmgt, tCmle, tNu, tTs, tGf, tPf, tGs, tIal, tIas, tBal, tBas, tAln, tSv, tSc, tSb, tSl, tSk, tCv, tCs, tCt, tMx, tMn, wr_10000, wr_100000, wr_1000000, wr_10000000, wr_100000000, wr_2400, wr_9999, wr_0, wr_1, wr_2, wr_3, wr_4, wr_5, wr_6, wr_7, wr_8, wr_9, wr_10, wr_11, wr_12, wr_13, wr_14, wr_15, wr_16, wr_17, wr_18, wr_19, wr_20, wr_21, wr_22, wr_23, wr_24, wr_25, wr_26, wr_27, wr_28, wr_29, wr_30, wr_31, wr_32, wr_33, wr_34, wr_35, wr_36, wr_37, wr_38, wr_39, wr_40, wr_41, wr_42, wr_43, wr_44, wr_45, wr_46, wr_47, wr_48, wr_49, wr_50, wr_51, wr_52, wr_53, wr_54, wr_55, wr_56, wr_57, wr_58, wr_59, wr_60, wr_61, wr_62, wr_63, wr_99, wr_100, wr_192, wr_255, wr_256, wr_343, wr_999, wr_1000, wr_2401, wr_2147483647, wr_65535, wr_m1, wr_m2, wr_m3, wr_m4, wr_m9, ak_1000, ak_1001, ak_1002, ak_0, ak_1, ak_2, ak_3, ak_4, ak_5, ak_6, ak_7, ak_8, ak_9, ak_10, ak_11, ak_12, ak_13, ak_14, ak_15, ak_16, ak_17, ak_18, ak_19, ak_20, ak_21, ak_22, ak_23, ak_24, ak_25, ak_26, ak_27, ak_28, ak_29, ak_30, ak_31, ak_32, ak_33, ak_34, ak_35, ak_36, ak_37, ak_38, ak_39, ak_40, ak_41, ak_42, ak_43, ak_44, ak_45, ak_46, ak_47, wr_64, wj, nj]
      exact rm_X5_fraction h (by omega)
    · have wp : wr (p : Int) = p := wr_id (by omega) (by omega)
      have wq : wr (q : Int) = q := wr_id (by omega) (by omega)
      have nq : ¬ q = 0 := by omega
      have hm : Int.tmod (p : Int) (q : Int) = ((p % q : Nat) : Int) := by
        rw [Int.tmod_eq_emod_of_nonneg (by omega)]; rfl
      have hlt : p % q < q := Nat.mod_lt _ e
      have hle : q + p % q ≤ p := by
        have h1 := Nat.div_add_mod p q
        have h2 : 1 ≤ p / q := Nat.div_pos hqp e
        have h3 : q * 1 ≤ q * (p / q) := Nat.mul_le_mul_left q h2
        omega
      have hpr : q * (p % q) < 2 ^ m := by
        have h1 : 2 * (p % q) ≤ p := by omega
        have h2 : q * (2 * (p % q)) ≤ q * p := Nat.mul_le_mul_left q h1
        have h3 : q * (2 * (p % q)) = 2 * (q * (p % q)) := by rw [Nat.mul_left_comm]
        have h4 : q * p = p * q := Nat.mul_comm q p
        have h5 : 2 ^ (m + 1) = 2 * 2 ^ m := by rw [Nat.pow_succ]; omega
        omega
      have hg : Nat.gcd p q = Nat.gcd q (p % q) := by rw [Nat.gcd_comm p q, Nat.gcd_rec q p, Nat.gcd_comm]
      rw [hg] at kk
      obtain ⟨n, hn, h⟩ := ih q (p % q) (j + 1) (some (vI ((p % q : Nat) : Int))) (by omega) hpr (by omega) (by omega) (by omega) kk
      refine ⟨n + 29 + 1, by omega, ?_⟩
      rw [rs_X5_fraction_8]
      generalize p % q = r at hm h
      rcases x6 with _ | x6 <;>
      simp [↓ri_X5_fraction, rs_X5_fraction_0, rs_X5_fraction_1, rs_X5_fraction_2, rs_X5_fraction_3, rs_X5_fraction_5, rs_X5_fraction_6, rs_X5_fraction_10, rs_X5_fraction_12, rs_X5_fraction_15, rs_X5_fraction_17, rs_X5_fraction_20, rs_X5_fraction_21, rs_X5_fraction_23, rs_X5_fraction_24, rs_X5_fraction_26, rs_X5_fraction_28, rs_X5_fraction_29, rs_X5_fraction_31, rs_X5_fraction_33, rs_X5_fraction_36, rs_X5_fraction_40, rs_X5_fraction_43, rs_X5_fraction_45, rs_X5_fraction_46, rs_X5_fraction_49, rs_X5_fraction_50, rs_X5_fraction_53, rs_X5_fraction_54, rs_X5_fraction_55, rs_X5_fraction_44, rs_X5_fraction_56, -List.getElem?_eq_getElem, am_js, am_e, am_in, am_sl, rI, rZ, rV, rJ, rA, rC, kI, kJ, kR, am_one, am_nl, am_w8, tIc, tLc, tNul, tIld, tLld, tAld, tIst, tLst, tAst, tIinc, tI2, tDv, tL2, tLrem, tLs, tLcmp, tI2l, tL2i, tI2c, tDup, tDup2, tPop, tGo, tIfeq, tIfne, tIflt, tIfge, tIfgt, tIfle, tCmeq, tCmne, tCmlt, tCmge, tCmgt, tCmle, tNu, tTs, tGf, tPf, tGs, tIal, tIas, tBal, tBas, tAln, tSv, tSc, tSb, tSl, tSk, tCv, tCs, tCt, tMx, tMn, wr_10000, wr_100000, wr_1000000, wr_10000000, wr_100000000, wr_2400, wr_9999, wr_0, wr_1, wr_2, wr_3, wr_4, wr_5, wr_6, wr_7, wr_8, wr_9, wr_10, wr_11, wr_12, wr_13, wr_14, wr_15, wr_16, wr_17, wr_18, wr_19, wr_20, wr_21, wr_22, wr_23, wr_24, wr_25, wr_26, wr_27, wr_28, wr_29, wr_30, wr_31, wr_32, wr_33, wr_34, wr_35, wr_36, wr_37, wr_38, wr_39, wr_40, wr_41, wr_42, wr_43, wr_44, wr_45, wr_46, wr_47, wr_48, wr_49, wr_50, wr_51, wr_52, wr_53, wr_54, wr_55, wr_56, wr_57, wr_58, wr_59, wr_60, wr_61, wr_62, wr_63, wr_99, wr_100, wr_192, wr_255, wr_256, wr_343, wr_999, wr_1000, wr_2401, wr_2147483647, wr_65535, wr_m1, wr_m2, wr_m3, wr_m4, wr_m9, ak_1000, ak_1001, ak_1002, ak_0, ak_1, ak_2, ak_3, ak_4, ak_5, ak_6, ak_7, ak_8, ak_9, ak_10, ak_11, ak_12, ak_13, ak_14, ak_15, ak_16, ak_17, ak_18, ak_19, ak_20, ak_21, ak_22, ak_23, ak_24, ak_25, ak_26, ak_27, ak_28, ak_29, ak_30, ak_31, ak_32, ak_33, ak_34, ak_35, ak_36, ak_37, ak_38, ak_39, ak_40, ak_41, ak_42, ak_43, ak_44, ak_45, ak_46, ak_47, wr_64, wj, nj, wp, wq, nq, hm] <;> exact rm_X5_fraction h (by omega)
theorem sp_X5_fraction (a b : Nat) (u : Int) (M : List AC) (ha : a < 1048576) (hb : 0 < b ∧ b < 1048576) (hu : u = 0 ∨ u = 1) : fn_X5_fraction [vI a, vI b, vI u] M = some (some (vI (((if u = 0 then b else a) / Nat.gcd a b : Nat) : Int)), M) := by
  have hg : 0 < Nat.gcd a b := Nat.gcd_pos_of_pos_right a hb.1
  have hgl : Nat.gcd a b ≤ b := Nat.gcd_le_right a hb.1
  have hend : mid_fraction a b u (Nat.gcd a b) (some (vI (((if u = 0 then b else a) / Nat.gcd a b : Nat) : Int)), M) M 20 := by
    intro y4 y5 y6
    refine ⟨19 + 1, by omega, ?_⟩
    generalize Nat.gcd a b = g at hg hgl ⊢
    have wg : wr (g : Int) = g := wr_id (by omega) (by omega)
    have ng : ¬ g = 0 := by omega
    have wa : wr (a : Int) = a := wr_id (by omega) (by omega)
    have wb : wr (b : Int) = b := wr_id (by omega) (by omega)
    have da : Int.tdiv (a : Int) (g : Int) = ((a / g : Nat) : Int) := by rw [Int.tdiv_eq_ediv_of_nonneg (by omega)]; rfl
    have db : Int.tdiv (b : Int) (g : Int) = ((b / g : Nat) : Int) := by rw [Int.tdiv_eq_ediv_of_nonneg (by omega)]; rfl
    rcases hu with rfl | rfl
    · rw [if_pos rfl]
      generalize b / g = z at db ⊢
      simp [↓ri_X5_fraction, rs_X5_fraction_0, rs_X5_fraction_1, rs_X5_fraction_2, rs_X5_fraction_3, rs_X5_fraction_5, rs_X5_fraction_6, rs_X5_fraction_8, rs_X5_fraction_10, rs_X5_fraction_12, rs_X5_fraction_15, rs_X5_fraction_17, rs_X5_fraction_20, rs_X5_fraction_21, rs_X5_fraction_23, rs_X5_fraction_24, rs_X5_fraction_26, rs_X5_fraction_28, rs_X5_fraction_29, rs_X5_fraction_31, rs_X5_fraction_33, rs_X5_fraction_36, rs_X5_fraction_39, rs_X5_fraction_40, rs_X5_fraction_43, rs_X5_fraction_45, rs_X5_fraction_46, rs_X5_fraction_49, rs_X5_fraction_50, rs_X5_fraction_53, rs_X5_fraction_54, rs_X5_fraction_55, rs_X5_fraction_44, rs_X5_fraction_56, -List.getElem?_eq_getElem, am_js, am_e, am_in, am_sl, rI, rZ, rV, rJ, rA, rC, kI, kJ, kR, am_one, am_nl, am_w8, tIc, tLc, tNul, tIld, tLld, tAld, tIst, tLst, tAst, tIinc, tI2, tDv, tL2, tLrem, tLs, tLcmp, tI2l, tL2i, tI2c, tDup, tDup2, tPop, tGo, tIfeq, tIfne, tIflt, tIfge, tIfgt, tIfle, tCmeq, tCmne, tCmlt, tCmge, tCmgt, tCmle, tNu, tTs, tGf, tPf, tGs, tIal, tIas, tBal, tBas, tAln, tSv, tSc, tSb, tSl, tSk, tCv, tCs, tCt, tMx, tMn, wr_10000, wr_100000, wr_1000000, wr_10000000, wr_100000000, wr_2400, wr_9999, wr_0, wr_1, wr_2, wr_3, wr_4, wr_5, wr_6, wr_7, wr_8, wr_9, wr_10, wr_11, wr_12, wr_13, wr_14, wr_15, wr_16, wr_17, wr_18, wr_19, wr_20, wr_21, wr_22, wr_23, wr_24, wr_25, wr_26, wr_27, wr_28, wr_29, wr_30, wr_31, wr_32, wr_33, wr_34, wr_35, wr_36, wr_37, wr_38, wr_39, wr_40, wr_41, wr_42, wr_43, wr_44, wr_45, wr_46, wr_47, wr_48, wr_49, wr_50, wr_51, wr_52, wr_53, wr_54, wr_55, wr_56, wr_57, wr_58, wr_59, wr_60, wr_61, wr_62, wr_63, wr_99, wr_100, wr_192, wr_255, wr_256, wr_343, wr_999, wr_1000, wr_2401, wr_2147483647, wr_65535, wr_m1, wr_m2, wr_m3, wr_m4, wr_m9, ak_1000, ak_1001, ak_1002, ak_0, ak_1, ak_2, ak_3, ak_4, ak_5, ak_6, ak_7, ak_8, ak_9, ak_10, ak_11, ak_12, ak_13, ak_14, ak_15, ak_16, ak_17, ak_18, ak_19, ak_20, ak_21, ak_22, ak_23, ak_24, ak_25, ak_26, ak_27, ak_28, ak_29, ak_30, ak_31, ak_32, ak_33, ak_34, ak_35, ak_36, ak_37, ak_38, ak_39, ak_40, ak_41, ak_42, ak_43, ak_44, ak_45, ak_46, ak_47, wg, ng, wa, wb, db]
    · rw [if_neg (by decide)]
      generalize a / g = z at da ⊢
      simp [↓ri_X5_fraction, rs_X5_fraction_0, rs_X5_fraction_1, rs_X5_fraction_2, rs_X5_fraction_3, rs_X5_fraction_5, rs_X5_fraction_6, rs_X5_fraction_8, rs_X5_fraction_10, rs_X5_fraction_12, rs_X5_fraction_15, rs_X5_fraction_17, rs_X5_fraction_20, rs_X5_fraction_21, rs_X5_fraction_23, rs_X5_fraction_24, rs_X5_fraction_26, rs_X5_fraction_28, rs_X5_fraction_29, rs_X5_fraction_31, rs_X5_fraction_33, rs_X5_fraction_36, rs_X5_fraction_39, rs_X5_fraction_40, rs_X5_fraction_43, rs_X5_fraction_45, rs_X5_fraction_46, rs_X5_fraction_49, rs_X5_fraction_50, rs_X5_fraction_53, rs_X5_fraction_54, rs_X5_fraction_55, rs_X5_fraction_44, rs_X5_fraction_56, -List.getElem?_eq_getElem, am_js, am_e, am_in, am_sl, rI, rZ, rV, rJ, rA, rC, kI, kJ, kR, am_one, am_nl, am_w8, tIc, tLc, tNul, tIld, tLld, tAld, tIst, tLst, tAst, tIinc, tI2, tDv, tL2, tLrem, tLs, tLcmp, tI2l, tL2i, tI2c, tDup, tDup2, tPop, tGo, tIfeq, tIfne, tIflt, tIfge, tIfgt, tIfle, tCmeq, tCmne, tCmlt, tCmge, tCmgt, tCmle, tNu, tTs, tGf, tPf, tGs, tIal, tIas, tBal, tBas, tAln, tSv, tSc, tSb, tSl, tSk, tCv, tCs, tCt, tMx, tMn, wr_10000, wr_100000, wr_1000000, wr_10000000, wr_100000000, wr_2400, wr_9999, wr_0, wr_1, wr_2, wr_3, wr_4, wr_5, wr_6, wr_7, wr_8, wr_9, wr_10, wr_11, wr_12, wr_13, wr_14, wr_15, wr_16, wr_17, wr_18, wr_19, wr_20, wr_21, wr_22, wr_23, wr_24, wr_25, wr_26, wr_27, wr_28, wr_29, wr_30, wr_31, wr_32, wr_33, wr_34, wr_35, wr_36, wr_37, wr_38, wr_39, wr_40, wr_41, wr_42, wr_43, wr_44, wr_45, wr_46, wr_47, wr_48, wr_49, wr_50, wr_51, wr_52, wr_53, wr_54, wr_55, wr_56, wr_57, wr_58, wr_59, wr_60, wr_61, wr_62, wr_63, wr_99, wr_100, wr_192, wr_255, wr_256, wr_343, wr_999, wr_1000, wr_2401, wr_2147483647, wr_65535, wr_m1, wr_m2, wr_m3, wr_m4, wr_m9, ak_1000, ak_1001, ak_1002, ak_0, ak_1, ak_2, ak_3, ak_4, ak_5, ak_6, ak_7, ak_8, ak_9, ak_10, ak_11, ak_12, ak_13, ak_14, ak_15, ak_16, ak_17, ak_18, ak_19, ak_20, ak_21, ak_22, ak_23, ak_24, ak_25, ak_26, ak_27, ak_28, ak_29, ak_30, ak_31, ak_32, ak_33, ak_34, ak_35, ak_36, ak_37, ak_38, ak_39, ak_40, ak_41, ak_42, ak_43, ak_44, ak_45, ak_46, ak_47, wg, ng, wa, wb, da]
  have hpw : (2 : Nat) ^ 40 = 1099511627776 := by decide
  rcases Nat.lt_or_ge b a with hab | hab
  · -- one turn more
    have hend2 := hend
    rw [Nat.gcd_comm] at hend2
    have hend3 : mid_fraction a b u (Nat.gcd a b) (some (vI (((if u = 0 then b else a) / Nat.gcd a b : Nat) : Int)), M) M 20 := hend
    have hmul : a * b < 2 ^ 40 := by
      have : a * b ≤ 1048575 * 1048575 := Nat.mul_le_mul (by omega) (by omega)
      omega
    obtain ⟨n, hn, h⟩ := lp_X5_fraction a b u M _ 20 40 a b 1 (some (vI b)) (by omega) hmul (by omega) (by omega) (by omega) hend3
    have wa : wr (a : Int) = a := wr_id (by omega) (by omega)
    have wb : wr (b : Int) = b := wr_id (by omega) (by omega)
    have na : ¬ a = 0 := by omega
    have hm : Int.tmod (b : Int) (a : Int) = (b : Int) := Int.tmod_eq_of_lt (by omega) (by omega)
    (refine am_fnR (tb := tb_X5_fraction) (N := 2000) (Nat.le_of_ble_eq_true rfl) (Nat.le_of_ble_eq_true rfl) ?_; show Ru rx_X5_fraction 2000 0 _ _ _ _)
    refine ⟨n + 40, by omega, ?_⟩
    generalize ((if u = 0 then b else a) / Nat.gcd a b : Nat) = z at h ⊢
    rw [show n + 40 = (n + 33) + 7 by omega]
    have h8 : rx_X5_fraction (n + 33) 8 [some (vI a), some (vI b), some (vI u), some (vI b), some (vI a), some (vI 0), none] [] M = some (some (vI (z : Int)), M) := by
      rw [show n + 33 = (n + 32) + 1 by omega, rs_X5_fraction_8]
      simp [↓ri_X5_fraction, rs_X5_fraction_0, rs_X5_fraction_1, rs_X5_fraction_2, rs_X5_fraction_3, rs_X5_fraction_5, rs_X5_fraction_6, rs_X5_fraction_10, rs_X5_fraction_12, rs_X5_fraction_15, rs_X5_fraction_17, rs_X5_fraction_20, rs_X5_fraction_21, rs_X5_fraction_23, rs_X5_fraction_24, rs_X5_fraction_26, rs_X5_fraction_28, rs_X5_fraction_29, rs_X5_fraction_31, rs_X5_fraction_33, rs_X5_fraction_36, rs_X5_fraction_40, rs_X5_fraction_43, rs_X5_fraction_45, rs_X5_fraction_46, rs_X5_fraction_49, rs_X5_fraction_50, rs_X5_fraction_53, rs_X5_fraction_54, rs_X5_fraction_55, rs_X5_fraction_44, rs_X5_fraction_56, -List.getElem?_eq_getElem, am_js, am_e, am_in, am_sl, rI, rZ, rV, rJ, rA, rC, kI, kJ, kR, am_one, am_nl, am_w8, tIc, tLc, tNul, tIld, tLld, tAld, tIst, tLst, tAst, tIinc, tI2, tDv, tL2, tLrem, tLs, tLcmp, tI2l, tL2i, tI2c, tDup, tDup2, tPop, tGo, tIfeq, tIfne, tIflt, tIfge, tIfgt, tIfle, tCmeq, tCmne, tCmlt, tCmge, tCmgt, tCmle, tNu, tTs, tGf, tPf, tGs, tIal, tIas, tBal, tBas, tAln, tSv, tSc, tSb, tSl, tSk, tCv, tCs, tCt, tMx, tMn, wr_10000, wr_100000, wr_1000000, wr_10000000, wr_100000000, wr_2400, wr_9999, wr_0, wr_1, wr_2, wr_3, wr_4, wr_5, wr_6, wr_7, wr_8, wr_9, wr_10, wr_11, wr_12, wr_13, wr_14, wr_15, wr_16, wr_17, wr_18, wr_19, wr_20, wr_21, wr_22, wr_23, wr_24, wr_25, wr_26, wr_27, wr_28, wr_29, wr_30, wr_31, wr_32, wr_33, wr_34, wr_35, wr_36, wr_37, wr_38, wr_39, wr_40, wr_41, wr_42, wr_43, wr_44, wr_45, wr_46, wr_47, wr_48, wr_49, wr_50, wr_51, wr_52, wr_53, wr_54, wr_55, wr_56, wr_57, wr_58, wr_59, wr_60, wr_61, wr_62, wr_63, wr_99, wr_100, wr_192, wr_255, wr_256, wr_343, wr_999, wr_1000, wr_2401, wr_2147483647, wr_65535, wr_m1, wr_m2, wr_m3, wr_m4, wr_m9, ak_1000, ak_1001, ak_1002, ak_0, ak_1, ak_2, ak_3, ak_4, ak_5, ak_6, ak_7, ak_8, ak_9, ak_10, ak_11, ak_12, ak_13, ak_14, ak_15, ak_16, ak_17, ak_18, ak_19, ak_20, ak_21, ak_22, ak_23, ak_24, ak_25, ak_26, ak_27, ak_28, ak_29, ak_30, ak_31, ak_32, ak_33, ak_34, ak_35, ak_36, ak_37, ak_38, ak_39, ak_40, ak_41, ak_42, ak_43, ak_44, ak_45, ak_46, ak_47, wr_64, wa, wb, na, hm]
      exact rm_X5_fraction h (by omega)
    simp [↓ri_X5_fraction, rs_X5_fraction_0, rs_X5_fraction_1, rs_X5_fraction_2, rs_X5_fraction_3, rs_X5_fraction_5, rs_X5_fraction_6, rs_X5_fraction_10, rs_X5_fraction_12, rs_X5_fraction_15, rs_X5_fraction_17, rs_X5_fraction_20, rs_X5_fraction_21, rs_X5_fraction_23, rs_X5_fraction_24, rs_X5_fraction_26, rs_X5_fraction_28, rs_X5_fraction_29, rs_X5_fraction_31, rs_X5_fraction_33, rs_X5_fraction_36, rs_X5_fraction_40, rs_X5_fraction_43, rs_X5_fraction_45, rs_X5_fraction_46, rs_X5_fraction_49, rs_X5_fraction_50, rs_X5_fraction_53, rs_X5_fraction_54, rs_X5_fraction_55, rs_X5_fraction_44, rs_X5_fraction_56, -List.getElem?_eq_getElem, am_js, am_e, am_in, am_sl, rI, rZ, rV, rJ, rA, rC, kI, kJ, kR, am_one, am_nl, am_w8, tIc, tLc, tNul, tIld, tLld, tAld, tIst, tLst, tAst, tIinc, tI2, tDv, tL2, tLrem, tLs, tLcmp, tI2l, tL2i, tI2c, tDup, tDup2, tPop, tGo, tIfeq, tIfne, tIflt, tIfge, tIfgt, tIfle, tCmeq, tCmne, tCmlt, tCmge, tCmgt, tCmle, tNu, tTs, tGf, tPf, tGs, tIal, tIas, tBal, tBas, tAln, tSv, tSc, tSb, tSl, tSk, tCv, tCs, tCt, tMx, tMn, wr_10000, wr_100000, wr_1000000, wr_10000000, wr_100000000, wr_2400, wr_9999, wr_0, wr_1, wr_2, wr_3, wr_4, wr_5, wr_6, wr_7, wr_8, wr_9, wr_10, wr_11, wr_12, wr_13, wr_14, wr_15, wr_16, wr_17, wr_18, wr_19, wr_20, wr_21, wr_22, wr_23, wr_24, wr_25, wr_26, wr_27, wr_28, wr_29, wr_30, wr_31, wr_32, wr_33, wr_34, wr_35, wr_36, wr_37, wr_38, wr_39, wr_40, wr_41, wr_42, wr_43, wr_44, wr_45, wr_46, wr_47, wr_48, wr_49, wr_50, wr_51, wr_52, wr_53, wr_54, wr_55, wr_56, wr_57, wr_58, wr_59, wr_60, wr_61, wr_62, wr_63, wr_99, wr_100, wr_192, wr_255, wr_256, wr_343, wr_999, wr_1000, wr_2401, wr_2147483647, wr_65535, wr_m1, wr_m2, wr_m3, wr_m4, wr_m9, ak_1000, ak_1001, ak_1002, ak_0, ak_1, ak_2, ak_3, ak_4, ak_5, ak_6, ak_7, ak_8, ak_9, ak_10, ak_11, ak_12, ak_13, ak_14, ak_15, ak_16, ak_17, ak_18, ak_19, ak_20, ak_21, ak_22, ak_23, ak_24, ak_25, ak_26, ak_27, ak_28, ak_29, ak_30, ak_31, ak_32, ak_33, ak_34, ak_35, ak_36, ak_37, ak_38, ak_39, ak_40, ak_41, ak_42, ak_43, ak_44, ak_45, ak_46, ak_47]
    exact rm_X5_fraction h8 (by omega)
  · have hmul : b * a < 2 ^ 40 := by
      have : b * a ≤ 1048575 * 1048575 := Nat.mul_le_mul (by omega) (by omega)
      omega
    have hend2 := hend
    rw [Nat.gcd_comm] at hend2
    obtain ⟨n, hn, h⟩ := lp_X5_fraction a b u M _ 20 40 b a 0 none hab hmul (by omega) (by omega) (by omega) hend2
    rw [Nat.gcd_comm] at h
    (refine am_fnR (tb := tb_X5_fraction) (N := 2000) (Nat.le_of_ble_eq_true rfl) (Nat.le_of_ble_eq_true rfl) ?_; show Ru rx_X5_fraction 2000 0 _ _ _ _)
    refine ⟨n + 7, by omega, ?_⟩
    generalize ((if u = 0 then b else a) / Nat.gcd a b : Nat) = z at h ⊢
    simp [↓ri_X5_fraction, rs_X5_fraction_0, rs_X5_fraction_1, rs_X5_fraction_2, rs_X5_fraction_3, rs_X5_fraction_5, rs_X5_fraction_6, rs_X5_fraction_10, rs_X5_fraction_12, rs_X5_fraction_15, rs_X5_fraction_17, rs_X5_fraction_20, rs_X5_fraction_21, rs_X5_fraction_23, rs_X5_fraction_24, rs_X5_fraction_26, rs_X5_fraction_28, rs_X5_fraction_29, rs_X5_fraction_31, rs_X5_fraction_33, rs_X5_fraction_36, rs_X5_fraction_40, rs_X5_fraction_43, rs_X5_fraction_45, rs_X5_fraction_46, rs_X5_fraction_49, rs_X5_fraction_50, rs_X5_fraction_53, rs_X5_fraction_54, rs_X5_fraction_55, rs_X5_fraction_44, rs_X5_fraction_56, -List.getElem?_eq_getElem, am_js, am_e, am_in, am_sl, rI, rZ, rV, rJ, rA, rC, kI, kJ, kR, am_one, am_nl, am_w8, tIc, tLc, tNul, tIld, tLld, tAld, tIst, tLst, tAst, tIinc, tI2, tDv, tL2, tLrem, tLs, tLcmp, tI2l, tL2i, tI2c, tDup, tDup2, tPop, tGo, tIfeq, tIfne, tIflt, tIfge, tIfgt, tIfle, tCmeq, tCmne, tCmlt, tCmge, tCmgt, tCmle, tNu, tTs, tGf, tPf, tGs, tIal, tIas, tBal, tBas, tAln, tSv, tSc, tSb, tSl, tSk, tCv, tCs, tCt, tMx, tMn, wr_10000, wr_100000, wr_1000000, wr_10000000, wr_100000000, wr_2400, wr_9999, wr_0, wr_1, wr_2, wr_3, wr_4, wr_5, wr_6, wr_7, wr_8, wr_9, wr_10, wr_11, wr_12, wr_13, wr_14, wr_15, wr_16, wr_17, wr_18, wr_19, wr_20, wr_21, wr_22, wr_23, wr_24, wr_25, wr_26, wr_27, wr_28, wr_29, wr_30, wr_31, wr_32, wr_33, wr_34, wr_35, wr_36, wr_37, wr_38, wr_39, wr_40, wr_41, wr_42, wr_43, wr_44, wr_45, wr_46, wr_47, wr_48, wr_49, wr_50, wr_51, wr_52, wr_53, wr_54, wr_55, wr_56, wr_57, wr_58, wr_59, wr_60, wr_61, wr_62, wr_63, wr_99, wr_100, wr_192, wr_255, wr_256, wr_343, wr_999, wr_1000, wr_2401, wr_2147483647, wr_65535, wr_m1, wr_m2, wr_m3, wr_m4, wr_m9, ak_1000, ak_1001, ak_1002, ak_0, ak_1, ak_2, ak_3, ak_4, ak_5, ak_6, ak_7, ak_8, ak_9, ak_10, ak_11, ak_12, ak_13, ak_14, ak_15, ak_16, ak_17, ak_18, ak_19, ak_20, ak_21, ak_22, ak_23, ak_24, ak_25, ak_26, ak_27, ak_28, ak_29, ak_30, ak_31, ak_32, ak_33, ak_34, ak_35, ak_36, ak_37, ak_38, ak_39, ak_40, ak_41, ak_42, ak_43, ak_44, ak_45, ak_46, ak_47]
    exact rm_X5_fraction h (by omega)
end
