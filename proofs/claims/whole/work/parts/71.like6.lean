noncomputable section
/-- a fraction in its least numbers: above (u = 1) or below -/
def frq (a b u : Int) : Int := (((if u = 0 then b.toNat else a.toNat) / Nat.gcd a.toNat b.toNat : Nat) : Int)
theorem frq_n (a b : Nat) (u : Int) : frq a b u = (((if u = 0 then b else a) / Nat.gcd a b : Nat) : Int) := by
  unfold frq
  rw [Int.toNat_natCast, Int.toNat_natCast]
theorem nat_of {x : Int} (h : 0 ≤ x) : ∃ a : Nat, x = (a : Int) := ⟨x.toNat, by omega⟩
theorem wa_rng {n : Int} {c t : F3} (ht : i3 0 9 t) : 0 ≤ wa n c t ∧ wa n c t ≤ 78732 := by
  have a := wt_rng (n := n) (c := c) (q := 0) ht
  have b := wt_rng (n := n) (c := c) (q := 1) ht
  have d := wt_rng (n := n) (c := c) (q := 2) ht
  have e := wt_rng (n := n) (c := c) (q := 3) ht
  unfold wa
  omega
abbrev mi_X6_likely : Mi := (yX6_likely, cX6_likely, 4, some .int, 3)
theorem mf_X6_likely : am_mf mi_X6_likely 2 := ⟨w_co_X6_likely, w_in_X6, ⟨by decide +kernel, by decide +kernel⟩, by decide +kernel, by decide⟩
def tb_X6_likely : List (Nat × Tr) := [(0, tIld 1 1), (1, tCs 1 fn_X6_isCorner), (4, tIfne 9), (7, tIc (-1) 1), (9, tAld 0 1), (10, tCv 6 0 fn_X6_weights), (13, tIfne 19), (16, tIc (-3) 2), (19, tAld 0 1), (20, tIld 1 1), (21, tCv 6 1 fn_X6_weight), (24, tAld 0 1), (25, tCv 6 0 fn_X6_weights), (28, tCs 2 fn_X6_common), (31, tIst 3 1), (32, tIld 2 1), (33, tIfeq 46), (36, tAld 0 1), (37, tIld 1 1), (38, tCv 6 1 fn_X6_weight), (41, tIld 3 1), (42, tDv Int.tdiv), (43, tGo 52), (46, tAld 0 1), (47, tCv 6 0 fn_X6_weights), (50, tIld 3 1), (51, tDv Int.tdiv)]
theorem ok_X6_likely : Tok mi_X6_likely tb_X6_likely :=
  Tc (sd_iload_n dX6_likely_0) <|
  Tc (sd_cs fok_X6_isCorner mf_X6_isCorner w_ml_X6_112 w_st_X6_isCorner (by decide) dX6_likely_1) <|
  Tc (sd_if_ne (by decide) dX6_likely_4) <|
  Tc (sd_iconst rfl dX6_likely_7) <|
  Tc (sd_aload_n dX6_likely_9) <|
  Tc (sd_cv (T := TX6) fok_X6_weights mf_X6_weights rfl w_ml_X6_217 w_im_X6_weights w_se_X6_weights (by decide) dX6_likely_10) <|
  Tc (sd_if_ne (by decide) dX6_likely_13) <|
  Tc (sd_bipush (by decide +kernel) dX6_likely_16) <|
  Tc (sd_aload_n dX6_likely_19) <|
  Tc (sd_iload_n dX6_likely_20) <|
  Tc (sd_cv (T := TX6) fok_X6_weight mf_X6_weight rfl w_ml_X6_214 w_im_X6_weight w_se_X6_weight (by decide) dX6_likely_21) <|
  Tc (sd_aload_n dX6_likely_24) <|
  Tc (sd_cv (T := TX6) fok_X6_weights mf_X6_weights rfl w_ml_X6_217 w_im_X6_weights w_se_X6_weights (by decide) dX6_likely_25) <|
  Tc (sd_cs fok_X6_common mf_X6_common w_ml_X6_220 w_st_X6_common (by decide) dX6_likely_28) <|
  Tc (sd_istore_n dX6_likely_31) <|
  Tc (sd_iload_n dX6_likely_32) <|
  Tc (sd_if_eq (by decide) dX6_likely_33) <|
  Tc (sd_aload_n dX6_likely_36) <|
  Tc (sd_iload_n dX6_likely_37) <|
  Tc (sd_cv (T := TX6) fok_X6_weight mf_X6_weight rfl w_ml_X6_214 w_im_X6_weight w_se_X6_weight (by decide) dX6_likely_38) <|
  Tc (sd_iload_n dX6_likely_41) <|
  Tc (sd_idiv dX6_likely_42) <|
  Tc (sd_goto (by decide) dX6_likely_43) <|
  Tc (sd_aload_n dX6_likely_46) <|
  Tc (sd_cv (T := TX6) fok_X6_weights mf_X6_weights rfl w_ml_X6_217 w_im_X6_weights w_se_X6_weights (by decide) dX6_likely_47) <|
  Tc (sd_iload_n dX6_likely_50) <|
  Tc (sd_idiv dX6_likely_51) <|
  Tn
theorem rk_X6_likely : Rok mi_X6_likely rI [8, 18, 52] := rk_i dX6_likely_8 <| rk_i dX6_likely_18 <| rk_i dX6_likely_52 <| rk_n
def rx_X6_likely : Nat → Nat → AL → List AV → List AC → Option (Option AV × List AC) := am_r tb_X6_likely rI [8, 18, 52]
theorem rs_X6_likely_0 (n : Nat) (L : AL) (st : List AV) (M : List AC) : rx_X6_likely (n + 1) 0 L st M = am_j (rx_X6_likely n) ((tIld 1 1) 0 L st M) := rfl
theorem rs_X6_likely_1 (n : Nat) (L : AL) (st : List AV) (M : List AC) : rx_X6_likely (n + 1) 1 L st M = am_j (rx_X6_likely n) ((tCs 1 fn_X6_isCorner) 1 L st M) := rfl
theorem rs_X6_likely_4 (n : Nat) (L : AL) (st : List AV) (M : List AC) : rx_X6_likely (n + 1) 4 L st M = am_j (rx_X6_likely n) ((tIfne 9) 4 L st M) := rfl
theorem rs_X6_likely_7 (n : Nat) (L : AL) (st : List AV) (M : List AC) : rx_X6_likely (n + 1) 7 L st M = am_j (rx_X6_likely n) ((tIc (-1) 1) 7 L st M) := rfl
theorem rs_X6_likely_9 (n : Nat) (L : AL) (st : List AV) (M : List AC) : rx_X6_likely (n + 1) 9 L st M = am_j (rx_X6_likely n) ((tAld 0 1) 9 L st M) := rfl
theorem rs_X6_likely_10 (n : Nat) (L : AL) (st : List AV) (M : List AC) : rx_X6_likely (n + 1) 10 L st M = am_j (rx_X6_likely n) ((tCv 6 0 fn_X6_weights) 10 L st M) := rfl
theorem rs_X6_likely_13 (n : Nat) (L : AL) (st : List AV) (M : List AC) : rx_X6_likely (n + 1) 13 L st M = am_j (rx_X6_likely n) ((tIfne 19) 13 L st M) := rfl
theorem rs_X6_likely_16 (n : Nat) (L : AL) (st : List AV) (M : List AC) : rx_X6_likely (n + 1) 16 L st M = am_j (rx_X6_likely n) ((tIc (-3) 2) 16 L st M) := rfl
theorem rs_X6_likely_19 (n : Nat) (L : AL) (st : List AV) (M : List AC) : rx_X6_likely (n + 1) 19 L st M = am_j (rx_X6_likely n) ((tAld 0 1) 19 L st M) := rfl
theorem rs_X6_likely_20 (n : Nat) (L : AL) (st : List AV) (M : List AC) : rx_X6_likely (n + 1) 20 L st M = am_j (rx_X6_likely n) ((tIld 1 1) 20 L st M) := rfl
theorem rs_X6_likely_21 (n : Nat) (L : AL) (st : List AV) (M : List AC) : rx_X6_likely (n + 1) 21 L st M = am_j (rx_X6_likely n) ((tCv 6 1 fn_X6_weight) 21 L st M) := rfl
theorem rs_X6_likely_24 (n : Nat) (L : AL) (st : List AV) (M : List AC) : rx_X6_likely (n + 1) 24 L st M = am_j (rx_X6_likely n) ((tAld 0 1) 24 L st M) := rfl
theorem rs_X6_likely_25 (n : Nat) (L : AL) (st : List AV) (M : List AC) : rx_X6_likely (n + 1) 25 L st M = am_j (rx_X6_likely n) ((tCv 6 0 fn_X6_weights) 25 L st M) := rfl
theorem rs_X6_likely_28 (n : Nat) (L : AL) (st : List AV) (M : List AC) : rx_X6_likely (n + 1) 28 L st M = am_j (rx_X6_likely n) ((tCs 2 fn_X6_common) 28 L st M) := rfl
theorem rs_X6_likely_31 (n : Nat) (L : AL) (st : List AV) (M : List AC) : rx_X6_likely (n + 1) 31 L st M = am_j (rx_X6_likely n) ((tIst 3 1) 31 L st M) := rfl
theorem rs_X6_likely_32 (n : Nat) (L : AL) (st : List AV) (M : List AC) : rx_X6_likely (n + 1) 32 L st M = am_j (rx_X6_likely n) ((tIld 2 1) 32 L st M) := rfl
theorem rs_X6_likely_33 (n : Nat) (L : AL) (st : List AV) (M : List AC) : rx_X6_likely (n + 1) 33 L st M = am_j (rx_X6_likely n) ((tIfeq 46) 33 L st M) := rfl
theorem rs_X6_likely_36 (n : Nat) (L : AL) (st : List AV) (M : List AC) : rx_X6_likely (n + 1) 36 L st M = am_j (rx_X6_likely n) ((tAld 0 1) 36 L st M) := rfl
theorem rs_X6_likely_37 (n : Nat) (L : AL) (st : List AV) (M : List AC) : rx_X6_likely (n + 1) 37 L st M = am_j (rx_X6_likely n) ((tIld 1 1) 37 L st M) := rfl
theorem rs_X6_likely_38 (n : Nat) (L : AL) (st : List AV) (M : List AC) : rx_X6_likely (n + 1) 38 L st M = am_j (rx_X6_likely n) ((tCv 6 1 fn_X6_weight) 38 L st M) := rfl
theorem rs_X6_likely_41 (n : Nat) (L : AL) (st : List AV) (M : List AC) : rx_X6_likely (n + 1) 41 L st M = am_j (rx_X6_likely n) ((tIld 3 1) 41 L st M) := rfl
theorem rs_X6_likely_42 (n : Nat) (L : AL) (st : List AV) (M : List AC) : rx_X6_likely (n + 1) 42 L st M = am_j (rx_X6_likely n) ((tDv Int.tdiv) 42 L st M) := rfl
theorem rs_X6_likely_43 (n : Nat) (L : AL) (st : List AV) (M : List AC) : rx_X6_likely (n + 1) 43 L st M = am_j (rx_X6_likely n) ((tGo 52) 43 L st M) := rfl
theorem rs_X6_likely_46 (n : Nat) (L : AL) (st : List AV) (M : List AC) : rx_X6_likely (n + 1) 46 L st M = am_j (rx_X6_likely n) ((tAld 0 1) 46 L st M) := rfl
theorem rs_X6_likely_47 (n : Nat) (L : AL) (st : List AV) (M : List AC) : rx_X6_likely (n + 1) 47 L st M = am_j (rx_X6_likely n) ((tCv 6 0 fn_X6_weights) 47 L st M) := rfl
theorem rs_X6_likely_50 (n : Nat) (L : AL) (st : List AV) (M : List AC) : rx_X6_likely (n + 1) 50 L st M = am_j (rx_X6_likely n) ((tIld 3 1) 50 L st M) := rfl
theorem rs_X6_likely_51 (n : Nat) (L : AL) (st : List AV) (M : List AC) : rx_X6_likely (n + 1) 51 L st M = am_j (rx_X6_likely n) ((tDv Int.tdiv) 51 L st M) := rfl
theorem rs_X6_likely_8 (n : Nat) (L : AL) (st : List AV) (M : List AC) : rx_X6_likely (n + 1) 8 L st M = am_e rI st M := rfl
theorem rs_X6_likely_18 (n : Nat) (L : AL) (st : List AV) (M : List AC) : rx_X6_likely (n + 1) 18 L st M = am_e rI st M := rfl
theorem rs_X6_likely_52 (n : Nat) (L : AL) (st : List AV) (M : List AC) : rx_X6_likely (n + 1) 52 L st M = am_e rI st M := rfl
theorem ri_X6_likely (c : Prop) [Decidable c] (p q n : Nat) (L : AL) (st : List AV) (M : List AC) : rx_X6_likely n (if c then p else q) L st M = if c then rx_X6_likely n p L st M else rx_X6_likely n q L st M := by split <;> rfl
theorem rm_X6_likely {n k pc : Nat} {L : AL} {st : List AV} {M : List AC} {x : Option AV × List AC} (h : rx_X6_likely n pc L st M = some x) (hk : n ≤ k) : rx_X6_likely k pc L st M = some x := am_r_mono n k h hk
def fn_X6_likely : Fn := am_fn rx_X6_likely 4
theorem fok_X6_likely : Fok mi_X6_likely fn_X6_likely := fun _ _ _ _ h => am_fok ok_X6_likely rk_X6_likely rfl h
theorem sp_X6_likely {M : List AC} {st lk len ac nx rf lr en lm : Int} {sd : Int64} (h0 : M[26]? = some (mo st lk len ac nx rf lr en lm sd)) {lc lt : F3} (h29 : M[29]? = some (aI (l3 lc))) (h30 : M[30]? = some (aI (l3 lt))) (hn : 0 ≤ lk ∧ lk ≤ 3) (hc : i3 0 3 lc) (ht : i3 0 9 lt) (q u : Int) (hq : -2147483648 ≤ q ∧ q < 2147483648) (hu : u = 0 ∨ u = 1) : fn_X6_likely [vR 26, vI q, vI u] M = some (some (vI (if 0 ≤ q ∧ q < 4 then (if wa lk lc lt = 0 then -3 else frq (wt lk lc lt q) (wa lk lc lt) u) else -1)), M) := by
  have wq : wr q = q := wr_id (by omega) (by omega)
  by_cases h : 0 ≤ q ∧ q < 4
  · rw [if_pos h]
    have qa := sp_X6_weight h0 h29 h30 hn hc q h
    have qw := sp_X6_weights h0 h29 h30 hn hc
    have ra := wt_rng (n := lk) (c := lc) (q := q) ht
    have rw' := wa_rng (n := lk) (c := lc) ht
    obtain ⟨a, ea⟩ := nat_of ra.1
    obtain ⟨w, ew⟩ := nat_of rw'.1
    rw [ea] at qa ra ⊢
    rw [ew] at qw rw' ⊢
    clear ea ew
    have h3 : q ≤ 3 := by omega
    have ww : wr (w : Int) = w := wr_id (by omega) (by omega)
    have wa' : wr (a : Int) = a := wr_id (by omega) (by omega)
    by_cases hz : w = 0
    · rw [if_pos (by omega)]
      subst hz
      (refine am_fnI (tb := tb_X6_likely) (n := 60) (Nat.le_of_ble_eq_true rfl) (Nat.le_of_ble_eq_true rfl) ?_; show rx_X6_likely 60 0 _ _ _ = _)
      simp [↓ri_X6_likely, rs_X6_likely_0, rs_X6_likely_1, rs_X6_likely_4, rs_X6_likely_7, rs_X6_likely_9, rs_X6_likely_10, rs_X6_likely_13, rs_X6_likely_16, rs_X6_likely_19, rs_X6_likely_20, rs_X6_likely_21, rs_X6_likely_24, rs_X6_likely_25, rs_X6_likely_28, rs_X6_likely_31, rs_X6_likely_32, rs_X6_likely_33, rs_X6_likely_36, rs_X6_likely_37, rs_X6_likely_38, rs_X6_likely_41, rs_X6_likely_42, rs_X6_likely_43, rs_X6_likely_46, rs_X6_likely_47, rs_X6_likely_50, rs_X6_likely_51, rs_X6_likely_8, rs_X6_likely_18, rs_X6_likely_52, -List.getElem?_eq_getElem, am_js, am_e, am_in, am_sl, rI, rZ, rV, rJ, rA, rC, kI, kJ, kR, am_one, am_nl, am_w8, tIc, tLc, tNul, tIld, tLld, tAld, tIst, tLst, tAst, tIinc, tI2, tDv, tL2, tLrem, tLs, tLcmp, tI2l, tL2i, tI2c, tDup, tDup2, tPop, tGo, tIfeq, tIfne, tIflt, tIfge, tIfgt, tIfle, tCmeq, tCmne, tCmlt, tCmge, tCmgt, tCmle, tNu, tTs, tGf, tPf, tGs, tIal, tIas, tBal, tBas, tAln, tSv, tSc, tSb, tSl, tSk, tCv, tCs, tCt, tMx, tMn, wr_10000, wr_100000, wr_1000000, wr_10000000, wr_100000000, wr_2400, wr_9999, wr_0, wr_1, wr_2, wr_3, wr_4, wr_5, wr_6, wr_7, wr_8, wr_9, wr_10, wr_11, wr_12, wr_13, wr_14, wr_15, wr_16, wr_17, wr_18, wr_19, wr_20, wr_21, wr_22, wr_23, wr_24, wr_25, wr_26, wr_27, wr_28, wr_29, wr_30, wr_31, wr_32, wr_33, wr_34, wr_35, wr_36, wr_37, wr_38, wr_39, wr_40, wr_41, wr_42, wr_43, wr_44, wr_45, wr_46, wr_47, wr_48, wr_49, wr_50, wr_51, wr_52, wr_53, wr_54, wr_55, wr_56, wr_57, wr_58, wr_59, wr_60, wr_61, wr_62, wr_63, wr_99, wr_100, wr_192, wr_255, wr_256, wr_343, wr_999, wr_1000, wr_2401, wr_2147483647, wr_65535, wr_m1, wr_m2, wr_m3, wr_m4, wr_m9, ak_1000, ak_1001, ak_1002, ak_0, ak_1, ak_2, ak_3, ak_4, ak_5, ak_6, ak_7, ak_8, ak_9, ak_10, ak_11, ak_12, ak_13, ak_14, ak_15, ak_16, ak_17, ak_18, ak_19, ak_20, ak_21, ak_22, ak_23, ak_24, ak_25, ak_26, ak_27, ak_28, ak_29, ak_30, ak_31, ak_32, ak_33, ak_34, ak_35, ak_36, ak_37, ak_38, ak_39, ak_40, ak_41, ak_42, ak_43, ak_44, ak_45, ak_46, ak_47, sp_X6_isCorner, wq, h, h3, h0, mo, qw]
    · rw [if_neg (by omega), frq_n]
      have qc := sp_X6_common a w M (by omega) (by omega)
      have hg : 0 < Nat.gcd a w := Nat.gcd_pos_of_pos_right a (by omega)
      have hgl : Nat.gcd a w ≤ w := Nat.gcd_le_right a (by omega)
      generalize Nat.gcd a w = gg at qc hg hgl ⊢
      have wg : wr (gg : Int) = gg := wr_id (by omega) (by omega)
      have ng : ¬ gg = 0 := by omega
      have da : Int.tdiv (a : Int) (gg : Int) = ((a / gg : Nat) : Int) := by rw [Int.tdiv_eq_ediv_of_nonneg (by omega)]; rfl
      have db : Int.tdiv (w : Int) (gg : Int) = ((w / gg : Nat) : Int) := by rw [Int.tdiv_eq_ediv_of_nonneg (by omega)]; rfl
      rcases hu with rfl | rfl
      · rw [if_pos rfl]
        generalize w / gg = z at db ⊢
        (refine am_fnI (tb := tb_X6_likely) (n := 60) (Nat.le_of_ble_eq_true rfl) (Nat.le_of_ble_eq_true rfl) ?_; show rx_X6_likely 60 0 _ _ _ = _)
        simp [↓ri_X6_likely, rs_X6_likely_0, rs_X6_likely_1, rs_X6_likely_4, rs_X6_likely_7, rs_X6_likely_9, rs_X6_likely_10, rs_X6_likely_13, rs_X6_likely_16, rs_X6_likely_19, rs_X6_likely_20, rs_X6_likely_21, rs_X6_likely_24, rs_X6_likely_25, rs_X6_likely_28, rs_X6_likely_31, rs_X6_likely_32, rs_X6_likely_33, rs_X6_likely_36, rs_X6_likely_37, rs_X6_likely_38, rs_X6_likely_41, rs_X6_likely_42, rs_X6_likely_43, rs_X6_likely_46, rs_X6_likely_47, rs_X6_likely_50, rs_X6_likely_51, rs_X6_likely_8, rs_X6_likely_18, rs_X6_likely_52, -List.getElem?_eq_getElem, am_js, am_e, am_in, am_sl, rI, rZ, rV, rJ, rA, rC, kI, kJ, kR, am_one, am_nl, am_w8, tIc, tLc, tNul, tIld, tLld, tAld, tIst, tLst, tAst, tIinc, tI2, tDv, tL2, tLrem, tLs, tLcmp, tI2l, tL2i, tI2c, tDup, tDup2, tPop, tGo, tIfeq, tIfne, tIflt, tIfge, tIfgt, tIfle, tCmeq, tCmne, tCmlt, tCmge, tCmgt, tCmle, tNu, tTs, tGf, tPf, tGs, tIal, tIas, tBal, tBas, tAln, tSv, tSc, tSb, tSl, tSk, tCv, tCs, tCt, tMx, tMn, wr_10000, wr_100000, wr_1000000, wr_10000000, wr_100000000, wr_2400, wr_9999, wr_0, wr_1, wr_2, wr_3, wr_4, wr_5, wr_6, wr_7, wr_8, wr_9, wr_10, wr_11, wr_12, wr_13, wr_14, wr_15, wr_16, wr_17, wr_18, wr_19, wr_20, wr_21, wr_22, wr_23, wr_24, wr_25, wr_26, wr_27, wr_28, wr_29, wr_30, wr_31, wr_32, wr_33, wr_34, wr_35, wr_36, wr_37, wr_38, wr_39, wr_40, wr_41, wr_42, wr_43, wr_44, wr_45, wr_46, wr_47, wr_48, wr_49, wr_50, wr_51, wr_52, wr_53, wr_54, wr_55, wr_56, wr_57, wr_58, wr_59, wr_60, wr_61, wr_62, wr_63, wr_99, wr_100, wr_192, wr_255, wr_256, wr_343, wr_999, wr_1000, wr_2401, wr_2147483647, wr_65535, wr_m1, wr_m2, wr_m3, wr_m4, wr_m9, ak_1000, ak_1001, ak_1002, ak_0, ak_1, ak_2, ak_3, ak_4, ak_5, ak_6, ak_7, ak_8, ak_9, ak_10, ak_11, ak_12, ak_13, ak_14, ak_15, ak_16, ak_17, ak_18, ak_19, ak_20, ak_21, ak_22, ak_23, ak_24, ak_25, ak_26, ak_27, ak_28, ak_29, ak_30, ak_31, ak_32, ak_33, ak_34, ak_35, ak_36, ak_37, ak_38, ak_39, ak_40, ak_41, ak_42, ak_43, ak_44, ak_45, ak_46, ak_47, sp_X6_isCorner, wq, h, h3, h0, mo, qw, qa, ww, hz, qc, wg, ng, wa', db]
      · rw [if_neg (by decide)]
        generalize a / gg = z at da ⊢
        (refine am_fnI (tb := tb_X6_likely) (n := 60) (Nat.le_of_ble_eq_true rfl) (Nat.le_of_ble_eq_true rfl) ?_; show rx_X6_likely 60 0 _ _ _ = _)
        simp [↓ri_X6_likely, rs_X6_likely_0, rs_X6_likely_1, rs_X6_likely_4, rs_X6_likely_7, rs_X6_likely_9, rs_X6_likely_10, rs_X6_likely_13, rs_X6_likely_16, rs_X6_likely_19, rs_X6_likely_20, rs_X6_likely_21, rs_X6_likely_24, rs_X6_likely_25, rs_X6_likely_28, rs_X6_likely_31, rs_X6_likely_32, rs_X6_likely_33, rs_X6_likely_36, rs_X6_likely_37, rs_X6_likely_38, rs_X6_likely_41, rs_X6_likely_42, rs_X6_likely_43, rs_X6_likely_46, rs_X6_likely_47, rs_X6_likely_50, rs_X6_likely_51, rs_X6_likely_8, rs_X6_likely_18, rs_X6_likely_52, -List.getElem?_eq_getElem, am_js, am_e, am_in, am_sl, rI, rZ, rV, rJ, rA, rC, kI, kJ, kR, am_one, am_nl, am_w8, tIc, tLc, tNul, tIld, tLld, tAld, tIst, tLst, tAst, tIinc, tI2, tDv, tL2, tLrem, tLs, tLcmp, tI2l, tL2i, tI2c, tDup, tDup2, tPop, tGo, tIfeq, tIfne, tIflt, tIfge, tIfgt, tIfle, tCmeq, tCmne, tCmlt, tCmge, tCmgt, tCmle, tNu, tTs, tGf, tPf, tGs, tIal, tIas, tBal, tBas, tAln, tSv, tSc, tSb, tSl, tSk, tCv, tCs, tCt, tMx, tMn, wr_10000, wr_100000, wr_1000000, wr_10000000, wr_100000000, wr_2400, wr_9999, wr_0, wr_1, wr_2, wr_3, wr_4, wr_5, wr_6, wr_7, wr_8, wr_9, wr_10, wr_11, wr_12, wr_13, wr_14, wr_15, wr_16, wr_17, wr_18, wr_19, wr_20, wr_21, wr_22, wr_23, wr_24, wr_25, wr_26, wr_27, wr_28, wr_29, wr_30, wr_31, wr_32, wr_33, wr_34, wr_35, wr_36, wr_37, wr_38, wr_39, wr_40, wr_41, wr_42, wr_43, wr_44, wr_45, wr_46, wr_47, wr_48, wr_49, wr_50, wr_51, wr_52, wr_53, wr_54, wr_55, wr_56, wr_57, wr_58, wr_59, wr_60, wr_61, wr_62, wr_63, wr_99, wr_100, wr_192, wr_255, wr_256, wr_343, wr_999, wr_1000, wr_2401, wr_2147483647, wr_65535, wr_m1, wr_m2, wr_m3, wr_m4, wr_m9, ak_1000, ak_1001, ak_1002, ak_0, ak_1, ak_2, ak_3, ak_4, ak_5, ak_6, ak_7, ak_8, ak_9, ak_10, ak_11, ak_12, ak_13, ak_14, ak_15, ak_16, ak_17, ak_18, ak_19, ak_20, ak_21, ak_22, ak_23, ak_24, ak_25, ak_26, ak_27, ak_28, ak_29, ak_30, ak_31, ak_32, ak_33, ak_34, ak_35, ak_36, ak_37, ak_38, ak_39, ak_40, ak_41, ak_42, ak_43, ak_44, ak_45, ak_46, ak_47, sp_X6_isCorner, wq, h, h3, h0, mo, qw, qa, ww, hz, qc, wg, ng, wa', da]
  · rw [if_neg h]
    have h' : ¬ (0 ≤ q ∧ q ≤ 3) := by omega
    (refine am_fnI (tb := tb_X6_likely) (n := 60) (Nat.le_of_ble_eq_true rfl) (Nat.le_of_ble_eq_true rfl) ?_; show rx_X6_likely 60 0 _ _ _ = _)
    simp [↓ri_X6_likely, rs_X6_likely_0, rs_X6_likely_1, rs_X6_likely_4, rs_X6_likely_7, rs_X6_likely_9, rs_X6_likely_10, rs_X6_likely_13, rs_X6_likely_16, rs_X6_likely_19, rs_X6_likely_20, rs_X6_likely_21, rs_X6_likely_24, rs_X6_likely_25, rs_X6_likely_28, rs_X6_likely_31, rs_X6_likely_32, rs_X6_likely_33, rs_X6_likely_36, rs_X6_likely_37, rs_X6_likely_38, rs_X6_likely_41, rs_X6_likely_42, rs_X6_likely_43, rs_X6_likely_46, rs_X6_likely_47, rs_X6_likely_50, rs_X6_likely_51, rs_X6_likely_8, rs_X6_likely_18, rs_X6_likely_52, -List.getElem?_eq_getElem, am_js, am_e, am_in, am_sl, rI, rZ, rV, rJ, rA, rC, kI, kJ, kR, am_one, am_nl, am_w8, tIc, tLc, tNul, tIld, tLld, tAld, tIst, tLst, tAst, tIinc, tI2, tDv, tL2, tLrem, tLs, tLcmp, tI2l, tL2i, tI2c, tDup, tDup2, tPop, tGo, tIfeq, tIfne, tIflt, tIfge, tIfgt, tIfle, tCmeq, tCmne, tCmlt, tCmge, tCmgt, tCmle, tNu, tTs, tGf, tPf, tGs, tIal, tIas, tBal, tBas, tAln, tSv, tSc, tSb, tSl, tSk, tCv, tCs, tCt, tMx, tMn, wr_10000, wr_100000, wr_1000000, wr_10000000, wr_100000000, wr_2400, wr_9999, wr_0, wr_1, wr_2, wr_3, wr_4, wr_5, wr_6, wr_7, wr_8, wr_9, wr_10, wr_11, wr_12, wr_13, wr_14, wr_15, wr_16, wr_17, wr_18, wr_19, wr_20, wr_21, wr_22, wr_23, wr_24, wr_25, wr_26, wr_27, wr_28, wr_29, wr_30, wr_31, wr_32, wr_33, wr_34, wr_35, wr_36, wr_37, wr_38, wr_39, wr_40, wr_41, wr_42, wr_43, wr_44, wr_45, wr_46, wr_47, wr_48, wr_49, wr_50, wr_51, wr_52, wr_53, wr_54, wr_55, wr_56, wr_57, wr_58, wr_59, wr_60, wr_61, wr_62, wr_63, wr_99, wr_100, wr_192, wr_255, wr_256, wr_343, wr_999, wr_1000, wr_2401, wr_2147483647, wr_65535, wr_m1, wr_m2, wr_m3, wr_m4, wr_m9, ak_1000, ak_1001, ak_1002, ak_0, ak_1, ak_2, ak_3, ak_4, ak_5, ak_6, ak_7, ak_8, ak_9, ak_10, ak_11, ak_12, ak_13, ak_14, ak_15, ak_16, ak_17, ak_18, ak_19, ak_20, ak_21, ak_22, ak_23, ak_24, ak_25, ak_26, ak_27, ak_28, ak_29, ak_30, ak_31, ak_32, ak_33, ak_34, ak_35, ak_36, ak_37, ak_38, ak_39, ak_40, ak_41, ak_42, ak_43, ak_44, ak_45, ak_46, ak_47, -not_and, sp_X6_isCorner, wq, h']
abbrev mi_X6_drawer : Mi := (yX6_drawer, cX6_drawer, 5, some .int, 2)
theorem mf_X6_drawer : am_mf mi_X6_drawer 3 := ⟨w_co_X6_drawer, w_in_X6, ⟨by decide +kernel, by decide +kernel⟩, by decide +kernel, by decide⟩
def tb_X6_drawer : List (Nat × Tr) := [(0, tIld 1 1), (1, tI2l), (2, tLc 1 1), (3, tLc 12 3), (6, tCs 3 fn_X6_in), (9, tIfeq 23), (12, tIld 2 1), (13, tI2l), (14, tLc 1 1), (15, tIld 1 1), (16, tI2l), (17, tCs 3 fn_X6_in), (20, tIfne 26), (23, tIc (-2) 2), (26, tIld 1 1), (27, tIc 1 1), (28, tI2 (fun a b => a + b)), (29, tIld 2 1), (30, tIc 1 1), (31, tI2 (fun a b => a + b)), (32, tCs 2 fn_X6_common), (35, tIst 4 2), (37, tIld 3 1), (38, tIfeq 50), (41, tIld 1 1), (42, tIc 1 1), (43, tI2 (fun a b => a + b)), (44, tIld 4 2), (46, tDv Int.tdiv), (47, tGo 56), (50, tIld 2 1), (51, tIc 1 1), (52, tI2 (fun a b => a + b)), (53, tIld 4 2), (55, tDv Int.tdiv)]
theorem ok_X6_drawer : Tok mi_X6_drawer tb_X6_drawer :=
  Tc (sd_iload_n dX6_drawer_0) <|
  Tc (sd_i2l dX6_drawer_1) <|
  Tc (sd_lconst rfl dX6_drawer_2) <|
  Tc (sd_ldc2 w_cl_X6_236 dX6_drawer_3) <|
  Tc (sd_cs fok_X6_in mf_X6_in w_ml_X6_65 w_st_X6_in (by decide) dX6_drawer_6) <|
  Tc (sd_if_eq (by decide) dX6_drawer_9) <|
  Tc (sd_iload_n dX6_drawer_12) <|
  Tc (sd_i2l dX6_drawer_13) <|
  Tc (sd_lconst rfl dX6_drawer_14) <|
  Tc (sd_iload_n dX6_drawer_15) <|
  Tc (sd_i2l dX6_drawer_16) <|
  Tc (sd_cs fok_X6_in mf_X6_in w_ml_X6_65 w_st_X6_in (by decide) dX6_drawer_17) <|
  Tc (sd_if_ne (by decide) dX6_drawer_20) <|
  Tc (sd_bipush (by decide +kernel) dX6_drawer_23) <|
  Tc (sd_iload_n dX6_drawer_26) <|
  Tc (sd_iconst rfl dX6_drawer_27) <|
  Tc (sd_iadd dX6_drawer_28) <|
  Tc (sd_iload_n dX6_drawer_29) <|
  Tc (sd_iconst rfl dX6_drawer_30) <|
  Tc (sd_iadd dX6_drawer_31) <|
  Tc (sd_cs fok_X6_common mf_X6_common w_ml_X6_220 w_st_X6_common (by decide) dX6_drawer_32) <|
  Tc (sd_istore dX6_drawer_35) <|
  Tc (sd_iload_n dX6_drawer_37) <|
  Tc (sd_if_eq (by decide) dX6_drawer_38) <|
  Tc (sd_iload_n dX6_drawer_41) <|
  Tc (sd_iconst rfl dX6_drawer_42) <|
  Tc (sd_iadd dX6_drawer_43) <|
  Tc (sd_iload dX6_drawer_44) <|
  Tc (sd_idiv dX6_drawer_46) <|
  Tc (sd_goto (by decide) dX6_drawer_47) <|
  Tc (sd_iload_n dX6_drawer_50) <|
  Tc (sd_iconst rfl dX6_drawer_51) <|
  Tc (sd_iadd dX6_drawer_52) <|
  Tc (sd_iload dX6_drawer_53) <|
  Tc (sd_idiv dX6_drawer_55) <|
  Tn
theorem rk_X6_drawer : Rok mi_X6_drawer rI [25, 56] := rk_i dX6_drawer_25 <| rk_i dX6_drawer_56 <| rk_n
def rx_X6_drawer : Nat → Nat → AL → List AV → List AC → Option (Option AV × List AC) := am_r tb_X6_drawer rI [25, 56]
theorem rs_X6_drawer_0 (n : Nat) (L : AL) (st : List AV) (M : List AC) : rx_X6_drawer (n + 1) 0 L st M = am_j (rx_X6_drawer n) ((tIld 1 1) 0 L st M) := rfl
theorem rs_X6_drawer_1 (n : Nat) (L : AL) (st : List AV) (M : List AC) : rx_X6_drawer (n + 1) 1 L st M = am_j (rx_X6_drawer n) (tI2l 1 L st M) := rfl
theorem rs_X6_drawer_2 (n : Nat) (L : AL) (st : List AV) (M : List AC) : rx_X6_drawer (n + 1) 2 L st M = am_j (rx_X6_drawer n) ((tLc 1 1) 2 L st M) := rfl
theorem rs_X6_drawer_3 (n : Nat) (L : AL) (st : List AV) (M : List AC) : rx_X6_drawer (n + 1) 3 L st M = am_j (rx_X6_drawer n) ((tLc 12 3) 3 L st M) := rfl
theorem rs_X6_drawer_6 (n : Nat) (L : AL) (st : List AV) (M : List AC) : rx_X6_drawer (n + 1) 6 L st M = am_j (rx_X6_drawer n) ((tCs 3 fn_X6_in) 6 L st M) := rfl
theorem rs_X6_drawer_9 (n : Nat) (L : AL) (st : List AV) (M : List AC) : rx_X6_drawer (n + 1) 9 L st M = am_j (rx_X6_drawer n) ((tIfeq 23) 9 L st M) := rfl
theorem rs_X6_drawer_12 (n : Nat) (L : AL) (st : List AV) (M : List AC) : rx_X6_drawer (n + 1) 12 L st M = am_j (rx_X6_drawer n) ((tIld 2 1) 12 L st M) := rfl
theorem rs_X6_drawer_13 (n : Nat) (L : AL) (st : List AV) (M : List AC) : rx_X6_drawer (n + 1) 13 L st M = am_j (rx_X6_drawer n) (tI2l 13 L st M) := rfl
theorem rs_X6_drawer_14 (n : Nat) (L : AL) (st : List AV) (M : List AC) : rx_X6_drawer (n + 1) 14 L st M = am_j (rx_X6_drawer n) ((tLc 1 1) 14 L st M) := rfl
theorem rs_X6_drawer_15 (n : Nat) (L : AL) (st : List AV) (M : List AC) : rx_X6_drawer (n + 1) 15 L st M = am_j (rx_X6_drawer n) ((tIld 1 1) 15 L st M) := rfl
theorem rs_X6_drawer_16 (n : Nat) (L : AL) (st : List AV) (M : List AC) : rx_X6_drawer (n + 1) 16 L st M = am_j (rx_X6_drawer n) (tI2l 16 L st M) := rfl
theorem rs_X6_drawer_17 (n : Nat) (L : AL) (st : List AV) (M : List AC) : rx_X6_drawer (n + 1) 17 L st M = am_j (rx_X6_drawer n) ((tCs 3 fn_X6_in) 17 L st M) := rfl
theorem rs_X6_drawer_20 (n : Nat) (L : AL) (st : List AV) (M : List AC) : rx_X6_drawer (n + 1) 20 L st M = am_j (rx_X6_drawer n) ((tIfne 26) 20 L st M) := rfl
theorem rs_X6_drawer_23 (n : Nat) (L : AL) (st : List AV) (M : List AC) : rx_X6_drawer (n + 1) 23 L st M = am_j (rx_X6_drawer n) ((tIc (-2) 2) 23 L st M) := rfl
theorem rs_X6_drawer_26 (n : Nat) (L : AL) (st : List AV) (M : List AC) : rx_X6_drawer (n + 1) 26 L st M = am_j (rx_X6_drawer n) ((tIld 1 1) 26 L st M) := rfl
theorem rs_X6_drawer_27 (n : Nat) (L : AL) (st : List AV) (M : List AC) : rx_X6_drawer (n + 1) 27 L st M = am_j (rx_X6_drawer n) ((tIc 1 1) 27 L st M) := rfl
theorem rs_X6_drawer_28 (n : Nat) (L : AL) (st : List AV) (M : List AC) : rx_X6_drawer (n + 1) 28 L st M = am_j (rx_X6_drawer n) ((tI2 (fun a b => a + b)) 28 L st M) := rfl
theorem rs_X6_drawer_29 (n : Nat) (L : AL) (st : List AV) (M : List AC) : rx_X6_drawer (n + 1) 29 L st M = am_j (rx_X6_drawer n) ((tIld 2 1) 29 L st M) := rfl
theorem rs_X6_drawer_30 (n : Nat) (L : AL) (st : List AV) (M : List AC) : rx_X6_drawer (n + 1) 30 L st M = am_j (rx_X6_drawer n) ((tIc 1 1) 30 L st M) := rfl
theorem rs_X6_drawer_31 (n : Nat) (L : AL) (st : List AV) (M : List AC) : rx_X6_drawer (n + 1) 31 L st M = am_j (rx_X6_drawer n) ((tI2 (fun a b => a + b)) 31 L st M) := rfl
theorem rs_X6_drawer_32 (n : Nat) (L : AL) (st : List AV) (M : List AC) : rx_X6_drawer (n + 1) 32 L st M = am_j (rx_X6_drawer n) ((tCs 2 fn_X6_common) 32 L st M) := rfl
theorem rs_X6_drawer_35 (n : Nat) (L : AL) (st : List AV) (M : List AC) : rx_X6_drawer (n + 1) 35 L st M = am_j (rx_X6_drawer n) ((tIst 4 2) 35 L st M) := rfl
theorem rs_X6_drawer_37 (n : Nat) (L : AL) (st : List AV) (M : List AC) : rx_X6_drawer (n + 1) 37 L st M = am_j (rx_X6_drawer n) ((tIld 3 1) 37 L st M) := rfl
theorem rs_X6_drawer_38 (n : Nat) (L : AL) (st : List AV) (M : List AC) : rx_X6_drawer (n + 1) 38 L st M = am_j (rx_X6_drawer n) ((tIfeq 50) 38 L st M) := rfl
theorem rs_X6_drawer_41 (n : Nat) (L : AL) (st : List AV) (M : List AC) : rx_X6_drawer (n + 1) 41 L st M = am_j (rx_X6_drawer n) ((tIld 1 1) 41 L st M) := rfl
theorem rs_X6_drawer_42 (n : Nat) (L : AL) (st : List AV) (M : List AC) : rx_X6_drawer (n + 1) 42 L st M = am_j (rx_X6_drawer n) ((tIc 1 1) 42 L st M) := rfl
theorem rs_X6_drawer_43 (n : Nat) (L : AL) (st : List AV) (M : List AC) : rx_X6_drawer (n + 1) 43 L st M = am_j (rx_X6_drawer n) ((tI2 (fun a b => a + b)) 43 L st M) := rfl
theorem rs_X6_drawer_44 (n : Nat) (L : AL) (st : List AV) (M : List AC) : rx_X6_drawer (n + 1) 44 L st M = am_j (rx_X6_drawer n) ((tIld 4 2) 44 L st M) := rfl
theorem rs_X6_drawer_46 (n : Nat) (L : AL) (st : List AV) (M : List AC) : rx_X6_drawer (n + 1) 46 L st M = am_j (rx_X6_drawer n) ((tDv Int.tdiv) 46 L st M) := rfl
theorem rs_X6_drawer_47 (n : Nat) (L : AL) (st : List AV) (M : List AC) : rx_X6_drawer (n + 1) 47 L st M = am_j (rx_X6_drawer n) ((tGo 56) 47 L st M) := rfl
theorem rs_X6_drawer_50 (n : Nat) (L : AL) (st : List AV) (M : List AC) : rx_X6_drawer (n + 1) 50 L st M = am_j (rx_X6_drawer n) ((tIld 2 1) 50 L st M) := rfl
theorem rs_X6_drawer_51 (n : Nat) (L : AL) (st : List AV) (M : List AC) : rx_X6_drawer (n + 1) 51 L st M = am_j (rx_X6_drawer n) ((tIc 1 1) 51 L st M) := rfl
theorem rs_X6_drawer_52 (n : Nat) (L : AL) (st : List AV) (M : List AC) : rx_X6_drawer (n + 1) 52 L st M = am_j (rx_X6_drawer n) ((tI2 (fun a b => a + b)) 52 L st M) := rfl
theorem rs_X6_drawer_53 (n : Nat) (L : AL) (st : List AV) (M : List AC) : rx_X6_drawer (n + 1) 53 L st M = am_j (rx_X6_drawer n) ((tIld 4 2) 53 L st M) := rfl
theorem rs_X6_drawer_55 (n : Nat) (L : AL) (st : List AV) (M : List AC) : rx_X6_drawer (n + 1) 55 L st M = am_j (rx_X6_drawer n) ((tDv Int.tdiv) 55 L st M) := rfl
theorem rs_X6_drawer_25 (n : Nat) (L : AL) (st : List AV) (M : List AC) : rx_X6_drawer (n + 1) 25 L st M = am_e rI st M := rfl
theorem rs_X6_drawer_56 (n : Nat) (L : AL) (st : List AV) (M : List AC) : rx_X6_drawer (n + 1) 56 L st M = am_e rI st M := rfl
theorem ri_X6_drawer (c : Prop) [Decidable c] (p q n : Nat) (L : AL) (st : List AV) (M : List AC) : rx_X6_drawer n (if c then p else q) L st M = if c then rx_X6_drawer n p L st M else rx_X6_drawer n q L st M := by split <;> rfl
theorem rm_X6_drawer {n k pc : Nat} {L : AL} {st : List AV} {M : List AC} {x : Option AV × List AC} (h : rx_X6_drawer n pc L st M = some x) (hk : n ≤ k) : rx_X6_drawer k pc L st M = some x := am_r_mono n k h hk
def fn_X6_drawer : Fn := am_fn rx_X6_drawer 5
theorem fok_X6_drawer : Fok mi_X6_drawer fn_X6_drawer := fun _ _ _ _ h => am_fok ok_X6_drawer rk_X6_drawer rfl h
theorem sp_X6_drawer (M : List AC) (n k u : Int) (hn : -2147483648 ≤ n ∧ n < 2147483648) (hk : -2147483648 ≤ k ∧ k < 2147483648) (hu : u = 0 ∨ u = 1) : fn_X6_drawer [vR 26, vI n, vI k, vI u] M = some (some (vI (if (1 ≤ n ∧ n ≤ 12) ∧ (1 ≤ k ∧ k ≤ n) then frq (n + 1) (k + 1) u else -2)), M) := by
  have wn : wr n = n := wr_id (by omega) (by omega)
  have wk : wr k = k := wr_id (by omega) (by omega)
  by_cases h1 : 1 ≤ n ∧ n ≤ 12
  · by_cases h2 : 1 ≤ k ∧ k ≤ n
    · rw [if_pos ⟨h1, h2⟩]
      obtain ⟨a, ea⟩ := nat_of (x := n + 1) (by omega)
      obtain ⟨w, ew⟩ := nat_of (x := k + 1) (by omega)
      rw [ea, ew, frq_n]
      have qc := sp_X6_common a w M (by omega) (by omega)
      have hg : 0 < Nat.gcd a w := Nat.gcd_pos_of_pos_right a (by omega)
      have hgl : Nat.gcd a w ≤ w := Nat.gcd_le_right a (by omega)
      generalize Nat.gcd a w = gg at qc hg hgl ⊢
      have wg : wr (gg : Int) = gg := wr_id (by omega) (by omega)
      have ww : wr (w : Int) = w := wr_id (by omega) (by omega)
      have wa' : wr (a : Int) = a := wr_id (by omega) (by omega)
      have ng : ¬ gg = 0 := by omega
      have da : Int.tdiv (a : Int) (gg : Int) = ((a / gg : Nat) : Int) := by rw [Int.tdiv_eq_ediv_of_nonneg (by omega)]; rfl
      have db : Int.tdiv (w : Int) (gg : Int) = ((w / gg : Nat) : Int) := by rw [Int.tdiv_eq_ediv_of_nonneg (by omega)]; rfl
      rcases hu with rfl | rfl
      · rw [if_pos rfl]
        generalize w / gg = z at db ⊢
        (refine am_fnI (tb := tb_X6_drawer) (n := 60) (Nat.le_of_ble_eq_true rfl) (Nat.le_of_ble_eq_true rfl) ?_; show rx_X6_drawer 60 0 _ _ _ = _)
        simp [↓ri_X6_drawer, rs_X6_drawer_0, rs_X6_drawer_1, rs_X6_drawer_2, rs_X6_drawer_3, rs_X6_drawer_6, rs_X6_drawer_9, rs_X6_drawer_12, rs_X6_drawer_13, rs_X6_drawer_14, rs_X6_drawer_15, rs_X6_drawer_16, rs_X6_drawer_17, rs_X6_drawer_20, rs_X6_drawer_23, rs_X6_drawer_26, rs_X6_drawer_27, rs_X6_drawer_28, rs_X6_drawer_29, rs_X6_drawer_30, rs_X6_drawer_31, rs_X6_drawer_32, rs_X6_drawer_35, rs_X6_drawer_37, rs_X6_drawer_38, rs_X6_drawer_41, rs_X6_drawer_42, rs_X6_drawer_43, rs_X6_drawer_44, rs_X6_drawer_46, rs_X6_drawer_47, rs_X6_drawer_50, rs_X6_drawer_51, rs_X6_drawer_52, rs_X6_drawer_53, rs_X6_drawer_55, rs_X6_drawer_25, rs_X6_drawer_56, -List.getElem?_eq_getElem, am_js, am_e, am_in, am_sl, rI, rZ, rV, rJ, rA, rC, kI, kJ, kR, am_one, am_nl, am_w8, tIc, tLc, tNul, tIld, tLld, tAld, tIst, tLst, tAst, tIinc, tI2, tDv, tL2, tLrem, tLs, tLcmp, tI2l, tL2i, tI2c, tDup, tDup2, tPop, tGo, tIfeq, tIfne, tIflt, tIfge, tIfgt, tIfle, tCmeq, tCmne, tCmlt, tCmge, tCmgt, tCmle, tNu, tTs, tGf, tPf, tGs, tIal, tIas, tBal, tBas, tAln, tSv, tSc, tSb, tSl, tSk, tCv, tCs, tCt, tMx, tMn, wr_10000, wr_100000, wr_1000000, wr_10000000, wr_100000000, wr_2400, wr_9999, wr_0, wr_1, wr_2, wr_3, wr_4, wr_5, wr_6, wr_7, wr_8, wr_9, wr_10, wr_11, wr_12, wr_13, wr_14, wr_15, wr_16, wr_17, wr_18, wr_19, wr_20, wr_21, wr_22, wr_23, wr_24, wr_25, wr_26, wr_27, wr_28, wr_29, wr_30, wr_31, wr_32, wr_33, wr_34, wr_35, wr_36, wr_37, wr_38, wr_39, wr_40, wr_41, wr_42, wr_43, wr_44, wr_45, wr_46, wr_47, wr_48, wr_49, wr_50, wr_51, wr_52, wr_53, wr_54, wr_55, wr_56, wr_57, wr_58, wr_59, wr_60, wr_61, wr_62, wr_63, wr_99, wr_100, wr_192, wr_255, wr_256, wr_343, wr_999, wr_1000, wr_2401, wr_2147483647, wr_65535, wr_m1, wr_m2, wr_m3, wr_m4, wr_m9, ak_1000, ak_1001, ak_1002, ak_0, ak_1, ak_2, ak_3, ak_4, ak_5, ak_6, ak_7, ak_8, ak_9, ak_10, ak_11, ak_12, ak_13, ak_14, ak_15, ak_16, ak_17, ak_18, ak_19, ak_20, ak_21, ak_22, ak_23, ak_24, ak_25, ak_26, ak_27, ak_28, ak_29, ak_30, ak_31, ak_32, ak_33, ak_34, ak_35, ak_36, ak_37, ak_38, ak_39, ak_40, ak_41, ak_42, ak_43, ak_44, ak_45, ak_46, ak_47, sp_X6_in, -Int32.toInt_ofInt, -not_and, wr_eq, jt_0, jt_1, jt_2, jt_3, jt_4, jt_5, jt_6, jt_8, jt_12, jt_30, jt_48, jt_49, jt_51, jt_57, jt_255, jt_9999, wn, wk, h1, h2, ea, ew, qc, wg, ng, ww, wa', db]
      · rw [if_neg (by decide)]
        generalize a / gg = z at da ⊢
        (refine am_fnI (tb := tb_X6_drawer) (n := 60) (Nat.le_of_ble_eq_true rfl) (Nat.le_of_ble_eq_true rfl) ?_; show rx_X6_drawer 60 0 _ _ _ = _)
        simp [↓ri_X6_drawer, rs_X6_drawer_0, rs_X6_drawer_1, rs_X6_drawer_2, rs_X6_drawer_3, rs_X6_drawer_6, rs_X6_drawer_9, rs_X6_drawer_12, rs_X6_drawer_13, rs_X6_drawer_14, rs_X6_drawer_15, rs_X6_drawer_16, rs_X6_drawer_17, rs_X6_drawer_20, rs_X6_drawer_23, rs_X6_drawer_26, rs_X6_drawer_27, rs_X6_drawer_28, rs_X6_drawer_29, rs_X6_drawer_30, rs_X6_drawer_31, rs_X6_drawer_32, rs_X6_drawer_35, rs_X6_drawer_37, rs_X6_drawer_38, rs_X6_drawer_41, rs_X6_drawer_42, rs_X6_drawer_43, rs_X6_drawer_44, rs_X6_drawer_46, rs_X6_drawer_47, rs_X6_drawer_50, rs_X6_drawer_51, rs_X6_drawer_52, rs_X6_drawer_53, rs_X6_drawer_55, rs_X6_drawer_25, rs_X6_drawer_56, -List.getElem?_eq_getElem, am_js, am_e, am_in, am_sl, rI, rZ, rV, rJ, rA, rC, kI, kJ, kR, am_one, am_nl, am_w8, tIc, tLc, tNul, tIld, tLld, tAld, tIst, tLst, tAst, tIinc, tI2, tDv, tL2, tLrem, tLs, tLcmp, tI2l, tL2i, tI2c, tDup, tDup2, tPop, tGo, tIfeq, tIfne, tIflt, tIfge, tIfgt, tIfle, tCmeq, tCmne, tCmlt, tCmge, tCmgt, tCmle, tNu, tTs, tGf, tPf, tGs, tIal, tIas, tBal, tBas, tAln, tSv, tSc, tSb, tSl, tSk, tCv, tCs, tCt, tMx, tMn, wr_10000, wr_100000, wr_1000000, wr_10000000, wr_100000000, wr_2400, wr_9999, wr_0, wr_1, wr_2, wr_3, wr_4, wr_5, wr_6, wr_7, wr_8, wr_9, wr_10, wr_11, wr_12, wr_13, wr_14, wr_15, wr_16, wr_17, wr_18, wr_19, wr_20, wr_21, wr_22, wr_23, wr_24, wr_25, wr_26, wr_27, wr_28, wr_29, wr_30, wr_31, wr_32, wr_33, wr_34, wr_35, wr_36, wr_37, wr_38, wr_39, wr_40, wr_41, wr_42, wr_43, wr_44, wr_45, wr_46, wr_47, wr_48, wr_49, wr_50, wr_51, wr_52, wr_53, wr_54, wr_55, wr_56, wr_57, wr_58, wr_59, wr_60, wr_61, wr_62, wr_63, wr_99, wr_100, wr_192, wr_255, wr_256, wr_343, wr_999, wr_1000, wr_2401, wr_2147483647, wr_65535, wr_m1, wr_m2, wr_m3, wr_m4, wr_m9, ak_1000, ak_1001, ak_1002, ak_0, ak_1, ak_2, ak_3, ak_4, ak_5, ak_6, ak_7, ak_8, ak_9, ak_10, ak_11, ak_12, ak_13, ak_14, ak_15, ak_16, ak_17, ak_18, ak_19, ak_20, ak_21, ak_22, ak_23, ak_24, ak_25, ak_26, ak_27, ak_28, ak_29, ak_30, ak_31, ak_32, ak_33, ak_34, ak_35, ak_36, ak_37, ak_38, ak_39, ak_40, ak_41, ak_42, ak_43, ak_44, ak_45, ak_46, ak_47, sp_X6_in, -Int32.toInt_ofInt, -not_and, wr_eq, jt_0, jt_1, jt_2, jt_3, jt_4, jt_5, jt_6, jt_8, jt_12, jt_30, jt_48, jt_49, jt_51, jt_57, jt_255, jt_9999, wn, wk, h1, h2, ea, ew, qc, wg, ng, ww, wa', da]
    · rw [if_neg (fun z => h2 z.2)]
      (refine am_fnI (tb := tb_X6_drawer) (n := 60) (Nat.le_of_ble_eq_true rfl) (Nat.le_of_ble_eq_true rfl) ?_; show rx_X6_drawer 60 0 _ _ _ = _)
      simp [↓ri_X6_drawer, rs_X6_drawer_0, rs_X6_drawer_1, rs_X6_drawer_2, rs_X6_drawer_3, rs_X6_drawer_6, rs_X6_drawer_9, rs_X6_drawer_12, rs_X6_drawer_13, rs_X6_drawer_14, rs_X6_drawer_15, rs_X6_drawer_16, rs_X6_drawer_17, rs_X6_drawer_20, rs_X6_drawer_23, rs_X6_drawer_26, rs_X6_drawer_27, rs_X6_drawer_28, rs_X6_drawer_29, rs_X6_drawer_30, rs_X6_drawer_31, rs_X6_drawer_32, rs_X6_drawer_35, rs_X6_drawer_37, rs_X6_drawer_38, rs_X6_drawer_41, rs_X6_drawer_42, rs_X6_drawer_43, rs_X6_drawer_44, rs_X6_drawer_46, rs_X6_drawer_47, rs_X6_drawer_50, rs_X6_drawer_51, rs_X6_drawer_52, rs_X6_drawer_53, rs_X6_drawer_55, rs_X6_drawer_25, rs_X6_drawer_56, -List.getElem?_eq_getElem, am_js, am_e, am_in, am_sl, rI, rZ, rV, rJ, rA, rC, kI, kJ, kR, am_one, am_nl, am_w8, tIc, tLc, tNul, tIld, tLld, tAld, tIst, tLst, tAst, tIinc, tI2, tDv, tL2, tLrem, tLs, tLcmp, tI2l, tL2i, tI2c, tDup, tDup2, tPop, tGo, tIfeq, tIfne, tIflt, tIfge, tIfgt, tIfle, tCmeq, tCmne, tCmlt, tCmge, tCmgt, tCmle, tNu, tTs, tGf, tPf, tGs, tIal, tIas, tBal, tBas, tAln, tSv, tSc, tSb, tSl, tSk, tCv, tCs, tCt, tMx, tMn, wr_10000, wr_100000, wr_1000000, wr_10000000, wr_100000000, wr_2400, wr_9999, wr_0, wr_1, wr_2, wr_3, wr_4, wr_5, wr_6, wr_7, wr_8, wr_9, wr_10, wr_11, wr_12, wr_13, wr_14, wr_15, wr_16, wr_17, wr_18, wr_19, wr_20, wr_21, wr_22, wr_23, wr_24, wr_25, wr_26, wr_27, wr_28, wr_29, wr_30, wr_31, wr_32, wr_33, wr_34, wr_35, wr_36, wr_37, wr_38, wr_39, wr_40, wr_41, wr_42, wr_43, wr_44, wr_45, wr_46, wr_47, wr_48, wr_49, wr_50, wr_51, wr_52, wr_53, wr_54, wr_55, wr_56, wr_57, wr_58, wr_59, wr_60, wr_61, wr_62, wr_63, wr_99, wr_100, wr_192, wr_255, wr_256, wr_343, wr_999, wr_1000, wr_2401, wr_2147483647, wr_65535, wr_m1, wr_m2, wr_m3, wr_m4, wr_m9, ak_1000, ak_1001, ak_1002, ak_0, ak_1, ak_2, ak_3, ak_4, ak_5, ak_6, ak_7, ak_8, ak_9, ak_10, ak_11, ak_12, ak_13, ak_14, ak_15, ak_16, ak_17, ak_18, ak_19, ak_20, ak_21, ak_22, ak_23, ak_24, ak_25, ak_26, ak_27, ak_28, ak_29, ak_30, ak_31, ak_32, ak_33, ak_34, ak_35, ak_36, ak_37, ak_38, ak_39, ak_40, ak_41, ak_42, ak_43, ak_44, ak_45, ak_46, ak_47, sp_X6_in, -Int32.toInt_ofInt, -not_and, wr_eq, jt_0, jt_1, jt_2, jt_3, jt_4, jt_5, jt_6, jt_8, jt_12, jt_30, jt_48, jt_49, jt_51, jt_57, jt_255, jt_9999, wn, wk, h1, h2]
  · rw [if_neg (fun z => h1 z.1)]
    (refine am_fnI (tb := tb_X6_drawer) (n := 60) (Nat.le_of_ble_eq_true rfl) (Nat.le_of_ble_eq_true rfl) ?_; show rx_X6_drawer 60 0 _ _ _ = _)
    simp [↓ri_X6_drawer, rs_X6_drawer_0, rs_X6_drawer_1, rs_X6_drawer_2, rs_X6_drawer_3, rs_X6_drawer_6, rs_X6_drawer_9, rs_X6_drawer_12, rs_X6_drawer_13, rs_X6_drawer_14, rs_X6_drawer_15, rs_X6_drawer_16, rs_X6_drawer_17, rs_X6_drawer_20, rs_X6_drawer_23, rs_X6_drawer_26, rs_X6_drawer_27, rs_X6_drawer_28, rs_X6_drawer_29, rs_X6_drawer_30, rs_X6_drawer_31, rs_X6_drawer_32, rs_X6_drawer_35, rs_X6_drawer_37, rs_X6_drawer_38, rs_X6_drawer_41, rs_X6_drawer_42, rs_X6_drawer_43, rs_X6_drawer_44, rs_X6_drawer_46, rs_X6_drawer_47, rs_X6_drawer_50, rs_X6_drawer_51, rs_X6_drawer_52, rs_X6_drawer_53, rs_X6_drawer_55, rs_X6_drawer_25, rs_X6_drawer_56, -List.getElem?_eq_getElem, am_js, am_e, am_in, am_sl, rI, rZ, rV, rJ, rA, rC, kI, kJ, kR, am_one, am_nl, am_w8, tIc, tLc, tNul, tIld, tLld, tAld, tIst, tLst, tAst, tIinc, tI2, tDv, tL2, tLrem, tLs, tLcmp, tI2l, tL2i, tI2c, tDup, tDup2, tPop, tGo, tIfeq, tIfne, tIflt, tIfge, tIfgt, tIfle, tCmeq, tCmne, tCmlt, tCmge, tCmgt, tCmle, tNu, tTs, tGf, tPf, tGs, tIal, tIas, tBal, tBas, tAln, tSv, tSc, tSb, tSl, tSk, tCv, tCs, tCt, tMx, tMn, wr_10000, wr_100000, wr_1000000, wr_10000000, wr_100000000, wr_2400, wr_9999, wr_0, wr_1, wr_2, wr_3, wr_4, wr_5, wr_6, wr_7, wr_8, wr_9, wr_10, wr_11, wr_12, wr_13, wr_14, wr_15, wr_16, wr_17, wr_18, wr_19, wr_20, wr_21, wr_22, wr_23, wr_24, wr_25, wr_26, wr_27, wr_28, wr_29, wr_30, wr_31, wr_32, wr_33, wr_34, wr_35, wr_36, wr_37, wr_38, wr_39, wr_40, wr_41, wr_42, wr_43, wr_44, wr_45, wr_46, wr_47, wr_48, wr_49, wr_50, wr_51, wr_52, wr_53, wr_54, wr_55, wr_56, wr_57, wr_58, wr_59, wr_60, wr_61, wr_62, wr_63, wr_99, wr_100, wr_192, wr_255, wr_256, wr_343, wr_999, wr_1000, wr_2401, wr_2147483647, wr_65535, wr_m1, wr_m2, wr_m3, wr_m4, wr_m9, ak_1000, ak_1001, ak_1002, ak_0, ak_1, ak_2, ak_3, ak_4, ak_5, ak_6, ak_7, ak_8, ak_9, ak_10, ak_11, ak_12, ak_13, ak_14, ak_15, ak_16, ak_17, ak_18, ak_19, ak_20, ak_21, ak_22, ak_23, ak_24, ak_25, ak_26, ak_27, ak_28, ak_29, ak_30, ak_31, ak_32, ak_33, ak_34, ak_35, ak_36, ak_37, ak_38, ak_39, ak_40, ak_41, ak_42, ak_43, ak_44, ak_45, ak_46, ak_47, sp_X6_in, -Int32.toInt_ofInt, -not_and, wr_eq, jt_0, jt_1, jt_2, jt_3, jt_4, jt_5, jt_6, jt_8, jt_12, jt_30, jt_48, jt_49, jt_51, jt_57, jt_255, jt_9999, wn, h1]
abbrev mi_X6_tries : Mi := (yX6_tries, cX6_tries, 6, some .int, 3)
theorem mf_X6_tries : am_mf mi_X6_tries 1 := ⟨w_co_X6_tries, w_in_X6, ⟨by decide +kernel, by decide +kernel⟩, by decide +kernel, by decide⟩
def tb_X6_tries : List (Nat × Tr) := [(0, tAld 0 1), (1, tCv 6 0 fn_X6_weights), (4, tIfne 10), (7, tIc (-3) 2), (10, tIc 0 1), (11, tIst 2 1), (12, tIc 0 1), (13, tIst 3 1), (14, tIld 3 1), (15, tIc 4 1), (16, tCmge 98), (19, tIc 1 1), (20, tIst 4 2), (22, tIc 0 1), (23, tIst 5 2), (25, tIld 5 2), (27, tIc 4 1), (28, tCmge 81), (31, tIld 4 2), (33, tAld 0 1), (34, tIld 5 2), (36, tCv 6 1 fn_X6_weight), (39, tAld 0 1), (40, tIld 3 1), (41, tCv 6 1 fn_X6_weight), (44, tCmgt 67), (47, tAld 0 1), (48, tIld 5 2), (50, tCv 6 1 fn_X6_weight), (53, tAld 0 1), (54, tIld 3 1), (55, tCv 6 1 fn_X6_weight), (58, tCmne 71), (61, tIld 5 2), (63, tIld 3 1), (64, tCmge 71), (67, tIc 1 1), (68, tGo 72), (71, tIc 0 1), (72, tI2 (fun a b => a + b)), (73, tIst 4 2), (75, tIinc 5 1), (78, tGo 25), (81, tIld 2 1), (82, tIld 4 2), (84, tAld 0 1), (85, tIld 3 1), (86, tCv 6 1 fn_X6_weight), (89, tI2 (fun a b => a * b)), (90, tI2 (fun a b => a + b)), (91, tIst 2 1), (92, tIinc 3 1), (95, tGo 14), (98, tIld 2 1), (99, tAld 0 1), (100, tCv 6 0 fn_X6_weights), (103, tCs 2 fn_X6_common), (106, tIst 3 1), (107, tIld 1 1), (108, tIfeq 117), (111, tIld 2 1), (112, tIld 3 1), (113, tDv Int.tdiv), (114, tGo 123), (117, tAld 0 1), (118, tCv 6 0 fn_X6_weights), (121, tIld 3 1), (122, tDv Int.tdiv)]
theorem ok_X6_tries : Tok mi_X6_tries tb_X6_tries :=
  Tc (sd_aload_n dX6_tries_0) <|
  Tc (sd_cv (T := TX6) fok_X6_weights mf_X6_weights rfl w_ml_X6_217 w_im_X6_weights w_se_X6_weights (by decide) dX6_tries_1) <|
  Tc (sd_if_ne (by decide) dX6_tries_4) <|
  Tc (sd_bipush (by decide +kernel) dX6_tries_7) <|
  Tc (sd_iconst rfl dX6_tries_10) <|
  Tc (sd_istore_n dX6_tries_11) <|
  Tc (sd_iconst rfl dX6_tries_12) <|
  Tc (sd_istore_n dX6_tries_13) <|
  Tc (sd_iload_n dX6_tries_14) <|
  Tc (sd_iconst rfl dX6_tries_15) <|
  Tc (sd_cm_ge (by decide) dX6_tries_16) <|
  Tc (sd_iconst rfl dX6_tries_19) <|
  Tc (sd_istore dX6_tries_20) <|
  Tc (sd_iconst rfl dX6_tries_22) <|
  Tc (sd_istore dX6_tries_23) <|
  Tc (sd_iload dX6_tries_25) <|
  Tc (sd_iconst rfl dX6_tries_27) <|
  Tc (sd_cm_ge (by decide) dX6_tries_28) <|
  Tc (sd_iload dX6_tries_31) <|
  Tc (sd_aload_n dX6_tries_33) <|
  Tc (sd_iload dX6_tries_34) <|
  Tc (sd_cv (T := TX6) fok_X6_weight mf_X6_weight rfl w_ml_X6_214 w_im_X6_weight w_se_X6_weight (by decide) dX6_tries_36) <|
  Tc (sd_aload_n dX6_tries_39) <|
  Tc (sd_iload_n dX6_tries_40) <|
  Tc (sd_cv (T := TX6) fok_X6_weight mf_X6_weight rfl w_ml_X6_214 w_im_X6_weight w_se_X6_weight (by decide) dX6_tries_41) <|
  Tc (sd_cm_gt (by decide) dX6_tries_44) <|
  Tc (sd_aload_n dX6_tries_47) <|
  Tc (sd_iload dX6_tries_48) <|
  Tc (sd_cv (T := TX6) fok_X6_weight mf_X6_weight rfl w_ml_X6_214 w_im_X6_weight w_se_X6_weight (by decide) dX6_tries_50) <|
  Tc (sd_aload_n dX6_tries_53) <|
  Tc (sd_iload_n dX6_tries_54) <|
  Tc (sd_cv (T := TX6) fok_X6_weight mf_X6_weight rfl w_ml_X6_214 w_im_X6_weight w_se_X6_weight (by decide) dX6_tries_55) <|
  Tc (sd_cm_ne (by decide) dX6_tries_58) <|
  Tc (sd_iload dX6_tries_61) <|
  Tc (sd_iload_n dX6_tries_63) <|
  Tc (sd_cm_ge (by decide) dX6_tries_64) <|
  Tc (sd_iconst rfl dX6_tries_67) <|
  Tc (sd_goto (by decide) dX6_tries_68) <|
  Tc (sd_iconst rfl dX6_tries_71) <|
  Tc (sd_iadd dX6_tries_72) <|
  Tc (sd_istore dX6_tries_73) <|
  Tc (sd_iinc dX6_tries_75) <|
  Tc (sd_goto (by decide) dX6_tries_78) <|
  Tc (sd_iload_n dX6_tries_81) <|
  Tc (sd_iload dX6_tries_82) <|
  Tc (sd_aload_n dX6_tries_84) <|
  Tc (sd_iload_n dX6_tries_85) <|
  Tc (sd_cv (T := TX6) fok_X6_weight mf_X6_weight rfl w_ml_X6_214 w_im_X6_weight w_se_X6_weight (by decide) dX6_tries_86) <|
  Tc (sd_imul dX6_tries_89) <|
  Tc (sd_iadd dX6_tries_90) <|
  Tc (sd_istore_n dX6_tries_91) <|
  Tc (sd_iinc dX6_tries_92) <|
  Tc (sd_goto (by decide) dX6_tries_95) <|
  Tc (sd_iload_n dX6_tries_98) <|
  Tc (sd_aload_n dX6_tries_99) <|
  Tc (sd_cv (T := TX6) fok_X6_weights mf_X6_weights rfl w_ml_X6_217 w_im_X6_weights w_se_X6_weights (by decide) dX6_tries_100) <|
  Tc (sd_cs fok_X6_common mf_X6_common w_ml_X6_220 w_st_X6_common (by decide) dX6_tries_103) <|
  Tc (sd_istore_n dX6_tries_106) <|
  Tc (sd_iload_n dX6_tries_107) <|
  Tc (sd_if_eq (by decide) dX6_tries_108) <|
  Tc (sd_iload_n dX6_tries_111) <|
  Tc (sd_iload_n dX6_tries_112) <|
  Tc (sd_idiv dX6_tries_113) <|
  Tc (sd_goto (by decide) dX6_tries_114) <|
  Tc (sd_aload_n dX6_tries_117) <|
  Tc (sd_cv (T := TX6) fok_X6_weights mf_X6_weights rfl w_ml_X6_217 w_im_X6_weights w_se_X6_weights (by decide) dX6_tries_118) <|
  Tc (sd_iload_n dX6_tries_121) <|
  Tc (sd_idiv dX6_tries_122) <|
  Tn
theorem rk_X6_tries : Rok mi_X6_tries rI [9, 123] := rk_i dX6_tries_9 <| rk_i dX6_tries_123 <| rk_n
def rx_X6_tries : Nat → Nat → AL → List AV → List AC → Option (Option AV × List AC) := am_r tb_X6_tries rI [9, 123]
theorem rs_X6_tries_0 (n : Nat) (L : AL) (st : List AV) (M : List AC) : rx_X6_tries (n + 1) 0 L st M = am_j (rx_X6_tries n) ((tAld 0 1) 0 L st M) := rfl
theorem rs_X6_tries_1 (n : Nat) (L : AL) (st : List AV) (M : List AC) : rx_X6_tries (n + 1) 1 L st M = am_j (rx_X6_tries n) ((tCv 6 0 fn_X6_weights) 1 L st M) := rfl
theorem rs_X6_tries_4 (n : Nat) (L : AL) (st : List AV) (M : List AC) : rx_X6_tries (n + 1) 4 L st M = am_j (rx_X6_tries n) ((tIfne 10) 4 L st M) := rfl
theorem rs_X6_tries_7 (n : Nat) (L : AL) (st : List AV) (M : List AC) : rx_X6_tries (n + 1) 7 L st M = am_j (rx_X6_tries n) ((tIc (-3) 2) 7 L st M) := rfl
theorem rs_X6_tries_10 (n : Nat) (L : AL) (st : List AV) (M : List AC) : rx_X6_tries (n + 1) 10 L st M = am_j (rx_X6_tries n) ((tIc 0 1) 10 L st M) := rfl
theorem rs_X6_tries_11 (n : Nat) (L : AL) (st : List AV) (M : List AC) : rx_X6_tries (n + 1) 11 L st M = am_j (rx_X6_tries n) ((tIst 2 1) 11 L st M) := rfl
theorem rs_X6_tries_12 (n : Nat) (L : AL) (st : List AV) (M : List AC) : rx_X6_tries (n + 1) 12 L st M = am_j (rx_X6_tries n) ((tIc 0 1) 12 L st M) := rfl
theorem rs_X6_tries_13 (n : Nat) (L : AL) (st : List AV) (M : List AC) : rx_X6_tries (n + 1) 13 L st M = am_j (rx_X6_tries n) ((tIst 3 1) 13 L st M) := rfl
theorem rs_X6_tries_14 (n : Nat) (L : AL) (st : List AV) (M : List AC) : rx_X6_tries (n + 1) 14 L st M = am_j (rx_X6_tries n) ((tIld 3 1) 14 L st M) := rfl
theorem rs_X6_tries_15 (n : Nat) (L : AL) (st : List AV) (M : List AC) : rx_X6_tries (n + 1) 15 L st M = am_j (rx_X6_tries n) ((tIc 4 1) 15 L st M) := rfl
theorem rs_X6_tries_16 (n : Nat) (L : AL) (st : List AV) (M : List AC) : rx_X6_tries (n + 1) 16 L st M = am_j (rx_X6_tries n) ((tCmge 98) 16 L st M) := rfl
theorem rs_X6_tries_19 (n : Nat) (L : AL) (st : List AV) (M : List AC) : rx_X6_tries (n + 1) 19 L st M = am_j (rx_X6_tries n) ((tIc 1 1) 19 L st M) := rfl
theorem rs_X6_tries_20 (n : Nat) (L : AL) (st : List AV) (M : List AC) : rx_X6_tries (n + 1) 20 L st M = am_j (rx_X6_tries n) ((tIst 4 2) 20 L st M) := rfl
theorem rs_X6_tries_22 (n : Nat) (L : AL) (st : List AV) (M : List AC) : rx_X6_tries (n + 1) 22 L st M = am_j (rx_X6_tries n) ((tIc 0 1) 22 L st M) := rfl
theorem rs_X6_tries_23 (n : Nat) (L : AL) (st : List AV) (M : List AC) : rx_X6_tries (n + 1) 23 L st M = am_j (rx_X6_tries n) ((tIst 5 2) 23 L st M) := rfl
theorem rs_X6_tries_25 (n : Nat) (L : AL) (st : List AV) (M : List AC) : rx_X6_tries (n + 1) 25 L st M = am_j (rx_X6_tries n) ((tIld 5 2) 25 L st M) := rfl
theorem rs_X6_tries_27 (n : Nat) (L : AL) (st : List AV) (M : List AC) : rx_X6_tries (n + 1) 27 L st M = am_j (rx_X6_tries n) ((tIc 4 1) 27 L st M) := rfl
theorem rs_X6_tries_28 (n : Nat) (L : AL) (st : List AV) (M : List AC) : rx_X6_tries (n + 1) 28 L st M = am_j (rx_X6_tries n) ((tCmge 81) 28 L st M) := rfl
theorem rs_X6_tries_31 (n : Nat) (L : AL) (st : List AV) (M : List AC) : rx_X6_tries (n + 1) 31 L st M = am_j (rx_X6_tries n) ((tIld 4 2) 31 L st M) := rfl
theorem rs_X6_tries_33 (n : Nat) (L : AL) (st : List AV) (M : List AC) : rx_X6_tries (n + 1) 33 L st M = am_j (rx_X6_tries n) ((tAld 0 1) 33 L st M) := rfl
theorem rs_X6_tries_34 (n : Nat) (L : AL) (st : List AV) (M : List AC) : rx_X6_tries (n + 1) 34 L st M = am_j (rx_X6_tries n) ((tIld 5 2) 34 L st M) := rfl
theorem rs_X6_tries_36 (n : Nat) (L : AL) (st : List AV) (M : List AC) : rx_X6_tries (n + 1) 36 L st M = am_j (rx_X6_tries n) ((tCv 6 1 fn_X6_weight) 36 L st M) := rfl
theorem rs_X6_tries_39 (n : Nat) (L : AL) (st : List AV) (M : List AC) : rx_X6_tries (n + 1) 39 L st M = am_j (rx_X6_tries n) ((tAld 0 1) 39 L st M) := rfl
theorem rs_X6_tries_40 (n : Nat) (L : AL) (st : List AV) (M : List AC) : rx_X6_tries (n + 1) 40 L st M = am_j (rx_X6_tries n) ((tIld 3 1) 40 L st M) := rfl
theorem rs_X6_tries_41 (n : Nat) (L : AL) (st : List AV) (M : List AC) : rx_X6_tries (n + 1) 41 L st M = am_j (rx_X6_tries n) ((tCv 6 1 fn_X6_weight) 41 L st M) := rfl
theorem rs_X6_tries_44 (n : Nat) (L : AL) (st : List AV) (M : List AC) : rx_X6_tries (n + 1) 44 L st M = am_j (rx_X6_tries n) ((tCmgt 67) 44 L st M) := rfl
theorem rs_X6_tries_47 (n : Nat) (L : AL) (st : List AV) (M : List AC) : rx_X6_tries (n + 1) 47 L st M = am_j (rx_X6_tries n) ((tAld 0 1) 47 L st M) := rfl
theorem rs_X6_tries_48 (n : Nat) (L : AL) (st : List AV) (M : List AC) : rx_X6_tries (n + 1) 48 L st M = am_j (rx_X6_tries n) ((tIld 5 2) 48 L st M) := rfl
theorem rs_X6_tries_50 (n : Nat) (L : AL) (st : List AV) (M : List AC) : rx_X6_tries (n + 1) 50 L st M = am_j (rx_X6_tries n) ((tCv 6 1 fn_X6_weight) 50 L st M) := rfl
theorem rs_X6_tries_53 (n : Nat) (L : AL) (st : List AV) (M : List AC) : rx_X6_tries (n + 1) 53 L st M = am_j (rx_X6_tries n) ((tAld 0 1) 53 L st M) := rfl
theorem rs_X6_tries_54 (n : Nat) (L : AL) (st : List AV) (M : List AC) : rx_X6_tries (n + 1) 54 L st M = am_j (rx_X6_tries n) ((tIld 3 1) 54 L st M) := rfl
theorem rs_X6_tries_55 (n : Nat) (L : AL) (st : List AV) (M : List AC) : rx_X6_tries (n + 1) 55 L st M = am_j (rx_X6_tries n) ((tCv 6 1 fn_X6_weight) 55 L st M) := rfl
theorem rs_X6_tries_58 (n : Nat) (L : AL) (st : List AV) (M : List AC) : rx_X6_tries (n + 1) 58 L st M = am_j (rx_X6_tries n) ((tCmne 71) 58 L st M) := rfl
theorem rs_X6_tries_61 (n : Nat) (L : AL) (st : List AV) (M : List AC) : rx_X6_tries (n + 1) 61 L st M = am_j (rx_X6_tries n) ((tIld 5 2) 61 L st M) := rfl
theorem rs_X6_tries_63 (n : Nat) (L : AL) (st : List AV) (M : List AC) : rx_X6_tries (n + 1) 63 L st M = am_j (rx_X6_tries n) ((tIld 3 1) 63 L st M) := rfl
theorem rs_X6_tries_64 (n : Nat) (L : AL) (st : List AV) (M : List AC) : rx_X6_tries (n + 1) 64 L st M = am_j (rx_X6_tries n) ((tCmge 71) 64 L st M) := rfl
theorem rs_X6_tries_67 (n : Nat) (L : AL) (st : List AV) (M : List AC) : rx_X6_tries (n + 1) 67 L st M = am_j (rx_X6_tries n) ((tIc 1 1) 67 L st M) := rfl
theorem rs_X6_tries_68 (n : Nat) (L : AL) (st : List AV) (M : List AC) : rx_X6_tries (n + 1) 68 L st M = am_j (rx_X6_tries n) ((tGo 72) 68 L st M) := rfl
theorem rs_X6_tries_71 (n : Nat) (L : AL) (st : List AV) (M : List AC) : rx_X6_tries (n + 1) 71 L st M = am_j (rx_X6_tries n) ((tIc 0 1) 71 L st M) := rfl
theorem rs_X6_tries_72 (n : Nat) (L : AL) (st : List AV) (M : List AC) : rx_X6_tries (n + 1) 72 L st M = am_j (rx_X6_tries n) ((tI2 (fun a b => a + b)) 72 L st M) := rfl
theorem rs_X6_tries_73 (n : Nat) (L : AL) (st : List AV) (M : List AC) : rx_X6_tries (n + 1) 73 L st M = am_j (rx_X6_tries n) ((tIst 4 2) 73 L st M) := rfl
theorem rs_X6_tries_75 (n : Nat) (L : AL) (st : List AV) (M : List AC) : rx_X6_tries (n + 1) 75 L st M = am_j (rx_X6_tries n) ((tIinc 5 1) 75 L st M) := rfl
theorem rs_X6_tries_78 (n : Nat) (L : AL) (st : List AV) (M : List AC) : rx_X6_tries (n + 1) 78 L st M = am_j (rx_X6_tries n) ((tGo 25) 78 L st M) := rfl
theorem rs_X6_tries_81 (n : Nat) (L : AL) (st : List AV) (M : List AC) : rx_X6_tries (n + 1) 81 L st M = am_j (rx_X6_tries n) ((tIld 2 1) 81 L st M) := rfl
theorem rs_X6_tries_82 (n : Nat) (L : AL) (st : List AV) (M : List AC) : rx_X6_tries (n + 1) 82 L st M = am_j (rx_X6_tries n) ((tIld 4 2) 82 L st M) := rfl
theorem rs_X6_tries_84 (n : Nat) (L : AL) (st : List AV) (M : List AC) : rx_X6_tries (n + 1) 84 L st M = am_j (rx_X6_tries n) ((tAld 0 1) 84 L st M) := rfl
theorem rs_X6_tries_85 (n : Nat) (L : AL) (st : List AV) (M : List AC) : rx_X6_tries (n + 1) 85 L st M = am_j (rx_X6_tries n) ((tIld 3 1) 85 L st M) := rfl
theorem rs_X6_tries_86 (n : Nat) (L : AL) (st : List AV) (M : List AC) : rx_X6_tries (n + 1) 86 L st M = am_j (rx_X6_tries n) ((tCv 6 1 fn_X6_weight) 86 L st M) := rfl
theorem rs_X6_tries_89 (n : Nat) (L : AL) (st : List AV) (M : List AC) : rx_X6_tries (n + 1) 89 L st M = am_j (rx_X6_tries n) ((tI2 (fun a b => a * b)) 89 L st M) := rfl
theorem rs_X6_tries_90 (n : Nat) (L : AL) (st : List AV) (M : List AC) : rx_X6_tries (n + 1) 90 L st M = am_j (rx_X6_tries n) ((tI2 (fun a b => a + b)) 90 L st M) := rfl
theorem rs_X6_tries_91 (n : Nat) (L : AL) (st : List AV) (M : List AC) : rx_X6_tries (n + 1) 91 L st M = am_j (rx_X6_tries n) ((tIst 2 1) 91 L st M) := rfl
theorem rs_X6_tries_92 (n : Nat) (L : AL) (st : List AV) (M : List AC) : rx_X6_tries (n + 1) 92 L st M = am_j (rx_X6_tries n) ((tIinc 3 1) 92 L st M) := rfl
theorem rs_X6_tries_95 (n : Nat) (L : AL) (st : List AV) (M : List AC) : rx_X6_tries (n + 1) 95 L st M = am_j (rx_X6_tries n) ((tGo 14) 95 L st M) := rfl
theorem rs_X6_tries_98 (n : Nat) (L : AL) (st : List AV) (M : List AC) : rx_X6_tries (n + 1) 98 L st M = am_j (rx_X6_tries n) ((tIld 2 1) 98 L st M) := rfl
theorem rs_X6_tries_99 (n : Nat) (L : AL) (st : List AV) (M : List AC) : rx_X6_tries (n + 1) 99 L st M = am_j (rx_X6_tries n) ((tAld 0 1) 99 L st M) := rfl
theorem rs_X6_tries_100 (n : Nat) (L : AL) (st : List AV) (M : List AC) : rx_X6_tries (n + 1) 100 L st M = am_j (rx_X6_tries n) ((tCv 6 0 fn_X6_weights) 100 L st M) := rfl
theorem rs_X6_tries_103 (n : Nat) (L : AL) (st : List AV) (M : List AC) : rx_X6_tries (n + 1) 103 L st M = am_j (rx_X6_tries n) ((tCs 2 fn_X6_common) 103 L st M) := rfl
theorem rs_X6_tries_106 (n : Nat) (L : AL) (st : List AV) (M : List AC) : rx_X6_tries (n + 1) 106 L st M = am_j (rx_X6_tries n) ((tIst 3 1) 106 L st M) := rfl
theorem rs_X6_tries_107 (n : Nat) (L : AL) (st : List AV) (M : List AC) : rx_X6_tries (n + 1) 107 L st M = am_j (rx_X6_tries n) ((tIld 1 1) 107 L st M) := rfl
theorem rs_X6_tries_108 (n : Nat) (L : AL) (st : List AV) (M : List AC) : rx_X6_tries (n + 1) 108 L st M = am_j (rx_X6_tries n) ((tIfeq 117) 108 L st M) := rfl
theorem rs_X6_tries_111 (n : Nat) (L : AL) (st : List AV) (M : List AC) : rx_X6_tries (n + 1) 111 L st M = am_j (rx_X6_tries n) ((tIld 2 1) 111 L st M) := rfl
theorem rs_X6_tries_112 (n : Nat) (L : AL) (st : List AV) (M : List AC) : rx_X6_tries (n + 1) 112 L st M = am_j (rx_X6_tries n) ((tIld 3 1) 112 L st M) := rfl
theorem rs_X6_tries_113 (n : Nat) (L : AL) (st : List AV) (M : List AC) : rx_X6_tries (n + 1) 113 L st M = am_j (rx_X6_tries n) ((tDv Int.tdiv) 113 L st M) := rfl
theorem rs_X6_tries_114 (n : Nat) (L : AL) (st : List AV) (M : List AC) : rx_X6_tries (n + 1) 114 L st M = am_j (rx_X6_tries n) ((tGo 123) 114 L st M) := rfl
theorem rs_X6_tries_117 (n : Nat) (L : AL) (st : List AV) (M : List AC) : rx_X6_tries (n + 1) 117 L st M = am_j (rx_X6_tries n) ((tAld 0 1) 117 L st M) := rfl
theorem rs_X6_tries_118 (n : Nat) (L : AL) (st : List AV) (M : List AC) : rx_X6_tries (n + 1) 118 L st M = am_j (rx_X6_tries n) ((tCv 6 0 fn_X6_weights) 118 L st M) := rfl
theorem rs_X6_tries_121 (n : Nat) (L : AL) (st : List AV) (M : List AC) : rx_X6_tries (n + 1) 121 L st M = am_j (rx_X6_tries n) ((tIld 3 1) 121 L st M) := rfl
theorem rs_X6_tries_122 (n : Nat) (L : AL) (st : List AV) (M : List AC) : rx_X6_tries (n + 1) 122 L st M = am_j (rx_X6_tries n) ((tDv Int.tdiv) 122 L st M) := rfl
theorem rs_X6_tries_9 (n : Nat) (L : AL) (st : List AV) (M : List AC) : rx_X6_tries (n + 1) 9 L st M = am_e rI st M := rfl
theorem rs_X6_tries_123 (n : Nat) (L : AL) (st : List AV) (M : List AC) : rx_X6_tries (n + 1) 123 L st M = am_e rI st M := rfl
theorem ri_X6_tries (c : Prop) [Decidable c] (p q n : Nat) (L : AL) (st : List AV) (M : List AC) : rx_X6_tries n (if c then p else q) L st M = if c then rx_X6_tries n p L st M else rx_X6_tries n q L st M := by split <;> rfl
theorem rm_X6_tries {n k pc : Nat} {L : AL} {st : List AV} {M : List AC} {x : Option AV × List AC} (h : rx_X6_tries n pc L st M = some x) (hk : n ≤ k) : rx_X6_tries k pc L st M = some x := am_r_mono n k h hk
def fn_X6_tries : Fn := am_fn rx_X6_tries 6
theorem fok_X6_tries : Fok mi_X6_tries fn_X6_tries := fun _ _ _ _ h => am_fok ok_X6_tries rk_X6_tries rfl h
theorem l1_X6_tries {M : List AC} {W : Int → Int} (hM : ∃ fs, M[26]? = some (aO 6 fs)) (hW : ∀ q : Int, 0 ≤ q → q < 4 → fn_X6_weight [vR 26, vI q] M = some (some (vI (W q)), M)) (hw : ∀ q : Int, 0 ≤ W q ∧ W q ≤ 19683) (c u z : Int) (hc : 0 ≤ c ∧ c < 4) (x : Option AV × List AC) (N : Nat) : ∀ (n : Nat) (j p : Int), j + n = 4 → 0 ≤ j →
    (Ru rx_X6_tries N 81 [some (vR 26), some (vI u), some (vI z), some (vI c), some (vI (p + sm (ah W c) n j)), some (vI 4)] [] M x) → Ru rx_X6_tries (N + 60 * n + 10) 25 [some (vR 26), some (vI u), some (vI z), some (vI c), some (vI p), some (vI j)] [] M x
  | 0, j, p, hj, h0, kk => by
    have e : j = 4 := by omega
    subst e
    obtain ⟨n, hn, h⟩ := kk
    refine ⟨n + 9 + 1, by omega, ?_⟩
    rw [rs_X6_tries_25]
    simp only [sm, Int.add_zero] at h
    simp [↓ri_X6_tries, rs_X6_tries_0, rs_X6_tries_1, rs_X6_tries_4, rs_X6_tries_7, rs_X6_tries_10, rs_X6_tries_11, rs_X6_tries_12, rs_X6_tries_13, rs_X6_tries_14, rs_X6_tries_15, rs_X6_tries_16, rs_X6_tries_19, rs_X6_tries_20, rs_X6_tries_22, rs_X6_tries_23, rs_X6_tries_27, rs_X6_tries_28, rs_X6_tries_31, rs_X6_tries_33, rs_X6_tries_34, rs_X6_tries_36, rs_X6_tries_39, rs_X6_tries_40, rs_X6_tries_41, rs_X6_tries_44, rs_X6_tries_47, rs_X6_tries_48, rs_X6_tries_50, rs_X6_tries_53, rs_X6_tries_54, rs_X6_tries_55, rs_X6_tries_58, rs_X6_tries_61, rs_X6_tries_63, rs_X6_tries_64, rs_X6_tries_67, rs_X6_tries_68, rs_X6_tries_71, rs_X6_tries_72, rs_X6_tries_73, rs_X6_tries_75, rs_X6_tries_78, rs_X6_tries_82, rs_X6_tries_84, rs_X6_tries_85, rs_X6_tries_86, rs_X6_tries_89, rs_X6_tries_90, rs_X6_tries_91, rs_X6_tries_92, rs_X6_tries_95, rs_X6_tries_98, rs_X6_tries_99, rs_X6_tries_100, rs_X6_tries_103, rs_X6_tries_106, rs_X6_tries_107, rs_X6_tries_108, rs_X6_tries_111, rs_X6_tries_112, rs_X6_tries_113, rs_X6_tries_114, rs_X6_tries_117, rs_X6_tries_118, rs_X6_tries_121, rs_X6_tries_122, rs_X6_tries_9, rs_X6_tries_123, -List.getElem?_eq_getElem, am_js, am_e, am_in, am_sl, rI, rZ, rV, rJ, rA, rC, kI, kJ, kR, am_one, am_nl, am_w8, tIc, tLc, tNul, tIld, tLld, tAld, tIst, tLst, tAst, tIinc, tI2, tDv, tL2, tLrem, tLs, tLcmp, tI2l, tL2i, tI2c, tDup, tDup2, tPop, tGo, tIfeq, tIfne, tIflt, tIfge, tIfgt, tIfle, tCmeq, tCmne, tCmlt, tCmge, tCmgt, tCmle, tNu, tTs, tGf, tPf, tGs, tIal, tIas, tBal, tBas, tAln, tSv, tSc, tSb, tSl, tSk, tCv, tCs, tCt, tMx, tMn, wr_10000, wr_100000, wr_1000000, wr_10000000, wr_100000000, wr_2400, wr_9999, wr_0, wr_1, wr_2, wr_3, wr_4, wr_5, wr_6, wr_7, wr_8, wr_9, wr_10, wr_11, wr_12, wr_13, wr_14, wr_15, wr_16, wr_17, wr_18, wr_19, wr_20, wr_21, wr_22, wr_23, wr_24, wr_25, wr_26, wr_27, wr_28, wr_29, wr_30, wr_31, wr_32, wr_33, wr_34, wr_35, wr_36, wr_37, wr_38, wr_39, wr_40, wr_41, wr_42, wr_43, wr_44, wr_45, wr_46, wr_47, wr_48, wr_49, wr_50, wr_51, wr_52, wr_53, wr_54, wr_55, wr_56, wr_57, wr_58, wr_59, wr_60, wr_61, wr_62, wr_63, wr_99, wr_100, wr_192, wr_255, wr_256, wr_343, wr_999, wr_1000, wr_2401, wr_2147483647, wr_65535, wr_m1, wr_m2, wr_m3, wr_m4, wr_m9, ak_1000, ak_1001, ak_1002, ak_0, ak_1, ak_2, ak_3, ak_4, ak_5, ak_6, ak_7, ak_8, ak_9, ak_10, ak_11, ak_12, ak_13, ak_14, ak_15, ak_16, ak_17, ak_18, ak_19, ak_20, ak_21, ak_22, ak_23, ak_24, ak_25, ak_26, ak_27, ak_28, ak_29, ak_30, ak_31, ak_32, ak_33, ak_34, ak_35, ak_36, ak_37, ak_38, ak_39, ak_40, ak_41, ak_42, ak_43, ak_44, ak_45, ak_46, ak_47]
    exact rm_X6_tries h (by omega)
  | n + 1, j, p, hj, h0, kk => by
    obtain ⟨fs, hM⟩ := hM
    have wj : wr j = j := wr_id (by omega) (by omega)
    have wc : wr c = c := wr_id (by omega) (by omega)
    have nj : ¬ 4 ≤ j := by omega
    have hWj := hW j h0 (by omega)
    have hWc := hW c hc.1 hc.2
    have bj := hw j
    have bc := hw c
    have vj : wr (W j) = W j := wr_id (by omega) (by omega)
    have vc : wr (W c) = W c := wr_id (by omega) (by omega)
    have ih := l1_X6_tries ⟨fs, hM⟩ hW hw c u z hc x N n (j + 1) (p + ah W c j) (by omega) (by omega) (by
      simpa only [sm, Int.add_assoc] using kk)
    obtain ⟨n', hn, h⟩ := ih
    refine ⟨n' + 59 + 1, by omega, ?_⟩
    rw [rs_X6_tries_25]
    by_cases q1 : W c < W j
    · have e : ah W c j = 1 := by rw [ah, if_pos (Or.inl q1)]
      rw [e] at h
      simp [↓ri_X6_tries, rs_X6_tries_0, rs_X6_tries_1, rs_X6_tries_4, rs_X6_tries_7, rs_X6_tries_10, rs_X6_tries_11, rs_X6_tries_12, rs_X6_tries_13, rs_X6_tries_14, rs_X6_tries_15, rs_X6_tries_16, rs_X6_tries_19, rs_X6_tries_20, rs_X6_tries_22, rs_X6_tries_23, rs_X6_tries_27, rs_X6_tries_28, rs_X6_tries_31, rs_X6_tries_33, rs_X6_tries_34, rs_X6_tries_36, rs_X6_tries_39, rs_X6_tries_40, rs_X6_tries_41, rs_X6_tries_44, rs_X6_tries_47, rs_X6_tries_48, rs_X6_tries_50, rs_X6_tries_53, rs_X6_tries_54, rs_X6_tries_55, rs_X6_tries_58, rs_X6_tries_61, rs_X6_tries_63, rs_X6_tries_64, rs_X6_tries_67, rs_X6_tries_68, rs_X6_tries_71, rs_X6_tries_72, rs_X6_tries_73, rs_X6_tries_75, rs_X6_tries_78, rs_X6_tries_82, rs_X6_tries_84, rs_X6_tries_85, rs_X6_tries_86, rs_X6_tries_89, rs_X6_tries_90, rs_X6_tries_91, rs_X6_tries_92, rs_X6_tries_95, rs_X6_tries_98, rs_X6_tries_99, rs_X6_tries_100, rs_X6_tries_103, rs_X6_tries_106, rs_X6_tries_107, rs_X6_tries_108, rs_X6_tries_111, rs_X6_tries_112, rs_X6_tries_113, rs_X6_tries_114, rs_X6_tries_117, rs_X6_tries_118, rs_X6_tries_121, rs_X6_tries_122, rs_X6_tries_9, rs_X6_tries_123, -List.getElem?_eq_getElem, am_js, am_e, am_in, am_sl, rI, rZ, rV, rJ, rA, rC, kI, kJ, kR, am_one, am_nl, am_w8, tIc, tLc, tNul, tIld, tLld, tAld, tIst, tLst, tAst, tIinc, tI2, tDv, tL2, tLrem, tLs, tLcmp, tI2l, tL2i, tI2c, tDup, tDup2, tPop, tGo, tIfeq, tIfne, tIflt, tIfge, tIfgt, tIfle, tCmeq, tCmne, tCmlt, tCmge, tCmgt, tCmle, tNu, tTs, tGf, tPf, tGs, tIal, tIas, tBal, tBas, tAln, tSv, tSc, tSb, tSl, tSk, tCv, tCs, tCt, tMx, tMn, wr_10000, wr_100000, wr_1000000, wr_10000000, wr_100000000, wr_2400, wr_9999, wr_0, wr_1, wr_2, wr_3, wr_4, wr_5, wr_6, wr_7, wr_8, wr_9, wr_10, wr_11, wr_12, wr_13, wr_14, wr_15, wr_16, wr_17, wr_18, wr_19, wr_20, wr_21, wr_22, wr_23, wr_24, wr_25, wr_26, wr_27, wr_28, wr_29, wr_30, wr_31, wr_32, wr_33, wr_34, wr_35, wr_36, wr_37, wr_38, wr_39, wr_40, wr_41, wr_42, wr_43, wr_44, wr_45, wr_46, wr_47, wr_48, wr_49, wr_50, wr_51, wr_52, wr_53, wr_54, wr_55, wr_56, wr_57, wr_58, wr_59, wr_60, wr_61, wr_62, wr_63, wr_99, wr_100, wr_192, wr_255, wr_256, wr_343, wr_999, wr_1000, wr_2401, wr_2147483647, wr_65535, wr_m1, wr_m2, wr_m3, wr_m4, wr_m9, ak_1000, ak_1001, ak_1002, ak_0, ak_1, ak_2, ak_3, ak_4, ak_5, ak_6, ak_7, ak_8, ak_9, ak_10, ak_11, ak_12, ak_13, ak_14, ak_15, ak_16, ak_17, ak_18, ak_19, ak_20, ak_21, ak_22, ak_23, ak_24, ak_25, ak_26, ak_27, ak_28, ak_29, ak_30, ak_31, ak_32, ak_33, ak_34, ak_35, ak_36, ak_37, ak_38, ak_39, ak_40, ak_41, ak_42, ak_43, ak_44, ak_45, ak_46, ak_47, wj, nj, hM, hWj, hWc, vj, vc, q1]
      exact rm_X6_tries h (by omega)
    · by_cases q2 : W j = W c
      · by_cases q3 : j < c
        · have e : ah W c j = 1 := by rw [ah, if_pos (Or.inr ⟨q2, q3⟩)]
          rw [e] at h
          have q4 : ¬ c ≤ j := by omega
          simp [↓ri_X6_tries, rs_X6_tries_0, rs_X6_tries_1, rs_X6_tries_4, rs_X6_tries_7, rs_X6_tries_10, rs_X6_tries_11, rs_X6_tries_12, rs_X6_tries_13, rs_X6_tries_14, rs_X6_tries_15, rs_X6_tries_16, rs_X6_tries_19, rs_X6_tries_20, rs_X6_tries_22, rs_X6_tries_23, rs_X6_tries_27, rs_X6_tries_28, rs_X6_tries_31, rs_X6_tries_33, rs_X6_tries_34, rs_X6_tries_36, rs_X6_tries_39, rs_X6_tries_40, rs_X6_tries_41, rs_X6_tries_44, rs_X6_tries_47, rs_X6_tries_48, rs_X6_tries_50, rs_X6_tries_53, rs_X6_tries_54, rs_X6_tries_55, rs_X6_tries_58, rs_X6_tries_61, rs_X6_tries_63, rs_X6_tries_64, rs_X6_tries_67, rs_X6_tries_68, rs_X6_tries_71, rs_X6_tries_72, rs_X6_tries_73, rs_X6_tries_75, rs_X6_tries_78, rs_X6_tries_82, rs_X6_tries_84, rs_X6_tries_85, rs_X6_tries_86, rs_X6_tries_89, rs_X6_tries_90, rs_X6_tries_91, rs_X6_tries_92, rs_X6_tries_95, rs_X6_tries_98, rs_X6_tries_99, rs_X6_tries_100, rs_X6_tries_103, rs_X6_tries_106, rs_X6_tries_107, rs_X6_tries_108, rs_X6_tries_111, rs_X6_tries_112, rs_X6_tries_113, rs_X6_tries_114, rs_X6_tries_117, rs_X6_tries_118, rs_X6_tries_121, rs_X6_tries_122, rs_X6_tries_9, rs_X6_tries_123, -List.getElem?_eq_getElem, am_js, am_e, am_in, am_sl, rI, rZ, rV, rJ, rA, rC, kI, kJ, kR, am_one, am_nl, am_w8, tIc, tLc, tNul, tIld, tLld, tAld, tIst, tLst, tAst, tIinc, tI2, tDv, tL2, tLrem, tLs, tLcmp, tI2l, tL2i, tI2c, tDup, tDup2, tPop, tGo, tIfeq, tIfne, tIflt, tIfge, tIfgt, tIfle, tCmeq, tCmne, tCmlt, tCmge, tCmgt, tCmle, tNu, tTs, tGf, tPf, tGs, tIal, tIas, tBal, tBas, tAln, tSv, tSc, tSb, tSl, tSk, tCv, tCs, tCt, tMx, tMn, wr_10000, wr_100000, wr_1000000, wr_10000000, wr_100000000, wr_2400, wr_9999, wr_0, wr_1, wr_2, wr_3, wr_4, wr_5, wr_6, wr_7, wr_8, wr_9, wr_10, wr_11, wr_12, wr_13, wr_14, wr_15, wr_16, wr_17, wr_18, wr_19, wr_20, wr_21, wr_22, wr_23, wr_24, wr_25, wr_26, wr_27, wr_28, wr_29, wr_30, wr_31, wr_32, wr_33, wr_34, wr_35, wr_36, wr_37, wr_38, wr_39, wr_40, wr_41, wr_42, wr_43, wr_44, wr_45, wr_46, wr_47, wr_48, wr_49, wr_50, wr_51, wr_52, wr_53, wr_54, wr_55, wr_56, wr_57, wr_58, wr_59, wr_60, wr_61, wr_62, wr_63, wr_99, wr_100, wr_192, wr_255, wr_256, wr_343, wr_999, wr_1000, wr_2401, wr_2147483647, wr_65535, wr_m1, wr_m2, wr_m3, wr_m4, wr_m9, ak_1000, ak_1001, ak_1002, ak_0, ak_1, ak_2, ak_3, ak_4, ak_5, ak_6, ak_7, ak_8, ak_9, ak_10, ak_11, ak_12, ak_13, ak_14, ak_15, ak_16, ak_17, ak_18, ak_19, ak_20, ak_21, ak_22, ak_23, ak_24, ak_25, ak_26, ak_27, ak_28, ak_29, ak_30, ak_31, ak_32, ak_33, ak_34, ak_35, ak_36, ak_37, ak_38, ak_39, ak_40, ak_41, ak_42, ak_43, ak_44, ak_45, ak_46, ak_47, wj, wc, nj, hM, hWj, hWc, vj, vc, q1, q2, q3, q4]
          exact rm_X6_tries h (by omega)
        · have e : ah W c j = 0 := by rw [ah, if_neg (by omega)]
          rw [e] at h
          have q4 : c ≤ j := by omega
          simp only [Int.add_zero] at h
          simp [↓ri_X6_tries, rs_X6_tries_0, rs_X6_tries_1, rs_X6_tries_4, rs_X6_tries_7, rs_X6_tries_10, rs_X6_tries_11, rs_X6_tries_12, rs_X6_tries_13, rs_X6_tries_14, rs_X6_tries_15, rs_X6_tries_16, rs_X6_tries_19, rs_X6_tries_20, rs_X6_tries_22, rs_X6_tries_23, rs_X6_tries_27, rs_X6_tries_28, rs_X6_tries_31, rs_X6_tries_33, rs_X6_tries_34, rs_X6_tries_36, rs_X6_tries_39, rs_X6_tries_40, rs_X6_tries_41, rs_X6_tries_44, rs_X6_tries_47, rs_X6_tries_48, rs_X6_tries_50, rs_X6_tries_53, rs_X6_tries_54, rs_X6_tries_55, rs_X6_tries_58, rs_X6_tries_61, rs_X6_tries_63, rs_X6_tries_64, rs_X6_tries_67, rs_X6_tries_68, rs_X6_tries_71, rs_X6_tries_72, rs_X6_tries_73, rs_X6_tries_75, rs_X6_tries_78, rs_X6_tries_82, rs_X6_tries_84, rs_X6_tries_85, rs_X6_tries_86, rs_X6_tries_89, rs_X6_tries_90, rs_X6_tries_91, rs_X6_tries_92, rs_X6_tries_95, rs_X6_tries_98, rs_X6_tries_99, rs_X6_tries_100, rs_X6_tries_103, rs_X6_tries_106, rs_X6_tries_107, rs_X6_tries_108, rs_X6_tries_111, rs_X6_tries_112, rs_X6_tries_113, rs_X6_tries_114, rs_X6_tries_117, rs_X6_tries_118, rs_X6_tries_121, rs_X6_tries_122, rs_X6_tries_9, rs_X6_tries_123, -List.getElem?_eq_getElem, am_js, am_e, am_in, am_sl, rI, rZ, rV, rJ, rA, rC, kI, kJ, kR, am_one, am_nl, am_w8, tIc, tLc, tNul, tIld, tLld, tAld, tIst, tLst, tAst, tIinc, tI2, tDv, tL2, tLrem, tLs, tLcmp, tI2l, tL2i, tI2c, tDup, tDup2, tPop, tGo, tIfeq, tIfne, tIflt, tIfge, tIfgt, tIfle, tCmeq, tCmne, tCmlt, tCmge, tCmgt, tCmle, tNu, tTs, tGf, tPf, tGs, tIal, tIas, tBal, tBas, tAln, tSv, tSc, tSb, tSl, tSk, tCv, tCs, tCt, tMx, tMn, wr_10000, wr_100000, wr_1000000, wr_10000000, wr_100000000, wr_2400, wr_9999, wr_0, wr_1, wr_2, wr_3, wr_4, wr_5, wr_6, wr_7, wr_8, wr_9, wr_10, wr_11, wr_12, wr_13, wr_14, wr_15, wr_16, wr_17, wr_18, wr_19, wr_20, wr_21, wr_22, wr_23, wr_24, wr_25, wr_26, wr_27, wr_28, wr_29, wr_30, wr_31, wr_32, wr_33, wr_34, wr_35, wr_36, wr_37, wr_38, wr_39, wr_40, wr_41, wr_42, wr_43, wr_44, wr_45, wr_46, wr_47, wr_48, wr_49, wr_50, wr_51, wr_52, wr_53, wr_54, wr_55, wr_56, wr_57, wr_58, wr_59, wr_60, wr_61, wr_62, wr_63, wr_99, wr_100, wr_192, wr_255, wr_256, wr_343, wr_999, wr_1000, wr_2401, wr_2147483647, wr_65535, wr_m1, wr_m2, wr_m3, wr_m4, wr_m9, ak_1000, ak_1001, ak_1002, ak_0, ak_1, ak_2, ak_3, ak_4, ak_5, ak_6, ak_7, ak_8, ak_9, ak_10, ak_11, ak_12, ak_13, ak_14, ak_15, ak_16, ak_17, ak_18, ak_19, ak_20, ak_21, ak_22, ak_23, ak_24, ak_25, ak_26, ak_27, ak_28, ak_29, ak_30, ak_31, ak_32, ak_33, ak_34, ak_35, ak_36, ak_37, ak_38, ak_39, ak_40, ak_41, ak_42, ak_43, ak_44, ak_45, ak_46, ak_47, wj, wc, nj, hM, hWj, hWc, vj, vc, q1, q2, q3, q4]
          exact rm_X6_tries h (by omega)
      · have e : ah W c j = 0 := by rw [ah, if_neg (by omega)]
        rw [e] at h
        simp only [Int.add_zero] at h
        simp [↓ri_X6_tries, rs_X6_tries_0, rs_X6_tries_1, rs_X6_tries_4, rs_X6_tries_7, rs_X6_tries_10, rs_X6_tries_11, rs_X6_tries_12, rs_X6_tries_13, rs_X6_tries_14, rs_X6_tries_15, rs_X6_tries_16, rs_X6_tries_19, rs_X6_tries_20, rs_X6_tries_22, rs_X6_tries_23, rs_X6_tries_27, rs_X6_tries_28, rs_X6_tries_31, rs_X6_tries_33, rs_X6_tries_34, rs_X6_tries_36, rs_X6_tries_39, rs_X6_tries_40, rs_X6_tries_41, rs_X6_tries_44, rs_X6_tries_47, rs_X6_tries_48, rs_X6_tries_50, rs_X6_tries_53, rs_X6_tries_54, rs_X6_tries_55, rs_X6_tries_58, rs_X6_tries_61, rs_X6_tries_63, rs_X6_tries_64, rs_X6_tries_67, rs_X6_tries_68, rs_X6_tries_71, rs_X6_tries_72, rs_X6_tries_73, rs_X6_tries_75, rs_X6_tries_78, rs_X6_tries_82, rs_X6_tries_84, rs_X6_tries_85, rs_X6_tries_86, rs_X6_tries_89, rs_X6_tries_90, rs_X6_tries_91, rs_X6_tries_92, rs_X6_tries_95, rs_X6_tries_98, rs_X6_tries_99, rs_X6_tries_100, rs_X6_tries_103, rs_X6_tries_106, rs_X6_tries_107, rs_X6_tries_108, rs_X6_tries_111, rs_X6_tries_112, rs_X6_tries_113, rs_X6_tries_114, rs_X6_tries_117, rs_X6_tries_118, rs_X6_tries_121, rs_X6_tries_122, rs_X6_tries_9, rs_X6_tries_123, -List.getElem?_eq_getElem, am_js, am_e, am_in, am_sl, rI, rZ, rV, rJ, rA, rC, kI, kJ, kR, am_one, am_nl, am_w8, tIc, tLc, tNul, tIld, tLld, tAld, tIst, tLst, tAst, tIinc, tI2, tDv, tL2, tLrem, tLs, tLcmp, tI2l, tL2i, tI2c, tDup, tDup2, tPop, tGo, tIfeq, tIfne, tIflt, tIfge, tIfgt, tIfle, tCmeq, tCmne, tCmlt, tCmge, tCmgt, tCmle, tNu, tTs, tGf, tPf, tGs, tIal, tIas, tBal, tBas, tAln, tSv, tSc, tSb, tSl, tSk, tCv, tCs, tCt, tMx, tMn, wr_10000, wr_100000, wr_1000000, wr_10000000, wr_100000000, wr_2400, wr_9999, wr_0, wr_1, wr_2, wr_3, wr_4, wr_5, wr_6, wr_7, wr_8, wr_9, wr_10, wr_11, wr_12, wr_13, wr_14, wr_15, wr_16, wr_17, wr_18, wr_19, wr_20, wr_21, wr_22, wr_23, wr_24, wr_25, wr_26, wr_27, wr_28, wr_29, wr_30, wr_31, wr_32, wr_33, wr_34, wr_35, wr_36, wr_37, wr_38, wr_39, wr_40, wr_41, wr_42, wr_43, wr_44, wr_45, wr_46, wr_47, wr_48, wr_49, wr_50, wr_51, wr_52, wr_53, wr_54, wr_55, wr_56, wr_57, wr_58, wr_59, wr_60, wr_61, wr_62, wr_63, wr_99, wr_100, wr_192, wr_255, wr_256, wr_343, wr_999, wr_1000, wr_2401, wr_2147483647, wr_65535, wr_m1, wr_m2, wr_m3, wr_m4, wr_m9, ak_1000, ak_1001, ak_1002, ak_0, ak_1, ak_2, ak_3, ak_4, ak_5, ak_6, ak_7, ak_8, ak_9, ak_10, ak_11, ak_12, ak_13, ak_14, ak_15, ak_16, ak_17, ak_18, ak_19, ak_20, ak_21, ak_22, ak_23, ak_24, ak_25, ak_26, ak_27, ak_28, ak_29, ak_30, ak_31, ak_32, ak_33, ak_34, ak_35, ak_36, ak_37, ak_38, ak_39, ak_40, ak_41, ak_42, ak_43, ak_44, ak_45, ak_46, ak_47, wj, wc, nj, hM, hWj, hWc, vj, vc, q1, q2]
        exact rm_X6_tries h (by omega)
theorem l0_X6_tries {M : List AC} {W : Int → Int} (hM : ∃ fs, M[26]? = some (aO 6 fs)) (hW : ∀ q : Int, 0 ≤ q → q < 4 → fn_X6_weight [vR 26, vI q] M = some (some (vI (W q)), M)) (hw : ∀ q : Int, 0 ≤ W q ∧ W q ≤ 19683) (u : Int) (x : Option AV × List AC) (N : Nat) : ∀ (n : Nat) (j z : Int) (x4 x5 : Option AV), j + n = 4 → 0 ≤ j →
    (∀ x4' x5', Ru rx_X6_tries N 98 [some (vR 26), some (vI u), some (vI (z + sm (fun c => (1 + sm (ah W c) 4 0) * W c) n j)), some (vI 4), x4', x5'] [] M x) →
    Ru rx_X6_tries (N + 400 * n + 10) 14 [some (vR 26), some (vI u), some (vI z), some (vI j), x4, x5] [] M x
  | 0, j, z, x4, x5, hj, h0, kk => by
    have e : j = 4 := by omega
    subst e
    obtain ⟨n, hn, h⟩ := kk x4 x5
    refine ⟨n + 9 + 1, by omega, ?_⟩
    rw [rs_X6_tries_14]
    simp only [sm, Int.add_zero] at h
    simp [↓ri_X6_tries, rs_X6_tries_0, rs_X6_tries_1, rs_X6_tries_4, rs_X6_tries_7, rs_X6_tries_10, rs_X6_tries_11, rs_X6_tries_12, rs_X6_tries_13, rs_X6_tries_15, rs_X6_tries_16, rs_X6_tries_19, rs_X6_tries_20, rs_X6_tries_22, rs_X6_tries_23, rs_X6_tries_25, rs_X6_tries_27, rs_X6_tries_28, rs_X6_tries_31, rs_X6_tries_33, rs_X6_tries_34, rs_X6_tries_36, rs_X6_tries_39, rs_X6_tries_40, rs_X6_tries_41, rs_X6_tries_44, rs_X6_tries_47, rs_X6_tries_48, rs_X6_tries_50, rs_X6_tries_53, rs_X6_tries_54, rs_X6_tries_55, rs_X6_tries_58, rs_X6_tries_61, rs_X6_tries_63, rs_X6_tries_64, rs_X6_tries_67, rs_X6_tries_68, rs_X6_tries_71, rs_X6_tries_72, rs_X6_tries_73, rs_X6_tries_75, rs_X6_tries_78, rs_X6_tries_81, rs_X6_tries_82, rs_X6_tries_84, rs_X6_tries_85, rs_X6_tries_86, rs_X6_tries_89, rs_X6_tries_90, rs_X6_tries_91, rs_X6_tries_92, rs_X6_tries_95, rs_X6_tries_99, rs_X6_tries_100, rs_X6_tries_103, rs_X6_tries_106, rs_X6_tries_107, rs_X6_tries_108, rs_X6_tries_111, rs_X6_tries_112, rs_X6_tries_113, rs_X6_tries_114, rs_X6_tries_117, rs_X6_tries_118, rs_X6_tries_121, rs_X6_tries_122, rs_X6_tries_9, rs_X6_tries_123, -List.getElem?_eq_getElem, am_js, am_e, am_in, am_sl, rI, rZ, rV, rJ, rA, rC, kI, kJ, kR, am_one, am_nl, am_w8, tIc, tLc, tNul, tIld, tLld, tAld, tIst, tLst, tAst, tIinc, tI2, tDv, tL2, tLrem, tLs, tLcmp, tI2l, tL2i, tI2c, tDup, tDup2, tPop, tGo, tIfeq, tIfne, tIflt, tIfge, tIfgt, tIfle, tCmeq, tCmne, tCmlt, tCmge, tCmgt, tCmle, tNu, tTs, tGf, tPf, tGs, tIal, tIas, tBal, tBas, tAln, tSv, tSc, tSb, tSl, tSk, tCv, tCs, tCt, tMx, tMn, wr_10000, wr_100000, wr_1000000, wr_10000000, wr_100000000, wr_2400, wr_9999, wr_0, wr_1, wr_2, wr_3, wr_4, wr_5, wr_6, wr_7, wr_8, wr_9, wr_10, wr_11, wr_12, wr_13, wr_14, wr_15, wr_16, wr_17, wr_18, wr_19, wr_20, wr_21, wr_22, wr_23, wr_24, wr_25, wr_26, wr_27, wr_28, wr_29, wr_30, wr_31, wr_32, wr_33, wr_34, wr_35, wr_36, wr_37, wr_38, wr_39, wr_40, wr_41, wr_42, wr_43, wr_44, wr_45, wr_46, wr_47, wr_48, wr_49, wr_50, wr_51, wr_52, wr_53, wr_54, wr_55, wr_56, wr_57, wr_58, wr_59, wr_60, wr_61, wr_62, wr_63, wr_99, wr_100, wr_192, wr_255, wr_256, wr_343, wr_999, wr_1000, wr_2401, wr_2147483647, wr_65535, wr_m1, wr_m2, wr_m3, wr_m4, wr_m9, ak_1000, ak_1001, ak_1002, ak_0, ak_1, ak_2, ak_3, ak_4, ak_5, ak_6, ak_7, ak_8, ak_9, ak_10, ak_11, ak_12, ak_13, ak_14, ak_15, ak_16, ak_17, ak_18, ak_19, ak_20, ak_21, ak_22, ak_23, ak_24, ak_25, ak_26, ak_27, ak_28, ak_29, ak_30, ak_31, ak_32, ak_33, ak_34, ak_35, ak_36, ak_37, ak_38, ak_39, ak_40, ak_41, ak_42, ak_43, ak_44, ak_45, ak_46, ak_47]
    exact rm_X6_tries h (by omega)
  | n + 1, j, z, x4, x5, hj, h0, kk => by
    obtain ⟨fs, hM⟩ := hM
    have wj : wr j = j := wr_id (by omega) (by omega)
    have nj : ¬ 4 ≤ j := by omega
    have hWj := hW j h0 (by omega)
    have ih := l1_X6_tries ⟨fs, hM⟩ hW hw j u z ⟨h0, by omega⟩ x (N + 400 * n + 30) 4 0 1 (by omega) (by omega) (by
      obtain ⟨n2, hn2, h2⟩ := l0_X6_tries ⟨fs, hM⟩ hW hw u x N n (j + 1) (z + (1 + sm (ah W j) 4 0) * W j) (some (vI (1 + sm (ah W j) 4 0))) (some (vI 4)) (by omega) (by omega) (by
        intro x4' x5'
        have := kk x4' x5'
        have e : sm (fun c => (1 + sm (ah W c) 4 0) * W c) (n + 1) j = (1 + sm (ah W j) 4 0) * W j + sm (fun c => (1 + sm (ah W c) 4 0) * W c) n (j + 1) := rfl
        rw [e, ← Int.add_assoc] at this
        exact this)
      refine ⟨n2 + 19 + 1, by omega, ?_⟩
      rw [rs_X6_tries_81]
      generalize sm (ah W j) 4 0 = sj at h2 ⊢
      simp [↓ri_X6_tries, rs_X6_tries_0, rs_X6_tries_1, rs_X6_tries_4, rs_X6_tries_7, rs_X6_tries_10, rs_X6_tries_11, rs_X6_tries_12, rs_X6_tries_13, rs_X6_tries_15, rs_X6_tries_16, rs_X6_tries_19, rs_X6_tries_20, rs_X6_tries_22, rs_X6_tries_23, rs_X6_tries_25, rs_X6_tries_27, rs_X6_tries_28, rs_X6_tries_31, rs_X6_tries_33, rs_X6_tries_34, rs_X6_tries_36, rs_X6_tries_39, rs_X6_tries_40, rs_X6_tries_41, rs_X6_tries_44, rs_X6_tries_47, rs_X6_tries_48, rs_X6_tries_50, rs_X6_tries_53, rs_X6_tries_54, rs_X6_tries_55, rs_X6_tries_58, rs_X6_tries_61, rs_X6_tries_63, rs_X6_tries_64, rs_X6_tries_67, rs_X6_tries_68, rs_X6_tries_71, rs_X6_tries_72, rs_X6_tries_73, rs_X6_tries_75, rs_X6_tries_78, rs_X6_tries_82, rs_X6_tries_84, rs_X6_tries_85, rs_X6_tries_86, rs_X6_tries_89, rs_X6_tries_90, rs_X6_tries_91, rs_X6_tries_92, rs_X6_tries_95, rs_X6_tries_98, rs_X6_tries_99, rs_X6_tries_100, rs_X6_tries_103, rs_X6_tries_106, rs_X6_tries_107, rs_X6_tries_108, rs_X6_tries_111, rs_X6_tries_112, rs_X6_tries_113, rs_X6_tries_114, rs_X6_tries_117, rs_X6_tries_118, rs_X6_tries_121, rs_X6_tries_122, rs_X6_tries_9, rs_X6_tries_123, -List.getElem?_eq_getElem, am_js, am_e, am_in, am_sl, rI, rZ, rV, rJ, rA, rC, kI, kJ, kR, am_one, am_nl, am_w8, tIc, tLc, tNul, tIld, tLld, tAld, tIst, tLst, tAst, tIinc, tI2, tDv, tL2, tLrem, tLs, tLcmp, tI2l, tL2i, tI2c, tDup, tDup2, tPop, tGo, tIfeq, tIfne, tIflt, tIfge, tIfgt, tIfle, tCmeq, tCmne, tCmlt, tCmge, tCmgt, tCmle, tNu, tTs, tGf, tPf, tGs, tIal, tIas, tBal, tBas, tAln, tSv, tSc, tSb, tSl, tSk, tCv, tCs, tCt, tMx, tMn, wr_10000, wr_100000, wr_1000000, wr_10000000, wr_100000000, wr_2400, wr_9999, wr_0, wr_1, wr_2, wr_3, wr_4, wr_5, wr_6, wr_7, wr_8, wr_9, wr_10, wr_11, wr_12, wr_13, wr_14, wr_15, wr_16, wr_17, wr_18, wr_19, wr_20, wr_21, wr_22, wr_23, wr_24, wr_25, wr_26, wr_27, wr_28, wr_29, wr_30, wr_31, wr_32, wr_33, wr_34, wr_35, wr_36, wr_37, wr_38, wr_39, wr_40, wr_41, wr_42, wr_43, wr_44, wr_45, wr_46, wr_47, wr_48, wr_49, wr_50, wr_51, wr_52, wr_53, wr_54, wr_55, wr_56, wr_57, wr_58, wr_59, wr_60, wr_61, wr_62, wr_63, wr_99, wr_100, wr_192, wr_255, wr_256, wr_343, wr_999, wr_1000, wr_2401, wr_2147483647, wr_65535, wr_m1, wr_m2, wr_m3, wr_m4, wr_m9, ak_1000, ak_1001, ak_1002, ak_0, ak_1, ak_2, ak_3, ak_4, ak_5, ak_6, ak_7, ak_8, ak_9, ak_10, ak_11, ak_12, ak_13, ak_14, ak_15, ak_16, ak_17, ak_18, ak_19, ak_20, ak_21, ak_22, ak_23, ak_24, ak_25, ak_26, ak_27, ak_28, ak_29, ak_30, ak_31, ak_32, ak_33, ak_34, ak_35, ak_36, ak_37, ak_38, ak_39, ak_40, ak_41, ak_42, ak_43, ak_44, ak_45, ak_46, ak_47, hM, hWj]
      exact rm_X6_tries h2 (by omega))
    obtain ⟨n', hn, h⟩ := ih
    refine ⟨n' + 39 + 1, by omega, ?_⟩
    rw [rs_X6_tries_14]
    simp [↓ri_X6_tries, rs_X6_tries_0, rs_X6_tries_1, rs_X6_tries_4, rs_X6_tries_7, rs_X6_tries_10, rs_X6_tries_11, rs_X6_tries_12, rs_X6_tries_13, rs_X6_tries_15, rs_X6_tries_16, rs_X6_tries_19, rs_X6_tries_20, rs_X6_tries_22, rs_X6_tries_23, rs_X6_tries_27, rs_X6_tries_28, rs_X6_tries_31, rs_X6_tries_33, rs_X6_tries_34, rs_X6_tries_36, rs_X6_tries_39, rs_X6_tries_40, rs_X6_tries_41, rs_X6_tries_44, rs_X6_tries_47, rs_X6_tries_48, rs_X6_tries_50, rs_X6_tries_53, rs_X6_tries_54, rs_X6_tries_55, rs_X6_tries_58, rs_X6_tries_61, rs_X6_tries_63, rs_X6_tries_64, rs_X6_tries_67, rs_X6_tries_68, rs_X6_tries_71, rs_X6_tries_72, rs_X6_tries_73, rs_X6_tries_75, rs_X6_tries_78, rs_X6_tries_81, rs_X6_tries_82, rs_X6_tries_84, rs_X6_tries_85, rs_X6_tries_86, rs_X6_tries_89, rs_X6_tries_90, rs_X6_tries_91, rs_X6_tries_92, rs_X6_tries_95, rs_X6_tries_98, rs_X6_tries_99, rs_X6_tries_100, rs_X6_tries_103, rs_X6_tries_106, rs_X6_tries_107, rs_X6_tries_108, rs_X6_tries_111, rs_X6_tries_112, rs_X6_tries_113, rs_X6_tries_114, rs_X6_tries_117, rs_X6_tries_118, rs_X6_tries_121, rs_X6_tries_122, rs_X6_tries_9, rs_X6_tries_123, -List.getElem?_eq_getElem, am_js, am_e, am_in, am_sl, rI, rZ, rV, rJ, rA, rC, kI, kJ, kR, am_one, am_nl, am_w8, tIc, tLc, tNul, tIld, tLld, tAld, tIst, tLst, tAst, tIinc, tI2, tDv, tL2, tLrem, tLs, tLcmp, tI2l, tL2i, tI2c, tDup, tDup2, tPop, tGo, tIfeq, tIfne, tIflt, tIfge, tIfgt, tIfle, tCmeq, tCmne, tCmlt, tCmge, tCmgt, tCmle, tNu, tTs, tGf, tPf, tGs, tIal, tIas, tBal, tBas, tAln, tSv, tSc, tSb, tSl, tSk, tCv, tCs, tCt, tMx, tMn, wr_10000, wr_100000, wr_1000000, wr_10000000, wr_100000000, wr_2400, wr_9999, wr_0, wr_1, wr_2, wr_3, wr_4, wr_5, wr_6, wr_7, wr_8, wr_9, wr_10, wr_11, wr_12, wr_13, wr_14, wr_15, wr_16, wr_17, wr_18, wr_19, wr_20, wr_21, wr_22, wr_23, wr_24, wr_25, wr_26, wr_27, wr_28, wr_29, wr_30, wr_31, wr_32, wr_33, wr_34, wr_35, wr_36, wr_37, wr_38, wr_39, wr_40, wr_41, wr_42, wr_43, wr_44, wr_45, wr_46, wr_47, wr_48, wr_49, wr_50, wr_51, wr_52, wr_53, wr_54, wr_55, wr_56, wr_57, wr_58, wr_59, wr_60, wr_61, wr_62, wr_63, wr_99, wr_100, wr_192, wr_255, wr_256, wr_343, wr_999, wr_1000, wr_2401, wr_2147483647, wr_65535, wr_m1, wr_m2, wr_m3, wr_m4, wr_m9, ak_1000, ak_1001, ak_1002, ak_0, ak_1, ak_2, ak_3, ak_4, ak_5, ak_6, ak_7, ak_8, ak_9, ak_10, ak_11, ak_12, ak_13, ak_14, ak_15, ak_16, ak_17, ak_18, ak_19, ak_20, ak_21, ak_22, ak_23, ak_24, ak_25, ak_26, ak_27, ak_28, ak_29, ak_30, ak_31, ak_32, ak_33, ak_34, ak_35, ak_36, ak_37, ak_38, ak_39, ak_40, ak_41, ak_42, ak_43, ak_44, ak_45, ak_46, ak_47, wj, nj]
    exact rm_X6_tries h (by omega)
theorem ah_01 (W : Int → Int) (c o : Int) : 0 ≤ ah W c o ∧ ah W c o ≤ 1 := by
  unfold ah
  split <;> omega
theorem tr_rng {W : Int → Int} (hw : ∀ q : Int, 0 ≤ W q ∧ W q ≤ 19683) : 0 ≤ tr W ∧ tr W ≤ 393660 := by
  have k : ∀ c : Int, 0 ≤ (1 + sm (ah W c) 4 0) * W c ∧ (1 + sm (ah W c) 4 0) * W c ≤ 5 * 19683 := by
    intro c
    refine mul_rng ?_ (hw c)
    have a0 := ah_01 W c 0
    have a1 := ah_01 W c (0 + 1)
    have a2 := ah_01 W c (0 + 1 + 1)
    have a3 := ah_01 W c (0 + 1 + 1 + 1)
    simp only [sm]
    omega
  have k0 := k 0
  have k1 := k (0 + 1)
  have k2 := k (0 + 1 + 1)
  have k3 := k (0 + 1 + 1 + 1)
  unfold tr
  generalize hf : (fun c => (1 + sm (ah W c) 4 0) * W c) = f
  have f0 : (1 + sm (ah W 0) 4 0) * W 0 = f 0 := by rw [← hf]
  have f1 : (1 + sm (ah W (0 + 1)) 4 0) * W (0 + 1) = f (0 + 1) := by rw [← hf]
  have f2 : (1 + sm (ah W (0 + 1 + 1)) 4 0) * W (0 + 1 + 1) = f (0 + 1 + 1) := by rw [← hf]
  have f3 : (1 + sm (ah W (0 + 1 + 1 + 1)) 4 0) * W (0 + 1 + 1 + 1) = f (0 + 1 + 1 + 1) := by rw [← hf]
  rw [f0] at k0
  rw [f1] at k1
  rw [f2] at k2
  rw [f3] at k3
  clear hf f0 f1 f2 f3 k
  simp only [sm]
  omega
theorem sp_X6_tries {M : List AC} {st lk len ac nx rf lr en lm : Int} {sd : Int64} (h0 : M[26]? = some (mo st lk len ac nx rf lr en lm sd)) {lc lt : F3} (h29 : M[29]? = some (aI (l3 lc))) (h30 : M[30]? = some (aI (l3 lt))) (hn : 0 ≤ lk ∧ lk ≤ 3) (hc : i3 0 3 lc) (ht : i3 0 9 lt) (u : Int) (hu : u = 0 ∨ u = 1) : fn_X6_tries [vR 26, vI u] M = some (some (vI (if wa lk lc lt = 0 then -3 else frq (tr (wt lk lc lt)) (wa lk lc lt) u)), M) := by
  have qw := sp_X6_weights h0 h29 h30 hn hc
  have rw' := wa_rng (n := lk) (c := lc) ht
  have rt := tr_rng (W := wt lk lc lt) (fun q => wt_rng ht)
  obtain ⟨w, ew⟩ := nat_of rw'.1
  rw [ew] at qw rw' ⊢
  clear ew
  have ww : wr (w : Int) = w := wr_id (by omega) (by omega)
  by_cases hz : w = 0
  · rw [if_pos (by omega)]
    subst hz
    (refine am_fnI (tb := tb_X6_tries) (n := 60) (Nat.le_of_ble_eq_true rfl) (Nat.le_of_ble_eq_true rfl) ?_; show rx_X6_tries 60 0 _ _ _ = _)
    simp [↓ri_X6_tries, rs_X6_tries_0, rs_X6_tries_1, rs_X6_tries_4, rs_X6_tries_7, rs_X6_tries_10, rs_X6_tries_11, rs_X6_tries_12, rs_X6_tries_13, rs_X6_tries_14, rs_X6_tries_15, rs_X6_tries_16, rs_X6_tries_19, rs_X6_tries_20, rs_X6_tries_22, rs_X6_tries_23, rs_X6_tries_25, rs_X6_tries_27, rs_X6_tries_28, rs_X6_tries_31, rs_X6_tries_33, rs_X6_tries_34, rs_X6_tries_36, rs_X6_tries_39, rs_X6_tries_40, rs_X6_tries_41, rs_X6_tries_44, rs_X6_tries_47, rs_X6_tries_48, rs_X6_tries_50, rs_X6_tries_53, rs_X6_tries_54, rs_X6_tries_55, rs_X6_tries_58, rs_X6_tries_61, rs_X6_tries_63, rs_X6_tries_64, rs_X6_tries_67, rs_X6_tries_68, rs_X6_tries_71, rs_X6_tries_72, rs_X6_tries_73, rs_X6_tries_75, rs_X6_tries_78, rs_X6_tries_81, rs_X6_tries_82, rs_X6_tries_84, rs_X6_tries_85, rs_X6_tries_86, rs_X6_tries_89, rs_X6_tries_90, rs_X6_tries_91, rs_X6_tries_92, rs_X6_tries_95, rs_X6_tries_98, rs_X6_tries_99, rs_X6_tries_100, rs_X6_tries_103, rs_X6_tries_106, rs_X6_tries_107, rs_X6_tries_108, rs_X6_tries_111, rs_X6_tries_112, rs_X6_tries_113, rs_X6_tries_114, rs_X6_tries_117, rs_X6_tries_118, rs_X6_tries_121, rs_X6_tries_122, rs_X6_tries_9, rs_X6_tries_123, -List.getElem?_eq_getElem, am_js, am_e, am_in, am_sl, rI, rZ, rV, rJ, rA, rC, kI, kJ, kR, am_one, am_nl, am_w8, tIc, tLc, tNul, tIld, tLld, tAld, tIst, tLst, tAst, tIinc, tI2, tDv, tL2, tLrem, tLs, tLcmp, tI2l, tL2i, tI2c, tDup, tDup2, tPop, tGo, tIfeq, tIfne, tIflt, tIfge, tIfgt, tIfle, tCmeq, tCmne, tCmlt, tCmge, tCmgt, tCmle, tNu, tTs, tGf, tPf, tGs, tIal, tIas, tBal, tBas, tAln, tSv, tSc, tSb, tSl, tSk, tCv, tCs, tCt, tMx, tMn, wr_10000, wr_100000, wr_1000000, wr_10000000, wr_100000000, wr_2400, wr_9999, wr_0, wr_1, wr_2, wr_3, wr_4, wr_5, wr_6, wr_7, wr_8, wr_9, wr_10, wr_11, wr_12, wr_13, wr_14, wr_15, wr_16, wr_17, wr_18, wr_19, wr_20, wr_21, wr_22, wr_23, wr_24, wr_25, wr_26, wr_27, wr_28, wr_29, wr_30, wr_31, wr_32, wr_33, wr_34, wr_35, wr_36, wr_37, wr_38, wr_39, wr_40, wr_41, wr_42, wr_43, wr_44, wr_45, wr_46, wr_47, wr_48, wr_49, wr_50, wr_51, wr_52, wr_53, wr_54, wr_55, wr_56, wr_57, wr_58, wr_59, wr_60, wr_61, wr_62, wr_63, wr_99, wr_100, wr_192, wr_255, wr_256, wr_343, wr_999, wr_1000, wr_2401, wr_2147483647, wr_65535, wr_m1, wr_m2, wr_m3, wr_m4, wr_m9, ak_1000, ak_1001, ak_1002, ak_0, ak_1, ak_2, ak_3, ak_4, ak_5, ak_6, ak_7, ak_8, ak_9, ak_10, ak_11, ak_12, ak_13, ak_14, ak_15, ak_16, ak_17, ak_18, ak_19, ak_20, ak_21, ak_22, ak_23, ak_24, ak_25, ak_26, ak_27, ak_28, ak_29, ak_30, ak_31, ak_32, ak_33, ak_34, ak_35, ak_36, ak_37, ak_38, ak_39, ak_40, ak_41, ak_42, ak_43, ak_44, ak_45, ak_46, ak_47, h0, mo, qw]
  · rw [if_neg (by omega)]
    have key := l0_X6_tries (W := wt lk lc lt) ⟨_, h0⟩ (fun q h1 h2 => sp_X6_weight h0 h29 h30 hn hc q ⟨h1, h2⟩) (fun q => wt_rng ht) u (some (vI (frq (tr (wt lk lc lt)) (w : Int) u)), M) 40 4 0 0 none none (by omega) (by omega) (by
      intro x4' x5'
      have e : (0 : Int) + sm (fun c => (1 + sm (ah (wt lk lc lt) c) 4 0) * wt lk lc lt c) 4 0 = tr (wt lk lc lt) := Int.zero_add _
      rw [e]
      obtain ⟨a, ea⟩ := nat_of rt.1
      rw [ea] at rt ⊢
      rw [frq_n]
      have qc := sp_X6_common a w M (by omega) (by omega)
      have hg : 0 < Nat.gcd a w := Nat.gcd_pos_of_pos_right a (by omega)
      have hgl : Nat.gcd a w ≤ w := Nat.gcd_le_right a (by omega)
      generalize Nat.gcd a w = gg at qc hg hgl ⊢
      have wg : wr (gg : Int) = gg := wr_id (by omega) (by omega)
      have ng : ¬ gg = 0 := by omega
      have wa' : wr (a : Int) = a := wr_id (by omega) (by omega)
      have da : Int.tdiv (a : Int) (gg : Int) = ((a / gg : Nat) : Int) := by rw [Int.tdiv_eq_ediv_of_nonneg (by omega)]; rfl
      have db : Int.tdiv (w : Int) (gg : Int) = ((w / gg : Nat) : Int) := by rw [Int.tdiv_eq_ediv_of_nonneg (by omega)]; rfl
      refine ⟨39 + 1, by omega, ?_⟩
      rw [rs_X6_tries_98]
      clear e ea
      rcases hu with rfl | rfl
      · rw [if_pos rfl]
        generalize w / gg = z at db ⊢
        simp [↓ri_X6_tries, rs_X6_tries_0, rs_X6_tries_1, rs_X6_tries_4, rs_X6_tries_7, rs_X6_tries_10, rs_X6_tries_11, rs_X6_tries_12, rs_X6_tries_13, rs_X6_tries_14, rs_X6_tries_15, rs_X6_tries_16, rs_X6_tries_19, rs_X6_tries_20, rs_X6_tries_22, rs_X6_tries_23, rs_X6_tries_25, rs_X6_tries_27, rs_X6_tries_28, rs_X6_tries_31, rs_X6_tries_33, rs_X6_tries_34, rs_X6_tries_36, rs_X6_tries_39, rs_X6_tries_40, rs_X6_tries_41, rs_X6_tries_44, rs_X6_tries_47, rs_X6_tries_48, rs_X6_tries_50, rs_X6_tries_53, rs_X6_tries_54, rs_X6_tries_55, rs_X6_tries_58, rs_X6_tries_61, rs_X6_tries_63, rs_X6_tries_64, rs_X6_tries_67, rs_X6_tries_68, rs_X6_tries_71, rs_X6_tries_72, rs_X6_tries_73, rs_X6_tries_75, rs_X6_tries_78, rs_X6_tries_81, rs_X6_tries_82, rs_X6_tries_84, rs_X6_tries_85, rs_X6_tries_86, rs_X6_tries_89, rs_X6_tries_90, rs_X6_tries_91, rs_X6_tries_92, rs_X6_tries_95, rs_X6_tries_99, rs_X6_tries_100, rs_X6_tries_103, rs_X6_tries_106, rs_X6_tries_107, rs_X6_tries_108, rs_X6_tries_111, rs_X6_tries_112, rs_X6_tries_113, rs_X6_tries_114, rs_X6_tries_117, rs_X6_tries_118, rs_X6_tries_121, rs_X6_tries_122, rs_X6_tries_9, rs_X6_tries_123, -List.getElem?_eq_getElem, am_js, am_e, am_in, am_sl, rI, rZ, rV, rJ, rA, rC, kI, kJ, kR, am_one, am_nl, am_w8, tIc, tLc, tNul, tIld, tLld, tAld, tIst, tLst, tAst, tIinc, tI2, tDv, tL2, tLrem, tLs, tLcmp, tI2l, tL2i, tI2c, tDup, tDup2, tPop, tGo, tIfeq, tIfne, tIflt, tIfge, tIfgt, tIfle, tCmeq, tCmne, tCmlt, tCmge, tCmgt, tCmle, tNu, tTs, tGf, tPf, tGs, tIal, tIas, tBal, tBas, tAln, tSv, tSc, tSb, tSl, tSk, tCv, tCs, tCt, tMx, tMn, wr_10000, wr_100000, wr_1000000, wr_10000000, wr_100000000, wr_2400, wr_9999, wr_0, wr_1, wr_2, wr_3, wr_4, wr_5, wr_6, wr_7, wr_8, wr_9, wr_10, wr_11, wr_12, wr_13, wr_14, wr_15, wr_16, wr_17, wr_18, wr_19, wr_20, wr_21, wr_22, wr_23, wr_24, wr_25, wr_26, wr_27, wr_28, wr_29, wr_30, wr_31, wr_32, wr_33, wr_34, wr_35, wr_36, wr_37, wr_38, wr_39, wr_40, wr_41, wr_42, wr_43, wr_44, wr_45, wr_46, wr_47, wr_48, wr_49, wr_50, wr_51, wr_52, wr_53, wr_54, wr_55, wr_56, wr_57, wr_58, wr_59, wr_60, wr_61, wr_62, wr_63, wr_99, wr_100, wr_192, wr_255, wr_256, wr_343, wr_999, wr_1000, wr_2401, wr_2147483647, wr_65535, wr_m1, wr_m2, wr_m3, wr_m4, wr_m9, ak_1000, ak_1001, ak_1002, ak_0, ak_1, ak_2, ak_3, ak_4, ak_5, ak_6, ak_7, ak_8, ak_9, ak_10, ak_11, ak_12, ak_13, ak_14, ak_15, ak_16, ak_17, ak_18, ak_19, ak_20, ak_21, ak_22, ak_23, ak_24, ak_25, ak_26, ak_27, ak_28, ak_29, ak_30, ak_31, ak_32, ak_33, ak_34, ak_35, ak_36, ak_37, ak_38, ak_39, ak_40, ak_41, ak_42, ak_43, ak_44, ak_45, ak_46, ak_47, h0, mo, qw, ww, qc, wg, ng, wa', db]
      · rw [if_neg (by decide)]
        generalize a / gg = z at da ⊢
        simp [↓ri_X6_tries, rs_X6_tries_0, rs_X6_tries_1, rs_X6_tries_4, rs_X6_tries_7, rs_X6_tries_10, rs_X6_tries_11, rs_X6_tries_12, rs_X6_tries_13, rs_X6_tries_14, rs_X6_tries_15, rs_X6_tries_16, rs_X6_tries_19, rs_X6_tries_20, rs_X6_tries_22, rs_X6_tries_23, rs_X6_tries_25, rs_X6_tries_27, rs_X6_tries_28, rs_X6_tries_31, rs_X6_tries_33, rs_X6_tries_34, rs_X6_tries_36, rs_X6_tries_39, rs_X6_tries_40, rs_X6_tries_41, rs_X6_tries_44, rs_X6_tries_47, rs_X6_tries_48, rs_X6_tries_50, rs_X6_tries_53, rs_X6_tries_54, rs_X6_tries_55, rs_X6_tries_58, rs_X6_tries_61, rs_X6_tries_63, rs_X6_tries_64, rs_X6_tries_67, rs_X6_tries_68, rs_X6_tries_71, rs_X6_tries_72, rs_X6_tries_73, rs_X6_tries_75, rs_X6_tries_78, rs_X6_tries_81, rs_X6_tries_82, rs_X6_tries_84, rs_X6_tries_85, rs_X6_tries_86, rs_X6_tries_89, rs_X6_tries_90, rs_X6_tries_91, rs_X6_tries_92, rs_X6_tries_95, rs_X6_tries_99, rs_X6_tries_100, rs_X6_tries_103, rs_X6_tries_106, rs_X6_tries_107, rs_X6_tries_108, rs_X6_tries_111, rs_X6_tries_112, rs_X6_tries_113, rs_X6_tries_114, rs_X6_tries_117, rs_X6_tries_118, rs_X6_tries_121, rs_X6_tries_122, rs_X6_tries_9, rs_X6_tries_123, -List.getElem?_eq_getElem, am_js, am_e, am_in, am_sl, rI, rZ, rV, rJ, rA, rC, kI, kJ, kR, am_one, am_nl, am_w8, tIc, tLc, tNul, tIld, tLld, tAld, tIst, tLst, tAst, tIinc, tI2, tDv, tL2, tLrem, tLs, tLcmp, tI2l, tL2i, tI2c, tDup, tDup2, tPop, tGo, tIfeq, tIfne, tIflt, tIfge, tIfgt, tIfle, tCmeq, tCmne, tCmlt, tCmge, tCmgt, tCmle, tNu, tTs, tGf, tPf, tGs, tIal, tIas, tBal, tBas, tAln, tSv, tSc, tSb, tSl, tSk, tCv, tCs, tCt, tMx, tMn, wr_10000, wr_100000, wr_1000000, wr_10000000, wr_100000000, wr_2400, wr_9999, wr_0, wr_1, wr_2, wr_3, wr_4, wr_5, wr_6, wr_7, wr_8, wr_9, wr_10, wr_11, wr_12, wr_13, wr_14, wr_15, wr_16, wr_17, wr_18, wr_19, wr_20, wr_21, wr_22, wr_23, wr_24, wr_25, wr_26, wr_27, wr_28, wr_29, wr_30, wr_31, wr_32, wr_33, wr_34, wr_35, wr_36, wr_37, wr_38, wr_39, wr_40, wr_41, wr_42, wr_43, wr_44, wr_45, wr_46, wr_47, wr_48, wr_49, wr_50, wr_51, wr_52, wr_53, wr_54, wr_55, wr_56, wr_57, wr_58, wr_59, wr_60, wr_61, wr_62, wr_63, wr_99, wr_100, wr_192, wr_255, wr_256, wr_343, wr_999, wr_1000, wr_2401, wr_2147483647, wr_65535, wr_m1, wr_m2, wr_m3, wr_m4, wr_m9, ak_1000, ak_1001, ak_1002, ak_0, ak_1, ak_2, ak_3, ak_4, ak_5, ak_6, ak_7, ak_8, ak_9, ak_10, ak_11, ak_12, ak_13, ak_14, ak_15, ak_16, ak_17, ak_18, ak_19, ak_20, ak_21, ak_22, ak_23, ak_24, ak_25, ak_26, ak_27, ak_28, ak_29, ak_30, ak_31, ak_32, ak_33, ak_34, ak_35, ak_36, ak_37, ak_38, ak_39, ak_40, ak_41, ak_42, ak_43, ak_44, ak_45, ak_46, ak_47, h0, mo, qw, ww, qc, wg, ng, wa', da])
    obtain ⟨k, hk, h⟩ := key
    generalize frq (tr (wt lk lc lt)) (w : Int) u = F at h ⊢
    (refine am_fnR (tb := tb_X6_tries) (N := 3000) (Nat.le_of_ble_eq_true rfl) (Nat.le_of_ble_eq_true rfl) ?_; show Ru rx_X6_tries 3000 0 _ _ _ _)
    refine ⟨k + 20, by omega, ?_⟩
    simp [↓ri_X6_tries, rs_X6_tries_0, rs_X6_tries_1, rs_X6_tries_4, rs_X6_tries_7, rs_X6_tries_10, rs_X6_tries_11, rs_X6_tries_12, rs_X6_tries_13, rs_X6_tries_15, rs_X6_tries_16, rs_X6_tries_19, rs_X6_tries_20, rs_X6_tries_22, rs_X6_tries_23, rs_X6_tries_25, rs_X6_tries_27, rs_X6_tries_28, rs_X6_tries_31, rs_X6_tries_33, rs_X6_tries_34, rs_X6_tries_36, rs_X6_tries_39, rs_X6_tries_40, rs_X6_tries_41, rs_X6_tries_44, rs_X6_tries_47, rs_X6_tries_48, rs_X6_tries_50, rs_X6_tries_53, rs_X6_tries_54, rs_X6_tries_55, rs_X6_tries_58, rs_X6_tries_61, rs_X6_tries_63, rs_X6_tries_64, rs_X6_tries_67, rs_X6_tries_68, rs_X6_tries_71, rs_X6_tries_72, rs_X6_tries_73, rs_X6_tries_75, rs_X6_tries_78, rs_X6_tries_81, rs_X6_tries_82, rs_X6_tries_84, rs_X6_tries_85, rs_X6_tries_86, rs_X6_tries_89, rs_X6_tries_90, rs_X6_tries_91, rs_X6_tries_92, rs_X6_tries_95, rs_X6_tries_98, rs_X6_tries_99, rs_X6_tries_100, rs_X6_tries_103, rs_X6_tries_106, rs_X6_tries_107, rs_X6_tries_108, rs_X6_tries_111, rs_X6_tries_112, rs_X6_tries_113, rs_X6_tries_114, rs_X6_tries_117, rs_X6_tries_118, rs_X6_tries_121, rs_X6_tries_122, rs_X6_tries_9, rs_X6_tries_123, -List.getElem?_eq_getElem, am_js, am_e, am_in, am_sl, rI, rZ, rV, rJ, rA, rC, kI, kJ, kR, am_one, am_nl, am_w8, tIc, tLc, tNul, tIld, tLld, tAld, tIst, tLst, tAst, tIinc, tI2, tDv, tL2, tLrem, tLs, tLcmp, tI2l, tL2i, tI2c, tDup, tDup2, tPop, tGo, tIfeq, tIfne, tIflt, tIfge, tIfgt, tIfle, tCmeq, tCmne, tCmlt, tCmge, tCmgt, tCmle, tNu, tTs, tGf, tPf, tGs, tIal, tIas, tBal, tBas, tAln, tSv, tSc, tSb, tSl, tSk, tCv, tCs, tCt, tMx, tMn, wr_10000, wr_100000, wr_1000000, wr_10000000, wr_100000000, wr_2400, wr_9999, wr_0, wr_1, wr_2, wr_3, wr_4, wr_5, wr_6, wr_7, wr_8, wr_9, wr_10, wr_11, wr_12, wr_13, wr_14, wr_15, wr_16, wr_17, wr_18, wr_19, wr_20, wr_21, wr_22, wr_23, wr_24, wr_25, wr_26, wr_27, wr_28, wr_29, wr_30, wr_31, wr_32, wr_33, wr_34, wr_35, wr_36, wr_37, wr_38, wr_39, wr_40, wr_41, wr_42, wr_43, wr_44, wr_45, wr_46, wr_47, wr_48, wr_49, wr_50, wr_51, wr_52, wr_53, wr_54, wr_55, wr_56, wr_57, wr_58, wr_59, wr_60, wr_61, wr_62, wr_63, wr_99, wr_100, wr_192, wr_255, wr_256, wr_343, wr_999, wr_1000, wr_2401, wr_2147483647, wr_65535, wr_m1, wr_m2, wr_m3, wr_m4, wr_m9, ak_1000, ak_1001, ak_1002, ak_0, ak_1, ak_2, ak_3, ak_4, ak_5, ak_6, ak_7, ak_8, ak_9, ak_10, ak_11, ak_12, ak_13, ak_14, ak_15, ak_16, ak_17, ak_18, ak_19, ak_20, ak_21, ak_22, ak_23, ak_24, ak_25, ak_26, ak_27, ak_28, ak_29, ak_30, ak_31, ak_32, ak_33, ak_34, ak_35, ak_36, ak_37, ak_38, ak_39, ak_40, ak_41, ak_42, ak_43, ak_44, ak_45, ak_46, ak_47, h0, mo, qw, ww, hz]
    exact rm_X6_tries h (by omega)
end
