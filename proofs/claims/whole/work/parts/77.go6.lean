noncomputable section
/-- where a SET of corner c to the depth p from the state x ends -/
def tg1 (st : Int) (g s b : F4) (x c p : Int) : Int := so (sl st g s b 4 (s4 (su x) c.toNat p) 0).1
def g1d (st : Int) (g s b : F4) (x c : Int) : Nat → Int → S6 → S6
  | 0, _, S => S
  | n + 1, p, S => g1d st g s b x c n (p + 1) (if g4 (su x) c.toNat = p then S else cmT S (tg1 st g s b x c p) x (10 * c + p))
def g1c (st : Int) (g s b : F4) (x : Int) : Nat → Int → S6 → S6
  | 0, _, S => S
  | n + 1, c, S => g1c st g s b x n (c + 1) (g1d st g s b x c 7 0 S)
theorem tg1_rng (st : Int) (g s b : F4) {x c p : Int} (hx : 0 ≤ x ∧ x < 2401) (hp : 0 ≤ p ∧ p ≤ 6) : 0 ≤ tg1 st g s b x c p ∧ tg1 st g s b x c p < 2401 := so_rng (sl_i4 st g s b 4 _ 0 (i4_s (su_rng hx) _ hp.1 hp.2))
theorem g1d_K (st : Int) (g s b : F4) {x c : Int} (hx : 0 ≤ x ∧ x < 2401) : ∀ (n : Nat) (p : Int) (S : S6), 0 ≤ p → p + n = 7 → K6 x S → K6 x (g1d st g s b x c n p S)
  | 0, _, _, _, _, h => h
  | n + 1, p, S, hp, hn, h => by
    rw [g1d]
    refine g1d_K st g s b hx n (p + 1) _ (by omega) (by omega) ?_
    split
    · exact h
    · exact h.cm (tg1_rng st g s b hx ⟨hp, by omega⟩) _
theorem g1c_K (st : Int) (g s b : F4) {x : Int} (hx : 0 ≤ x ∧ x < 2401) : ∀ (n : Nat) (c : Int) (S : S6), K6 x S → K6 x (g1c st g s b x n c S)
  | 0, _, _, h => h
  | n + 1, c, S, h => by
    rw [g1c]
    exact g1c_K st g s b hx n (c + 1) _ (g1d_K st g s b hx 7 0 S (by omega) (by omega) h)
abbrev mi_X6_goOne : Mi := (yX6_goOne, cX6_goOne, 4, none, 8)
theorem mf_X6_goOne : am_mf mi_X6_goOne 1 := ⟨w_co_X6_goOne, w_in_X6, ⟨by decide +kernel, by decide +kernel⟩, by decide +kernel, by decide⟩
def tb_X6_goOne : List (Nat × Tr) := [(0, tIc 0 1), (1, tIst 2 1), (2, tIld 2 1), (3, tIc 4 1), (4, tCmge 60), (7, tIc 0 1), (8, tIst 3 1), (9, tIld 3 1), (10, tIc 7 2), (12, tCmge 54), (15, tAld 0 1), (16, tIld 1 1), (17, tCv 6 1 fn_X6_layState), (20, tAld 0 1), (21, tGf 6 8), (24, tIld 2 1), (25, tIal), (26, tIld 3 1), (27, tCmeq 48), (30, tAld 0 1), (31, tGf 6 8), (34, tIld 2 1), (35, tIld 3 1), (36, tIas), (37, tAld 0 1), (38, tIld 1 1), (39, tIc 10 2), (41, tIld 2 1), (42, tI2 (fun a b => a * b)), (43, tIld 3 1), (44, tI2 (fun a b => a + b)), (45, tCv 6 2 fn_X6_come), (48, tIinc 3 1), (51, tGo 9), (54, tIinc 2 1), (57, tGo 2)]
theorem ok_X6_goOne : Tok mi_X6_goOne tb_X6_goOne :=
  Tc (sd_iconst rfl dX6_goOne_0) <|
  Tc (sd_istore_n dX6_goOne_1) <|
  Tc (sd_iload_n dX6_goOne_2) <|
  Tc (sd_iconst rfl dX6_goOne_3) <|
  Tc (sd_cm_ge (by decide) dX6_goOne_4) <|
  Tc (sd_iconst rfl dX6_goOne_7) <|
  Tc (sd_istore_n dX6_goOne_8) <|
  Tc (sd_iload_n dX6_goOne_9) <|
  Tc (sd_bipush (by decide +kernel) dX6_goOne_10) <|
  Tc (sd_cm_ge (by decide) dX6_goOne_12) <|
  Tc (sd_aload_n dX6_goOne_15) <|
  Tc (sd_iload_n dX6_goOne_16) <|
  Tc (sd_cv (T := TX6) fok_X6_layState mf_X6_layState rfl w_ml_X6_161 w_im_X6_layState w_se_X6_layState (by decide) dX6_goOne_17) <|
  Tc (sd_aload_n dX6_goOne_20) <|
  Tc (sd_getf (T := TX6) rfl giX6 (by decide) w_fl_X6_25 dX6_goOne_21) <|
  Tc (sd_iload_n dX6_goOne_24) <|
  Tc (sd_ial dX6_goOne_25) <|
  Tc (sd_iload_n dX6_goOne_26) <|
  Tc (sd_cm_eq (by decide) dX6_goOne_27) <|
  Tc (sd_aload_n dX6_goOne_30) <|
  Tc (sd_getf (T := TX6) rfl giX6 (by decide) w_fl_X6_25 dX6_goOne_31) <|
  Tc (sd_iload_n dX6_goOne_34) <|
  Tc (sd_iload_n dX6_goOne_35) <|
  Tc (sd_ias dX6_goOne_36) <|
  Tc (sd_aload_n dX6_goOne_37) <|
  Tc (sd_iload_n dX6_goOne_38) <|
  Tc (sd_bipush (by decide +kernel) dX6_goOne_39) <|
  Tc (sd_iload_n dX6_goOne_41) <|
  Tc (sd_imul dX6_goOne_42) <|
  Tc (sd_iload_n dX6_goOne_43) <|
  Tc (sd_iadd dX6_goOne_44) <|
  Tc (sd_cv (T := TX6) fok_X6_come mf_X6_come rfl w_ml_X6_189 w_im_X6_come w_se_X6_come (by decide) dX6_goOne_45) <|
  Tc (sd_iinc dX6_goOne_48) <|
  Tc (sd_goto (by decide) dX6_goOne_51) <|
  Tc (sd_iinc dX6_goOne_54) <|
  Tc (sd_goto (by decide) dX6_goOne_57) <|
  Tn
theorem rk_X6_goOne : Rok mi_X6_goOne rV [60] := rk_v dX6_goOne_60 <| rk_n
def rx_X6_goOne : Nat → Nat → AL → List AV → List AC → Option (Option AV × List AC) := am_r tb_X6_goOne rV [60]
theorem rs_X6_goOne_0 (n : Nat) (L : AL) (st : List AV) (M : List AC) : rx_X6_goOne (n + 1) 0 L st M = am_j (rx_X6_goOne n) ((tIc 0 1) 0 L st M) := rfl
theorem rs_X6_goOne_1 (n : Nat) (L : AL) (st : List AV) (M : List AC) : rx_X6_goOne (n + 1) 1 L st M = am_j (rx_X6_goOne n) ((tIst 2 1) 1 L st M) := rfl
theorem rs_X6_goOne_2 (n : Nat) (L : AL) (st : List AV) (M : List AC) : rx_X6_goOne (n + 1) 2 L st M = am_j (rx_X6_goOne n) ((tIld 2 1) 2 L st M) := rfl
theorem rs_X6_goOne_3 (n : Nat) (L : AL) (st : List AV) (M : List AC) : rx_X6_goOne (n + 1) 3 L st M = am_j (rx_X6_goOne n) ((tIc 4 1) 3 L st M) := rfl
theorem rs_X6_goOne_4 (n : Nat) (L : AL) (st : List AV) (M : List AC) : rx_X6_goOne (n + 1) 4 L st M = am_j (rx_X6_goOne n) ((tCmge 60) 4 L st M) := rfl
theorem rs_X6_goOne_7 (n : Nat) (L : AL) (st : List AV) (M : List AC) : rx_X6_goOne (n + 1) 7 L st M = am_j (rx_X6_goOne n) ((tIc 0 1) 7 L st M) := rfl
theorem rs_X6_goOne_8 (n : Nat) (L : AL) (st : List AV) (M : List AC) : rx_X6_goOne (n + 1) 8 L st M = am_j (rx_X6_goOne n) ((tIst 3 1) 8 L st M) := rfl
theorem rs_X6_goOne_9 (n : Nat) (L : AL) (st : List AV) (M : List AC) : rx_X6_goOne (n + 1) 9 L st M = am_j (rx_X6_goOne n) ((tIld 3 1) 9 L st M) := rfl
theorem rs_X6_goOne_10 (n : Nat) (L : AL) (st : List AV) (M : List AC) : rx_X6_goOne (n + 1) 10 L st M = am_j (rx_X6_goOne n) ((tIc 7 2) 10 L st M) := rfl
theorem rs_X6_goOne_12 (n : Nat) (L : AL) (st : List AV) (M : List AC) : rx_X6_goOne (n + 1) 12 L st M = am_j (rx_X6_goOne n) ((tCmge 54) 12 L st M) := rfl
theorem rs_X6_goOne_15 (n : Nat) (L : AL) (st : List AV) (M : List AC) : rx_X6_goOne (n + 1) 15 L st M = am_j (rx_X6_goOne n) ((tAld 0 1) 15 L st M) := rfl
theorem rs_X6_goOne_16 (n : Nat) (L : AL) (st : List AV) (M : List AC) : rx_X6_goOne (n + 1) 16 L st M = am_j (rx_X6_goOne n) ((tIld 1 1) 16 L st M) := rfl
theorem rs_X6_goOne_17 (n : Nat) (L : AL) (st : List AV) (M : List AC) : rx_X6_goOne (n + 1) 17 L st M = am_j (rx_X6_goOne n) ((tCv 6 1 fn_X6_layState) 17 L st M) := rfl
theorem rs_X6_goOne_20 (n : Nat) (L : AL) (st : List AV) (M : List AC) : rx_X6_goOne (n + 1) 20 L st M = am_j (rx_X6_goOne n) ((tAld 0 1) 20 L st M) := rfl
theorem rs_X6_goOne_21 (n : Nat) (L : AL) (st : List AV) (M : List AC) : rx_X6_goOne (n + 1) 21 L st M = am_j (rx_X6_goOne n) ((tGf 6 8) 21 L st M) := rfl
theorem rs_X6_goOne_24 (n : Nat) (L : AL) (st : List AV) (M : List AC) : rx_X6_goOne (n + 1) 24 L st M = am_j (rx_X6_goOne n) ((tIld 2 1) 24 L st M) := rfl
theorem rs_X6_goOne_25 (n : Nat) (L : AL) (st : List AV) (M : List AC) : rx_X6_goOne (n + 1) 25 L st M = am_j (rx_X6_goOne n) (tIal 25 L st M) := rfl
theorem rs_X6_goOne_26 (n : Nat) (L : AL) (st : List AV) (M : List AC) : rx_X6_goOne (n + 1) 26 L st M = am_j (rx_X6_goOne n) ((tIld 3 1) 26 L st M) := rfl
theorem rs_X6_goOne_27 (n : Nat) (L : AL) (st : List AV) (M : List AC) : rx_X6_goOne (n + 1) 27 L st M = am_j (rx_X6_goOne n) ((tCmeq 48) 27 L st M) := rfl
theorem rs_X6_goOne_30 (n : Nat) (L : AL) (st : List AV) (M : List AC) : rx_X6_goOne (n + 1) 30 L st M = am_j (rx_X6_goOne n) ((tAld 0 1) 30 L st M) := rfl
theorem rs_X6_goOne_31 (n : Nat) (L : AL) (st : List AV) (M : List AC) : rx_X6_goOne (n + 1) 31 L st M = am_j (rx_X6_goOne n) ((tGf 6 8) 31 L st M) := rfl
theorem rs_X6_goOne_34 (n : Nat) (L : AL) (st : List AV) (M : List AC) : rx_X6_goOne (n + 1) 34 L st M = am_j (rx_X6_goOne n) ((tIld 2 1) 34 L st M) := rfl
theorem rs_X6_goOne_35 (n : Nat) (L : AL) (st : List AV) (M : List AC) : rx_X6_goOne (n + 1) 35 L st M = am_j (rx_X6_goOne n) ((tIld 3 1) 35 L st M) := rfl
theorem rs_X6_goOne_36 (n : Nat) (L : AL) (st : List AV) (M : List AC) : rx_X6_goOne (n + 1) 36 L st M = am_j (rx_X6_goOne n) (tIas 36 L st M) := rfl
theorem rs_X6_goOne_37 (n : Nat) (L : AL) (st : List AV) (M : List AC) : rx_X6_goOne (n + 1) 37 L st M = am_j (rx_X6_goOne n) ((tAld 0 1) 37 L st M) := rfl
theorem rs_X6_goOne_38 (n : Nat) (L : AL) (st : List AV) (M : List AC) : rx_X6_goOne (n + 1) 38 L st M = am_j (rx_X6_goOne n) ((tIld 1 1) 38 L st M) := rfl
theorem rs_X6_goOne_39 (n : Nat) (L : AL) (st : List AV) (M : List AC) : rx_X6_goOne (n + 1) 39 L st M = am_j (rx_X6_goOne n) ((tIc 10 2) 39 L st M) := rfl
theorem rs_X6_goOne_41 (n : Nat) (L : AL) (st : List AV) (M : List AC) : rx_X6_goOne (n + 1) 41 L st M = am_j (rx_X6_goOne n) ((tIld 2 1) 41 L st M) := rfl
theorem rs_X6_goOne_42 (n : Nat) (L : AL) (st : List AV) (M : List AC) : rx_X6_goOne (n + 1) 42 L st M = am_j (rx_X6_goOne n) ((tI2 (fun a b => a * b)) 42 L st M) := rfl
theorem rs_X6_goOne_43 (n : Nat) (L : AL) (st : List AV) (M : List AC) : rx_X6_goOne (n + 1) 43 L st M = am_j (rx_X6_goOne n) ((tIld 3 1) 43 L st M) := rfl
theorem rs_X6_goOne_44 (n : Nat) (L : AL) (st : List AV) (M : List AC) : rx_X6_goOne (n + 1) 44 L st M = am_j (rx_X6_goOne n) ((tI2 (fun a b => a + b)) 44 L st M) := rfl
theorem rs_X6_goOne_45 (n : Nat) (L : AL) (st : List AV) (M : List AC) : rx_X6_goOne (n + 1) 45 L st M = am_j (rx_X6_goOne n) ((tCv 6 2 fn_X6_come) 45 L st M) := rfl
theorem rs_X6_goOne_48 (n : Nat) (L : AL) (st : List AV) (M : List AC) : rx_X6_goOne (n + 1) 48 L st M = am_j (rx_X6_goOne n) ((tIinc 3 1) 48 L st M) := rfl
theorem rs_X6_goOne_51 (n : Nat) (L : AL) (st : List AV) (M : List AC) : rx_X6_goOne (n + 1) 51 L st M = am_j (rx_X6_goOne n) ((tGo 9) 51 L st M) := rfl
theorem rs_X6_goOne_54 (n : Nat) (L : AL) (st : List AV) (M : List AC) : rx_X6_goOne (n + 1) 54 L st M = am_j (rx_X6_goOne n) ((tIinc 2 1) 54 L st M) := rfl
theorem rs_X6_goOne_57 (n : Nat) (L : AL) (st : List AV) (M : List AC) : rx_X6_goOne (n + 1) 57 L st M = am_j (rx_X6_goOne n) ((tGo 2) 57 L st M) := rfl
theorem rs_X6_goOne_60 (n : Nat) (L : AL) (st : List AV) (M : List AC) : rx_X6_goOne (n + 1) 60 L st M = am_e rV st M := rfl
theorem ri_X6_goOne (c : Prop) [Decidable c] (p q n : Nat) (L : AL) (st : List AV) (M : List AC) : rx_X6_goOne n (if c then p else q) L st M = if c then rx_X6_goOne n p L st M else rx_X6_goOne n q L st M := by split <;> rfl
theorem rm_X6_goOne {n k pc : Nat} {L : AL} {st : List AV} {M : List AC} {x : Option AV × List AC} (h : rx_X6_goOne n pc L st M = some x) (hk : n ≤ k) : rx_X6_goOne k pc L st M = some x := am_r_mono n k h hk
def fn_X6_goOne : Fn := am_fn rx_X6_goOne 4
theorem fok_X6_goOne : Fok mi_X6_goOne fn_X6_goOne := fun _ _ _ _ h => am_fok ok_X6_goOne rk_X6_goOne rfl h
theorem l1_X6_goOne {M : List AC} {g b s : F4} (h : H6 M g b s) {st lk len ac nx rf lr en : Int} {sd : Int64} (hst : 1 ≤ st ∧ st ≤ 3) (hg : i4 1 9 g) (hs9 : i4 0 9 s) (hb : i4 0 3 b) {x c : Int} (hx : 0 ≤ x ∧ x < 2401) (hc : 0 ≤ c ∧ c < 4) : ∀ (n : Nat) (p : Int) (d : F4) (S : S6), p + n = 7 → 0 ≤ p → K6 x S →
    ∃ d' : F4, ∀ (y : Option AV × List AC) (N : Nat), Ru rx_X6_goOne N 54 [some (vR 26), some (vI x), some (vI c), some (vI 7)] [] (U6 M st lk len ac nx rf lr en sd d' (g1d st g s b x c n p S)) y → Ru rx_X6_goOne (N + 40 * n + 10) 9 [some (vR 26), some (vI x), some (vI c), some (vI p)] [] (U6 M st lk len ac nx rf lr en sd d S) y
  | 0, p, d, S, hp, hp0, hK => by
    have e : p = 7 := by omega
    subst e
    refine ⟨d, fun y N kk => ?_⟩
    rw [g1d] at kk
    obtain ⟨m, hm, h'⟩ := kk
    refine ⟨m + 9 + 1, by omega, ?_⟩
    rw [rs_X6_goOne_9]
    simp [↓ri_X6_goOne, rs_X6_goOne_0, rs_X6_goOne_1, rs_X6_goOne_2, rs_X6_goOne_3, rs_X6_goOne_4, rs_X6_goOne_7, rs_X6_goOne_8, rs_X6_goOne_10, rs_X6_goOne_12, rs_X6_goOne_15, rs_X6_goOne_16, rs_X6_goOne_17, rs_X6_goOne_20, rs_X6_goOne_21, rs_X6_goOne_24, rs_X6_goOne_25, rs_X6_goOne_26, rs_X6_goOne_27, rs_X6_goOne_30, rs_X6_goOne_31, rs_X6_goOne_34, rs_X6_goOne_35, rs_X6_goOne_36, rs_X6_goOne_37, rs_X6_goOne_38, rs_X6_goOne_39, rs_X6_goOne_41, rs_X6_goOne_42, rs_X6_goOne_43, rs_X6_goOne_44, rs_X6_goOne_45, rs_X6_goOne_48, rs_X6_goOne_51, rs_X6_goOne_57, rs_X6_goOne_60, -List.getElem?_eq_getElem, am_js, am_e, am_in, am_sl, rI, rZ, rV, rJ, rA, rC, kI, kJ, kR, am_one, am_nl, am_w8, tIc, tLc, tNul, tIld, tLld, tAld, tIst, tLst, tAst, tIinc, tI2, tDv, tL2, tLrem, tLs, tLcmp, tI2l, tL2i, tI2c, tDup, tDup2, tPop, tGo, tIfeq, tIfne, tIflt, tIfge, tIfgt, tIfle, tCmeq, tCmne, tCmlt, tCmge, tCmgt, tCmle, tNu, tTs, tGf, tPf, tGs, tIal, tIas, tBal, tBas, tAln, tSv, tSc, tSb, tSl, tSk, tCv, tCs, tCt, tMx, tMn, wr_10000, wr_100000, wr_1000000, wr_10000000, wr_100000000, wr_2400, wr_9999, wr_0, wr_1, wr_2, wr_3, wr_4, wr_5, wr_6, wr_7, wr_8, wr_9, wr_10, wr_11, wr_12, wr_13, wr_14, wr_15, wr_16, wr_17, wr_18, wr_19, wr_20, wr_21, wr_22, wr_23, wr_24, wr_25, wr_26, wr_27, wr_28, wr_29, wr_30, wr_31, wr_32, wr_33, wr_34, wr_35, wr_36, wr_37, wr_38, wr_39, wr_40, wr_41, wr_42, wr_43, wr_44, wr_45, wr_46, wr_47, wr_48, wr_49, wr_50, wr_51, wr_52, wr_53, wr_54, wr_55, wr_56, wr_57, wr_58, wr_59, wr_60, wr_61, wr_62, wr_63, wr_99, wr_100, wr_192, wr_255, wr_256, wr_343, wr_999, wr_1000, wr_2401, wr_2147483647, wr_65535, wr_m1, wr_m2, wr_m3, wr_m4, wr_m9, ak_1000, ak_1001, ak_1002, ak_0, ak_1, ak_2, ak_3, ak_4, ak_5, ak_6, ak_7, ak_8, ak_9, ak_10, ak_11, ak_12, ak_13, ak_14, ak_15, ak_16, ak_17, ak_18, ak_19, ak_20, ak_21, ak_22, ak_23, ak_24, ak_25, ak_26, ak_27, ak_28, ak_29, ak_30, ak_31, ak_32, ak_33, ak_34, ak_35, ak_36, ak_37, ak_38, ak_39, ak_40, ak_41, ak_42, ak_43, ak_44, ak_45, ak_46, ak_47]
    exact rm_X6_goOne h' (by omega)
  | n + 1, p, d, S, hp, hp0, hK => by
    have wp : wr p = p := wr_id (by omega) (by omega)
    have wx : wr x = x := wr_id (by omega) (by omega)
    have np : ¬ 7 ≤ p := by omega
    obtain ⟨u26, u27, u32, -⟩ := U6_at h st lk len ac nx rf lr en sd d S
    have q1 := sp_X6_layState u26 u32 x hx
    rw [U6_32] at q1
    obtain ⟨v26, v27, v32, -⟩ := U6_at h st lk len ac nx rf lr en sd (su x) S
    have hsu := su_rng hx
    obtain ⟨wd0, wd1, wd2, wd3⟩ := i4_wr hsu (by decide) (by decide)
    by_cases hz : g4 (su x) c.toNat = p
    · obtain ⟨d', ih⟩ := l1_X6_goOne h (lk := lk) (len := len) (ac := ac) (nx := nx) (rf := rf) (lr := lr) (en := en) (sd := sd) hst hg hs9 hb hx hc n (p + 1) (su x) S (by omega) (by omega) hK
      refine ⟨d', fun y N kk => ?_⟩
      rw [g1d, if_pos hz] at kk
      obtain ⟨m, hm, h'⟩ := ih y N kk
      clear kk ih
      refine ⟨m + 39 + 1, by omega, ?_⟩
      rw [rs_X6_goOne_9]
      generalize U6 M st lk len ac nx rf lr en sd (su x) S = V at q1 v26 v32 h'
      generalize U6 M st lk len ac nx rf lr en sd d S = V0 at q1 u26 ⊢
      simp only [mo] at u26 v26
      generalize su x = u at v32 wd0 wd1 wd2 wd3 hz
      rcases c4 hc with rfl | rfl | rfl | rfl <;> simp [g4] at hz <;>
      simp [↓ri_X6_goOne, rs_X6_goOne_0, rs_X6_goOne_1, rs_X6_goOne_2, rs_X6_goOne_3, rs_X6_goOne_4, rs_X6_goOne_7, rs_X6_goOne_8, rs_X6_goOne_10, rs_X6_goOne_12, rs_X6_goOne_15, rs_X6_goOne_16, rs_X6_goOne_17, rs_X6_goOne_20, rs_X6_goOne_21, rs_X6_goOne_24, rs_X6_goOne_25, rs_X6_goOne_26, rs_X6_goOne_27, rs_X6_goOne_30, rs_X6_goOne_31, rs_X6_goOne_34, rs_X6_goOne_35, rs_X6_goOne_36, rs_X6_goOne_37, rs_X6_goOne_38, rs_X6_goOne_39, rs_X6_goOne_41, rs_X6_goOne_42, rs_X6_goOne_43, rs_X6_goOne_44, rs_X6_goOne_45, rs_X6_goOne_48, rs_X6_goOne_51, rs_X6_goOne_54, rs_X6_goOne_57, rs_X6_goOne_60, -List.getElem?_eq_getElem, am_js, am_e, am_in, am_sl, rI, rZ, rV, rJ, rA, rC, kI, kJ, kR, am_one, am_nl, am_w8, tIc, tLc, tNul, tIld, tLld, tAld, tIst, tLst, tAst, tIinc, tI2, tDv, tL2, tLrem, tLs, tLcmp, tI2l, tL2i, tI2c, tDup, tDup2, tPop, tGo, tIfeq, tIfne, tIflt, tIfge, tIfgt, tIfle, tCmeq, tCmne, tCmlt, tCmge, tCmgt, tCmle, tNu, tTs, tGf, tPf, tGs, tIal, tIas, tBal, tBas, tAln, tSv, tSc, tSb, tSl, tSk, tCv, tCs, tCt, tMx, tMn, wr_10000, wr_100000, wr_1000000, wr_10000000, wr_100000000, wr_2400, wr_9999, wr_0, wr_1, wr_2, wr_3, wr_4, wr_5, wr_6, wr_7, wr_8, wr_9, wr_10, wr_11, wr_12, wr_13, wr_14, wr_15, wr_16, wr_17, wr_18, wr_19, wr_20, wr_21, wr_22, wr_23, wr_24, wr_25, wr_26, wr_27, wr_28, wr_29, wr_30, wr_31, wr_32, wr_33, wr_34, wr_35, wr_36, wr_37, wr_38, wr_39, wr_40, wr_41, wr_42, wr_43, wr_44, wr_45, wr_46, wr_47, wr_48, wr_49, wr_50, wr_51, wr_52, wr_53, wr_54, wr_55, wr_56, wr_57, wr_58, wr_59, wr_60, wr_61, wr_62, wr_63, wr_99, wr_100, wr_192, wr_255, wr_256, wr_343, wr_999, wr_1000, wr_2401, wr_2147483647, wr_65535, wr_m1, wr_m2, wr_m3, wr_m4, wr_m9, ak_1000, ak_1001, ak_1002, ak_0, ak_1, ak_2, ak_3, ak_4, ak_5, ak_6, ak_7, ak_8, ak_9, ak_10, ak_11, ak_12, ak_13, ak_14, ak_15, ak_16, ak_17, ak_18, ak_19, ak_20, ak_21, ak_22, ak_23, ak_24, ak_25, ak_26, ak_27, ak_28, ak_29, ak_30, ak_31, ak_32, ak_33, ak_34, ak_35, ak_36, ak_37, ak_38, ak_39, ak_40, ak_41, ak_42, ak_43, ak_44, ak_45, ak_46, ak_47, u26, q1, v26, v32, wp, np, wd0, wd1, wd2, wd3, hz] <;>
      exact rm_X6_goOne h' (by omega)
    · have hd' : i4 0 6 (s4 (su x) c.toNat p) := i4_s hsu _ hp0 (by omega)
      have q2 := sp_X6_come h st lk len ac nx rf lr en sd (s4 (su x) c.toNat p) S ⟨hst, hg, hs9, hd', hb⟩ x (10 * c + p) hx hK
      rw [← U6_32 (d := su x)] at q2
      have hK2 := hK.cm (tg1_rng st g s b (c := c) hx ⟨hp0, by omega⟩) (10 * c + p)
      obtain ⟨d', ih⟩ := l1_X6_goOne h (lk := lk) (len := len) (ac := ac) (nx := nx) (rf := rf) (lr := lr) (en := en) (sd := sd) hst hg hs9 hb hx hc n (p + 1) (sl st g s b 4 (s4 (su x) c.toNat p) 0).1 (cmT S (tg1 st g s b x c p) x (10 * c + p)) (by omega) (by omega) hK2
      refine ⟨d', fun y N kk => ?_⟩
      rw [g1d, if_neg hz] at kk
      obtain ⟨m, hm, h'⟩ := ih y N kk
      clear kk ih
      refine ⟨m + 39 + 1, by omega, ?_⟩
      rw [rs_X6_goOne_9]
      unfold tg1 at h'
      generalize U6 M st lk len ac nx rf lr en sd (sl st g s b 4 (s4 (su x) c.toNat p) 0).1 (cmT S (so (sl st g s b 4 (s4 (su x) c.toNat p) 0).1) x (10 * c + p)) = V2 at q2 h'
      generalize U6 M st lk len ac nx rf lr en sd (su x) S = V at q1 q2 v26 v32
      generalize U6 M st lk len ac nx rf lr en sd d S = V0 at q1 u26 ⊢
      simp only [mo] at u26 v26
      clear hd' hK2 hsu
      generalize su x = u at v32 wd0 wd1 wd2 wd3 hz q2
      rcases c4 hc with rfl | rfl | rfl | rfl <;> simp [g4] at hz <;> simp [s4] at q2 <;>
      simp [↓ri_X6_goOne, rs_X6_goOne_0, rs_X6_goOne_1, rs_X6_goOne_2, rs_X6_goOne_3, rs_X6_goOne_4, rs_X6_goOne_7, rs_X6_goOne_8, rs_X6_goOne_10, rs_X6_goOne_12, rs_X6_goOne_15, rs_X6_goOne_16, rs_X6_goOne_17, rs_X6_goOne_20, rs_X6_goOne_21, rs_X6_goOne_24, rs_X6_goOne_25, rs_X6_goOne_26, rs_X6_goOne_27, rs_X6_goOne_30, rs_X6_goOne_31, rs_X6_goOne_34, rs_X6_goOne_35, rs_X6_goOne_36, rs_X6_goOne_37, rs_X6_goOne_38, rs_X6_goOne_39, rs_X6_goOne_41, rs_X6_goOne_42, rs_X6_goOne_43, rs_X6_goOne_44, rs_X6_goOne_45, rs_X6_goOne_48, rs_X6_goOne_51, rs_X6_goOne_54, rs_X6_goOne_57, rs_X6_goOne_60, -List.getElem?_eq_getElem, am_js, am_e, am_in, am_sl, rI, rZ, rV, rJ, rA, rC, kI, kJ, kR, am_one, am_nl, am_w8, tIc, tLc, tNul, tIld, tLld, tAld, tIst, tLst, tAst, tIinc, tI2, tDv, tL2, tLrem, tLs, tLcmp, tI2l, tL2i, tI2c, tDup, tDup2, tPop, tGo, tIfeq, tIfne, tIflt, tIfge, tIfgt, tIfle, tCmeq, tCmne, tCmlt, tCmge, tCmgt, tCmle, tNu, tTs, tGf, tPf, tGs, tIal, tIas, tBal, tBas, tAln, tSv, tSc, tSb, tSl, tSk, tCv, tCs, tCt, tMx, tMn, wr_10000, wr_100000, wr_1000000, wr_10000000, wr_100000000, wr_2400, wr_9999, wr_0, wr_1, wr_2, wr_3, wr_4, wr_5, wr_6, wr_7, wr_8, wr_9, wr_10, wr_11, wr_12, wr_13, wr_14, wr_15, wr_16, wr_17, wr_18, wr_19, wr_20, wr_21, wr_22, wr_23, wr_24, wr_25, wr_26, wr_27, wr_28, wr_29, wr_30, wr_31, wr_32, wr_33, wr_34, wr_35, wr_36, wr_37, wr_38, wr_39, wr_40, wr_41, wr_42, wr_43, wr_44, wr_45, wr_46, wr_47, wr_48, wr_49, wr_50, wr_51, wr_52, wr_53, wr_54, wr_55, wr_56, wr_57, wr_58, wr_59, wr_60, wr_61, wr_62, wr_63, wr_99, wr_100, wr_192, wr_255, wr_256, wr_343, wr_999, wr_1000, wr_2401, wr_2147483647, wr_65535, wr_m1, wr_m2, wr_m3, wr_m4, wr_m9, ak_1000, ak_1001, ak_1002, ak_0, ak_1, ak_2, ak_3, ak_4, ak_5, ak_6, ak_7, ak_8, ak_9, ak_10, ak_11, ak_12, ak_13, ak_14, ak_15, ak_16, ak_17, ak_18, ak_19, ak_20, ak_21, ak_22, ak_23, ak_24, ak_25, ak_26, ak_27, ak_28, ak_29, ak_30, ak_31, ak_32, ak_33, ak_34, ak_35, ak_36, ak_37, ak_38, ak_39, ak_40, ak_41, ak_42, ak_43, ak_44, ak_45, ak_46, ak_47, u26, q1, v26, v32, wp, np, wd0, wd1, wd2, wd3, hz, q2] <;>
      exact rm_X6_goOne h' (by omega)
theorem l0_X6_goOne {M : List AC} {g b s : F4} (h : H6 M g b s) {st lk len ac nx rf lr en : Int} {sd : Int64} (hst : 1 ≤ st ∧ st ≤ 3) (hg : i4 1 9 g) (hs9 : i4 0 9 s) (hb : i4 0 3 b) {x : Int} (hx : 0 ≤ x ∧ x < 2401) : ∀ (n : Nat) (c : Int) (d : F4) (S : S6) (x3 : Option AV), c + n = 4 → 0 ≤ c → K6 x S →
    ∃ d' : F4, Ru rx_X6_goOne (350 * n + 10) 2 [some (vR 26), some (vI x), some (vI c), x3] [] (U6 M st lk len ac nx rf lr en sd d S) (none, U6 M st lk len ac nx rf lr en sd d' (g1c st g s b x n c S))
  | 0, c, d, S, x3, hc, hc0, hK => by
    have e : c = 4 := by omega
    subst e
    refine ⟨d, 9 + 1, by omega, ?_⟩
    rw [rs_X6_goOne_2, g1c]
    simp [↓ri_X6_goOne, rs_X6_goOne_0, rs_X6_goOne_1, rs_X6_goOne_3, rs_X6_goOne_4, rs_X6_goOne_7, rs_X6_goOne_8, rs_X6_goOne_9, rs_X6_goOne_10, rs_X6_goOne_12, rs_X6_goOne_15, rs_X6_goOne_16, rs_X6_goOne_17, rs_X6_goOne_20, rs_X6_goOne_21, rs_X6_goOne_24, rs_X6_goOne_25, rs_X6_goOne_26, rs_X6_goOne_27, rs_X6_goOne_30, rs_X6_goOne_31, rs_X6_goOne_34, rs_X6_goOne_35, rs_X6_goOne_36, rs_X6_goOne_37, rs_X6_goOne_38, rs_X6_goOne_39, rs_X6_goOne_41, rs_X6_goOne_42, rs_X6_goOne_43, rs_X6_goOne_44, rs_X6_goOne_45, rs_X6_goOne_48, rs_X6_goOne_51, rs_X6_goOne_54, rs_X6_goOne_57, rs_X6_goOne_60, -List.getElem?_eq_getElem, am_js, am_e, am_in, am_sl, rI, rZ, rV, rJ, rA, rC, kI, kJ, kR, am_one, am_nl, am_w8, tIc, tLc, tNul, tIld, tLld, tAld, tIst, tLst, tAst, tIinc, tI2, tDv, tL2, tLrem, tLs, tLcmp, tI2l, tL2i, tI2c, tDup, tDup2, tPop, tGo, tIfeq, tIfne, tIflt, tIfge, tIfgt, tIfle, tCmeq, tCmne, tCmlt, tCmge, tCmgt, tCmle, tNu, tTs, tGf, tPf, tGs, tIal, tIas, tBal, tBas, tAln, tSv, tSc, tSb, tSl, tSk, tCv, tCs, tCt, tMx, tMn, wr_10000, wr_100000, wr_1000000, wr_10000000, wr_100000000, wr_2400, wr_9999, wr_0, wr_1, wr_2, wr_3, wr_4, wr_5, wr_6, wr_7, wr_8, wr_9, wr_10, wr_11, wr_12, wr_13, wr_14, wr_15, wr_16, wr_17, wr_18, wr_19, wr_20, wr_21, wr_22, wr_23, wr_24, wr_25, wr_26, wr_27, wr_28, wr_29, wr_30, wr_31, wr_32, wr_33, wr_34, wr_35, wr_36, wr_37, wr_38, wr_39, wr_40, wr_41, wr_42, wr_43, wr_44, wr_45, wr_46, wr_47, wr_48, wr_49, wr_50, wr_51, wr_52, wr_53, wr_54, wr_55, wr_56, wr_57, wr_58, wr_59, wr_60, wr_61, wr_62, wr_63, wr_99, wr_100, wr_192, wr_255, wr_256, wr_343, wr_999, wr_1000, wr_2401, wr_2147483647, wr_65535, wr_m1, wr_m2, wr_m3, wr_m4, wr_m9, ak_1000, ak_1001, ak_1002, ak_0, ak_1, ak_2, ak_3, ak_4, ak_5, ak_6, ak_7, ak_8, ak_9, ak_10, ak_11, ak_12, ak_13, ak_14, ak_15, ak_16, ak_17, ak_18, ak_19, ak_20, ak_21, ak_22, ak_23, ak_24, ak_25, ak_26, ak_27, ak_28, ak_29, ak_30, ak_31, ak_32, ak_33, ak_34, ak_35, ak_36, ak_37, ak_38, ak_39, ak_40, ak_41, ak_42, ak_43, ak_44, ak_45, ak_46, ak_47]
  | n + 1, c, d, S, x3, hc, hc0, hK => by
    have wc : wr c = c := wr_id (by omega) (by omega)
    have nc : ¬ 4 ≤ c := by omega
    obtain ⟨d1, h1⟩ := l1_X6_goOne h (lk := lk) (len := len) (ac := ac) (nx := nx) (rf := rf) (lr := lr) (en := en) (sd := sd) hst hg hs9 hb hx (c := c) ⟨hc0, by omega⟩ 7 0 d S (by omega) (by omega) hK
    have hK2 := g1d_K st g s b (c := c) hx 7 0 S (by omega) (by omega) hK
    obtain ⟨d2, k, hk, h2⟩ := l0_X6_goOne h (lk := lk) (len := len) (ac := ac) (nx := nx) (rf := rf) (lr := lr) (en := en) (sd := sd) hst hg hs9 hb hx n (c + 1) d1 (g1d st g s b x c 7 0 S) (some (vI 7)) (by omega) (by omega) hK2
    rw [g1c]
    obtain ⟨m, hm, h3⟩ := h1 (none, U6 M st lk len ac nx rf lr en sd d2 (g1c st g s b x n (c + 1) (g1d st g s b x c 7 0 S))) (k + 10) (by
      refine ⟨k + 9 + 1, by omega, ?_⟩
      rw [rs_X6_goOne_54]
      simp [↓ri_X6_goOne, rs_X6_goOne_0, rs_X6_goOne_1, rs_X6_goOne_3, rs_X6_goOne_4, rs_X6_goOne_7, rs_X6_goOne_8, rs_X6_goOne_9, rs_X6_goOne_10, rs_X6_goOne_12, rs_X6_goOne_15, rs_X6_goOne_16, rs_X6_goOne_17, rs_X6_goOne_20, rs_X6_goOne_21, rs_X6_goOne_24, rs_X6_goOne_25, rs_X6_goOne_26, rs_X6_goOne_27, rs_X6_goOne_30, rs_X6_goOne_31, rs_X6_goOne_34, rs_X6_goOne_35, rs_X6_goOne_36, rs_X6_goOne_37, rs_X6_goOne_38, rs_X6_goOne_39, rs_X6_goOne_41, rs_X6_goOne_42, rs_X6_goOne_43, rs_X6_goOne_44, rs_X6_goOne_45, rs_X6_goOne_48, rs_X6_goOne_51, rs_X6_goOne_57, rs_X6_goOne_60, -List.getElem?_eq_getElem, am_js, am_e, am_in, am_sl, rI, rZ, rV, rJ, rA, rC, kI, kJ, kR, am_one, am_nl, am_w8, tIc, tLc, tNul, tIld, tLld, tAld, tIst, tLst, tAst, tIinc, tI2, tDv, tL2, tLrem, tLs, tLcmp, tI2l, tL2i, tI2c, tDup, tDup2, tPop, tGo, tIfeq, tIfne, tIflt, tIfge, tIfgt, tIfle, tCmeq, tCmne, tCmlt, tCmge, tCmgt, tCmle, tNu, tTs, tGf, tPf, tGs, tIal, tIas, tBal, tBas, tAln, tSv, tSc, tSb, tSl, tSk, tCv, tCs, tCt, tMx, tMn, wr_10000, wr_100000, wr_1000000, wr_10000000, wr_100000000, wr_2400, wr_9999, wr_0, wr_1, wr_2, wr_3, wr_4, wr_5, wr_6, wr_7, wr_8, wr_9, wr_10, wr_11, wr_12, wr_13, wr_14, wr_15, wr_16, wr_17, wr_18, wr_19, wr_20, wr_21, wr_22, wr_23, wr_24, wr_25, wr_26, wr_27, wr_28, wr_29, wr_30, wr_31, wr_32, wr_33, wr_34, wr_35, wr_36, wr_37, wr_38, wr_39, wr_40, wr_41, wr_42, wr_43, wr_44, wr_45, wr_46, wr_47, wr_48, wr_49, wr_50, wr_51, wr_52, wr_53, wr_54, wr_55, wr_56, wr_57, wr_58, wr_59, wr_60, wr_61, wr_62, wr_63, wr_99, wr_100, wr_192, wr_255, wr_256, wr_343, wr_999, wr_1000, wr_2401, wr_2147483647, wr_65535, wr_m1, wr_m2, wr_m3, wr_m4, wr_m9, ak_1000, ak_1001, ak_1002, ak_0, ak_1, ak_2, ak_3, ak_4, ak_5, ak_6, ak_7, ak_8, ak_9, ak_10, ak_11, ak_12, ak_13, ak_14, ak_15, ak_16, ak_17, ak_18, ak_19, ak_20, ak_21, ak_22, ak_23, ak_24, ak_25, ak_26, ak_27, ak_28, ak_29, ak_30, ak_31, ak_32, ak_33, ak_34, ak_35, ak_36, ak_37, ak_38, ak_39, ak_40, ak_41, ak_42, ak_43, ak_44, ak_45, ak_46, ak_47]
      exact rm_X6_goOne h2 (by omega))
    refine ⟨d2, m + 9 + 1, by omega, ?_⟩
    rw [rs_X6_goOne_2]
    simp [↓ri_X6_goOne, rs_X6_goOne_0, rs_X6_goOne_1, rs_X6_goOne_3, rs_X6_goOne_4, rs_X6_goOne_7, rs_X6_goOne_8, rs_X6_goOne_10, rs_X6_goOne_12, rs_X6_goOne_15, rs_X6_goOne_16, rs_X6_goOne_17, rs_X6_goOne_20, rs_X6_goOne_21, rs_X6_goOne_24, rs_X6_goOne_25, rs_X6_goOne_26, rs_X6_goOne_27, rs_X6_goOne_30, rs_X6_goOne_31, rs_X6_goOne_34, rs_X6_goOne_35, rs_X6_goOne_36, rs_X6_goOne_37, rs_X6_goOne_38, rs_X6_goOne_39, rs_X6_goOne_41, rs_X6_goOne_42, rs_X6_goOne_43, rs_X6_goOne_44, rs_X6_goOne_45, rs_X6_goOne_48, rs_X6_goOne_51, rs_X6_goOne_54, rs_X6_goOne_57, rs_X6_goOne_60, -List.getElem?_eq_getElem, am_js, am_e, am_in, am_sl, rI, rZ, rV, rJ, rA, rC, kI, kJ, kR, am_one, am_nl, am_w8, tIc, tLc, tNul, tIld, tLld, tAld, tIst, tLst, tAst, tIinc, tI2, tDv, tL2, tLrem, tLs, tLcmp, tI2l, tL2i, tI2c, tDup, tDup2, tPop, tGo, tIfeq, tIfne, tIflt, tIfge, tIfgt, tIfle, tCmeq, tCmne, tCmlt, tCmge, tCmgt, tCmle, tNu, tTs, tGf, tPf, tGs, tIal, tIas, tBal, tBas, tAln, tSv, tSc, tSb, tSl, tSk, tCv, tCs, tCt, tMx, tMn, wr_10000, wr_100000, wr_1000000, wr_10000000, wr_100000000, wr_2400, wr_9999, wr_0, wr_1, wr_2, wr_3, wr_4, wr_5, wr_6, wr_7, wr_8, wr_9, wr_10, wr_11, wr_12, wr_13, wr_14, wr_15, wr_16, wr_17, wr_18, wr_19, wr_20, wr_21, wr_22, wr_23, wr_24, wr_25, wr_26, wr_27, wr_28, wr_29, wr_30, wr_31, wr_32, wr_33, wr_34, wr_35, wr_36, wr_37, wr_38, wr_39, wr_40, wr_41, wr_42, wr_43, wr_44, wr_45, wr_46, wr_47, wr_48, wr_49, wr_50, wr_51, wr_52, wr_53, wr_54, wr_55, wr_56, wr_57, wr_58, wr_59, wr_60, wr_61, wr_62, wr_63, wr_99, wr_100, wr_192, wr_255, wr_256, wr_343, wr_999, wr_1000, wr_2401, wr_2147483647, wr_65535, wr_m1, wr_m2, wr_m3, wr_m4, wr_m9, ak_1000, ak_1001, ak_1002, ak_0, ak_1, ak_2, ak_3, ak_4, ak_5, ak_6, ak_7, ak_8, ak_9, ak_10, ak_11, ak_12, ak_13, ak_14, ak_15, ak_16, ak_17, ak_18, ak_19, ak_20, ak_21, ak_22, ak_23, ak_24, ak_25, ak_26, ak_27, ak_28, ak_29, ak_30, ak_31, ak_32, ak_33, ak_34, ak_35, ak_36, ak_37, ak_38, ak_39, ak_40, ak_41, ak_42, ak_43, ak_44, ak_45, ak_46, ak_47, wc, nc]
    exact rm_X6_goOne h3 (by omega)
theorem sp_X6_goOne {M : List AC} {g b s : F4} (h : H6 M g b s) {st lk len ac nx rf lr en : Int} {sd : Int64} (hst : 1 ≤ st ∧ st ≤ 3) (hg : i4 1 9 g) (hs9 : i4 0 9 s) (hb : i4 0 3 b) {x : Int} (hx : 0 ≤ x ∧ x < 2401) (d : F4) (S : S6) (hK : K6 x S) : ∃ d' : F4, fn_X6_goOne [vR 26, vI x] (U6 M st lk len ac nx rf lr en sd d S) = some (none, U6 M st lk len ac nx rf lr en sd d' (g1c st g s b x 4 0 S)) := by
  obtain ⟨d', k, hk, h'⟩ := l0_X6_goOne h (lk := lk) (len := len) (ac := ac) (nx := nx) (rf := rf) (lr := lr) (en := en) (sd := sd) hst hg hs9 hb hx 4 0 d S none (by omega) (by omega) hK
  refine ⟨d', ?_⟩
  (refine am_fnR (tb := tb_X6_goOne) (N := 2000) (Nat.le_of_ble_eq_true rfl) (Nat.le_of_ble_eq_true rfl) ?_; show Ru rx_X6_goOne 2000 0 _ _ _ _)
  refine ⟨k + 5, by omega, ?_⟩
  simp [↓ri_X6_goOne, rs_X6_goOne_0, rs_X6_goOne_1, rs_X6_goOne_3, rs_X6_goOne_4, rs_X6_goOne_7, rs_X6_goOne_8, rs_X6_goOne_9, rs_X6_goOne_10, rs_X6_goOne_12, rs_X6_goOne_15, rs_X6_goOne_16, rs_X6_goOne_17, rs_X6_goOne_20, rs_X6_goOne_21, rs_X6_goOne_24, rs_X6_goOne_25, rs_X6_goOne_26, rs_X6_goOne_27, rs_X6_goOne_30, rs_X6_goOne_31, rs_X6_goOne_34, rs_X6_goOne_35, rs_X6_goOne_36, rs_X6_goOne_37, rs_X6_goOne_38, rs_X6_goOne_39, rs_X6_goOne_41, rs_X6_goOne_42, rs_X6_goOne_43, rs_X6_goOne_44, rs_X6_goOne_45, rs_X6_goOne_48, rs_X6_goOne_51, rs_X6_goOne_54, rs_X6_goOne_57, rs_X6_goOne_60, -List.getElem?_eq_getElem, am_js, am_e, am_in, am_sl, rI, rZ, rV, rJ, rA, rC, kI, kJ, kR, am_one, am_nl, am_w8, tIc, tLc, tNul, tIld, tLld, tAld, tIst, tLst, tAst, tIinc, tI2, tDv, tL2, tLrem, tLs, tLcmp, tI2l, tL2i, tI2c, tDup, tDup2, tPop, tGo, tIfeq, tIfne, tIflt, tIfge, tIfgt, tIfle, tCmeq, tCmne, tCmlt, tCmge, tCmgt, tCmle, tNu, tTs, tGf, tPf, tGs, tIal, tIas, tBal, tBas, tAln, tSv, tSc, tSb, tSl, tSk, tCv, tCs, tCt, tMx, tMn, wr_10000, wr_100000, wr_1000000, wr_10000000, wr_100000000, wr_2400, wr_9999, wr_0, wr_1, wr_2, wr_3, wr_4, wr_5, wr_6, wr_7, wr_8, wr_9, wr_10, wr_11, wr_12, wr_13, wr_14, wr_15, wr_16, wr_17, wr_18, wr_19, wr_20, wr_21, wr_22, wr_23, wr_24, wr_25, wr_26, wr_27, wr_28, wr_29, wr_30, wr_31, wr_32, wr_33, wr_34, wr_35, wr_36, wr_37, wr_38, wr_39, wr_40, wr_41, wr_42, wr_43, wr_44, wr_45, wr_46, wr_47, wr_48, wr_49, wr_50, wr_51, wr_52, wr_53, wr_54, wr_55, wr_56, wr_57, wr_58, wr_59, wr_60, wr_61, wr_62, wr_63, wr_99, wr_100, wr_192, wr_255, wr_256, wr_343, wr_999, wr_1000, wr_2401, wr_2147483647, wr_65535, wr_m1, wr_m2, wr_m3, wr_m4, wr_m9, ak_1000, ak_1001, ak_1002, ak_0, ak_1, ak_2, ak_3, ak_4, ak_5, ak_6, ak_7, ak_8, ak_9, ak_10, ak_11, ak_12, ak_13, ak_14, ak_15, ak_16, ak_17, ak_18, ak_19, ak_20, ak_21, ak_22, ak_23, ak_24, ak_25, ak_26, ak_27, ak_28, ak_29, ak_30, ak_31, ak_32, ak_33, ak_34, ak_35, ak_36, ak_37, ak_38, ak_39, ak_40, ak_41, ak_42, ak_43, ak_44, ak_45, ak_46, ak_47]
  exact rm_X6_goOne h' (by omega)
end
