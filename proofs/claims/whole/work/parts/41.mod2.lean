noncomputable section
theorem HD.setD {M : List AC} {st : Int} {g s d b : F4} (h : HD M st g s d b) (d' : F4) : HD (M.set 32 (aI (l4 d'))) st g s d' b := by
  obtain ⟨⟨lk, len, ac, nx, rf, lr, en, lm, sd, h0⟩, h1, h2, h3, h4⟩ := h
  exact ⟨⟨lk, len, ac, nx, rf, lr, en, lm, sd, by rw [List.getElem?_set_ne (by decide)]; exact h0⟩, by rw [List.getElem?_set_ne (by decide)]; exact h1, List.getElem?_set_self (len_of h2), by rw [List.getElem?_set_ne (by decide)]; exact h3, by rw [List.getElem?_set_ne (by decide)]; exact h4⟩
theorem fm_pos (e0 e1 e2 e3 : Int) : (fm e0 e1 e2 e3 = 0 → 0 < e0) ∧ (fm e0 e1 e2 e3 = 1 → 0 < e1) ∧ (fm e0 e1 e2 e3 = 2 → 0 < e2) ∧ (fm e0 e1 e2 e3 = 3 → 0 < e3) := by
  unfold fm
  dsimp only
  (repeat' split) <;> simp_all <;> omega
theorem fs_rng (st : Int) (g s d b : F4) (h : ¬ fs st g s d b = -9) : 0 ≤ fs st g s d b ∧ fs st g s d b < 4 := by
  rcases fm_rng (ex st g s d b 0) (ex st g s d b 1) (ex st g s d b 2) (ex st g s d b 3) with q | q
  · exact absurd q h
  · exact q
theorem fs_on (st : Int) (g s d b : F4) (h : ¬ fs st g s d b = -9) : ¬ g4 d (fs st g s d b).toNat = 0 := by
  intro hz
  have h0 := ex_0 (st := st) (g := g) (s := s) (b := b) hz
  have hp := fm_pos (ex st g s d b 0) (ex st g s d b 1) (ex st g s d b 2) (ex st g s d b 3)
  change (fs st g s d b = 0 → _) ∧ (fs st g s d b = 1 → _) ∧ (fs st g s d b = 2 → _) ∧ (fs st g s d b = 3 → _) at hp
  have hr := fs_rng st g s d b h
  generalize fs st g s d b = c at h0 hp hr
  rcases c4 hr with rfl | rfl | rfl | rfl
  · have := hp.1 rfl; rw [show Int.toNat 0 = 0 from rfl] at h0; omega
  · have := hp.2.1 rfl; rw [show Int.toNat 1 = 1 from rfl] at h0; omega
  · have := hp.2.2.1 rfl; rw [show Int.toNat 2 = 2 from rfl] at h0; omega
  · have := hp.2.2.2 rfl; rw [show Int.toNat 3 = 3 from rfl] at h0; omega
def z1 (x : Int) : Nat := if x = 0 then 0 else 1
def cz (d : F4) : Nat := z1 d.1 + z1 d.2.1 + z1 d.2.2.1 + z1 d.2.2.2
theorem cz_set {d : F4} {c : Nat} (h : ¬ g4 d c = 0) : cz (s4 d c 0) + 1 = cz d := by
  unfold g4 at h
  unfold cz s4
  split at h <;> simp [z1, h] <;> omega
theorem cz_le (d : F4) : cz d ≤ 4 := by
  unfold cz z1
  (repeat' split) <;> omega
abbrev mi_X6_slips : Mi := (yX6_slips, cX6_slips, 3, some .int, 6)
theorem mf_X6_slips : am_mf mi_X6_slips 0 := ⟨w_co_X6_slips, w_in_X6, ⟨by decide +kernel, by decide +kernel⟩, by decide +kernel, by decide⟩
def tb_X6_slips : List (Nat × Tr) := [(0, tIc 0 1), (1, tIst 1 1), (2, tAld 0 1), (3, tCv 6 0 fn_X6_firstSlip), (6, tIst 2 1), (7, tIld 2 1), (8, tIc (-9) 2), (10, tCmeq 34), (13, tAld 0 1), (14, tGf 6 8), (17, tIld 2 1), (18, tIc 0 1), (19, tIas), (20, tIld 1 1), (21, tIc 1 1), (22, tIld 2 1), (23, tI2 oShl), (24, tI2 oOr), (25, tIst 1 1), (26, tAld 0 1), (27, tCv 6 0 fn_X6_firstSlip), (30, tIst 2 1), (31, tGo 7), (34, tIld 1 1)]
theorem ok_X6_slips : Tok mi_X6_slips tb_X6_slips :=
  Tc (sd_iconst rfl dX6_slips_0) <|
  Tc (sd_istore_n dX6_slips_1) <|
  Tc (sd_aload_n dX6_slips_2) <|
  Tc (sd_cv (T := TX6) fok_X6_firstSlip mf_X6_firstSlip rfl w_ml_X6_109 w_im_X6_firstSlip w_se_X6_firstSlip (by decide) dX6_slips_3) <|
  Tc (sd_istore_n dX6_slips_6) <|
  Tc (sd_iload_n dX6_slips_7) <|
  Tc (sd_bipush (by decide +kernel) dX6_slips_8) <|
  Tc (sd_cm_eq (by decide) dX6_slips_10) <|
  Tc (sd_aload_n dX6_slips_13) <|
  Tc (sd_getf (T := TX6) rfl giX6 (by decide) w_fl_X6_25 dX6_slips_14) <|
  Tc (sd_iload_n dX6_slips_17) <|
  Tc (sd_iconst rfl dX6_slips_18) <|
  Tc (sd_ias dX6_slips_19) <|
  Tc (sd_iload_n dX6_slips_20) <|
  Tc (sd_iconst rfl dX6_slips_21) <|
  Tc (sd_iload_n dX6_slips_22) <|
  Tc (sd_ishl dX6_slips_23) <|
  Tc (sd_ior dX6_slips_24) <|
  Tc (sd_istore_n dX6_slips_25) <|
  Tc (sd_aload_n dX6_slips_26) <|
  Tc (sd_cv (T := TX6) fok_X6_firstSlip mf_X6_firstSlip rfl w_ml_X6_109 w_im_X6_firstSlip w_se_X6_firstSlip (by decide) dX6_slips_27) <|
  Tc (sd_istore_n dX6_slips_30) <|
  Tc (sd_goto (by decide) dX6_slips_31) <|
  Tc (sd_iload_n dX6_slips_34) <|
  Tn
theorem rk_X6_slips : Rok mi_X6_slips rI [35] := rk_i dX6_slips_35 <| rk_n
def rx_X6_slips : Nat → Nat → AL → List AV → List AC → Option (Option AV × List AC) := am_r tb_X6_slips rI [35]
theorem rs_X6_slips_0 (n : Nat) (L : AL) (st : List AV) (M : List AC) : rx_X6_slips (n + 1) 0 L st M = am_j (rx_X6_slips n) ((tIc 0 1) 0 L st M) := rfl
theorem rs_X6_slips_1 (n : Nat) (L : AL) (st : List AV) (M : List AC) : rx_X6_slips (n + 1) 1 L st M = am_j (rx_X6_slips n) ((tIst 1 1) 1 L st M) := rfl
theorem rs_X6_slips_2 (n : Nat) (L : AL) (st : List AV) (M : List AC) : rx_X6_slips (n + 1) 2 L st M = am_j (rx_X6_slips n) ((tAld 0 1) 2 L st M) := rfl
theorem rs_X6_slips_3 (n : Nat) (L : AL) (st : List AV) (M : List AC) : rx_X6_slips (n + 1) 3 L st M = am_j (rx_X6_slips n) ((tCv 6 0 fn_X6_firstSlip) 3 L st M) := rfl
theorem rs_X6_slips_6 (n : Nat) (L : AL) (st : List AV) (M : List AC) : rx_X6_slips (n + 1) 6 L st M = am_j (rx_X6_slips n) ((tIst 2 1) 6 L st M) := rfl
theorem rs_X6_slips_7 (n : Nat) (L : AL) (st : List AV) (M : List AC) : rx_X6_slips (n + 1) 7 L st M = am_j (rx_X6_slips n) ((tIld 2 1) 7 L st M) := rfl
theorem rs_X6_slips_8 (n : Nat) (L : AL) (st : List AV) (M : List AC) : rx_X6_slips (n + 1) 8 L st M = am_j (rx_X6_slips n) ((tIc (-9) 2) 8 L st M) := rfl
theorem rs_X6_slips_10 (n : Nat) (L : AL) (st : List AV) (M : List AC) : rx_X6_slips (n + 1) 10 L st M = am_j (rx_X6_slips n) ((tCmeq 34) 10 L st M) := rfl
theorem rs_X6_slips_13 (n : Nat) (L : AL) (st : List AV) (M : List AC) : rx_X6_slips (n + 1) 13 L st M = am_j (rx_X6_slips n) ((tAld 0 1) 13 L st M) := rfl
theorem rs_X6_slips_14 (n : Nat) (L : AL) (st : List AV) (M : List AC) : rx_X6_slips (n + 1) 14 L st M = am_j (rx_X6_slips n) ((tGf 6 8) 14 L st M) := rfl
theorem rs_X6_slips_17 (n : Nat) (L : AL) (st : List AV) (M : List AC) : rx_X6_slips (n + 1) 17 L st M = am_j (rx_X6_slips n) ((tIld 2 1) 17 L st M) := rfl
theorem rs_X6_slips_18 (n : Nat) (L : AL) (st : List AV) (M : List AC) : rx_X6_slips (n + 1) 18 L st M = am_j (rx_X6_slips n) ((tIc 0 1) 18 L st M) := rfl
theorem rs_X6_slips_19 (n : Nat) (L : AL) (st : List AV) (M : List AC) : rx_X6_slips (n + 1) 19 L st M = am_j (rx_X6_slips n) (tIas 19 L st M) := rfl
theorem rs_X6_slips_20 (n : Nat) (L : AL) (st : List AV) (M : List AC) : rx_X6_slips (n + 1) 20 L st M = am_j (rx_X6_slips n) ((tIld 1 1) 20 L st M) := rfl
theorem rs_X6_slips_21 (n : Nat) (L : AL) (st : List AV) (M : List AC) : rx_X6_slips (n + 1) 21 L st M = am_j (rx_X6_slips n) ((tIc 1 1) 21 L st M) := rfl
theorem rs_X6_slips_22 (n : Nat) (L : AL) (st : List AV) (M : List AC) : rx_X6_slips (n + 1) 22 L st M = am_j (rx_X6_slips n) ((tIld 2 1) 22 L st M) := rfl
theorem rs_X6_slips_23 (n : Nat) (L : AL) (st : List AV) (M : List AC) : rx_X6_slips (n + 1) 23 L st M = am_j (rx_X6_slips n) ((tI2 oShl) 23 L st M) := rfl
theorem rs_X6_slips_24 (n : Nat) (L : AL) (st : List AV) (M : List AC) : rx_X6_slips (n + 1) 24 L st M = am_j (rx_X6_slips n) ((tI2 oOr) 24 L st M) := rfl
theorem rs_X6_slips_25 (n : Nat) (L : AL) (st : List AV) (M : List AC) : rx_X6_slips (n + 1) 25 L st M = am_j (rx_X6_slips n) ((tIst 1 1) 25 L st M) := rfl
theorem rs_X6_slips_26 (n : Nat) (L : AL) (st : List AV) (M : List AC) : rx_X6_slips (n + 1) 26 L st M = am_j (rx_X6_slips n) ((tAld 0 1) 26 L st M) := rfl
theorem rs_X6_slips_27 (n : Nat) (L : AL) (st : List AV) (M : List AC) : rx_X6_slips (n + 1) 27 L st M = am_j (rx_X6_slips n) ((tCv 6 0 fn_X6_firstSlip) 27 L st M) := rfl
theorem rs_X6_slips_30 (n : Nat) (L : AL) (st : List AV) (M : List AC) : rx_X6_slips (n + 1) 30 L st M = am_j (rx_X6_slips n) ((tIst 2 1) 30 L st M) := rfl
theorem rs_X6_slips_31 (n : Nat) (L : AL) (st : List AV) (M : List AC) : rx_X6_slips (n + 1) 31 L st M = am_j (rx_X6_slips n) ((tGo 7) 31 L st M) := rfl
theorem rs_X6_slips_34 (n : Nat) (L : AL) (st : List AV) (M : List AC) : rx_X6_slips (n + 1) 34 L st M = am_j (rx_X6_slips n) ((tIld 1 1) 34 L st M) := rfl
theorem rs_X6_slips_35 (n : Nat) (L : AL) (st : List AV) (M : List AC) : rx_X6_slips (n + 1) 35 L st M = am_e rI st M := rfl
theorem ri_X6_slips (c : Prop) [Decidable c] (p q n : Nat) (L : AL) (st : List AV) (M : List AC) : rx_X6_slips n (if c then p else q) L st M = if c then rx_X6_slips n p L st M else rx_X6_slips n q L st M := by split <;> rfl
theorem rm_X6_slips {n k pc : Nat} {L : AL} {st : List AV} {M : List AC} {x : Option AV × List AC} (h : rx_X6_slips n pc L st M = some x) (hk : n ≤ k) : rx_X6_slips k pc L st M = some x := am_r_mono n k h hk
def fn_X6_slips : Fn := am_fn rx_X6_slips 3
theorem fok_X6_slips : Fok mi_X6_slips fn_X6_slips := fun _ _ _ _ h => am_fok ok_X6_slips rk_X6_slips rfl h
theorem lp_X6_slips {st : Int} {g s b : F4} : ∀ (n : Nat) (d : F4) (M : List AC) (z : Int), HD M st g s d b → SR st g s d b → cz d ≤ n → Ru rx_X6_slips (40 * n + 20) 7 [some (vR 26), some (vI z), some (vI (fs st g s d b))] [] M (some (vI (sl st g s b n d z).2), M.set 32 (aI (l4 (sl st g s b n d z).1)))
  | n, d, M, z, hs, hr, hn => by
    by_cases hf : fs st g s d b = -9
    · have hm := set_same hs.2.2.1
      have e : sl st g s b n d z = (d, z) := by
        cases n with
        | zero => rfl
        | succ n => rw [sl, if_pos hf]
      rw [e, hm, hf]
      refine ⟨20, by omega, ?_⟩
      simp [↓ri_X6_slips, rs_X6_slips_0, rs_X6_slips_1, rs_X6_slips_2, rs_X6_slips_3, rs_X6_slips_6, rs_X6_slips_7, rs_X6_slips_8, rs_X6_slips_10, rs_X6_slips_13, rs_X6_slips_14, rs_X6_slips_17, rs_X6_slips_18, rs_X6_slips_19, rs_X6_slips_20, rs_X6_slips_21, rs_X6_slips_22, rs_X6_slips_23, rs_X6_slips_24, rs_X6_slips_25, rs_X6_slips_26, rs_X6_slips_27, rs_X6_slips_30, rs_X6_slips_31, rs_X6_slips_34, rs_X6_slips_35, -List.getElem?_eq_getElem, am_js, am_e, am_in, am_sl, rI, rZ, rV, rJ, rA, rC, kI, kJ, kR, am_one, am_nl, am_w8, tIc, tLc, tNul, tIld, tLld, tAld, tIst, tLst, tAst, tIinc, tI2, tDv, tL2, tLrem, tLs, tLcmp, tI2l, tL2i, tI2c, tDup, tDup2, tPop, tGo, tIfeq, tIfne, tIflt, tIfge, tIfgt, tIfle, tCmeq, tCmne, tCmlt, tCmge, tCmgt, tCmle, tNu, tTs, tGf, tPf, tGs, tIal, tIas, tBal, tBas, tAln, tSv, tSc, tSb, tSl, tSk, tCv, tCs, tCt, tMx, tMn, wr_10000, wr_100000, wr_1000000, wr_10000000, wr_100000000, wr_2400, wr_9999, wr_0, wr_1, wr_2, wr_3, wr_4, wr_5, wr_6, wr_7, wr_8, wr_9, wr_10, wr_11, wr_12, wr_13, wr_14, wr_15, wr_16, wr_17, wr_18, wr_19, wr_20, wr_21, wr_22, wr_23, wr_24, wr_25, wr_26, wr_27, wr_28, wr_29, wr_30, wr_31, wr_32, wr_33, wr_34, wr_35, wr_36, wr_37, wr_38, wr_39, wr_40, wr_41, wr_42, wr_43, wr_44, wr_45, wr_46, wr_47, wr_48, wr_49, wr_50, wr_51, wr_52, wr_53, wr_54, wr_55, wr_56, wr_57, wr_58, wr_59, wr_60, wr_61, wr_62, wr_63, wr_99, wr_100, wr_192, wr_255, wr_256, wr_343, wr_999, wr_1000, wr_2401, wr_2147483647, wr_65535, wr_m1, wr_m2, wr_m3, wr_m4, wr_m9, ak_1000, ak_1001, ak_1002, ak_0, ak_1, ak_2, ak_3, ak_4, ak_5, ak_6, ak_7, ak_8, ak_9, ak_10, ak_11, ak_12, ak_13, ak_14, ak_15, ak_16, ak_17, ak_18, ak_19, ak_20, ak_21, ak_22, ak_23, ak_24, ak_25, ak_26, ak_27, ak_28, ak_29, ak_30, ak_31, ak_32, ak_33, ak_34, ak_35, ak_36, ak_37, ak_38, ak_39, ak_40, ak_41, ak_42, ak_43, ak_44, ak_45, ak_46, ak_47]
    · have hon := fs_on st g s d b hf
      have hcz := cz_set hon
      match n, hn with
      | 0, hn => omega
      | n + 1, hn =>
        have hf2 := fs_rng st g s d b hf
        obtain ⟨⟨lk, len, ac, nx, rf, lr, en, lm, sd, h0⟩, h1, h2, h3, h4⟩ := id hs
        have hs' := hs.setD (s4 d (fs st g s d b).toNat 0)
        have hr' := hr.setD (fs st g s d b).toNat (v := 0) (by omega) (by omega)
        have ih := lp_X6_slips n _ _ (oOr z (oShl 1 (fs st g s d b))) hs' hr' (by omega)
        have e : sl st g s b (n + 1) d z = sl st g s b n (s4 d (fs st g s d b).toNat 0) (oOr z (oShl 1 (fs st g s d b))) := by rw [sl, if_neg hf]
        rw [e]
        rw [List.set_set] at ih
        generalize sl st g s b n (s4 d (fs st g s d b).toNat 0) (oOr z (oShl 1 (fs st g s d b))) = q at ih ⊢
        have hfs := sp_X6_firstSlip hs' hr'
        generalize fs st g s (s4 d (fs st g s d b).toNat 0) b = c2 at hfs ih
        obtain ⟨m, hm, h⟩ := ih
        refine ⟨m + 39 + 1, by omega, ?_⟩
        rw [rs_X6_slips_7]
        clear hon hcz hs' hr' e
        generalize fs st g s d b = c at hf hf2 hfs h ⊢
        rcases c4 hf2 with rfl | rfl | rfl | rfl <;> simp [s4] at hfs h <;>
        simp [↓ri_X6_slips, rs_X6_slips_0, rs_X6_slips_1, rs_X6_slips_2, rs_X6_slips_3, rs_X6_slips_6, rs_X6_slips_8, rs_X6_slips_10, rs_X6_slips_13, rs_X6_slips_14, rs_X6_slips_17, rs_X6_slips_18, rs_X6_slips_19, rs_X6_slips_20, rs_X6_slips_21, rs_X6_slips_22, rs_X6_slips_23, rs_X6_slips_24, rs_X6_slips_25, rs_X6_slips_26, rs_X6_slips_27, rs_X6_slips_30, rs_X6_slips_31, rs_X6_slips_34, rs_X6_slips_35, -List.getElem?_eq_getElem, am_js, am_e, am_in, am_sl, rI, rZ, rV, rJ, rA, rC, kI, kJ, kR, am_one, am_nl, am_w8, tIc, tLc, tNul, tIld, tLld, tAld, tIst, tLst, tAst, tIinc, tI2, tDv, tL2, tLrem, tLs, tLcmp, tI2l, tL2i, tI2c, tDup, tDup2, tPop, tGo, tIfeq, tIfne, tIflt, tIfge, tIfgt, tIfle, tCmeq, tCmne, tCmlt, tCmge, tCmgt, tCmle, tNu, tTs, tGf, tPf, tGs, tIal, tIas, tBal, tBas, tAln, tSv, tSc, tSb, tSl, tSk, tCv, tCs, tCt, tMx, tMn, wr_10000, wr_100000, wr_1000000, wr_10000000, wr_100000000, wr_2400, wr_9999, wr_0, wr_1, wr_2, wr_3, wr_4, wr_5, wr_6, wr_7, wr_8, wr_9, wr_10, wr_11, wr_12, wr_13, wr_14, wr_15, wr_16, wr_17, wr_18, wr_19, wr_20, wr_21, wr_22, wr_23, wr_24, wr_25, wr_26, wr_27, wr_28, wr_29, wr_30, wr_31, wr_32, wr_33, wr_34, wr_35, wr_36, wr_37, wr_38, wr_39, wr_40, wr_41, wr_42, wr_43, wr_44, wr_45, wr_46, wr_47, wr_48, wr_49, wr_50, wr_51, wr_52, wr_53, wr_54, wr_55, wr_56, wr_57, wr_58, wr_59, wr_60, wr_61, wr_62, wr_63, wr_99, wr_100, wr_192, wr_255, wr_256, wr_343, wr_999, wr_1000, wr_2401, wr_2147483647, wr_65535, wr_m1, wr_m2, wr_m3, wr_m4, wr_m9, ak_1000, ak_1001, ak_1002, ak_0, ak_1, ak_2, ak_3, ak_4, ak_5, ak_6, ak_7, ak_8, ak_9, ak_10, ak_11, ak_12, ak_13, ak_14, ak_15, ak_16, ak_17, ak_18, ak_19, ak_20, ak_21, ak_22, ak_23, ak_24, ak_25, ak_26, ak_27, ak_28, ak_29, ak_30, ak_31, ak_32, ak_33, ak_34, ak_35, ak_36, ak_37, ak_38, ak_39, ak_40, ak_41, ak_42, ak_43, ak_44, ak_45, ak_46, ak_47, h0, h2, mo, hfs] <;>
        exact rm_X6_slips h (by omega)
theorem sp_X6_slips {M : List AC} {st : Int} {g s d b : F4} (hs : HD M st g s d b) (hr : SR st g s d b) : fn_X6_slips [vR 26] M = some (some (vI (sl st g s b 4 d 0).2), M.set 32 (aI (l4 (sl st g s b 4 d 0).1))) := by
  obtain ⟨⟨lk, len, ac, nx, rf, lr, en, lm, sd, h0⟩, h1, h2, h3, h4⟩ := id hs
  obtain ⟨n, hn, h⟩ := lp_X6_slips 4 d M 0 hs hr (cz_le d)
  have hfs := sp_X6_firstSlip hs hr
  generalize sl st g s b 4 d 0 = q at h ⊢
  generalize fs st g s d b = c at h hfs
  (refine am_fnR (tb := tb_X6_slips) (N := 400) (Nat.le_of_ble_eq_true rfl) (Nat.le_of_ble_eq_true rfl) ?_; show Ru rx_X6_slips 400 0 _ _ _ _)
  refine ⟨n + 10, by omega, ?_⟩
  simp [↓ri_X6_slips, rs_X6_slips_0, rs_X6_slips_1, rs_X6_slips_2, rs_X6_slips_3, rs_X6_slips_6, rs_X6_slips_8, rs_X6_slips_10, rs_X6_slips_13, rs_X6_slips_14, rs_X6_slips_17, rs_X6_slips_18, rs_X6_slips_19, rs_X6_slips_20, rs_X6_slips_21, rs_X6_slips_22, rs_X6_slips_23, rs_X6_slips_24, rs_X6_slips_25, rs_X6_slips_26, rs_X6_slips_27, rs_X6_slips_30, rs_X6_slips_31, rs_X6_slips_34, rs_X6_slips_35, -List.getElem?_eq_getElem, am_js, am_e, am_in, am_sl, rI, rZ, rV, rJ, rA, rC, kI, kJ, kR, am_one, am_nl, am_w8, tIc, tLc, tNul, tIld, tLld, tAld, tIst, tLst, tAst, tIinc, tI2, tDv, tL2, tLrem, tLs, tLcmp, tI2l, tL2i, tI2c, tDup, tDup2, tPop, tGo, tIfeq, tIfne, tIflt, tIfge, tIfgt, tIfle, tCmeq, tCmne, tCmlt, tCmge, tCmgt, tCmle, tNu, tTs, tGf, tPf, tGs, tIal, tIas, tBal, tBas, tAln, tSv, tSc, tSb, tSl, tSk, tCv, tCs, tCt, tMx, tMn, wr_10000, wr_100000, wr_1000000, wr_10000000, wr_100000000, wr_2400, wr_9999, wr_0, wr_1, wr_2, wr_3, wr_4, wr_5, wr_6, wr_7, wr_8, wr_9, wr_10, wr_11, wr_12, wr_13, wr_14, wr_15, wr_16, wr_17, wr_18, wr_19, wr_20, wr_21, wr_22, wr_23, wr_24, wr_25, wr_26, wr_27, wr_28, wr_29, wr_30, wr_31, wr_32, wr_33, wr_34, wr_35, wr_36, wr_37, wr_38, wr_39, wr_40, wr_41, wr_42, wr_43, wr_44, wr_45, wr_46, wr_47, wr_48, wr_49, wr_50, wr_51, wr_52, wr_53, wr_54, wr_55, wr_56, wr_57, wr_58, wr_59, wr_60, wr_61, wr_62, wr_63, wr_99, wr_100, wr_192, wr_255, wr_256, wr_343, wr_999, wr_1000, wr_2401, wr_2147483647, wr_65535, wr_m1, wr_m2, wr_m3, wr_m4, wr_m9, ak_1000, ak_1001, ak_1002, ak_0, ak_1, ak_2, ak_3, ak_4, ak_5, ak_6, ak_7, ak_8, ak_9, ak_10, ak_11, ak_12, ak_13, ak_14, ak_15, ak_16, ak_17, ak_18, ak_19, ak_20, ak_21, ak_22, ak_23, ak_24, ak_25, ak_26, ak_27, ak_28, ak_29, ak_30, ak_31, ak_32, ak_33, ak_34, ak_35, ak_36, ak_37, ak_38, ak_39, ak_40, ak_41, ak_42, ak_43, ak_44, ak_45, ak_46, ak_47, h0, mo, hfs]
  exact rm_X6_slips h (by omega)
end
