noncomputable section
theorem bf3_ok (st : Int) (g s bb : F4) (m : Int) {tw : Int} (htw : tw = 0 ∨ tw = 1) : ∀ (n : Nat) (k : Int) (S : S3), 0 ≤ k → I3 S → I3 (bf3 st g s bb m tw n k S).1 ∧ ((bf3 st g s bb m tw n k S).2 = -9 ∨ (0 ≤ (bf3 st g s bb m tw n k S).2 ∧ (bf3 st g s bb m tw n k S).2 < 2401))
  | 0, _, S, hk, hI => ⟨hI, Or.inl rfl⟩
  | n + 1, k, S, hk, hI => by
    rw [bf3]
    split
    · next hkl =>
      have hx := hI.2.2.2 k.toNat (by omega)
      split
      · exact ⟨hI, Or.inr hx⟩
      · exact bf3_ok st g s bb m htw n (k + 1) _ (by omega) (xa3_I st g s bb hx htw 4 0 S (by omega) (by omega) hI)
    · exact ⟨hI, Or.inl rfl⟩
def fw3 (q : S3 × Int) : Int := if q.2 = -9 then -9 else sts (q.1.1.getD 0 0) q.1.2.2.1 2401 0 q.2
def fa3 (q : S3 × Int) (i : Int) : Int := if q.2 = -9 then -9 else if 0 ≤ i ∧ i < sts (q.1.1.getD 0 0) q.1.2.2.1 2401 0 q.2 then (q.1.2.2.1.getD (wk3 q.1.2.2.1 (sts (q.1.1.getD 0 0) q.1.2.2.1 2401 0 q.2 - 1 - i).toNat q.2).toNat 0 - 1).tmod 100 else -9
def L3 (S : S3) : Prop := S.1.length = 2401 ∧ S.2.2.1.length = 2401 ∧ S.2.2.2.length = 2401
theorem U3_len (M : List AC) (gl : Int) (d : F4) (S : S3) : (U3 M gl d S).length = M.length := by simp [U3]
theorem U3_ne (M : List AC) (gl : Int) (d : F4) (S : S3) (i : Nat) (h : i ≠ 10 ∧ i ≠ 43 ∧ i ≠ 44 ∧ i ≠ 45 ∧ i ≠ 46) : (U3 M gl d S)[i]? = M[i]? := by
  unfold U3
  rw [List.getElem?_set_ne (by omega), List.getElem?_set_ne (by omega), List.getElem?_set_ne (by omega), List.getElem?_set_ne (by omega), List.getElem?_set_ne (by omega)]
abbrev mi_X5_searchFromNow : Mi := (yX5_searchFromNow, cX5_searchFromNow, 2, some (.object "FourthCorner$Search"), 3)
theorem mf_X5_searchFromNow : am_mf mi_X5_searchFromNow 0 := ⟨w_co_X5_searchFromNow, w_in_X5, ⟨by decide +kernel, by decide +kernel⟩, by decide +kernel, by decide⟩
def tb_X5_searchFromNow : List (Nat × TrA) := [(0, tL (tAld 0 1)), (1, tL (tGf 5 3)), (4, tL (tAld 0 1)), (5, tL (tGf 5 2)), (8, tL (tCv 4 1 fn_X4_become)), (11, tL (tAld 0 1)), (12, tL (tGf 5 11)), (15, tL (tNu 23)), (18, tL (tAld 0 1)), (19, tL (tGf 5 11)), (23, tNew 3 6 [vN, vN, vI 0, vN, vN, vI 0]), (26, tL tDup), (27, tL (tAld 0 1)), (28, tL (tGf 5 3)), (31, tCi 1 fn_X3_init), (34, tL (tAst 1 1)), (35, tL (tAld 0 1)), (36, tL (tAld 1 1)), (37, tL (tPf kR 5 11)), (40, tL (tAld 1 1))]
theorem ok_X5_searchFromNow (a : Am) (G : (Nat → Nat) → Prop) : TokG a mi_X5_searchFromNow G tb_X5_searchFromNow :=
  TcG (sd_L (sd_aload_n dX5_searchFromNow_0)) <|
  TcG (sd_L (sd_getf (T := TX5) rfl giX5 (by decide) w_fl_X5_24 dX5_searchFromNow_1)) <|
  TcG (sd_L (sd_aload_n dX5_searchFromNow_4)) <|
  TcG (sd_L (sd_getf (T := TX5) rfl giX5 (by decide) w_fl_X5_20 dX5_searchFromNow_5)) <|
  TcG (sd_L (sd_cv (T := TX4) fok_X4_become mf_X4_become rfl w_ml_X5_124 w_im_X4_become w_se_X4_become (by decide) dX5_searchFromNow_8)) <|
  TcG (sd_L (sd_aload_n dX5_searchFromNow_11)) <|
  TcG (sd_L (sd_getf (T := TX5) rfl giX5 (by decide) w_fl_X5_63 dX5_searchFromNow_12)) <|
  TcG (sd_L (sd_ifnull (by decide) dX5_searchFromNow_15)) <|
  TcG (sd_L (sd_aload_n dX5_searchFromNow_18)) <|
  TcG (sd_L (sd_getf (T := TX5) rfl giX5 (by decide) w_fl_X5_63 dX5_searchFromNow_19)) <|
  TcG (sd_new rfl giX3 tyX3 tyX3_ok w_cs_X5_179 w_is_X3 w_in_X3 [vN, vN, vI 0, vN, vN, vI 0] df_X3 rfl dX5_searchFromNow_23) <|
  TcG (sd_L (sd_dup dX5_searchFromNow_26)) <|
  TcG (sd_L (sd_aload_n dX5_searchFromNow_27)) <|
  TcG (sd_L (sd_getf (T := TX5) rfl giX5 (by decide) w_fl_X5_24 dX5_searchFromNow_28)) <|
  TcG (sd_ci fok_X3_init mf_X3_init w_ml_X5_255 rfl w_im_X3_init (by decide) dX5_searchFromNow_31) <|
  TcG (sd_L (sd_astore_n dX5_searchFromNow_34)) <|
  TcG (sd_L (sd_aload_n dX5_searchFromNow_35)) <|
  TcG (sd_L (sd_aload_n dX5_searchFromNow_36)) <|
  TcG (sd_L (sd_putf (T := TX5) rfl giX5 (by decide) w_fl_X5_63 tyX5 tyX5_ok nmX5 (kO_ok _) rfl dX5_searchFromNow_37)) <|
  TcG (sd_L (sd_aload_n dX5_searchFromNow_40)) <|
  TnG
theorem rk_X5_searchFromNow : Rok mi_X5_searchFromNow rA [22, 41] := rk_a dX5_searchFromNow_22 <| rk_a dX5_searchFromNow_41 <| rk_n
def rx_X5_searchFromNow (n0 : Nat) : Nat → Nat → AL → List AV → List AC → Nat → Nat → Option (Option AV × List AC × Nat × Nat) := am_ra n0 tb_X5_searchFromNow rA [22, 41]
theorem rs_X5_searchFromNow_0 (n0 n : Nat) (L : AL) (st : List AV) (M : List AC) (c s : Nat) : rx_X5_searchFromNow n0 (n + 1) 0 L st M c s = if n0 ≤ M.length then am_jB (fun pc L st M => rx_X5_searchFromNow n0 n pc L st M c s) ((tAld 0 1) 0 L st M) else none := ra_L rfl n L st M c s
theorem rs_X5_searchFromNow_1 (n0 n : Nat) (L : AL) (st : List AV) (M : List AC) (c s : Nat) : rx_X5_searchFromNow n0 (n + 1) 1 L st M c s = if n0 ≤ M.length then am_jB (fun pc L st M => rx_X5_searchFromNow n0 n pc L st M c s) ((tGf 5 3) 1 L st M) else none := ra_L rfl n L st M c s
theorem rs_X5_searchFromNow_4 (n0 n : Nat) (L : AL) (st : List AV) (M : List AC) (c s : Nat) : rx_X5_searchFromNow n0 (n + 1) 4 L st M c s = if n0 ≤ M.length then am_jB (fun pc L st M => rx_X5_searchFromNow n0 n pc L st M c s) ((tAld 0 1) 4 L st M) else none := ra_L rfl n L st M c s
theorem rs_X5_searchFromNow_5 (n0 n : Nat) (L : AL) (st : List AV) (M : List AC) (c s : Nat) : rx_X5_searchFromNow n0 (n + 1) 5 L st M c s = if n0 ≤ M.length then am_jB (fun pc L st M => rx_X5_searchFromNow n0 n pc L st M c s) ((tGf 5 2) 5 L st M) else none := ra_L rfl n L st M c s
theorem rs_X5_searchFromNow_8 (n0 n : Nat) (L : AL) (st : List AV) (M : List AC) (c s : Nat) : rx_X5_searchFromNow n0 (n + 1) 8 L st M c s = if n0 ≤ M.length then am_jB (fun pc L st M => rx_X5_searchFromNow n0 n pc L st M c s) ((tCv 4 1 fn_X4_become) 8 L st M) else none := ra_L rfl n L st M c s
theorem rs_X5_searchFromNow_11 (n0 n : Nat) (L : AL) (st : List AV) (M : List AC) (c s : Nat) : rx_X5_searchFromNow n0 (n + 1) 11 L st M c s = if n0 ≤ M.length then am_jB (fun pc L st M => rx_X5_searchFromNow n0 n pc L st M c s) ((tAld 0 1) 11 L st M) else none := ra_L rfl n L st M c s
theorem rs_X5_searchFromNow_12 (n0 n : Nat) (L : AL) (st : List AV) (M : List AC) (c s : Nat) : rx_X5_searchFromNow n0 (n + 1) 12 L st M c s = if n0 ≤ M.length then am_jB (fun pc L st M => rx_X5_searchFromNow n0 n pc L st M c s) ((tGf 5 11) 12 L st M) else none := ra_L rfl n L st M c s
theorem rs_X5_searchFromNow_15 (n0 n : Nat) (L : AL) (st : List AV) (M : List AC) (c s : Nat) : rx_X5_searchFromNow n0 (n + 1) 15 L st M c s = if n0 ≤ M.length then am_jB (fun pc L st M => rx_X5_searchFromNow n0 n pc L st M c s) ((tNu 23) 15 L st M) else none := ra_L rfl n L st M c s
theorem rs_X5_searchFromNow_18 (n0 n : Nat) (L : AL) (st : List AV) (M : List AC) (c s : Nat) : rx_X5_searchFromNow n0 (n + 1) 18 L st M c s = if n0 ≤ M.length then am_jB (fun pc L st M => rx_X5_searchFromNow n0 n pc L st M c s) ((tAld 0 1) 18 L st M) else none := ra_L rfl n L st M c s
theorem rs_X5_searchFromNow_19 (n0 n : Nat) (L : AL) (st : List AV) (M : List AC) (c s : Nat) : rx_X5_searchFromNow n0 (n + 1) 19 L st M c s = if n0 ≤ M.length then am_jB (fun pc L st M => rx_X5_searchFromNow n0 n pc L st M c s) ((tGf 5 11) 19 L st M) else none := ra_L rfl n L st M c s
theorem rs_X5_searchFromNow_23 (n0 n : Nat) (L : AL) (st : List AV) (M : List AC) (c s : Nat) : rx_X5_searchFromNow n0 (n + 1) 23 L st M c s = if n0 ≤ M.length then am_jC (rx_X5_searchFromNow n0 n) ((tNew 3 6 [vN, vN, vI 0, vN, vN, vI 0]) 23 L st M) c s else none := ra_A rfl n L st M c s
theorem rs_X5_searchFromNow_26 (n0 n : Nat) (L : AL) (st : List AV) (M : List AC) (c s : Nat) : rx_X5_searchFromNow n0 (n + 1) 26 L st M c s = if n0 ≤ M.length then am_jB (fun pc L st M => rx_X5_searchFromNow n0 n pc L st M c s) (tDup 26 L st M) else none := ra_L rfl n L st M c s
theorem rs_X5_searchFromNow_27 (n0 n : Nat) (L : AL) (st : List AV) (M : List AC) (c s : Nat) : rx_X5_searchFromNow n0 (n + 1) 27 L st M c s = if n0 ≤ M.length then am_jB (fun pc L st M => rx_X5_searchFromNow n0 n pc L st M c s) ((tAld 0 1) 27 L st M) else none := ra_L rfl n L st M c s
theorem rs_X5_searchFromNow_28 (n0 n : Nat) (L : AL) (st : List AV) (M : List AC) (c s : Nat) : rx_X5_searchFromNow n0 (n + 1) 28 L st M c s = if n0 ≤ M.length then am_jB (fun pc L st M => rx_X5_searchFromNow n0 n pc L st M c s) ((tGf 5 3) 28 L st M) else none := ra_L rfl n L st M c s
theorem rs_X5_searchFromNow_31 (n0 n : Nat) (L : AL) (st : List AV) (M : List AC) (c s : Nat) : rx_X5_searchFromNow n0 (n + 1) 31 L st M c s = if n0 ≤ M.length then am_jC (rx_X5_searchFromNow n0 n) ((tCi 1 fn_X3_init) 31 L st M) c s else none := ra_A rfl n L st M c s
theorem rs_X5_searchFromNow_34 (n0 n : Nat) (L : AL) (st : List AV) (M : List AC) (c s : Nat) : rx_X5_searchFromNow n0 (n + 1) 34 L st M c s = if n0 ≤ M.length then am_jB (fun pc L st M => rx_X5_searchFromNow n0 n pc L st M c s) ((tAst 1 1) 34 L st M) else none := ra_L rfl n L st M c s
theorem rs_X5_searchFromNow_35 (n0 n : Nat) (L : AL) (st : List AV) (M : List AC) (c s : Nat) : rx_X5_searchFromNow n0 (n + 1) 35 L st M c s = if n0 ≤ M.length then am_jB (fun pc L st M => rx_X5_searchFromNow n0 n pc L st M c s) ((tAld 0 1) 35 L st M) else none := ra_L rfl n L st M c s
theorem rs_X5_searchFromNow_36 (n0 n : Nat) (L : AL) (st : List AV) (M : List AC) (c s : Nat) : rx_X5_searchFromNow n0 (n + 1) 36 L st M c s = if n0 ≤ M.length then am_jB (fun pc L st M => rx_X5_searchFromNow n0 n pc L st M c s) ((tAld 1 1) 36 L st M) else none := ra_L rfl n L st M c s
theorem rs_X5_searchFromNow_37 (n0 n : Nat) (L : AL) (st : List AV) (M : List AC) (c s : Nat) : rx_X5_searchFromNow n0 (n + 1) 37 L st M c s = if n0 ≤ M.length then am_jB (fun pc L st M => rx_X5_searchFromNow n0 n pc L st M c s) ((tPf kR 5 11) 37 L st M) else none := ra_L rfl n L st M c s
theorem rs_X5_searchFromNow_40 (n0 n : Nat) (L : AL) (st : List AV) (M : List AC) (c s : Nat) : rx_X5_searchFromNow n0 (n + 1) 40 L st M c s = if n0 ≤ M.length then am_jB (fun pc L st M => rx_X5_searchFromNow n0 n pc L st M c s) ((tAld 1 1) 40 L st M) else none := ra_L rfl n L st M c s
theorem rs_X5_searchFromNow_22 (n0 n : Nat) (L : AL) (st : List AV) (M : List AC) (c s : Nat) : rx_X5_searchFromNow n0 (n + 1) 22 L st M c s = am_eA rA st M c s := ra_R rfl rfl n L st M c s
theorem rs_X5_searchFromNow_41 (n0 n : Nat) (L : AL) (st : List AV) (M : List AC) (c s : Nat) : rx_X5_searchFromNow n0 (n + 1) 41 L st M c s = am_eA rA st M c s := ra_R rfl rfl n L st M c s
theorem ri_X5_searchFromNow (c : Prop) [Decidable c] (p q n0 n : Nat) (L : AL) (st : List AV) (M : List AC) (x y : Nat) : rx_X5_searchFromNow n0 n (if c then p else q) L st M x y = if c then rx_X5_searchFromNow n0 n p L st M x y else rx_X5_searchFromNow n0 n q L st M x y := by split <;> rfl
theorem rm_X5_searchFromNow {n0 n k pc : Nat} {L : AL} {st : List AV} {M : List AC} {c s : Nat} {x : Option AV × List AC × Nat × Nat} (h : rx_X5_searchFromNow n0 n pc L st M c s = some x) (hk : n ≤ k) : rx_X5_searchFromNow n0 k pc L st M c s = some x := am_ra_mono n k h hk
def fn_X5_searchFromNow : FnA := am_fnA tb_X5_searchFromNow rA [22, 41] 2
theorem fok_X5_searchFromNow : FokA mi_X5_searchFromNow fn_X5_searchFromNow := am_fokA (fun a => ok_X5_searchFromNow a _) rk_X5_searchFromNow rfl
/-- the search is there -/
theorem sf_X5_b {M : List AC} {len fa ac : Int} {sd : Int64} (h0 : M[0]? = some (co len fa ac (vR 43) sd)) {st : Int} {g s d b : F4} (hs : HS M 2 st g s d b) {st' : Int} {g' s' d' b' : F4} (hs' : HS M 7 st' g' s' d' b') : fn_X5_searchFromNow [vR 0] M = some (some (vR 43), T5 M st g s d b, 0, 0) := by
  obtain ⟨j0, -⟩ := hs'.seven
  have q1 := T5_bec hs hs'
  have v0 := (T5_ne M st g s d b 0 (by omega)).trans h0
  have eL : (T5 M st g s d b).length = M.length := by simp [T5]
  generalize T5 M st g s d b = V at q1 v0 eL ⊢
  simp only [co] at h0 v0
  (refine am_fnAI (tb := tb_X5_searchFromNow) (n := 60) (Nat.le_of_ble_eq_true rfl) (Nat.le_of_ble_eq_true rfl) ?_; show rx_X5_searchFromNow _ 60 0 _ _ _ _ _ = _)
  simp [↓ri_X5_searchFromNow, rs_X5_searchFromNow_0, rs_X5_searchFromNow_1, rs_X5_searchFromNow_4, rs_X5_searchFromNow_5, rs_X5_searchFromNow_8, rs_X5_searchFromNow_11, rs_X5_searchFromNow_12, rs_X5_searchFromNow_15, rs_X5_searchFromNow_18, rs_X5_searchFromNow_19, rs_X5_searchFromNow_23, rs_X5_searchFromNow_26, rs_X5_searchFromNow_27, rs_X5_searchFromNow_28, rs_X5_searchFromNow_31, rs_X5_searchFromNow_34, rs_X5_searchFromNow_35, rs_X5_searchFromNow_36, rs_X5_searchFromNow_37, rs_X5_searchFromNow_40, rs_X5_searchFromNow_22, rs_X5_searchFromNow_41, -List.getElem?_eq_getElem, am_js, am_e, am_in, am_sl, rI, rZ, rV, rJ, rA, rC, kI, kJ, kR, am_one, am_nl, am_w8, tIc, tLc, tNul, tIld, tLld, tAld, tIst, tLst, tAst, tIinc, tI2, tDv, tL2, tLrem, tLs, tLcmp, tI2l, tL2i, tI2c, tDup, tDup2, tPop, tGo, tIfeq, tIfne, tIflt, tIfge, tIfgt, tIfle, tCmeq, tCmne, tCmlt, tCmge, tCmgt, tCmle, tNu, tTs, tGf, tPf, tGs, tIal, tIas, tBal, tBas, tAln, tSv, tSc, tSb, tSl, tSk, tCv, tCs, tCt, tMx, tMn, wr_10000, wr_100000, wr_1000000, wr_10000000, wr_100000000, wr_2400, wr_9999, wr_0, wr_1, wr_2, wr_3, wr_4, wr_5, wr_6, wr_7, wr_8, wr_9, wr_10, wr_11, wr_12, wr_13, wr_14, wr_15, wr_16, wr_17, wr_18, wr_19, wr_20, wr_21, wr_22, wr_23, wr_24, wr_25, wr_26, wr_27, wr_28, wr_29, wr_30, wr_31, wr_32, wr_33, wr_34, wr_35, wr_36, wr_37, wr_38, wr_39, wr_40, wr_41, wr_42, wr_43, wr_44, wr_45, wr_46, wr_47, wr_48, wr_49, wr_50, wr_51, wr_52, wr_53, wr_54, wr_55, wr_56, wr_57, wr_58, wr_59, wr_60, wr_61, wr_62, wr_63, wr_99, wr_100, wr_192, wr_255, wr_256, wr_343, wr_999, wr_1000, wr_2401, wr_2147483647, wr_65535, wr_m1, wr_m2, wr_m3, wr_m4, wr_m9, ak_1000, ak_1001, ak_1002, ak_0, ak_1, ak_2, ak_3, ak_4, ak_5, ak_6, ak_7, ak_8, ak_9, ak_10, ak_11, ak_12, ak_13, ak_14, ak_15, ak_16, ak_17, ak_18, ak_19, ak_20, ak_21, ak_22, ak_23, ak_24, ak_25, ak_26, ak_27, ak_28, ak_29, ak_30, ak_31, ak_32, ak_33, ak_34, ak_35, ak_36, ak_37, ak_38, ak_39, ak_40, ak_41, ak_42, ak_43, ak_44, ak_45, ak_46, ak_47, am_jBs, am_jCs, am_eA, tNew, tNewa, tCi, tCva, tObj, am_ok, am_lk2, am_rk, am_ck, h0, j0, q1, v0, eL]
theorem ck_up {n k : Nat} (h : n ≤ k) {M : List AC} (hM : M.all (am_ck n) = true) : M.all (am_ck k) = true := by
  rw [List.all_eq_true] at hM ⊢
  intro c hc
  have h1 := hM c hc
  rcases c with ⟨_, l⟩ | ⟨ci, fs⟩
  · rfl
  · unfold am_ck at h1 ⊢
    dsimp only at h1 ⊢
    rw [List.all_eq_true] at h1 ⊢
    intro v hv
    have h2 := h1 v hv
    rcases v with z | w | (_ | q)
    · rfl
    · rfl
    · rfl
    · unfold am_rk at h2 ⊢
      dsimp only at h2 ⊢
      have h3 := of_decide_eq_true h2
      exact decide_eq_true (by omega)
theorem ck_set {n : Nat} {M : List AC} (hM : M.all (am_ck n) = true) (i : Nat) {c : AC} (hc : am_ck n c = true) : (M.set i c).all (am_ck n) = true := by
  rw [List.all_eq_true] at hM ⊢
  intro x hx
  rcases List.mem_or_eq_of_mem_set hx with h | h
  · exact hM x h
  · rw [h]; exact hc
theorem T5_ck {M : List AC} (hM : M.all (am_ck 43) = true) (st : Int) (g s d b : F4) : (T5 M st g s d b).all (am_ck 43) = true := by
  unfold T5
  exact ck_set (ck_set (ck_set (ck_set (ck_set hM 7 rfl) 8 rfl) 9 rfl) 10 rfl) 11 rfl
theorem ap_g {V : List AC} (hV : V.length = 43) (l : List AC) (k : Nat) : (V ++ l)[43 + k]? = l[k]? := by
  rw [List.getElem?_append_right (by omega), hV]
  congr 1
  omega
theorem ap_l {V : List AC} (hV : V.length = 43) (l : List AC) (i : Nat) (h : i < 43) : (V ++ l)[i]? = V[i]? := List.getElem?_append_left (by omega)
theorem ap_s {V : List AC} (hV : V.length = 43) (l : List AC) (k : Nat) (c : AC) : (V ++ l).set (43 + k) c = V ++ l.set k c := by
  rw [List.set_append_right _ _ (by omega), hV]
  congr 2
  omega
theorem ap_t {V : List AC} (hV : V.length = 43) (l : List AC) (i : Nat) (h : i < 43) (c : AC) : (V ++ l).set i c = V.set i c ++ l := List.set_append_left _ _ (by omega)
/-- a new search -/
theorem mk_X3 {V : List AC} (hV : V.length = 43) (hok : V.all (am_ck 43) = true) : fn_X3_init [vR 43, vR 7] (V ++ [aO 3 [vN, vN, vI 0, vN, vN, vI 0]]) = some (none, V ++ [se 0 0, aI Z24, aI Z24, aI Z24], 3, 7203) := by
  have k4 := ck_up (k := 44) (by decide) hok
  have k5 := ck_up (k := 45) (by decide) hok
  have k6 := ck_up (k := 46) (by decide) hok
  have g0 : ∀ l : List AC, (V ++ l)[43]? = l[0]? := fun l => ap_g hV l 0
  have s0 : ∀ (l : List AC) (c : AC), (V ++ l).set 43 c = V ++ l.set 0 c := fun l c => ap_s hV l 0 c
  have hz : List.replicate 2401 (0 : Int) = Z24 := rfl
  have hsec : ∀ z gl, se z gl = aO 3 [vR 7, vR 44, vI z, vR 45, vR 46, vI gl] := fun _ _ => rfl
  rw [hsec]
  generalize Z24 = Z at hz ⊢
  (refine am_fnAI (tb := tb_X3_init) (n := 100) (Nat.le_of_ble_eq_true rfl) (Nat.le_of_ble_eq_true rfl) ?_; show rx_X3_init _ 100 0 _ _ _ _ _ = _)
  simp [↓ri_X3_init, rs_X3_init_0, rs_X3_init_1, rs_X3_init_4, rs_X3_init_5, rs_X3_init_8, rs_X3_init_10, rs_X3_init_13, rs_X3_init_14, rs_X3_init_15, rs_X3_init_18, rs_X3_init_19, rs_X3_init_22, rs_X3_init_24, rs_X3_init_27, rs_X3_init_28, rs_X3_init_31, rs_X3_init_33, rs_X3_init_36, rs_X3_init_37, rs_X3_init_38, rs_X3_init_41, rs_X3_init_42, rs_X3_init_43, rs_X3_init_46, -List.getElem?_eq_getElem, am_js, am_e, am_in, am_sl, rI, rZ, rV, rJ, rA, rC, kI, kJ, kR, am_one, am_nl, am_w8, tIc, tLc, tNul, tIld, tLld, tAld, tIst, tLst, tAst, tIinc, tI2, tDv, tL2, tLrem, tLs, tLcmp, tI2l, tL2i, tI2c, tDup, tDup2, tPop, tGo, tIfeq, tIfne, tIflt, tIfge, tIfgt, tIfle, tCmeq, tCmne, tCmlt, tCmge, tCmgt, tCmle, tNu, tTs, tGf, tPf, tGs, tIal, tIas, tBal, tBas, tAln, tSv, tSc, tSb, tSl, tSk, tCv, tCs, tCt, tMx, tMn, wr_10000, wr_100000, wr_1000000, wr_10000000, wr_100000000, wr_2400, wr_9999, wr_0, wr_1, wr_2, wr_3, wr_4, wr_5, wr_6, wr_7, wr_8, wr_9, wr_10, wr_11, wr_12, wr_13, wr_14, wr_15, wr_16, wr_17, wr_18, wr_19, wr_20, wr_21, wr_22, wr_23, wr_24, wr_25, wr_26, wr_27, wr_28, wr_29, wr_30, wr_31, wr_32, wr_33, wr_34, wr_35, wr_36, wr_37, wr_38, wr_39, wr_40, wr_41, wr_42, wr_43, wr_44, wr_45, wr_46, wr_47, wr_48, wr_49, wr_50, wr_51, wr_52, wr_53, wr_54, wr_55, wr_56, wr_57, wr_58, wr_59, wr_60, wr_61, wr_62, wr_63, wr_99, wr_100, wr_192, wr_255, wr_256, wr_343, wr_999, wr_1000, wr_2401, wr_2147483647, wr_65535, wr_m1, wr_m2, wr_m3, wr_m4, wr_m9, ak_1000, ak_1001, ak_1002, ak_0, ak_1, ak_2, ak_3, ak_4, ak_5, ak_6, ak_7, ak_8, ak_9, ak_10, ak_11, ak_12, ak_13, ak_14, ak_15, ak_16, ak_17, ak_18, ak_19, ak_20, ak_21, ak_22, ak_23, ak_24, ak_25, ak_26, ak_27, ak_28, ak_29, ak_30, ak_31, ak_32, ak_33, ak_34, ak_35, ak_36, ak_37, ak_38, ak_39, ak_40, ak_41, ak_42, ak_43, ak_44, ak_45, ak_46, ak_47, am_jBs, am_jCs, am_eA, tNew, tNewa, tCi, tCva, tObj, am_ok, am_lk2, am_rk, am_ck, -List.reduceReplicate, hz, hV, k4, k5, k6, g0, s0]
theorem sf_X5_a {M : List AC} {len fa ac : Int} {sd : Int64} (h0 : M[0]? = some (co len fa ac vN sd)) {st : Int} {g s d b : F4} (hs : HS M 2 st g s d b) {st' : Int} {g' s' d' b' : F4} (hs' : HS M 7 st' g' s' d' b') (hM : M.length = 43) (hok : M.all (am_ck 43) = true) : fn_X5_searchFromNow [vR 0] M = some (some (vR 43), (T5 M st g s d b).set 0 (co len fa ac (vR 43) sd) ++ [se 0 0, aI Z24, aI Z24, aI Z24], 4, 7209) := by
  obtain ⟨j0, -⟩ := hs'.seven
  have q1 := T5_bec hs hs'
  have v0 := (T5_ne M st g s d b 0 (by omega)).trans h0
  have v7 := (T5_HS hs' st g s d b).seven.1
  have eL : (T5 M st g s d b).length = 43 := by simp [T5, hM]
  have hck := T5_ck hok st g s d b
  generalize T5 M st g s d b = V at q1 v0 v7 eL hck ⊢
  have k4 := ck_up (k := 44) (by decide) hck
  have q2 := mk_X3 eL hck
  have l0 : ∀ l : List AC, (V ++ l)[0]? = V[0]? := fun l => ap_l eL l 0 (by decide)
  have l7 : ∀ l : List AC, (V ++ l)[7]? = V[7]? := fun l => ap_l eL l 7 (by decide)
  have t0 : ∀ (l : List AC) (c : AC), (V ++ l).set 0 c = V.set 0 c ++ l := fun l c => ap_t eL l 0 (by decide) c
  generalize [se 0 0, aI Z24, aI Z24, aI Z24] = W at q2 ⊢
  simp only [co] at h0 v0 ⊢
  (refine am_fnAI (tb := tb_X5_searchFromNow) (n := 100) (Nat.le_of_ble_eq_true rfl) (Nat.le_of_ble_eq_true rfl) ?_; show rx_X5_searchFromNow _ 100 0 _ _ _ _ _ = _)
  simp [↓ri_X5_searchFromNow, rs_X5_searchFromNow_0, rs_X5_searchFromNow_1, rs_X5_searchFromNow_4, rs_X5_searchFromNow_5, rs_X5_searchFromNow_8, rs_X5_searchFromNow_11, rs_X5_searchFromNow_12, rs_X5_searchFromNow_15, rs_X5_searchFromNow_18, rs_X5_searchFromNow_19, rs_X5_searchFromNow_23, rs_X5_searchFromNow_26, rs_X5_searchFromNow_27, rs_X5_searchFromNow_28, rs_X5_searchFromNow_31, rs_X5_searchFromNow_34, rs_X5_searchFromNow_35, rs_X5_searchFromNow_36, rs_X5_searchFromNow_37, rs_X5_searchFromNow_40, rs_X5_searchFromNow_22, rs_X5_searchFromNow_41, -List.getElem?_eq_getElem, am_js, am_e, am_in, am_sl, rI, rZ, rV, rJ, rA, rC, kI, kJ, kR, am_one, am_nl, am_w8, tIc, tLc, tNul, tIld, tLld, tAld, tIst, tLst, tAst, tIinc, tI2, tDv, tL2, tLrem, tLs, tLcmp, tI2l, tL2i, tI2c, tDup, tDup2, tPop, tGo, tIfeq, tIfne, tIflt, tIfge, tIfgt, tIfle, tCmeq, tCmne, tCmlt, tCmge, tCmgt, tCmle, tNu, tTs, tGf, tPf, tGs, tIal, tIas, tBal, tBas, tAln, tSv, tSc, tSb, tSl, tSk, tCv, tCs, tCt, tMx, tMn, wr_10000, wr_100000, wr_1000000, wr_10000000, wr_100000000, wr_2400, wr_9999, wr_0, wr_1, wr_2, wr_3, wr_4, wr_5, wr_6, wr_7, wr_8, wr_9, wr_10, wr_11, wr_12, wr_13, wr_14, wr_15, wr_16, wr_17, wr_18, wr_19, wr_20, wr_21, wr_22, wr_23, wr_24, wr_25, wr_26, wr_27, wr_28, wr_29, wr_30, wr_31, wr_32, wr_33, wr_34, wr_35, wr_36, wr_37, wr_38, wr_39, wr_40, wr_41, wr_42, wr_43, wr_44, wr_45, wr_46, wr_47, wr_48, wr_49, wr_50, wr_51, wr_52, wr_53, wr_54, wr_55, wr_56, wr_57, wr_58, wr_59, wr_60, wr_61, wr_62, wr_63, wr_99, wr_100, wr_192, wr_255, wr_256, wr_343, wr_999, wr_1000, wr_2401, wr_2147483647, wr_65535, wr_m1, wr_m2, wr_m3, wr_m4, wr_m9, ak_1000, ak_1001, ak_1002, ak_0, ak_1, ak_2, ak_3, ak_4, ak_5, ak_6, ak_7, ak_8, ak_9, ak_10, ak_11, ak_12, ak_13, ak_14, ak_15, ak_16, ak_17, ak_18, ak_19, ak_20, ak_21, ak_22, ak_23, ak_24, ak_25, ak_26, ak_27, ak_28, ak_29, ak_30, ak_31, ak_32, ak_33, ak_34, ak_35, ak_36, ak_37, ak_38, ak_39, ak_40, ak_41, ak_42, ak_43, ak_44, ak_45, ak_46, ak_47, am_jBs, am_jCs, am_eA, tNew, tNewa, tCi, tCva, tObj, am_ok, am_lk2, am_rk, am_ck, ↓h0, ↓j0, q1, ↓v0, ↓v7, eL, hM, hck, k4, q2, ↓l0, ↓l7, t0]
end
