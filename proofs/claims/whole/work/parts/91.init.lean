noncomputable section
theorem df_X0 : ∀ (ad : Nat → Nat) (j : Nat), j < 3 → defaultValue (tyX0 j) = vp_V (([vI 0, vN, vN] : List AV).map (am_v ad)) j := by
  intro ad j hj
  match j, hj with
  | 0, _ => rfl
  | 1, _ => rfl
  | 2, _ => rfl
theorem df_X1 : ∀ (ad : Nat → Nat) (j : Nat), j < 3 → defaultValue (tyX1 j) = vp_V (([vN, vN, vN] : List AV).map (am_v ad)) j := by
  intro ad j hj
  match j, hj with
  | 0, _ => rfl
  | 1, _ => rfl
  | 2, _ => rfl
theorem df_X2 : ∀ (ad : Nat → Nat) (j : Nat), j < 1 → defaultValue (tyX2 j) = vp_V (([vN] : List AV).map (am_v ad)) j := by
  intro ad j hj
  match j, hj with
  | 0, _ => rfl
theorem df_X3 : ∀ (ad : Nat → Nat) (j : Nat), j < 6 → defaultValue (tyX3 j) = vp_V (([vN, vN, vI 0, vN, vN, vI 0] : List AV).map (am_v ad)) j := by
  intro ad j hj
  match j, hj with
  | 0, _ => rfl
  | 1, _ => rfl
  | 2, _ => rfl
  | 3, _ => rfl
  | 4, _ => rfl
  | 5, _ => rfl
theorem df_X4 : ∀ (ad : Nat → Nat) (j : Nat), j < 5 → defaultValue (tyX4 j) = vp_V (([vI 0, vN, vN, vN, vN] : List AV).map (am_v ad)) j := by
  intro ad j hj
  match j, hj with
  | 0, _ => rfl
  | 1, _ => rfl
  | 2, _ => rfl
  | 3, _ => rfl
  | 4, _ => rfl
theorem df_X5 : ∀ (ad : Nat → Nat) (j : Nat), j < 13 → defaultValue (tyX5 j) = vp_V (([vN, vI 0, vN, vN, vN, vN, vI 0, vI 0, vN, vN, vN, vN, vJ 0] : List AV).map (am_v ad)) j := by
  intro ad j hj
  match j, hj with
  | 0, _ => rfl
  | 1, _ => rfl
  | 2, _ => rfl
  | 3, _ => rfl
  | 4, _ => rfl
  | 5, _ => rfl
  | 6, _ => rfl
  | 7, _ => rfl
  | 8, _ => rfl
  | 9, _ => rfl
  | 10, _ => rfl
  | 11, _ => rfl
  | 12, _ => rfl
theorem df_X6 : ∀ (ad : Nat → Nat) (j : Nat), j < 26 → defaultValue (tyX6 j) = vp_V (([vI 0, vN, vN, vI 0, vN, vN, vN, vI 0, vN, vN, vN, vI 0, vI 0, vN, vI 0, vI 0, vN, vN, vN, vN, vI 0, vI 0, vN, vJ 0, vN, vN] : List AV).map (am_v ad)) j := by
  intro ad j hj
  match j, hj with
  | 0, _ => rfl
  | 1, _ => rfl
  | 2, _ => rfl
  | 3, _ => rfl
  | 4, _ => rfl
  | 5, _ => rfl
  | 6, _ => rfl
  | 7, _ => rfl
  | 8, _ => rfl
  | 9, _ => rfl
  | 10, _ => rfl
  | 11, _ => rfl
  | 12, _ => rfl
  | 13, _ => rfl
  | 14, _ => rfl
  | 15, _ => rfl
  | 16, _ => rfl
  | 17, _ => rfl
  | 18, _ => rfl
  | 19, _ => rfl
  | 20, _ => rfl
  | 21, _ => rfl
  | 22, _ => rfl
  | 23, _ => rfl
  | 24, _ => rfl
  | 25, _ => rfl
  | n + 26, h => exact absurd h (by omega)
abbrev mi_X0_init : Mi := (yX0_init, cX0_init, 1, none, 2)
theorem mf_X0_init : am_mf mi_X0_init 0 := ⟨w_co_X0_init, w_in_X0, ⟨by decide +kernel, by decide +kernel⟩, by decide +kernel, by decide⟩
def tb_X0_init : List (Nat × TrA) := [(0, tL (tAld 0 1)), (1, tL tObj), (4, tL (tAld 0 1)), (5, tL (tIc 0 1)), (6, tL (tPf kI 0 0)), (9, tL (tAld 0 1)), (10, tL (tIc 3 1)), (11, tNewa false), (13, tL (tPf kR 0 1)), (16, tL (tAld 0 1)), (17, tL (tIc 3 1)), (18, tNewa false), (20, tL (tPf kR 0 2))]
theorem ok_X0_init (a : Am) (G : (Nat → Nat) → Prop) : TokG a mi_X0_init G tb_X0_init :=
  TcG (sd_L (sd_aload_n dX0_init_0)) <|
  TcG (sd_L (sd_obj w_ml_X0_3 dX0_init_1)) <|
  TcG (sd_L (sd_aload_n dX0_init_4)) <|
  TcG (sd_L (sd_iconst rfl dX0_init_5)) <|
  TcG (sd_L (sd_putf (T := TX0) rfl giX0 (by decide) w_fl_X0_9 tyX0 tyX0_ok nmX0 (kI_ok) rfl dX0_init_6)) <|
  TcG (sd_L (sd_aload_n dX0_init_9)) <|
  TcG (sd_L (sd_iconst rfl dX0_init_10)) <|
  TcG (sd_newa false rfl dX0_init_11) <|
  TcG (sd_L (sd_putF (T := TX0) rfl giX0 (by decide) w_fl_X0_15 tyX0 tyX0_ok nmX0 (kA_ok _) rfl rfl rfl dX0_init_13)) <|
  TcG (sd_L (sd_aload_n dX0_init_16)) <|
  TcG (sd_L (sd_iconst rfl dX0_init_17)) <|
  TcG (sd_newa false rfl dX0_init_18) <|
  TcG (sd_L (sd_putF (T := TX0) rfl giX0 (by decide) w_fl_X0_19 tyX0 tyX0_ok nmX0 (kA_ok _) rfl rfl rfl dX0_init_20)) <|
  TnG
theorem rk_X0_init : Rok mi_X0_init rV [23] := rk_v dX0_init_23 <| rk_n
def rx_X0_init (n0 : Nat) : Nat → Nat → AL → List AV → List AC → Nat → Nat → Option (Option AV × List AC × Nat × Nat) := am_ra n0 tb_X0_init rV [23]
theorem rs_X0_init_0 (n0 n : Nat) (L : AL) (st : List AV) (M : List AC) (c s : Nat) : rx_X0_init n0 (n + 1) 0 L st M c s = if n0 ≤ M.length then am_jB (fun pc L st M => rx_X0_init n0 n pc L st M c s) ((tAld 0 1) 0 L st M) else none := ra_L rfl n L st M c s
theorem rs_X0_init_1 (n0 n : Nat) (L : AL) (st : List AV) (M : List AC) (c s : Nat) : rx_X0_init n0 (n + 1) 1 L st M c s = if n0 ≤ M.length then am_jB (fun pc L st M => rx_X0_init n0 n pc L st M c s) (tObj 1 L st M) else none := ra_L rfl n L st M c s
theorem rs_X0_init_4 (n0 n : Nat) (L : AL) (st : List AV) (M : List AC) (c s : Nat) : rx_X0_init n0 (n + 1) 4 L st M c s = if n0 ≤ M.length then am_jB (fun pc L st M => rx_X0_init n0 n pc L st M c s) ((tAld 0 1) 4 L st M) else none := ra_L rfl n L st M c s
theorem rs_X0_init_5 (n0 n : Nat) (L : AL) (st : List AV) (M : List AC) (c s : Nat) : rx_X0_init n0 (n + 1) 5 L st M c s = if n0 ≤ M.length then am_jB (fun pc L st M => rx_X0_init n0 n pc L st M c s) ((tIc 0 1) 5 L st M) else none := ra_L rfl n L st M c s
theorem rs_X0_init_6 (n0 n : Nat) (L : AL) (st : List AV) (M : List AC) (c s : Nat) : rx_X0_init n0 (n + 1) 6 L st M c s = if n0 ≤ M.length then am_jB (fun pc L st M => rx_X0_init n0 n pc L st M c s) ((tPf kI 0 0) 6 L st M) else none := ra_L rfl n L st M c s
theorem rs_X0_init_9 (n0 n : Nat) (L : AL) (st : List AV) (M : List AC) (c s : Nat) : rx_X0_init n0 (n + 1) 9 L st M c s = if n0 ≤ M.length then am_jB (fun pc L st M => rx_X0_init n0 n pc L st M c s) ((tAld 0 1) 9 L st M) else none := ra_L rfl n L st M c s
theorem rs_X0_init_10 (n0 n : Nat) (L : AL) (st : List AV) (M : List AC) (c s : Nat) : rx_X0_init n0 (n + 1) 10 L st M c s = if n0 ≤ M.length then am_jB (fun pc L st M => rx_X0_init n0 n pc L st M c s) ((tIc 3 1) 10 L st M) else none := ra_L rfl n L st M c s
theorem rs_X0_init_11 (n0 n : Nat) (L : AL) (st : List AV) (M : List AC) (c s : Nat) : rx_X0_init n0 (n + 1) 11 L st M c s = if n0 ≤ M.length then am_jC (rx_X0_init n0 n) ((tNewa false) 11 L st M) c s else none := ra_A rfl n L st M c s
theorem rs_X0_init_13 (n0 n : Nat) (L : AL) (st : List AV) (M : List AC) (c s : Nat) : rx_X0_init n0 (n + 1) 13 L st M c s = if n0 ≤ M.length then am_jB (fun pc L st M => rx_X0_init n0 n pc L st M c s) ((tPf kR 0 1) 13 L st M) else none := ra_L rfl n L st M c s
theorem rs_X0_init_16 (n0 n : Nat) (L : AL) (st : List AV) (M : List AC) (c s : Nat) : rx_X0_init n0 (n + 1) 16 L st M c s = if n0 ≤ M.length then am_jB (fun pc L st M => rx_X0_init n0 n pc L st M c s) ((tAld 0 1) 16 L st M) else none := ra_L rfl n L st M c s
theorem rs_X0_init_17 (n0 n : Nat) (L : AL) (st : List AV) (M : List AC) (c s : Nat) : rx_X0_init n0 (n + 1) 17 L st M c s = if n0 ≤ M.length then am_jB (fun pc L st M => rx_X0_init n0 n pc L st M c s) ((tIc 3 1) 17 L st M) else none := ra_L rfl n L st M c s
theorem rs_X0_init_18 (n0 n : Nat) (L : AL) (st : List AV) (M : List AC) (c s : Nat) : rx_X0_init n0 (n + 1) 18 L st M c s = if n0 ≤ M.length then am_jC (rx_X0_init n0 n) ((tNewa false) 18 L st M) c s else none := ra_A rfl n L st M c s
theorem rs_X0_init_20 (n0 n : Nat) (L : AL) (st : List AV) (M : List AC) (c s : Nat) : rx_X0_init n0 (n + 1) 20 L st M c s = if n0 ≤ M.length then am_jB (fun pc L st M => rx_X0_init n0 n pc L st M c s) ((tPf kR 0 2) 20 L st M) else none := ra_L rfl n L st M c s
theorem rs_X0_init_23 (n0 n : Nat) (L : AL) (st : List AV) (M : List AC) (c s : Nat) : rx_X0_init n0 (n + 1) 23 L st M c s = am_eA rV st M c s := ra_R rfl rfl n L st M c s
theorem ri_X0_init (c : Prop) [Decidable c] (p q n0 n : Nat) (L : AL) (st : List AV) (M : List AC) (x y : Nat) : rx_X0_init n0 n (if c then p else q) L st M x y = if c then rx_X0_init n0 n p L st M x y else rx_X0_init n0 n q L st M x y := by split <;> rfl
theorem rm_X0_init {n0 n k pc : Nat} {L : AL} {st : List AV} {M : List AC} {c s : Nat} {x : Option AV × List AC × Nat × Nat} (h : rx_X0_init n0 n pc L st M c s = some x) (hk : n ≤ k) : rx_X0_init n0 k pc L st M c s = some x := am_ra_mono n k h hk
def fn_X0_init : FnA := am_fnA tb_X0_init rV [23] 1
theorem fok_X0_init : FokA mi_X0_init fn_X0_init := am_fokA (fun a => ok_X0_init a _) rk_X0_init rfl
abbrev mi_X1_init : Mi := (yX1_init, cX1_init, 3, none, 2)
theorem mf_X1_init : am_mf mi_X1_init 1 := ⟨w_co_X1_init, w_in_X1, ⟨by decide +kernel, by decide +kernel⟩, by decide +kernel, by decide⟩
def tb_X1_init : List (Nat × TrA) := [(0, tL (tAld 0 1)), (1, tL tObj), (4, tL (tIc 0 1)), (5, tL (tIld 1 1)), (6, tL tMx), (9, tL (tIst 2 1)), (10, tL (tAld 0 1)), (11, tL (tIld 2 1)), (12, tNewa false), (14, tL (tPf kR 1 0)), (17, tL (tAld 0 1)), (18, tL (tIld 2 1)), (19, tNewa false), (21, tL (tPf kR 1 1)), (24, tL (tAld 0 1)), (25, tL (tIld 2 1)), (26, tNewa false), (28, tL (tPf kR 1 2))]
theorem ok_X1_init (a : Am) (G : (Nat → Nat) → Prop) : TokG a mi_X1_init G tb_X1_init :=
  TcG (sd_L (sd_aload_n dX1_init_0)) <|
  TcG (sd_L (sd_obj w_ml_X1_1 dX1_init_1)) <|
  TcG (sd_L (sd_iconst rfl dX1_init_4)) <|
  TcG (sd_L (sd_iload_n dX1_init_5)) <|
  TcG (sd_L (sd_mx w_ml_X1_7 dX1_init_6)) <|
  TcG (sd_L (sd_istore_n dX1_init_9)) <|
  TcG (sd_L (sd_aload_n dX1_init_10)) <|
  TcG (sd_L (sd_iload_n dX1_init_11)) <|
  TcG (sd_newa false rfl dX1_init_12) <|
  TcG (sd_L (sd_putF (T := TX1) rfl giX1 (by decide) w_fl_X1_13 tyX1 tyX1_ok nmX1 (kA_ok _) rfl rfl rfl dX1_init_14)) <|
  TcG (sd_L (sd_aload_n dX1_init_17)) <|
  TcG (sd_L (sd_iload_n dX1_init_18)) <|
  TcG (sd_newa false rfl dX1_init_19) <|
  TcG (sd_L (sd_putF (T := TX1) rfl giX1 (by decide) w_fl_X1_19 tyX1 tyX1_ok nmX1 (kA_ok _) rfl rfl rfl dX1_init_21)) <|
  TcG (sd_L (sd_aload_n dX1_init_24)) <|
  TcG (sd_L (sd_iload_n dX1_init_25)) <|
  TcG (sd_newa false rfl dX1_init_26) <|
  TcG (sd_L (sd_putF (T := TX1) rfl giX1 (by decide) w_fl_X1_22 tyX1 tyX1_ok nmX1 (kA_ok _) rfl rfl rfl dX1_init_28)) <|
  TnG
theorem rk_X1_init : Rok mi_X1_init rV [31] := rk_v dX1_init_31 <| rk_n
def rx_X1_init (n0 : Nat) : Nat → Nat → AL → List AV → List AC → Nat → Nat → Option (Option AV × List AC × Nat × Nat) := am_ra n0 tb_X1_init rV [31]
theorem rs_X1_init_0 (n0 n : Nat) (L : AL) (st : List AV) (M : List AC) (c s : Nat) : rx_X1_init n0 (n + 1) 0 L st M c s = if n0 ≤ M.length then am_jB (fun pc L st M => rx_X1_init n0 n pc L st M c s) ((tAld 0 1) 0 L st M) else none := ra_L rfl n L st M c s
theorem rs_X1_init_1 (n0 n : Nat) (L : AL) (st : List AV) (M : List AC) (c s : Nat) : rx_X1_init n0 (n + 1) 1 L st M c s = if n0 ≤ M.length then am_jB (fun pc L st M => rx_X1_init n0 n pc L st M c s) (tObj 1 L st M) else none := ra_L rfl n L st M c s
theorem rs_X1_init_4 (n0 n : Nat) (L : AL) (st : List AV) (M : List AC) (c s : Nat) : rx_X1_init n0 (n + 1) 4 L st M c s = if n0 ≤ M.length then am_jB (fun pc L st M => rx_X1_init n0 n pc L st M c s) ((tIc 0 1) 4 L st M) else none := ra_L rfl n L st M c s
theorem rs_X1_init_5 (n0 n : Nat) (L : AL) (st : List AV) (M : List AC) (c s : Nat) : rx_X1_init n0 (n + 1) 5 L st M c s = if n0 ≤ M.length then am_jB (fun pc L st M => rx_X1_init n0 n pc L st M c s) ((tIld 1 1) 5 L st M) else none := ra_L rfl n L st M c s
theorem rs_X1_init_6 (n0 n : Nat) (L : AL) (st : List AV) (M : List AC) (c s : Nat) : rx_X1_init n0 (n + 1) 6 L st M c s = if n0 ≤ M.length then am_jB (fun pc L st M => rx_X1_init n0 n pc L st M c s) (tMx 6 L st M) else none := ra_L rfl n L st M c s
theorem rs_X1_init_9 (n0 n : Nat) (L : AL) (st : List AV) (M : List AC) (c s : Nat) : rx_X1_init n0 (n + 1) 9 L st M c s = if n0 ≤ M.length then am_jB (fun pc L st M => rx_X1_init n0 n pc L st M c s) ((tIst 2 1) 9 L st M) else none := ra_L rfl n L st M c s
theorem rs_X1_init_10 (n0 n : Nat) (L : AL) (st : List AV) (M : List AC) (c s : Nat) : rx_X1_init n0 (n + 1) 10 L st M c s = if n0 ≤ M.length then am_jB (fun pc L st M => rx_X1_init n0 n pc L st M c s) ((tAld 0 1) 10 L st M) else none := ra_L rfl n L st M c s
theorem rs_X1_init_11 (n0 n : Nat) (L : AL) (st : List AV) (M : List AC) (c s : Nat) : rx_X1_init n0 (n + 1) 11 L st M c s = if n0 ≤ M.length then am_jB (fun pc L st M => rx_X1_init n0 n pc L st M c s) ((tIld 2 1) 11 L st M) else none := ra_L rfl n L st M c s
theorem rs_X1_init_12 (n0 n : Nat) (L : AL) (st : List AV) (M : List AC) (c s : Nat) : rx_X1_init n0 (n + 1) 12 L st M c s = if n0 ≤ M.length then am_jC (rx_X1_init n0 n) ((tNewa false) 12 L st M) c s else none := ra_A rfl n L st M c s
theorem rs_X1_init_14 (n0 n : Nat) (L : AL) (st : List AV) (M : List AC) (c s : Nat) : rx_X1_init n0 (n + 1) 14 L st M c s = if n0 ≤ M.length then am_jB (fun pc L st M => rx_X1_init n0 n pc L st M c s) ((tPf kR 1 0) 14 L st M) else none := ra_L rfl n L st M c s
theorem rs_X1_init_17 (n0 n : Nat) (L : AL) (st : List AV) (M : List AC) (c s : Nat) : rx_X1_init n0 (n + 1) 17 L st M c s = if n0 ≤ M.length then am_jB (fun pc L st M => rx_X1_init n0 n pc L st M c s) ((tAld 0 1) 17 L st M) else none := ra_L rfl n L st M c s
theorem rs_X1_init_18 (n0 n : Nat) (L : AL) (st : List AV) (M : List AC) (c s : Nat) : rx_X1_init n0 (n + 1) 18 L st M c s = if n0 ≤ M.length then am_jB (fun pc L st M => rx_X1_init n0 n pc L st M c s) ((tIld 2 1) 18 L st M) else none := ra_L rfl n L st M c s
theorem rs_X1_init_19 (n0 n : Nat) (L : AL) (st : List AV) (M : List AC) (c s : Nat) : rx_X1_init n0 (n + 1) 19 L st M c s = if n0 ≤ M.length then am_jC (rx_X1_init n0 n) ((tNewa false) 19 L st M) c s else none := ra_A rfl n L st M c s
theorem rs_X1_init_21 (n0 n : Nat) (L : AL) (st : List AV) (M : List AC) (c s : Nat) : rx_X1_init n0 (n + 1) 21 L st M c s = if n0 ≤ M.length then am_jB (fun pc L st M => rx_X1_init n0 n pc L st M c s) ((tPf kR 1 1) 21 L st M) else none := ra_L rfl n L st M c s
theorem rs_X1_init_24 (n0 n : Nat) (L : AL) (st : List AV) (M : List AC) (c s : Nat) : rx_X1_init n0 (n + 1) 24 L st M c s = if n0 ≤ M.length then am_jB (fun pc L st M => rx_X1_init n0 n pc L st M c s) ((tAld 0 1) 24 L st M) else none := ra_L rfl n L st M c s
theorem rs_X1_init_25 (n0 n : Nat) (L : AL) (st : List AV) (M : List AC) (c s : Nat) : rx_X1_init n0 (n + 1) 25 L st M c s = if n0 ≤ M.length then am_jB (fun pc L st M => rx_X1_init n0 n pc L st M c s) ((tIld 2 1) 25 L st M) else none := ra_L rfl n L st M c s
theorem rs_X1_init_26 (n0 n : Nat) (L : AL) (st : List AV) (M : List AC) (c s : Nat) : rx_X1_init n0 (n + 1) 26 L st M c s = if n0 ≤ M.length then am_jC (rx_X1_init n0 n) ((tNewa false) 26 L st M) c s else none := ra_A rfl n L st M c s
theorem rs_X1_init_28 (n0 n : Nat) (L : AL) (st : List AV) (M : List AC) (c s : Nat) : rx_X1_init n0 (n + 1) 28 L st M c s = if n0 ≤ M.length then am_jB (fun pc L st M => rx_X1_init n0 n pc L st M c s) ((tPf kR 1 2) 28 L st M) else none := ra_L rfl n L st M c s
theorem rs_X1_init_31 (n0 n : Nat) (L : AL) (st : List AV) (M : List AC) (c s : Nat) : rx_X1_init n0 (n + 1) 31 L st M c s = am_eA rV st M c s := ra_R rfl rfl n L st M c s
theorem ri_X1_init (c : Prop) [Decidable c] (p q n0 n : Nat) (L : AL) (st : List AV) (M : List AC) (x y : Nat) : rx_X1_init n0 n (if c then p else q) L st M x y = if c then rx_X1_init n0 n p L st M x y else rx_X1_init n0 n q L st M x y := by split <;> rfl
theorem rm_X1_init {n0 n k pc : Nat} {L : AL} {st : List AV} {M : List AC} {c s : Nat} {x : Option AV × List AC × Nat × Nat} (h : rx_X1_init n0 n pc L st M c s = some x) (hk : n ≤ k) : rx_X1_init n0 k pc L st M c s = some x := am_ra_mono n k h hk
def fn_X1_init : FnA := am_fnA tb_X1_init rV [31] 3
theorem fok_X1_init : FokA mi_X1_init fn_X1_init := am_fokA (fun a => ok_X1_init a _) rk_X1_init rfl
abbrev mi_X2_init : Mi := (yX2_init, cX2_init, 1, none, 2)
theorem mf_X2_init : am_mf mi_X2_init 0 := ⟨w_co_X2_init, w_in_X2, ⟨by decide +kernel, by decide +kernel⟩, by decide +kernel, by decide⟩
def tb_X2_init : List (Nat × TrA) := [(0, tL (tAld 0 1)), (1, tL tObj), (4, tL (tAld 0 1)), (5, tL (tIc 4 1)), (6, tNewa false), (8, tL tDup), (9, tL (tIc 0 1)), (10, tL (tIc 0 1)), (11, tL tIas), (12, tL tDup), (13, tL (tIc 1 1)), (14, tL (tIc 0 1)), (15, tL tIas), (16, tL tDup), (17, tL (tIc 2 1)), (18, tL (tIc 0 1)), (19, tL tIas), (20, tL tDup), (21, tL (tIc 3 1)), (22, tL (tIc 0 1)), (23, tL tIas), (24, tL (tPf kR 2 0))]
theorem ok_X2_init (a : Am) (G : (Nat → Nat) → Prop) : TokG a mi_X2_init G tb_X2_init :=
  TcG (sd_L (sd_aload_n dX2_init_0)) <|
  TcG (sd_L (sd_obj w_ml_X2_3 dX2_init_1)) <|
  TcG (sd_L (sd_aload_n dX2_init_4)) <|
  TcG (sd_L (sd_iconst rfl dX2_init_5)) <|
  TcG (sd_newa false rfl dX2_init_6) <|
  TcG (sd_L (sd_dup dX2_init_8)) <|
  TcG (sd_L (sd_iconst rfl dX2_init_9)) <|
  TcG (sd_L (sd_iconst rfl dX2_init_10)) <|
  TcG (sd_L (sd_ias dX2_init_11)) <|
  TcG (sd_L (sd_dup dX2_init_12)) <|
  TcG (sd_L (sd_iconst rfl dX2_init_13)) <|
  TcG (sd_L (sd_iconst rfl dX2_init_14)) <|
  TcG (sd_L (sd_ias dX2_init_15)) <|
  TcG (sd_L (sd_dup dX2_init_16)) <|
  TcG (sd_L (sd_iconst rfl dX2_init_17)) <|
  TcG (sd_L (sd_iconst rfl dX2_init_18)) <|
  TcG (sd_L (sd_ias dX2_init_19)) <|
  TcG (sd_L (sd_dup dX2_init_20)) <|
  TcG (sd_L (sd_iconst rfl dX2_init_21)) <|
  TcG (sd_L (sd_iconst rfl dX2_init_22)) <|
  TcG (sd_L (sd_ias dX2_init_23)) <|
  TcG (sd_L (sd_putF (T := TX2) rfl giX2 (by decide) w_fl_X2_9 tyX2 tyX2_ok nmX2 (kA_ok _) rfl rfl rfl dX2_init_24)) <|
  TnG
theorem rk_X2_init : Rok mi_X2_init rV [27] := rk_v dX2_init_27 <| rk_n
def rx_X2_init (n0 : Nat) : Nat → Nat → AL → List AV → List AC → Nat → Nat → Option (Option AV × List AC × Nat × Nat) := am_ra n0 tb_X2_init rV [27]
theorem rs_X2_init_0 (n0 n : Nat) (L : AL) (st : List AV) (M : List AC) (c s : Nat) : rx_X2_init n0 (n + 1) 0 L st M c s = if n0 ≤ M.length then am_jB (fun pc L st M => rx_X2_init n0 n pc L st M c s) ((tAld 0 1) 0 L st M) else none := ra_L rfl n L st M c s
theorem rs_X2_init_1 (n0 n : Nat) (L : AL) (st : List AV) (M : List AC) (c s : Nat) : rx_X2_init n0 (n + 1) 1 L st M c s = if n0 ≤ M.length then am_jB (fun pc L st M => rx_X2_init n0 n pc L st M c s) (tObj 1 L st M) else none := ra_L rfl n L st M c s
theorem rs_X2_init_4 (n0 n : Nat) (L : AL) (st : List AV) (M : List AC) (c s : Nat) : rx_X2_init n0 (n + 1) 4 L st M c s = if n0 ≤ M.length then am_jB (fun pc L st M => rx_X2_init n0 n pc L st M c s) ((tAld 0 1) 4 L st M) else none := ra_L rfl n L st M c s
theorem rs_X2_init_5 (n0 n : Nat) (L : AL) (st : List AV) (M : List AC) (c s : Nat) : rx_X2_init n0 (n + 1) 5 L st M c s = if n0 ≤ M.length then am_jB (fun pc L st M => rx_X2_init n0 n pc L st M c s) ((tIc 4 1) 5 L st M) else none := ra_L rfl n L st M c s
theorem rs_X2_init_6 (n0 n : Nat) (L : AL) (st : List AV) (M : List AC) (c s : Nat) : rx_X2_init n0 (n + 1) 6 L st M c s = if n0 ≤ M.length then am_jC (rx_X2_init n0 n) ((tNewa false) 6 L st M) c s else none := ra_A rfl n L st M c s
theorem rs_X2_init_8 (n0 n : Nat) (L : AL) (st : List AV) (M : List AC) (c s : Nat) : rx_X2_init n0 (n + 1) 8 L st M c s = if n0 ≤ M.length then am_jB (fun pc L st M => rx_X2_init n0 n pc L st M c s) (tDup 8 L st M) else none := ra_L rfl n L st M c s
theorem rs_X2_init_9 (n0 n : Nat) (L : AL) (st : List AV) (M : List AC) (c s : Nat) : rx_X2_init n0 (n + 1) 9 L st M c s = if n0 ≤ M.length then am_jB (fun pc L st M => rx_X2_init n0 n pc L st M c s) ((tIc 0 1) 9 L st M) else none := ra_L rfl n L st M c s
theorem rs_X2_init_10 (n0 n : Nat) (L : AL) (st : List AV) (M : List AC) (c s : Nat) : rx_X2_init n0 (n + 1) 10 L st M c s = if n0 ≤ M.length then am_jB (fun pc L st M => rx_X2_init n0 n pc L st M c s) ((tIc 0 1) 10 L st M) else none := ra_L rfl n L st M c s
theorem rs_X2_init_11 (n0 n : Nat) (L : AL) (st : List AV) (M : List AC) (c s : Nat) : rx_X2_init n0 (n + 1) 11 L st M c s = if n0 ≤ M.length then am_jB (fun pc L st M => rx_X2_init n0 n pc L st M c s) (tIas 11 L st M) else none := ra_L rfl n L st M c s
theorem rs_X2_init_12 (n0 n : Nat) (L : AL) (st : List AV) (M : List AC) (c s : Nat) : rx_X2_init n0 (n + 1) 12 L st M c s = if n0 ≤ M.length then am_jB (fun pc L st M => rx_X2_init n0 n pc L st M c s) (tDup 12 L st M) else none := ra_L rfl n L st M c s
theorem rs_X2_init_13 (n0 n : Nat) (L : AL) (st : List AV) (M : List AC) (c s : Nat) : rx_X2_init n0 (n + 1) 13 L st M c s = if n0 ≤ M.length then am_jB (fun pc L st M => rx_X2_init n0 n pc L st M c s) ((tIc 1 1) 13 L st M) else none := ra_L rfl n L st M c s
theorem rs_X2_init_14 (n0 n : Nat) (L : AL) (st : List AV) (M : List AC) (c s : Nat) : rx_X2_init n0 (n + 1) 14 L st M c s = if n0 ≤ M.length then am_jB (fun pc L st M => rx_X2_init n0 n pc L st M c s) ((tIc 0 1) 14 L st M) else none := ra_L rfl n L st M c s
theorem rs_X2_init_15 (n0 n : Nat) (L : AL) (st : List AV) (M : List AC) (c s : Nat) : rx_X2_init n0 (n + 1) 15 L st M c s = if n0 ≤ M.length then am_jB (fun pc L st M => rx_X2_init n0 n pc L st M c s) (tIas 15 L st M) else none := ra_L rfl n L st M c s
theorem rs_X2_init_16 (n0 n : Nat) (L : AL) (st : List AV) (M : List AC) (c s : Nat) : rx_X2_init n0 (n + 1) 16 L st M c s = if n0 ≤ M.length then am_jB (fun pc L st M => rx_X2_init n0 n pc L st M c s) (tDup 16 L st M) else none := ra_L rfl n L st M c s
theorem rs_X2_init_17 (n0 n : Nat) (L : AL) (st : List AV) (M : List AC) (c s : Nat) : rx_X2_init n0 (n + 1) 17 L st M c s = if n0 ≤ M.length then am_jB (fun pc L st M => rx_X2_init n0 n pc L st M c s) ((tIc 2 1) 17 L st M) else none := ra_L rfl n L st M c s
theorem rs_X2_init_18 (n0 n : Nat) (L : AL) (st : List AV) (M : List AC) (c s : Nat) : rx_X2_init n0 (n + 1) 18 L st M c s = if n0 ≤ M.length then am_jB (fun pc L st M => rx_X2_init n0 n pc L st M c s) ((tIc 0 1) 18 L st M) else none := ra_L rfl n L st M c s
theorem rs_X2_init_19 (n0 n : Nat) (L : AL) (st : List AV) (M : List AC) (c s : Nat) : rx_X2_init n0 (n + 1) 19 L st M c s = if n0 ≤ M.length then am_jB (fun pc L st M => rx_X2_init n0 n pc L st M c s) (tIas 19 L st M) else none := ra_L rfl n L st M c s
theorem rs_X2_init_20 (n0 n : Nat) (L : AL) (st : List AV) (M : List AC) (c s : Nat) : rx_X2_init n0 (n + 1) 20 L st M c s = if n0 ≤ M.length then am_jB (fun pc L st M => rx_X2_init n0 n pc L st M c s) (tDup 20 L st M) else none := ra_L rfl n L st M c s
theorem rs_X2_init_21 (n0 n : Nat) (L : AL) (st : List AV) (M : List AC) (c s : Nat) : rx_X2_init n0 (n + 1) 21 L st M c s = if n0 ≤ M.length then am_jB (fun pc L st M => rx_X2_init n0 n pc L st M c s) ((tIc 3 1) 21 L st M) else none := ra_L rfl n L st M c s
theorem rs_X2_init_22 (n0 n : Nat) (L : AL) (st : List AV) (M : List AC) (c s : Nat) : rx_X2_init n0 (n + 1) 22 L st M c s = if n0 ≤ M.length then am_jB (fun pc L st M => rx_X2_init n0 n pc L st M c s) ((tIc 0 1) 22 L st M) else none := ra_L rfl n L st M c s
theorem rs_X2_init_23 (n0 n : Nat) (L : AL) (st : List AV) (M : List AC) (c s : Nat) : rx_X2_init n0 (n + 1) 23 L st M c s = if n0 ≤ M.length then am_jB (fun pc L st M => rx_X2_init n0 n pc L st M c s) (tIas 23 L st M) else none := ra_L rfl n L st M c s
theorem rs_X2_init_24 (n0 n : Nat) (L : AL) (st : List AV) (M : List AC) (c s : Nat) : rx_X2_init n0 (n + 1) 24 L st M c s = if n0 ≤ M.length then am_jB (fun pc L st M => rx_X2_init n0 n pc L st M c s) ((tPf kR 2 0) 24 L st M) else none := ra_L rfl n L st M c s
theorem rs_X2_init_27 (n0 n : Nat) (L : AL) (st : List AV) (M : List AC) (c s : Nat) : rx_X2_init n0 (n + 1) 27 L st M c s = am_eA rV st M c s := ra_R rfl rfl n L st M c s
theorem ri_X2_init (c : Prop) [Decidable c] (p q n0 n : Nat) (L : AL) (st : List AV) (M : List AC) (x y : Nat) : rx_X2_init n0 n (if c then p else q) L st M x y = if c then rx_X2_init n0 n p L st M x y else rx_X2_init n0 n q L st M x y := by split <;> rfl
theorem rm_X2_init {n0 n k pc : Nat} {L : AL} {st : List AV} {M : List AC} {c s : Nat} {x : Option AV × List AC × Nat × Nat} (h : rx_X2_init n0 n pc L st M c s = some x) (hk : n ≤ k) : rx_X2_init n0 k pc L st M c s = some x := am_ra_mono n k h hk
def fn_X2_init : FnA := am_fnA tb_X2_init rV [27] 1
theorem fok_X2_init : FokA mi_X2_init fn_X2_init := am_fokA (fun a => ok_X2_init a _) rk_X2_init rfl
abbrev mi_X4_init : Mi := (yX4_init, cX4_init, 1, none, 2)
theorem mf_X4_init : am_mf mi_X4_init 0 := ⟨w_co_X4_init, w_in_X4, ⟨by decide +kernel, by decide +kernel⟩, by decide +kernel, by decide⟩
def tb_X4_init : List (Nat × TrA) := [(0, tL (tAld 0 1)), (1, tL tObj), (4, tL (tAld 0 1)), (5, tL (tIc 1 1)), (6, tL (tPf kI 4 0)), (9, tL (tAld 0 1)), (10, tL (tIc 4 1)), (11, tNewa false), (13, tL tDup), (14, tL (tIc 0 1)), (15, tL (tIc 1 1)), (16, tL tIas), (17, tL tDup), (18, tL (tIc 1 1)), (19, tL (tIc 1 1)), (20, tL tIas), (21, tL tDup), (22, tL (tIc 2 1)), (23, tL (tIc 1 1)), (24, tL tIas), (25, tL tDup), (26, tL (tIc 3 1)), (27, tL (tIc 1 1)), (28, tL tIas), (29, tL (tPf kR 4 1)), (32, tL (tAld 0 1)), (33, tL (tIc 4 1)), (34, tNewa false), (36, tL tDup), (37, tL (tIc 0 1)), (38, tL (tIc 0 1)), (39, tL tIas), (40, tL tDup), (41, tL (tIc 1 1)), (42, tL (tIc 0 1)), (43, tL tIas), (44, tL tDup), (45, tL (tIc 2 1)), (46, tL (tIc 0 1)), (47, tL tIas), (48, tL tDup), (49, tL (tIc 3 1)), (50, tL (tIc 0 1)), (51, tL tIas), (52, tL (tPf kR 4 2)), (55, tL (tAld 0 1)), (56, tL (tIc 4 1)), (57, tNewa false), (59, tL tDup), (60, tL (tIc 0 1)), (61, tL (tIc 0 1)), (62, tL tIas), (63, tL tDup), (64, tL (tIc 1 1)), (65, tL (tIc 0 1)), (66, tL tIas), (67, tL tDup), (68, tL (tIc 2 1)), (69, tL (tIc 0 1)), (70, tL tIas), (71, tL tDup), (72, tL (tIc 3 1)), (73, tL (tIc 0 1)), (74, tL tIas), (75, tL (tPf kR 4 3)), (78, tL (tAld 0 1)), (79, tL (tIc 4 1)), (80, tNewa false), (82, tL tDup), (83, tL (tIc 0 1)), (84, tL (tIc 0 1)), (85, tL tIas), (86, tL tDup), (87, tL (tIc 1 1)), (88, tL (tIc 0 1)), (89, tL tIas), (90, tL tDup), (91, tL (tIc 2 1)), (92, tL (tIc 0 1)), (93, tL tIas), (94, tL tDup), (95, tL (tIc 3 1)), (96, tL (tIc 0 1)), (97, tL tIas), (98, tL (tPf kR 4 4))]
theorem ok_X4_init (a : Am) (G : (Nat → Nat) → Prop) : TokG a mi_X4_init G tb_X4_init :=
  TcG (sd_L (sd_aload_n dX4_init_0)) <|
  TcG (sd_L (sd_obj w_ml_X4_3 dX4_init_1)) <|
  TcG (sd_L (sd_aload_n dX4_init_4)) <|
  TcG (sd_L (sd_iconst rfl dX4_init_5)) <|
  TcG (sd_L (sd_putf (T := TX4) rfl giX4 (by decide) w_fl_X4_9 tyX4 tyX4_ok nmX4 (kI_ok) rfl dX4_init_6)) <|
  TcG (sd_L (sd_aload_n dX4_init_9)) <|
  TcG (sd_L (sd_iconst rfl dX4_init_10)) <|
  TcG (sd_newa false rfl dX4_init_11) <|
  TcG (sd_L (sd_dup dX4_init_13)) <|
  TcG (sd_L (sd_iconst rfl dX4_init_14)) <|
  TcG (sd_L (sd_iconst rfl dX4_init_15)) <|
  TcG (sd_L (sd_ias dX4_init_16)) <|
  TcG (sd_L (sd_dup dX4_init_17)) <|
  TcG (sd_L (sd_iconst rfl dX4_init_18)) <|
  TcG (sd_L (sd_iconst rfl dX4_init_19)) <|
  TcG (sd_L (sd_ias dX4_init_20)) <|
  TcG (sd_L (sd_dup dX4_init_21)) <|
  TcG (sd_L (sd_iconst rfl dX4_init_22)) <|
  TcG (sd_L (sd_iconst rfl dX4_init_23)) <|
  TcG (sd_L (sd_ias dX4_init_24)) <|
  TcG (sd_L (sd_dup dX4_init_25)) <|
  TcG (sd_L (sd_iconst rfl dX4_init_26)) <|
  TcG (sd_L (sd_iconst rfl dX4_init_27)) <|
  TcG (sd_L (sd_ias dX4_init_28)) <|
  TcG (sd_L (sd_putF (T := TX4) rfl giX4 (by decide) w_fl_X4_15 tyX4 tyX4_ok nmX4 (kA_ok _) rfl rfl rfl dX4_init_29)) <|
  TcG (sd_L (sd_aload_n dX4_init_32)) <|
  TcG (sd_L (sd_iconst rfl dX4_init_33)) <|
  TcG (sd_newa false rfl dX4_init_34) <|
  TcG (sd_L (sd_dup dX4_init_36)) <|
  TcG (sd_L (sd_iconst rfl dX4_init_37)) <|
  TcG (sd_L (sd_iconst rfl dX4_init_38)) <|
  TcG (sd_L (sd_ias dX4_init_39)) <|
  TcG (sd_L (sd_dup dX4_init_40)) <|
  TcG (sd_L (sd_iconst rfl dX4_init_41)) <|
  TcG (sd_L (sd_iconst rfl dX4_init_42)) <|
  TcG (sd_L (sd_ias dX4_init_43)) <|
  TcG (sd_L (sd_dup dX4_init_44)) <|
  TcG (sd_L (sd_iconst rfl dX4_init_45)) <|
  TcG (sd_L (sd_iconst rfl dX4_init_46)) <|
  TcG (sd_L (sd_ias dX4_init_47)) <|
  TcG (sd_L (sd_dup dX4_init_48)) <|
  TcG (sd_L (sd_iconst rfl dX4_init_49)) <|
  TcG (sd_L (sd_iconst rfl dX4_init_50)) <|
  TcG (sd_L (sd_ias dX4_init_51)) <|
  TcG (sd_L (sd_putF (T := TX4) rfl giX4 (by decide) w_fl_X4_19 tyX4 tyX4_ok nmX4 (kA_ok _) rfl rfl rfl dX4_init_52)) <|
  TcG (sd_L (sd_aload_n dX4_init_55)) <|
  TcG (sd_L (sd_iconst rfl dX4_init_56)) <|
  TcG (sd_newa false rfl dX4_init_57) <|
  TcG (sd_L (sd_dup dX4_init_59)) <|
  TcG (sd_L (sd_iconst rfl dX4_init_60)) <|
  TcG (sd_L (sd_iconst rfl dX4_init_61)) <|
  TcG (sd_L (sd_ias dX4_init_62)) <|
  TcG (sd_L (sd_dup dX4_init_63)) <|
  TcG (sd_L (sd_iconst rfl dX4_init_64)) <|
  TcG (sd_L (sd_iconst rfl dX4_init_65)) <|
  TcG (sd_L (sd_ias dX4_init_66)) <|
  TcG (sd_L (sd_dup dX4_init_67)) <|
  TcG (sd_L (sd_iconst rfl dX4_init_68)) <|
  TcG (sd_L (sd_iconst rfl dX4_init_69)) <|
  TcG (sd_L (sd_ias dX4_init_70)) <|
  TcG (sd_L (sd_dup dX4_init_71)) <|
  TcG (sd_L (sd_iconst rfl dX4_init_72)) <|
  TcG (sd_L (sd_iconst rfl dX4_init_73)) <|
  TcG (sd_L (sd_ias dX4_init_74)) <|
  TcG (sd_L (sd_putF (T := TX4) rfl giX4 (by decide) w_fl_X4_22 tyX4 tyX4_ok nmX4 (kA_ok _) rfl rfl rfl dX4_init_75)) <|
  TcG (sd_L (sd_aload_n dX4_init_78)) <|
  TcG (sd_L (sd_iconst rfl dX4_init_79)) <|
  TcG (sd_newa false rfl dX4_init_80) <|
  TcG (sd_L (sd_dup dX4_init_82)) <|
  TcG (sd_L (sd_iconst rfl dX4_init_83)) <|
  TcG (sd_L (sd_iconst rfl dX4_init_84)) <|
  TcG (sd_L (sd_ias dX4_init_85)) <|
  TcG (sd_L (sd_dup dX4_init_86)) <|
  TcG (sd_L (sd_iconst rfl dX4_init_87)) <|
  TcG (sd_L (sd_iconst rfl dX4_init_88)) <|
  TcG (sd_L (sd_ias dX4_init_89)) <|
  TcG (sd_L (sd_dup dX4_init_90)) <|
  TcG (sd_L (sd_iconst rfl dX4_init_91)) <|
  TcG (sd_L (sd_iconst rfl dX4_init_92)) <|
  TcG (sd_L (sd_ias dX4_init_93)) <|
  TcG (sd_L (sd_dup dX4_init_94)) <|
  TcG (sd_L (sd_iconst rfl dX4_init_95)) <|
  TcG (sd_L (sd_iconst rfl dX4_init_96)) <|
  TcG (sd_L (sd_ias dX4_init_97)) <|
  TcG (sd_L (sd_putF (T := TX4) rfl giX4 (by decide) w_fl_X4_25 tyX4 tyX4_ok nmX4 (kA_ok _) rfl rfl rfl dX4_init_98)) <|
  TnG
theorem rk_X4_init : Rok mi_X4_init rV [101] := rk_v dX4_init_101 <| rk_n
def rx_X4_init (n0 : Nat) : Nat → Nat → AL → List AV → List AC → Nat → Nat → Option (Option AV × List AC × Nat × Nat) := am_ra n0 tb_X4_init rV [101]
theorem rs_X4_init_0 (n0 n : Nat) (L : AL) (st : List AV) (M : List AC) (c s : Nat) : rx_X4_init n0 (n + 1) 0 L st M c s = if n0 ≤ M.length then am_jB (fun pc L st M => rx_X4_init n0 n pc L st M c s) ((tAld 0 1) 0 L st M) else none := ra_L rfl n L st M c s
theorem rs_X4_init_1 (n0 n : Nat) (L : AL) (st : List AV) (M : List AC) (c s : Nat) : rx_X4_init n0 (n + 1) 1 L st M c s = if n0 ≤ M.length then am_jB (fun pc L st M => rx_X4_init n0 n pc L st M c s) (tObj 1 L st M) else none := ra_L rfl n L st M c s
theorem rs_X4_init_4 (n0 n : Nat) (L : AL) (st : List AV) (M : List AC) (c s : Nat) : rx_X4_init n0 (n + 1) 4 L st M c s = if n0 ≤ M.length then am_jB (fun pc L st M => rx_X4_init n0 n pc L st M c s) ((tAld 0 1) 4 L st M) else none := ra_L rfl n L st M c s
theorem rs_X4_init_5 (n0 n : Nat) (L : AL) (st : List AV) (M : List AC) (c s : Nat) : rx_X4_init n0 (n + 1) 5 L st M c s = if n0 ≤ M.length then am_jB (fun pc L st M => rx_X4_init n0 n pc L st M c s) ((tIc 1 1) 5 L st M) else none := ra_L rfl n L st M c s
theorem rs_X4_init_6 (n0 n : Nat) (L : AL) (st : List AV) (M : List AC) (c s : Nat) : rx_X4_init n0 (n + 1) 6 L st M c s = if n0 ≤ M.length then am_jB (fun pc L st M => rx_X4_init n0 n pc L st M c s) ((tPf kI 4 0) 6 L st M) else none := ra_L rfl n L st M c s
theorem rs_X4_init_9 (n0 n : Nat) (L : AL) (st : List AV) (M : List AC) (c s : Nat) : rx_X4_init n0 (n + 1) 9 L st M c s = if n0 ≤ M.length then am_jB (fun pc L st M => rx_X4_init n0 n pc L st M c s) ((tAld 0 1) 9 L st M) else none := ra_L rfl n L st M c s
theorem rs_X4_init_10 (n0 n : Nat) (L : AL) (st : List AV) (M : List AC) (c s : Nat) : rx_X4_init n0 (n + 1) 10 L st M c s = if n0 ≤ M.length then am_jB (fun pc L st M => rx_X4_init n0 n pc L st M c s) ((tIc 4 1) 10 L st M) else none := ra_L rfl n L st M c s
theorem rs_X4_init_11 (n0 n : Nat) (L : AL) (st : List AV) (M : List AC) (c s : Nat) : rx_X4_init n0 (n + 1) 11 L st M c s = if n0 ≤ M.length then am_jC (rx_X4_init n0 n) ((tNewa false) 11 L st M) c s else none := ra_A rfl n L st M c s
theorem rs_X4_init_13 (n0 n : Nat) (L : AL) (st : List AV) (M : List AC) (c s : Nat) : rx_X4_init n0 (n + 1) 13 L st M c s = if n0 ≤ M.length then am_jB (fun pc L st M => rx_X4_init n0 n pc L st M c s) (tDup 13 L st M) else none := ra_L rfl n L st M c s
theorem rs_X4_init_14 (n0 n : Nat) (L : AL) (st : List AV) (M : List AC) (c s : Nat) : rx_X4_init n0 (n + 1) 14 L st M c s = if n0 ≤ M.length then am_jB (fun pc L st M => rx_X4_init n0 n pc L st M c s) ((tIc 0 1) 14 L st M) else none := ra_L rfl n L st M c s
theorem rs_X4_init_15 (n0 n : Nat) (L : AL) (st : List AV) (M : List AC) (c s : Nat) : rx_X4_init n0 (n + 1) 15 L st M c s = if n0 ≤ M.length then am_jB (fun pc L st M => rx_X4_init n0 n pc L st M c s) ((tIc 1 1) 15 L st M) else none := ra_L rfl n L st M c s
theorem rs_X4_init_16 (n0 n : Nat) (L : AL) (st : List AV) (M : List AC) (c s : Nat) : rx_X4_init n0 (n + 1) 16 L st M c s = if n0 ≤ M.length then am_jB (fun pc L st M => rx_X4_init n0 n pc L st M c s) (tIas 16 L st M) else none := ra_L rfl n L st M c s
theorem rs_X4_init_17 (n0 n : Nat) (L : AL) (st : List AV) (M : List AC) (c s : Nat) : rx_X4_init n0 (n + 1) 17 L st M c s = if n0 ≤ M.length then am_jB (fun pc L st M => rx_X4_init n0 n pc L st M c s) (tDup 17 L st M) else none := ra_L rfl n L st M c s
theorem rs_X4_init_18 (n0 n : Nat) (L : AL) (st : List AV) (M : List AC) (c s : Nat) : rx_X4_init n0 (n + 1) 18 L st M c s = if n0 ≤ M.length then am_jB (fun pc L st M => rx_X4_init n0 n pc L st M c s) ((tIc 1 1) 18 L st M) else none := ra_L rfl n L st M c s
theorem rs_X4_init_19 (n0 n : Nat) (L : AL) (st : List AV) (M : List AC) (c s : Nat) : rx_X4_init n0 (n + 1) 19 L st M c s = if n0 ≤ M.length then am_jB (fun pc L st M => rx_X4_init n0 n pc L st M c s) ((tIc 1 1) 19 L st M) else none := ra_L rfl n L st M c s
theorem rs_X4_init_20 (n0 n : Nat) (L : AL) (st : List AV) (M : List AC) (c s : Nat) : rx_X4_init n0 (n + 1) 20 L st M c s = if n0 ≤ M.length then am_jB (fun pc L st M => rx_X4_init n0 n pc L st M c s) (tIas 20 L st M) else none := ra_L rfl n L st M c s
theorem rs_X4_init_21 (n0 n : Nat) (L : AL) (st : List AV) (M : List AC) (c s : Nat) : rx_X4_init n0 (n + 1) 21 L st M c s = if n0 ≤ M.length then am_jB (fun pc L st M => rx_X4_init n0 n pc L st M c s) (tDup 21 L st M) else none := ra_L rfl n L st M c s
theorem rs_X4_init_22 (n0 n : Nat) (L : AL) (st : List AV) (M : List AC) (c s : Nat) : rx_X4_init n0 (n + 1) 22 L st M c s = if n0 ≤ M.length then am_jB (fun pc L st M => rx_X4_init n0 n pc L st M c s) ((tIc 2 1) 22 L st M) else none := ra_L rfl n L st M c s
theorem rs_X4_init_23 (n0 n : Nat) (L : AL) (st : List AV) (M : List AC) (c s : Nat) : rx_X4_init n0 (n + 1) 23 L st M c s = if n0 ≤ M.length then am_jB (fun pc L st M => rx_X4_init n0 n pc L st M c s) ((tIc 1 1) 23 L st M) else none := ra_L rfl n L st M c s
theorem rs_X4_init_24 (n0 n : Nat) (L : AL) (st : List AV) (M : List AC) (c s : Nat) : rx_X4_init n0 (n + 1) 24 L st M c s = if n0 ≤ M.length then am_jB (fun pc L st M => rx_X4_init n0 n pc L st M c s) (tIas 24 L st M) else none := ra_L rfl n L st M c s
theorem rs_X4_init_25 (n0 n : Nat) (L : AL) (st : List AV) (M : List AC) (c s : Nat) : rx_X4_init n0 (n + 1) 25 L st M c s = if n0 ≤ M.length then am_jB (fun pc L st M => rx_X4_init n0 n pc L st M c s) (tDup 25 L st M) else none := ra_L rfl n L st M c s
theorem rs_X4_init_26 (n0 n : Nat) (L : AL) (st : List AV) (M : List AC) (c s : Nat) : rx_X4_init n0 (n + 1) 26 L st M c s = if n0 ≤ M.length then am_jB (fun pc L st M => rx_X4_init n0 n pc L st M c s) ((tIc 3 1) 26 L st M) else none := ra_L rfl n L st M c s
theorem rs_X4_init_27 (n0 n : Nat) (L : AL) (st : List AV) (M : List AC) (c s : Nat) : rx_X4_init n0 (n + 1) 27 L st M c s = if n0 ≤ M.length then am_jB (fun pc L st M => rx_X4_init n0 n pc L st M c s) ((tIc 1 1) 27 L st M) else none := ra_L rfl n L st M c s
theorem rs_X4_init_28 (n0 n : Nat) (L : AL) (st : List AV) (M : List AC) (c s : Nat) : rx_X4_init n0 (n + 1) 28 L st M c s = if n0 ≤ M.length then am_jB (fun pc L st M => rx_X4_init n0 n pc L st M c s) (tIas 28 L st M) else none := ra_L rfl n L st M c s
theorem rs_X4_init_29 (n0 n : Nat) (L : AL) (st : List AV) (M : List AC) (c s : Nat) : rx_X4_init n0 (n + 1) 29 L st M c s = if n0 ≤ M.length then am_jB (fun pc L st M => rx_X4_init n0 n pc L st M c s) ((tPf kR 4 1) 29 L st M) else none := ra_L rfl n L st M c s
theorem rs_X4_init_32 (n0 n : Nat) (L : AL) (st : List AV) (M : List AC) (c s : Nat) : rx_X4_init n0 (n + 1) 32 L st M c s = if n0 ≤ M.length then am_jB (fun pc L st M => rx_X4_init n0 n pc L st M c s) ((tAld 0 1) 32 L st M) else none := ra_L rfl n L st M c s
theorem rs_X4_init_33 (n0 n : Nat) (L : AL) (st : List AV) (M : List AC) (c s : Nat) : rx_X4_init n0 (n + 1) 33 L st M c s = if n0 ≤ M.length then am_jB (fun pc L st M => rx_X4_init n0 n pc L st M c s) ((tIc 4 1) 33 L st M) else none := ra_L rfl n L st M c s
theorem rs_X4_init_34 (n0 n : Nat) (L : AL) (st : List AV) (M : List AC) (c s : Nat) : rx_X4_init n0 (n + 1) 34 L st M c s = if n0 ≤ M.length then am_jC (rx_X4_init n0 n) ((tNewa false) 34 L st M) c s else none := ra_A rfl n L st M c s
theorem rs_X4_init_36 (n0 n : Nat) (L : AL) (st : List AV) (M : List AC) (c s : Nat) : rx_X4_init n0 (n + 1) 36 L st M c s = if n0 ≤ M.length then am_jB (fun pc L st M => rx_X4_init n0 n pc L st M c s) (tDup 36 L st M) else none := ra_L rfl n L st M c s
theorem rs_X4_init_37 (n0 n : Nat) (L : AL) (st : List AV) (M : List AC) (c s : Nat) : rx_X4_init n0 (n + 1) 37 L st M c s = if n0 ≤ M.length then am_jB (fun pc L st M => rx_X4_init n0 n pc L st M c s) ((tIc 0 1) 37 L st M) else none := ra_L rfl n L st M c s
theorem rs_X4_init_38 (n0 n : Nat) (L : AL) (st : List AV) (M : List AC) (c s : Nat) : rx_X4_init n0 (n + 1) 38 L st M c s = if n0 ≤ M.length then am_jB (fun pc L st M => rx_X4_init n0 n pc L st M c s) ((tIc 0 1) 38 L st M) else none := ra_L rfl n L st M c s
theorem rs_X4_init_39 (n0 n : Nat) (L : AL) (st : List AV) (M : List AC) (c s : Nat) : rx_X4_init n0 (n + 1) 39 L st M c s = if n0 ≤ M.length then am_jB (fun pc L st M => rx_X4_init n0 n pc L st M c s) (tIas 39 L st M) else none := ra_L rfl n L st M c s
theorem rs_X4_init_40 (n0 n : Nat) (L : AL) (st : List AV) (M : List AC) (c s : Nat) : rx_X4_init n0 (n + 1) 40 L st M c s = if n0 ≤ M.length then am_jB (fun pc L st M => rx_X4_init n0 n pc L st M c s) (tDup 40 L st M) else none := ra_L rfl n L st M c s
theorem rs_X4_init_41 (n0 n : Nat) (L : AL) (st : List AV) (M : List AC) (c s : Nat) : rx_X4_init n0 (n + 1) 41 L st M c s = if n0 ≤ M.length then am_jB (fun pc L st M => rx_X4_init n0 n pc L st M c s) ((tIc 1 1) 41 L st M) else none := ra_L rfl n L st M c s
theorem rs_X4_init_42 (n0 n : Nat) (L : AL) (st : List AV) (M : List AC) (c s : Nat) : rx_X4_init n0 (n + 1) 42 L st M c s = if n0 ≤ M.length then am_jB (fun pc L st M => rx_X4_init n0 n pc L st M c s) ((tIc 0 1) 42 L st M) else none := ra_L rfl n L st M c s
theorem rs_X4_init_43 (n0 n : Nat) (L : AL) (st : List AV) (M : List AC) (c s : Nat) : rx_X4_init n0 (n + 1) 43 L st M c s = if n0 ≤ M.length then am_jB (fun pc L st M => rx_X4_init n0 n pc L st M c s) (tIas 43 L st M) else none := ra_L rfl n L st M c s
theorem rs_X4_init_44 (n0 n : Nat) (L : AL) (st : List AV) (M : List AC) (c s : Nat) : rx_X4_init n0 (n + 1) 44 L st M c s = if n0 ≤ M.length then am_jB (fun pc L st M => rx_X4_init n0 n pc L st M c s) (tDup 44 L st M) else none := ra_L rfl n L st M c s
theorem rs_X4_init_45 (n0 n : Nat) (L : AL) (st : List AV) (M : List AC) (c s : Nat) : rx_X4_init n0 (n + 1) 45 L st M c s = if n0 ≤ M.length then am_jB (fun pc L st M => rx_X4_init n0 n pc L st M c s) ((tIc 2 1) 45 L st M) else none := ra_L rfl n L st M c s
theorem rs_X4_init_46 (n0 n : Nat) (L : AL) (st : List AV) (M : List AC) (c s : Nat) : rx_X4_init n0 (n + 1) 46 L st M c s = if n0 ≤ M.length then am_jB (fun pc L st M => rx_X4_init n0 n pc L st M c s) ((tIc 0 1) 46 L st M) else none := ra_L rfl n L st M c s
theorem rs_X4_init_47 (n0 n : Nat) (L : AL) (st : List AV) (M : List AC) (c s : Nat) : rx_X4_init n0 (n + 1) 47 L st M c s = if n0 ≤ M.length then am_jB (fun pc L st M => rx_X4_init n0 n pc L st M c s) (tIas 47 L st M) else none := ra_L rfl n L st M c s
theorem rs_X4_init_48 (n0 n : Nat) (L : AL) (st : List AV) (M : List AC) (c s : Nat) : rx_X4_init n0 (n + 1) 48 L st M c s = if n0 ≤ M.length then am_jB (fun pc L st M => rx_X4_init n0 n pc L st M c s) (tDup 48 L st M) else none := ra_L rfl n L st M c s
theorem rs_X4_init_49 (n0 n : Nat) (L : AL) (st : List AV) (M : List AC) (c s : Nat) : rx_X4_init n0 (n + 1) 49 L st M c s = if n0 ≤ M.length then am_jB (fun pc L st M => rx_X4_init n0 n pc L st M c s) ((tIc 3 1) 49 L st M) else none := ra_L rfl n L st M c s
theorem rs_X4_init_50 (n0 n : Nat) (L : AL) (st : List AV) (M : List AC) (c s : Nat) : rx_X4_init n0 (n + 1) 50 L st M c s = if n0 ≤ M.length then am_jB (fun pc L st M => rx_X4_init n0 n pc L st M c s) ((tIc 0 1) 50 L st M) else none := ra_L rfl n L st M c s
theorem rs_X4_init_51 (n0 n : Nat) (L : AL) (st : List AV) (M : List AC) (c s : Nat) : rx_X4_init n0 (n + 1) 51 L st M c s = if n0 ≤ M.length then am_jB (fun pc L st M => rx_X4_init n0 n pc L st M c s) (tIas 51 L st M) else none := ra_L rfl n L st M c s
theorem rs_X4_init_52 (n0 n : Nat) (L : AL) (st : List AV) (M : List AC) (c s : Nat) : rx_X4_init n0 (n + 1) 52 L st M c s = if n0 ≤ M.length then am_jB (fun pc L st M => rx_X4_init n0 n pc L st M c s) ((tPf kR 4 2) 52 L st M) else none := ra_L rfl n L st M c s
theorem rs_X4_init_55 (n0 n : Nat) (L : AL) (st : List AV) (M : List AC) (c s : Nat) : rx_X4_init n0 (n + 1) 55 L st M c s = if n0 ≤ M.length then am_jB (fun pc L st M => rx_X4_init n0 n pc L st M c s) ((tAld 0 1) 55 L st M) else none := ra_L rfl n L st M c s
theorem rs_X4_init_56 (n0 n : Nat) (L : AL) (st : List AV) (M : List AC) (c s : Nat) : rx_X4_init n0 (n + 1) 56 L st M c s = if n0 ≤ M.length then am_jB (fun pc L st M => rx_X4_init n0 n pc L st M c s) ((tIc 4 1) 56 L st M) else none := ra_L rfl n L st M c s
theorem rs_X4_init_57 (n0 n : Nat) (L : AL) (st : List AV) (M : List AC) (c s : Nat) : rx_X4_init n0 (n + 1) 57 L st M c s = if n0 ≤ M.length then am_jC (rx_X4_init n0 n) ((tNewa false) 57 L st M) c s else none := ra_A rfl n L st M c s
theorem rs_X4_init_59 (n0 n : Nat) (L : AL) (st : List AV) (M : List AC) (c s : Nat) : rx_X4_init n0 (n + 1) 59 L st M c s = if n0 ≤ M.length then am_jB (fun pc L st M => rx_X4_init n0 n pc L st M c s) (tDup 59 L st M) else none := ra_L rfl n L st M c s
theorem rs_X4_init_60 (n0 n : Nat) (L : AL) (st : List AV) (M : List AC) (c s : Nat) : rx_X4_init n0 (n + 1) 60 L st M c s = if n0 ≤ M.length then am_jB (fun pc L st M => rx_X4_init n0 n pc L st M c s) ((tIc 0 1) 60 L st M) else none := ra_L rfl n L st M c s
theorem rs_X4_init_61 (n0 n : Nat) (L : AL) (st : List AV) (M : List AC) (c s : Nat) : rx_X4_init n0 (n + 1) 61 L st M c s = if n0 ≤ M.length then am_jB (fun pc L st M => rx_X4_init n0 n pc L st M c s) ((tIc 0 1) 61 L st M) else none := ra_L rfl n L st M c s
theorem rs_X4_init_62 (n0 n : Nat) (L : AL) (st : List AV) (M : List AC) (c s : Nat) : rx_X4_init n0 (n + 1) 62 L st M c s = if n0 ≤ M.length then am_jB (fun pc L st M => rx_X4_init n0 n pc L st M c s) (tIas 62 L st M) else none := ra_L rfl n L st M c s
theorem rs_X4_init_63 (n0 n : Nat) (L : AL) (st : List AV) (M : List AC) (c s : Nat) : rx_X4_init n0 (n + 1) 63 L st M c s = if n0 ≤ M.length then am_jB (fun pc L st M => rx_X4_init n0 n pc L st M c s) (tDup 63 L st M) else none := ra_L rfl n L st M c s
theorem rs_X4_init_64 (n0 n : Nat) (L : AL) (st : List AV) (M : List AC) (c s : Nat) : rx_X4_init n0 (n + 1) 64 L st M c s = if n0 ≤ M.length then am_jB (fun pc L st M => rx_X4_init n0 n pc L st M c s) ((tIc 1 1) 64 L st M) else none := ra_L rfl n L st M c s
theorem rs_X4_init_65 (n0 n : Nat) (L : AL) (st : List AV) (M : List AC) (c s : Nat) : rx_X4_init n0 (n + 1) 65 L st M c s = if n0 ≤ M.length then am_jB (fun pc L st M => rx_X4_init n0 n pc L st M c s) ((tIc 0 1) 65 L st M) else none := ra_L rfl n L st M c s
theorem rs_X4_init_66 (n0 n : Nat) (L : AL) (st : List AV) (M : List AC) (c s : Nat) : rx_X4_init n0 (n + 1) 66 L st M c s = if n0 ≤ M.length then am_jB (fun pc L st M => rx_X4_init n0 n pc L st M c s) (tIas 66 L st M) else none := ra_L rfl n L st M c s
theorem rs_X4_init_67 (n0 n : Nat) (L : AL) (st : List AV) (M : List AC) (c s : Nat) : rx_X4_init n0 (n + 1) 67 L st M c s = if n0 ≤ M.length then am_jB (fun pc L st M => rx_X4_init n0 n pc L st M c s) (tDup 67 L st M) else none := ra_L rfl n L st M c s
theorem rs_X4_init_68 (n0 n : Nat) (L : AL) (st : List AV) (M : List AC) (c s : Nat) : rx_X4_init n0 (n + 1) 68 L st M c s = if n0 ≤ M.length then am_jB (fun pc L st M => rx_X4_init n0 n pc L st M c s) ((tIc 2 1) 68 L st M) else none := ra_L rfl n L st M c s
theorem rs_X4_init_69 (n0 n : Nat) (L : AL) (st : List AV) (M : List AC) (c s : Nat) : rx_X4_init n0 (n + 1) 69 L st M c s = if n0 ≤ M.length then am_jB (fun pc L st M => rx_X4_init n0 n pc L st M c s) ((tIc 0 1) 69 L st M) else none := ra_L rfl n L st M c s
theorem rs_X4_init_70 (n0 n : Nat) (L : AL) (st : List AV) (M : List AC) (c s : Nat) : rx_X4_init n0 (n + 1) 70 L st M c s = if n0 ≤ M.length then am_jB (fun pc L st M => rx_X4_init n0 n pc L st M c s) (tIas 70 L st M) else none := ra_L rfl n L st M c s
theorem rs_X4_init_71 (n0 n : Nat) (L : AL) (st : List AV) (M : List AC) (c s : Nat) : rx_X4_init n0 (n + 1) 71 L st M c s = if n0 ≤ M.length then am_jB (fun pc L st M => rx_X4_init n0 n pc L st M c s) (tDup 71 L st M) else none := ra_L rfl n L st M c s
theorem rs_X4_init_72 (n0 n : Nat) (L : AL) (st : List AV) (M : List AC) (c s : Nat) : rx_X4_init n0 (n + 1) 72 L st M c s = if n0 ≤ M.length then am_jB (fun pc L st M => rx_X4_init n0 n pc L st M c s) ((tIc 3 1) 72 L st M) else none := ra_L rfl n L st M c s
theorem rs_X4_init_73 (n0 n : Nat) (L : AL) (st : List AV) (M : List AC) (c s : Nat) : rx_X4_init n0 (n + 1) 73 L st M c s = if n0 ≤ M.length then am_jB (fun pc L st M => rx_X4_init n0 n pc L st M c s) ((tIc 0 1) 73 L st M) else none := ra_L rfl n L st M c s
theorem rs_X4_init_74 (n0 n : Nat) (L : AL) (st : List AV) (M : List AC) (c s : Nat) : rx_X4_init n0 (n + 1) 74 L st M c s = if n0 ≤ M.length then am_jB (fun pc L st M => rx_X4_init n0 n pc L st M c s) (tIas 74 L st M) else none := ra_L rfl n L st M c s
theorem rs_X4_init_75 (n0 n : Nat) (L : AL) (st : List AV) (M : List AC) (c s : Nat) : rx_X4_init n0 (n + 1) 75 L st M c s = if n0 ≤ M.length then am_jB (fun pc L st M => rx_X4_init n0 n pc L st M c s) ((tPf kR 4 3) 75 L st M) else none := ra_L rfl n L st M c s
theorem rs_X4_init_78 (n0 n : Nat) (L : AL) (st : List AV) (M : List AC) (c s : Nat) : rx_X4_init n0 (n + 1) 78 L st M c s = if n0 ≤ M.length then am_jB (fun pc L st M => rx_X4_init n0 n pc L st M c s) ((tAld 0 1) 78 L st M) else none := ra_L rfl n L st M c s
theorem rs_X4_init_79 (n0 n : Nat) (L : AL) (st : List AV) (M : List AC) (c s : Nat) : rx_X4_init n0 (n + 1) 79 L st M c s = if n0 ≤ M.length then am_jB (fun pc L st M => rx_X4_init n0 n pc L st M c s) ((tIc 4 1) 79 L st M) else none := ra_L rfl n L st M c s
theorem rs_X4_init_80 (n0 n : Nat) (L : AL) (st : List AV) (M : List AC) (c s : Nat) : rx_X4_init n0 (n + 1) 80 L st M c s = if n0 ≤ M.length then am_jC (rx_X4_init n0 n) ((tNewa false) 80 L st M) c s else none := ra_A rfl n L st M c s
theorem rs_X4_init_82 (n0 n : Nat) (L : AL) (st : List AV) (M : List AC) (c s : Nat) : rx_X4_init n0 (n + 1) 82 L st M c s = if n0 ≤ M.length then am_jB (fun pc L st M => rx_X4_init n0 n pc L st M c s) (tDup 82 L st M) else none := ra_L rfl n L st M c s
theorem rs_X4_init_83 (n0 n : Nat) (L : AL) (st : List AV) (M : List AC) (c s : Nat) : rx_X4_init n0 (n + 1) 83 L st M c s = if n0 ≤ M.length then am_jB (fun pc L st M => rx_X4_init n0 n pc L st M c s) ((tIc 0 1) 83 L st M) else none := ra_L rfl n L st M c s
theorem rs_X4_init_84 (n0 n : Nat) (L : AL) (st : List AV) (M : List AC) (c s : Nat) : rx_X4_init n0 (n + 1) 84 L st M c s = if n0 ≤ M.length then am_jB (fun pc L st M => rx_X4_init n0 n pc L st M c s) ((tIc 0 1) 84 L st M) else none := ra_L rfl n L st M c s
theorem rs_X4_init_85 (n0 n : Nat) (L : AL) (st : List AV) (M : List AC) (c s : Nat) : rx_X4_init n0 (n + 1) 85 L st M c s = if n0 ≤ M.length then am_jB (fun pc L st M => rx_X4_init n0 n pc L st M c s) (tIas 85 L st M) else none := ra_L rfl n L st M c s
theorem rs_X4_init_86 (n0 n : Nat) (L : AL) (st : List AV) (M : List AC) (c s : Nat) : rx_X4_init n0 (n + 1) 86 L st M c s = if n0 ≤ M.length then am_jB (fun pc L st M => rx_X4_init n0 n pc L st M c s) (tDup 86 L st M) else none := ra_L rfl n L st M c s
theorem rs_X4_init_87 (n0 n : Nat) (L : AL) (st : List AV) (M : List AC) (c s : Nat) : rx_X4_init n0 (n + 1) 87 L st M c s = if n0 ≤ M.length then am_jB (fun pc L st M => rx_X4_init n0 n pc L st M c s) ((tIc 1 1) 87 L st M) else none := ra_L rfl n L st M c s
theorem rs_X4_init_88 (n0 n : Nat) (L : AL) (st : List AV) (M : List AC) (c s : Nat) : rx_X4_init n0 (n + 1) 88 L st M c s = if n0 ≤ M.length then am_jB (fun pc L st M => rx_X4_init n0 n pc L st M c s) ((tIc 0 1) 88 L st M) else none := ra_L rfl n L st M c s
theorem rs_X4_init_89 (n0 n : Nat) (L : AL) (st : List AV) (M : List AC) (c s : Nat) : rx_X4_init n0 (n + 1) 89 L st M c s = if n0 ≤ M.length then am_jB (fun pc L st M => rx_X4_init n0 n pc L st M c s) (tIas 89 L st M) else none := ra_L rfl n L st M c s
theorem rs_X4_init_90 (n0 n : Nat) (L : AL) (st : List AV) (M : List AC) (c s : Nat) : rx_X4_init n0 (n + 1) 90 L st M c s = if n0 ≤ M.length then am_jB (fun pc L st M => rx_X4_init n0 n pc L st M c s) (tDup 90 L st M) else none := ra_L rfl n L st M c s
theorem rs_X4_init_91 (n0 n : Nat) (L : AL) (st : List AV) (M : List AC) (c s : Nat) : rx_X4_init n0 (n + 1) 91 L st M c s = if n0 ≤ M.length then am_jB (fun pc L st M => rx_X4_init n0 n pc L st M c s) ((tIc 2 1) 91 L st M) else none := ra_L rfl n L st M c s
theorem rs_X4_init_92 (n0 n : Nat) (L : AL) (st : List AV) (M : List AC) (c s : Nat) : rx_X4_init n0 (n + 1) 92 L st M c s = if n0 ≤ M.length then am_jB (fun pc L st M => rx_X4_init n0 n pc L st M c s) ((tIc 0 1) 92 L st M) else none := ra_L rfl n L st M c s
theorem rs_X4_init_93 (n0 n : Nat) (L : AL) (st : List AV) (M : List AC) (c s : Nat) : rx_X4_init n0 (n + 1) 93 L st M c s = if n0 ≤ M.length then am_jB (fun pc L st M => rx_X4_init n0 n pc L st M c s) (tIas 93 L st M) else none := ra_L rfl n L st M c s
theorem rs_X4_init_94 (n0 n : Nat) (L : AL) (st : List AV) (M : List AC) (c s : Nat) : rx_X4_init n0 (n + 1) 94 L st M c s = if n0 ≤ M.length then am_jB (fun pc L st M => rx_X4_init n0 n pc L st M c s) (tDup 94 L st M) else none := ra_L rfl n L st M c s
theorem rs_X4_init_95 (n0 n : Nat) (L : AL) (st : List AV) (M : List AC) (c s : Nat) : rx_X4_init n0 (n + 1) 95 L st M c s = if n0 ≤ M.length then am_jB (fun pc L st M => rx_X4_init n0 n pc L st M c s) ((tIc 3 1) 95 L st M) else none := ra_L rfl n L st M c s
theorem rs_X4_init_96 (n0 n : Nat) (L : AL) (st : List AV) (M : List AC) (c s : Nat) : rx_X4_init n0 (n + 1) 96 L st M c s = if n0 ≤ M.length then am_jB (fun pc L st M => rx_X4_init n0 n pc L st M c s) ((tIc 0 1) 96 L st M) else none := ra_L rfl n L st M c s
theorem rs_X4_init_97 (n0 n : Nat) (L : AL) (st : List AV) (M : List AC) (c s : Nat) : rx_X4_init n0 (n + 1) 97 L st M c s = if n0 ≤ M.length then am_jB (fun pc L st M => rx_X4_init n0 n pc L st M c s) (tIas 97 L st M) else none := ra_L rfl n L st M c s
theorem rs_X4_init_98 (n0 n : Nat) (L : AL) (st : List AV) (M : List AC) (c s : Nat) : rx_X4_init n0 (n + 1) 98 L st M c s = if n0 ≤ M.length then am_jB (fun pc L st M => rx_X4_init n0 n pc L st M c s) ((tPf kR 4 4) 98 L st M) else none := ra_L rfl n L st M c s
theorem rs_X4_init_101 (n0 n : Nat) (L : AL) (st : List AV) (M : List AC) (c s : Nat) : rx_X4_init n0 (n + 1) 101 L st M c s = am_eA rV st M c s := ra_R rfl rfl n L st M c s
theorem ri_X4_init (c : Prop) [Decidable c] (p q n0 n : Nat) (L : AL) (st : List AV) (M : List AC) (x y : Nat) : rx_X4_init n0 n (if c then p else q) L st M x y = if c then rx_X4_init n0 n p L st M x y else rx_X4_init n0 n q L st M x y := by split <;> rfl
theorem rm_X4_init {n0 n k pc : Nat} {L : AL} {st : List AV} {M : List AC} {c s : Nat} {x : Option AV × List AC × Nat × Nat} (h : rx_X4_init n0 n pc L st M c s = some x) (hk : n ≤ k) : rx_X4_init n0 k pc L st M c s = some x := am_ra_mono n k h hk
def fn_X4_init : FnA := am_fnA tb_X4_init rV [101] 1
theorem fok_X4_init : FokA mi_X4_init fn_X4_init := am_fokA (fun a => ok_X4_init a _) rk_X4_init rfl
abbrev mi_X3_init : Mi := (yX3_init, cX3_init, 2, none, 2)
theorem mf_X3_init : am_mf mi_X3_init 1 := ⟨w_co_X3_init, w_in_X3, ⟨by decide +kernel, by decide +kernel⟩, by decide +kernel, by decide⟩
def tb_X3_init : List (Nat × TrA) := [(0, tL (tAld 0 1)), (1, tL tObj), (4, tL (tAld 0 1)), (5, tL (tIc 2401 3)), (8, tNewa false), (10, tL (tPf kR 3 1)), (13, tL (tAld 0 1)), (14, tL (tIc 0 1)), (15, tL (tPf kI 3 2)), (18, tL (tAld 0 1)), (19, tL (tIc 2401 3)), (22, tNewa false), (24, tL (tPf kR 3 3)), (27, tL (tAld 0 1)), (28, tL (tIc 2401 3)), (31, tNewa false), (33, tL (tPf kR 3 4)), (36, tL (tAld 0 1)), (37, tL (tIc 0 1)), (38, tL (tPf kI 3 5)), (41, tL (tAld 0 1)), (42, tL (tAld 1 1)), (43, tL (tPf kR 3 0))]
theorem ok_X3_init (a : Am) (G : (Nat → Nat) → Prop) : TokG a mi_X3_init G tb_X3_init :=
  TcG (sd_L (sd_aload_n dX3_init_0)) <|
  TcG (sd_L (sd_obj w_ml_X3_3 dX3_init_1)) <|
  TcG (sd_L (sd_aload_n dX3_init_4)) <|
  TcG (sd_L (sd_sipush (by decide +kernel) dX3_init_5)) <|
  TcG (sd_newa false rfl dX3_init_8) <|
  TcG (sd_L (sd_putF (T := TX3) rfl giX3 (by decide) w_fl_X3_9 tyX3 tyX3_ok nmX3 (kA_ok _) rfl rfl rfl dX3_init_10)) <|
  TcG (sd_L (sd_aload_n dX3_init_13)) <|
  TcG (sd_L (sd_iconst rfl dX3_init_14)) <|
  TcG (sd_L (sd_putf (T := TX3) rfl giX3 (by decide) w_fl_X3_15 tyX3 tyX3_ok nmX3 (kI_ok) rfl dX3_init_15)) <|
  TcG (sd_L (sd_aload_n dX3_init_18)) <|
  TcG (sd_L (sd_sipush (by decide +kernel) dX3_init_19)) <|
  TcG (sd_newa false rfl dX3_init_22) <|
  TcG (sd_L (sd_putF (T := TX3) rfl giX3 (by decide) w_fl_X3_19 tyX3 tyX3_ok nmX3 (kA_ok _) rfl rfl rfl dX3_init_24)) <|
  TcG (sd_L (sd_aload_n dX3_init_27)) <|
  TcG (sd_L (sd_sipush (by decide +kernel) dX3_init_28)) <|
  TcG (sd_newa false rfl dX3_init_31) <|
  TcG (sd_L (sd_putF (T := TX3) rfl giX3 (by decide) w_fl_X3_22 tyX3 tyX3_ok nmX3 (kA_ok _) rfl rfl rfl dX3_init_33)) <|
  TcG (sd_L (sd_aload_n dX3_init_36)) <|
  TcG (sd_L (sd_iconst rfl dX3_init_37)) <|
  TcG (sd_L (sd_putf (T := TX3) rfl giX3 (by decide) w_fl_X3_25 tyX3 tyX3_ok nmX3 (kI_ok) rfl dX3_init_38)) <|
  TcG (sd_L (sd_aload_n dX3_init_41)) <|
  TcG (sd_L (sd_aload_n dX3_init_42)) <|
  TcG (sd_L (sd_putF (T := TX3) rfl giX3 (by decide) w_fl_X3_28 tyX3 tyX3_ok nmX3 (kO_ok _) rfl rfl rfl dX3_init_43)) <|
  TnG
theorem rk_X3_init : Rok mi_X3_init rV [46] := rk_v dX3_init_46 <| rk_n
def rx_X3_init (n0 : Nat) : Nat → Nat → AL → List AV → List AC → Nat → Nat → Option (Option AV × List AC × Nat × Nat) := am_ra n0 tb_X3_init rV [46]
theorem rs_X3_init_0 (n0 n : Nat) (L : AL) (st : List AV) (M : List AC) (c s : Nat) : rx_X3_init n0 (n + 1) 0 L st M c s = if n0 ≤ M.length then am_jB (fun pc L st M => rx_X3_init n0 n pc L st M c s) ((tAld 0 1) 0 L st M) else none := ra_L rfl n L st M c s
theorem rs_X3_init_1 (n0 n : Nat) (L : AL) (st : List AV) (M : List AC) (c s : Nat) : rx_X3_init n0 (n + 1) 1 L st M c s = if n0 ≤ M.length then am_jB (fun pc L st M => rx_X3_init n0 n pc L st M c s) (tObj 1 L st M) else none := ra_L rfl n L st M c s
theorem rs_X3_init_4 (n0 n : Nat) (L : AL) (st : List AV) (M : List AC) (c s : Nat) : rx_X3_init n0 (n + 1) 4 L st M c s = if n0 ≤ M.length then am_jB (fun pc L st M => rx_X3_init n0 n pc L st M c s) ((tAld 0 1) 4 L st M) else none := ra_L rfl n L st M c s
theorem rs_X3_init_5 (n0 n : Nat) (L : AL) (st : List AV) (M : List AC) (c s : Nat) : rx_X3_init n0 (n + 1) 5 L st M c s = if n0 ≤ M.length then am_jB (fun pc L st M => rx_X3_init n0 n pc L st M c s) ((tIc 2401 3) 5 L st M) else none := ra_L rfl n L st M c s
theorem rs_X3_init_8 (n0 n : Nat) (L : AL) (st : List AV) (M : List AC) (c s : Nat) : rx_X3_init n0 (n + 1) 8 L st M c s = if n0 ≤ M.length then am_jC (rx_X3_init n0 n) ((tNewa false) 8 L st M) c s else none := ra_A rfl n L st M c s
theorem rs_X3_init_10 (n0 n : Nat) (L : AL) (st : List AV) (M : List AC) (c s : Nat) : rx_X3_init n0 (n + 1) 10 L st M c s = if n0 ≤ M.length then am_jB (fun pc L st M => rx_X3_init n0 n pc L st M c s) ((tPf kR 3 1) 10 L st M) else none := ra_L rfl n L st M c s
theorem rs_X3_init_13 (n0 n : Nat) (L : AL) (st : List AV) (M : List AC) (c s : Nat) : rx_X3_init n0 (n + 1) 13 L st M c s = if n0 ≤ M.length then am_jB (fun pc L st M => rx_X3_init n0 n pc L st M c s) ((tAld 0 1) 13 L st M) else none := ra_L rfl n L st M c s
theorem rs_X3_init_14 (n0 n : Nat) (L : AL) (st : List AV) (M : List AC) (c s : Nat) : rx_X3_init n0 (n + 1) 14 L st M c s = if n0 ≤ M.length then am_jB (fun pc L st M => rx_X3_init n0 n pc L st M c s) ((tIc 0 1) 14 L st M) else none := ra_L rfl n L st M c s
theorem rs_X3_init_15 (n0 n : Nat) (L : AL) (st : List AV) (M : List AC) (c s : Nat) : rx_X3_init n0 (n + 1) 15 L st M c s = if n0 ≤ M.length then am_jB (fun pc L st M => rx_X3_init n0 n pc L st M c s) ((tPf kI 3 2) 15 L st M) else none := ra_L rfl n L st M c s
theorem rs_X3_init_18 (n0 n : Nat) (L : AL) (st : List AV) (M : List AC) (c s : Nat) : rx_X3_init n0 (n + 1) 18 L st M c s = if n0 ≤ M.length then am_jB (fun pc L st M => rx_X3_init n0 n pc L st M c s) ((tAld 0 1) 18 L st M) else none := ra_L rfl n L st M c s
theorem rs_X3_init_19 (n0 n : Nat) (L : AL) (st : List AV) (M : List AC) (c s : Nat) : rx_X3_init n0 (n + 1) 19 L st M c s = if n0 ≤ M.length then am_jB (fun pc L st M => rx_X3_init n0 n pc L st M c s) ((tIc 2401 3) 19 L st M) else none := ra_L rfl n L st M c s
theorem rs_X3_init_22 (n0 n : Nat) (L : AL) (st : List AV) (M : List AC) (c s : Nat) : rx_X3_init n0 (n + 1) 22 L st M c s = if n0 ≤ M.length then am_jC (rx_X3_init n0 n) ((tNewa false) 22 L st M) c s else none := ra_A rfl n L st M c s
theorem rs_X3_init_24 (n0 n : Nat) (L : AL) (st : List AV) (M : List AC) (c s : Nat) : rx_X3_init n0 (n + 1) 24 L st M c s = if n0 ≤ M.length then am_jB (fun pc L st M => rx_X3_init n0 n pc L st M c s) ((tPf kR 3 3) 24 L st M) else none := ra_L rfl n L st M c s
theorem rs_X3_init_27 (n0 n : Nat) (L : AL) (st : List AV) (M : List AC) (c s : Nat) : rx_X3_init n0 (n + 1) 27 L st M c s = if n0 ≤ M.length then am_jB (fun pc L st M => rx_X3_init n0 n pc L st M c s) ((tAld 0 1) 27 L st M) else none := ra_L rfl n L st M c s
theorem rs_X3_init_28 (n0 n : Nat) (L : AL) (st : List AV) (M : List AC) (c s : Nat) : rx_X3_init n0 (n + 1) 28 L st M c s = if n0 ≤ M.length then am_jB (fun pc L st M => rx_X3_init n0 n pc L st M c s) ((tIc 2401 3) 28 L st M) else none := ra_L rfl n L st M c s
theorem rs_X3_init_31 (n0 n : Nat) (L : AL) (st : List AV) (M : List AC) (c s : Nat) : rx_X3_init n0 (n + 1) 31 L st M c s = if n0 ≤ M.length then am_jC (rx_X3_init n0 n) ((tNewa false) 31 L st M) c s else none := ra_A rfl n L st M c s
theorem rs_X3_init_33 (n0 n : Nat) (L : AL) (st : List AV) (M : List AC) (c s : Nat) : rx_X3_init n0 (n + 1) 33 L st M c s = if n0 ≤ M.length then am_jB (fun pc L st M => rx_X3_init n0 n pc L st M c s) ((tPf kR 3 4) 33 L st M) else none := ra_L rfl n L st M c s
theorem rs_X3_init_36 (n0 n : Nat) (L : AL) (st : List AV) (M : List AC) (c s : Nat) : rx_X3_init n0 (n + 1) 36 L st M c s = if n0 ≤ M.length then am_jB (fun pc L st M => rx_X3_init n0 n pc L st M c s) ((tAld 0 1) 36 L st M) else none := ra_L rfl n L st M c s
theorem rs_X3_init_37 (n0 n : Nat) (L : AL) (st : List AV) (M : List AC) (c s : Nat) : rx_X3_init n0 (n + 1) 37 L st M c s = if n0 ≤ M.length then am_jB (fun pc L st M => rx_X3_init n0 n pc L st M c s) ((tIc 0 1) 37 L st M) else none := ra_L rfl n L st M c s
theorem rs_X3_init_38 (n0 n : Nat) (L : AL) (st : List AV) (M : List AC) (c s : Nat) : rx_X3_init n0 (n + 1) 38 L st M c s = if n0 ≤ M.length then am_jB (fun pc L st M => rx_X3_init n0 n pc L st M c s) ((tPf kI 3 5) 38 L st M) else none := ra_L rfl n L st M c s
theorem rs_X3_init_41 (n0 n : Nat) (L : AL) (st : List AV) (M : List AC) (c s : Nat) : rx_X3_init n0 (n + 1) 41 L st M c s = if n0 ≤ M.length then am_jB (fun pc L st M => rx_X3_init n0 n pc L st M c s) ((tAld 0 1) 41 L st M) else none := ra_L rfl n L st M c s
theorem rs_X3_init_42 (n0 n : Nat) (L : AL) (st : List AV) (M : List AC) (c s : Nat) : rx_X3_init n0 (n + 1) 42 L st M c s = if n0 ≤ M.length then am_jB (fun pc L st M => rx_X3_init n0 n pc L st M c s) ((tAld 1 1) 42 L st M) else none := ra_L rfl n L st M c s
theorem rs_X3_init_43 (n0 n : Nat) (L : AL) (st : List AV) (M : List AC) (c s : Nat) : rx_X3_init n0 (n + 1) 43 L st M c s = if n0 ≤ M.length then am_jB (fun pc L st M => rx_X3_init n0 n pc L st M c s) ((tPf kR 3 0) 43 L st M) else none := ra_L rfl n L st M c s
theorem rs_X3_init_46 (n0 n : Nat) (L : AL) (st : List AV) (M : List AC) (c s : Nat) : rx_X3_init n0 (n + 1) 46 L st M c s = am_eA rV st M c s := ra_R rfl rfl n L st M c s
theorem ri_X3_init (c : Prop) [Decidable c] (p q n0 n : Nat) (L : AL) (st : List AV) (M : List AC) (x y : Nat) : rx_X3_init n0 n (if c then p else q) L st M x y = if c then rx_X3_init n0 n p L st M x y else rx_X3_init n0 n q L st M x y := by split <;> rfl
theorem rm_X3_init {n0 n k pc : Nat} {L : AL} {st : List AV} {M : List AC} {c s : Nat} {x : Option AV × List AC × Nat × Nat} (h : rx_X3_init n0 n pc L st M c s = some x) (hk : n ≤ k) : rx_X3_init n0 k pc L st M c s = some x := am_ra_mono n k h hk
def fn_X3_init : FnA := am_fnA tb_X3_init rV [46] 2
theorem fok_X3_init : FokA mi_X3_init fn_X3_init := am_fokA (fun a => ok_X3_init a _) rk_X3_init rfl
abbrev mi_X6_init : Mi := (yX6_init, cX6_init, 2, none, 2)
theorem mf_X6_init : am_mf mi_X6_init 0 := ⟨w_co_X6_init, w_in_X6, ⟨by decide +kernel, by decide +kernel⟩, by decide +kernel, by decide⟩
def tb_X6_init : List (Nat × TrA) := [(0, tL (tAld 0 1)), (1, tL tObj), (4, tL (tAld 0 1)), (5, tL (tIc 4 1)), (6, tNewa false), (8, tL (tPf kR 6 1)), (11, tL (tAld 0 1)), (12, tL (tIc 12 2)), (14, tNewa false), (16, tL (tPf kR 6 2)), (19, tL (tAld 0 1)), (20, tL (tIc 3 1)), (21, tNewa false), (23, tL (tPf kR 6 4)), (26, tL (tAld 0 1)), (27, tL (tIc 3 1)), (28, tNewa false), (30, tL (tPf kR 6 5)), (33, tL (tAld 0 1)), (34, tL (tIc 24 2)), (36, tNewa false), (38, tL (tPf kR 6 6)), (41, tL (tAld 0 1)), (42, tL (tIc 4 1)), (43, tNewa false), (45, tL (tPf kR 6 8)), (48, tL (tAld 0 1)), (49, tL (tIc 4 1)), (50, tNewa false), (52, tL (tPf kR 6 9)), (55, tL (tAld 0 1)), (56, tL (tIc 4 1)), (57, tNewa false), (59, tL (tPf kR 6 10)), (62, tL (tAld 0 1)), (63, tL (tIc 192 3)), (66, tNewa false), (68, tL (tPf kR 6 13)), (71, tL (tAld 0 1)), (72, tL (tIc 2401 3)), (75, tNewa false), (77, tL (tPf kR 6 16)), (80, tL (tAld 0 1)), (81, tL (tIc 2401 3)), (84, tNewa false), (86, tL (tPf kR 6 17)), (89, tL (tAld 0 1)), (90, tL (tIc 2401 3)), (93, tNewa false), (95, tL (tPf kR 6 18)), (98, tL (tAld 0 1)), (99, tL (tIc 2401 3)), (102, tNewa false), (104, tL (tPf kR 6 19)), (107, tL (tAld 0 1)), (108, tL (tIc 4 1)), (109, tNewa false), (111, tL (tPf kR 6 22)), (114, tL (tAld 0 1)), (115, tL (tIc 2 1)), (116, tNewa true), (118, tL (tPf kR 6 24)), (121, tL (tAld 0 1)), (122, tL (tIc 24 2)), (124, tNewa false), (126, tL (tPf kR 6 25)), (129, tL (tAld 0 1)), (130, tL (tIc 1 1)), (131, tL (tPf kI 6 0)), (134, tL (tIc 0 1)), (135, tL (tIst 1 1)), (136, tL (tIld 1 1)), (137, tL (tIc 4 1)), (138, tL (tCmge 154)), (141, tL (tAld 0 1)), (142, tL (tGf 6 1)), (145, tL (tIld 1 1)), (146, tL (tIc 1 1)), (147, tL tIas), (148, tL (tIinc 1 1)), (151, tL (tGo 136))]
theorem ok_X6_init (a : Am) (G : (Nat → Nat) → Prop) : TokG a mi_X6_init G tb_X6_init :=
  TcG (sd_L (sd_aload_n dX6_init_0)) <|
  TcG (sd_L (sd_obj w_ml_X6_1 dX6_init_1)) <|
  TcG (sd_L (sd_aload_n dX6_init_4)) <|
  TcG (sd_L (sd_iconst rfl dX6_init_5)) <|
  TcG (sd_newa false rfl dX6_init_6) <|
  TcG (sd_L (sd_putF (T := TX6) rfl giX6 (by decide) w_fl_X6_7 tyX6 tyX6_ok nmX6 (kA_ok _) rfl rfl rfl dX6_init_8)) <|
  TcG (sd_L (sd_aload_n dX6_init_11)) <|
  TcG (sd_L (sd_bipush (by decide +kernel) dX6_init_12)) <|
  TcG (sd_newa false rfl dX6_init_14) <|
  TcG (sd_L (sd_putF (T := TX6) rfl giX6 (by decide) w_fl_X6_13 tyX6 tyX6_ok nmX6 (kA_ok _) rfl rfl rfl dX6_init_16)) <|
  TcG (sd_L (sd_aload_n dX6_init_19)) <|
  TcG (sd_L (sd_iconst rfl dX6_init_20)) <|
  TcG (sd_newa false rfl dX6_init_21) <|
  TcG (sd_L (sd_putF (T := TX6) rfl giX6 (by decide) w_fl_X6_16 tyX6 tyX6_ok nmX6 (kA_ok _) rfl rfl rfl dX6_init_23)) <|
  TcG (sd_L (sd_aload_n dX6_init_26)) <|
  TcG (sd_L (sd_iconst rfl dX6_init_27)) <|
  TcG (sd_newa false rfl dX6_init_28) <|
  TcG (sd_L (sd_putF (T := TX6) rfl giX6 (by decide) w_fl_X6_19 tyX6 tyX6_ok nmX6 (kA_ok _) rfl rfl rfl dX6_init_30)) <|
  TcG (sd_L (sd_aload_n dX6_init_33)) <|
  TcG (sd_L (sd_bipush (by decide +kernel) dX6_init_34)) <|
  TcG (sd_newa false rfl dX6_init_36) <|
  TcG (sd_L (sd_putF (T := TX6) rfl giX6 (by decide) w_fl_X6_22 tyX6 tyX6_ok nmX6 (kA_ok _) rfl rfl rfl dX6_init_38)) <|
  TcG (sd_L (sd_aload_n dX6_init_41)) <|
  TcG (sd_L (sd_iconst rfl dX6_init_42)) <|
  TcG (sd_newa false rfl dX6_init_43) <|
  TcG (sd_L (sd_putF (T := TX6) rfl giX6 (by decide) w_fl_X6_25 tyX6 tyX6_ok nmX6 (kA_ok _) rfl rfl rfl dX6_init_45)) <|
  TcG (sd_L (sd_aload_n dX6_init_48)) <|
  TcG (sd_L (sd_iconst rfl dX6_init_49)) <|
  TcG (sd_newa false rfl dX6_init_50) <|
  TcG (sd_L (sd_putF (T := TX6) rfl giX6 (by decide) w_fl_X6_28 tyX6 tyX6_ok nmX6 (kA_ok _) rfl rfl rfl dX6_init_52)) <|
  TcG (sd_L (sd_aload_n dX6_init_55)) <|
  TcG (sd_L (sd_iconst rfl dX6_init_56)) <|
  TcG (sd_newa false rfl dX6_init_57) <|
  TcG (sd_L (sd_putF (T := TX6) rfl giX6 (by decide) w_fl_X6_31 tyX6 tyX6_ok nmX6 (kA_ok _) rfl rfl rfl dX6_init_59)) <|
  TcG (sd_L (sd_aload_n dX6_init_62)) <|
  TcG (sd_L (sd_sipush (by decide +kernel) dX6_init_63)) <|
  TcG (sd_newa false rfl dX6_init_66) <|
  TcG (sd_L (sd_putF (T := TX6) rfl giX6 (by decide) w_fl_X6_34 tyX6 tyX6_ok nmX6 (kA_ok _) rfl rfl rfl dX6_init_68)) <|
  TcG (sd_L (sd_aload_n dX6_init_71)) <|
  TcG (sd_L (sd_sipush (by decide +kernel) dX6_init_72)) <|
  TcG (sd_newa false rfl dX6_init_75) <|
  TcG (sd_L (sd_putF (T := TX6) rfl giX6 (by decide) w_fl_X6_37 tyX6 tyX6_ok nmX6 (kA_ok _) rfl rfl rfl dX6_init_77)) <|
  TcG (sd_L (sd_aload_n dX6_init_80)) <|
  TcG (sd_L (sd_sipush (by decide +kernel) dX6_init_81)) <|
  TcG (sd_newa false rfl dX6_init_84) <|
  TcG (sd_L (sd_putF (T := TX6) rfl giX6 (by decide) w_fl_X6_40 tyX6 tyX6_ok nmX6 (kA_ok _) rfl rfl rfl dX6_init_86)) <|
  TcG (sd_L (sd_aload_n dX6_init_89)) <|
  TcG (sd_L (sd_sipush (by decide +kernel) dX6_init_90)) <|
  TcG (sd_newa false rfl dX6_init_93) <|
  TcG (sd_L (sd_putF (T := TX6) rfl giX6 (by decide) w_fl_X6_43 tyX6 tyX6_ok nmX6 (kA_ok _) rfl rfl rfl dX6_init_95)) <|
  TcG (sd_L (sd_aload_n dX6_init_98)) <|
  TcG (sd_L (sd_sipush (by decide +kernel) dX6_init_99)) <|
  TcG (sd_newa false rfl dX6_init_102) <|
  TcG (sd_L (sd_putF (T := TX6) rfl giX6 (by decide) w_fl_X6_46 tyX6 tyX6_ok nmX6 (kA_ok _) rfl rfl rfl dX6_init_104)) <|
  TcG (sd_L (sd_aload_n dX6_init_107)) <|
  TcG (sd_L (sd_iconst rfl dX6_init_108)) <|
  TcG (sd_newa false rfl dX6_init_109) <|
  TcG (sd_L (sd_putF (T := TX6) rfl giX6 (by decide) w_fl_X6_49 tyX6 tyX6_ok nmX6 (kA_ok _) rfl rfl rfl dX6_init_111)) <|
  TcG (sd_L (sd_aload_n dX6_init_114)) <|
  TcG (sd_L (sd_iconst rfl dX6_init_115)) <|
  TcG (sd_newa true rfl dX6_init_116) <|
  TcG (sd_L (sd_putF (T := TX6) rfl giX6 (by decide) w_fl_X6_52 tyX6 tyX6_ok nmX6 (kA_ok _) rfl rfl rfl dX6_init_118)) <|
  TcG (sd_L (sd_aload_n dX6_init_121)) <|
  TcG (sd_L (sd_bipush (by decide +kernel) dX6_init_122)) <|
  TcG (sd_newa false rfl dX6_init_124) <|
  TcG (sd_L (sd_putF (T := TX6) rfl giX6 (by decide) w_fl_X6_56 tyX6 tyX6_ok nmX6 (kA_ok _) rfl rfl rfl dX6_init_126)) <|
  TcG (sd_L (sd_aload_n dX6_init_129)) <|
  TcG (sd_L (sd_iconst rfl dX6_init_130)) <|
  TcG (sd_L (sd_putf (T := TX6) rfl giX6 (by decide) w_fl_X6_59 tyX6 tyX6_ok nmX6 (kI_ok) rfl dX6_init_131)) <|
  TcG (sd_L (sd_iconst rfl dX6_init_134)) <|
  TcG (sd_L (sd_istore_n dX6_init_135)) <|
  TcG (sd_L (sd_iload_n dX6_init_136)) <|
  TcG (sd_L (sd_iconst rfl dX6_init_137)) <|
  TcG (sd_L (sd_cm_ge (by decide) dX6_init_138)) <|
  TcG (sd_L (sd_aload_n dX6_init_141)) <|
  TcG (sd_L (sd_getf (T := TX6) rfl giX6 (by decide) w_fl_X6_7 dX6_init_142)) <|
  TcG (sd_L (sd_iload_n dX6_init_145)) <|
  TcG (sd_L (sd_iconst rfl dX6_init_146)) <|
  TcG (sd_L (sd_ias dX6_init_147)) <|
  TcG (sd_L (sd_iinc dX6_init_148)) <|
  TcG (sd_L (sd_goto (by decide) dX6_init_151)) <|
  TnG
theorem rk_X6_init : Rok mi_X6_init rV [154] := rk_v dX6_init_154 <| rk_n
def rx_X6_init (n0 : Nat) : Nat → Nat → AL → List AV → List AC → Nat → Nat → Option (Option AV × List AC × Nat × Nat) := am_ra n0 tb_X6_init rV [154]
theorem rs_X6_init_0 (n0 n : Nat) (L : AL) (st : List AV) (M : List AC) (c s : Nat) : rx_X6_init n0 (n + 1) 0 L st M c s = if n0 ≤ M.length then am_jB (fun pc L st M => rx_X6_init n0 n pc L st M c s) ((tAld 0 1) 0 L st M) else none := ra_L rfl n L st M c s
theorem rs_X6_init_1 (n0 n : Nat) (L : AL) (st : List AV) (M : List AC) (c s : Nat) : rx_X6_init n0 (n + 1) 1 L st M c s = if n0 ≤ M.length then am_jB (fun pc L st M => rx_X6_init n0 n pc L st M c s) (tObj 1 L st M) else none := ra_L rfl n L st M c s
theorem rs_X6_init_4 (n0 n : Nat) (L : AL) (st : List AV) (M : List AC) (c s : Nat) : rx_X6_init n0 (n + 1) 4 L st M c s = if n0 ≤ M.length then am_jB (fun pc L st M => rx_X6_init n0 n pc L st M c s) ((tAld 0 1) 4 L st M) else none := ra_L rfl n L st M c s
theorem rs_X6_init_5 (n0 n : Nat) (L : AL) (st : List AV) (M : List AC) (c s : Nat) : rx_X6_init n0 (n + 1) 5 L st M c s = if n0 ≤ M.length then am_jB (fun pc L st M => rx_X6_init n0 n pc L st M c s) ((tIc 4 1) 5 L st M) else none := ra_L rfl n L st M c s
theorem rs_X6_init_6 (n0 n : Nat) (L : AL) (st : List AV) (M : List AC) (c s : Nat) : rx_X6_init n0 (n + 1) 6 L st M c s = if n0 ≤ M.length then am_jC (rx_X6_init n0 n) ((tNewa false) 6 L st M) c s else none := ra_A rfl n L st M c s
theorem rs_X6_init_8 (n0 n : Nat) (L : AL) (st : List AV) (M : List AC) (c s : Nat) : rx_X6_init n0 (n + 1) 8 L st M c s = if n0 ≤ M.length then am_jB (fun pc L st M => rx_X6_init n0 n pc L st M c s) ((tPf kR 6 1) 8 L st M) else none := ra_L rfl n L st M c s
theorem rs_X6_init_11 (n0 n : Nat) (L : AL) (st : List AV) (M : List AC) (c s : Nat) : rx_X6_init n0 (n + 1) 11 L st M c s = if n0 ≤ M.length then am_jB (fun pc L st M => rx_X6_init n0 n pc L st M c s) ((tAld 0 1) 11 L st M) else none := ra_L rfl n L st M c s
theorem rs_X6_init_12 (n0 n : Nat) (L : AL) (st : List AV) (M : List AC) (c s : Nat) : rx_X6_init n0 (n + 1) 12 L st M c s = if n0 ≤ M.length then am_jB (fun pc L st M => rx_X6_init n0 n pc L st M c s) ((tIc 12 2) 12 L st M) else none := ra_L rfl n L st M c s
theorem rs_X6_init_14 (n0 n : Nat) (L : AL) (st : List AV) (M : List AC) (c s : Nat) : rx_X6_init n0 (n + 1) 14 L st M c s = if n0 ≤ M.length then am_jC (rx_X6_init n0 n) ((tNewa false) 14 L st M) c s else none := ra_A rfl n L st M c s
theorem rs_X6_init_16 (n0 n : Nat) (L : AL) (st : List AV) (M : List AC) (c s : Nat) : rx_X6_init n0 (n + 1) 16 L st M c s = if n0 ≤ M.length then am_jB (fun pc L st M => rx_X6_init n0 n pc L st M c s) ((tPf kR 6 2) 16 L st M) else none := ra_L rfl n L st M c s
theorem rs_X6_init_19 (n0 n : Nat) (L : AL) (st : List AV) (M : List AC) (c s : Nat) : rx_X6_init n0 (n + 1) 19 L st M c s = if n0 ≤ M.length then am_jB (fun pc L st M => rx_X6_init n0 n pc L st M c s) ((tAld 0 1) 19 L st M) else none := ra_L rfl n L st M c s
theorem rs_X6_init_20 (n0 n : Nat) (L : AL) (st : List AV) (M : List AC) (c s : Nat) : rx_X6_init n0 (n + 1) 20 L st M c s = if n0 ≤ M.length then am_jB (fun pc L st M => rx_X6_init n0 n pc L st M c s) ((tIc 3 1) 20 L st M) else none := ra_L rfl n L st M c s
theorem rs_X6_init_21 (n0 n : Nat) (L : AL) (st : List AV) (M : List AC) (c s : Nat) : rx_X6_init n0 (n + 1) 21 L st M c s = if n0 ≤ M.length then am_jC (rx_X6_init n0 n) ((tNewa false) 21 L st M) c s else none := ra_A rfl n L st M c s
theorem rs_X6_init_23 (n0 n : Nat) (L : AL) (st : List AV) (M : List AC) (c s : Nat) : rx_X6_init n0 (n + 1) 23 L st M c s = if n0 ≤ M.length then am_jB (fun pc L st M => rx_X6_init n0 n pc L st M c s) ((tPf kR 6 4) 23 L st M) else none := ra_L rfl n L st M c s
theorem rs_X6_init_26 (n0 n : Nat) (L : AL) (st : List AV) (M : List AC) (c s : Nat) : rx_X6_init n0 (n + 1) 26 L st M c s = if n0 ≤ M.length then am_jB (fun pc L st M => rx_X6_init n0 n pc L st M c s) ((tAld 0 1) 26 L st M) else none := ra_L rfl n L st M c s
theorem rs_X6_init_27 (n0 n : Nat) (L : AL) (st : List AV) (M : List AC) (c s : Nat) : rx_X6_init n0 (n + 1) 27 L st M c s = if n0 ≤ M.length then am_jB (fun pc L st M => rx_X6_init n0 n pc L st M c s) ((tIc 3 1) 27 L st M) else none := ra_L rfl n L st M c s
theorem rs_X6_init_28 (n0 n : Nat) (L : AL) (st : List AV) (M : List AC) (c s : Nat) : rx_X6_init n0 (n + 1) 28 L st M c s = if n0 ≤ M.length then am_jC (rx_X6_init n0 n) ((tNewa false) 28 L st M) c s else none := ra_A rfl n L st M c s
theorem rs_X6_init_30 (n0 n : Nat) (L : AL) (st : List AV) (M : List AC) (c s : Nat) : rx_X6_init n0 (n + 1) 30 L st M c s = if n0 ≤ M.length then am_jB (fun pc L st M => rx_X6_init n0 n pc L st M c s) ((tPf kR 6 5) 30 L st M) else none := ra_L rfl n L st M c s
theorem rs_X6_init_33 (n0 n : Nat) (L : AL) (st : List AV) (M : List AC) (c s : Nat) : rx_X6_init n0 (n + 1) 33 L st M c s = if n0 ≤ M.length then am_jB (fun pc L st M => rx_X6_init n0 n pc L st M c s) ((tAld 0 1) 33 L st M) else none := ra_L rfl n L st M c s
theorem rs_X6_init_34 (n0 n : Nat) (L : AL) (st : List AV) (M : List AC) (c s : Nat) : rx_X6_init n0 (n + 1) 34 L st M c s = if n0 ≤ M.length then am_jB (fun pc L st M => rx_X6_init n0 n pc L st M c s) ((tIc 24 2) 34 L st M) else none := ra_L rfl n L st M c s
theorem rs_X6_init_36 (n0 n : Nat) (L : AL) (st : List AV) (M : List AC) (c s : Nat) : rx_X6_init n0 (n + 1) 36 L st M c s = if n0 ≤ M.length then am_jC (rx_X6_init n0 n) ((tNewa false) 36 L st M) c s else none := ra_A rfl n L st M c s
theorem rs_X6_init_38 (n0 n : Nat) (L : AL) (st : List AV) (M : List AC) (c s : Nat) : rx_X6_init n0 (n + 1) 38 L st M c s = if n0 ≤ M.length then am_jB (fun pc L st M => rx_X6_init n0 n pc L st M c s) ((tPf kR 6 6) 38 L st M) else none := ra_L rfl n L st M c s
theorem rs_X6_init_41 (n0 n : Nat) (L : AL) (st : List AV) (M : List AC) (c s : Nat) : rx_X6_init n0 (n + 1) 41 L st M c s = if n0 ≤ M.length then am_jB (fun pc L st M => rx_X6_init n0 n pc L st M c s) ((tAld 0 1) 41 L st M) else none := ra_L rfl n L st M c s
theorem rs_X6_init_42 (n0 n : Nat) (L : AL) (st : List AV) (M : List AC) (c s : Nat) : rx_X6_init n0 (n + 1) 42 L st M c s = if n0 ≤ M.length then am_jB (fun pc L st M => rx_X6_init n0 n pc L st M c s) ((tIc 4 1) 42 L st M) else none := ra_L rfl n L st M c s
theorem rs_X6_init_43 (n0 n : Nat) (L : AL) (st : List AV) (M : List AC) (c s : Nat) : rx_X6_init n0 (n + 1) 43 L st M c s = if n0 ≤ M.length then am_jC (rx_X6_init n0 n) ((tNewa false) 43 L st M) c s else none := ra_A rfl n L st M c s
theorem rs_X6_init_45 (n0 n : Nat) (L : AL) (st : List AV) (M : List AC) (c s : Nat) : rx_X6_init n0 (n + 1) 45 L st M c s = if n0 ≤ M.length then am_jB (fun pc L st M => rx_X6_init n0 n pc L st M c s) ((tPf kR 6 8) 45 L st M) else none := ra_L rfl n L st M c s
theorem rs_X6_init_48 (n0 n : Nat) (L : AL) (st : List AV) (M : List AC) (c s : Nat) : rx_X6_init n0 (n + 1) 48 L st M c s = if n0 ≤ M.length then am_jB (fun pc L st M => rx_X6_init n0 n pc L st M c s) ((tAld 0 1) 48 L st M) else none := ra_L rfl n L st M c s
theorem rs_X6_init_49 (n0 n : Nat) (L : AL) (st : List AV) (M : List AC) (c s : Nat) : rx_X6_init n0 (n + 1) 49 L st M c s = if n0 ≤ M.length then am_jB (fun pc L st M => rx_X6_init n0 n pc L st M c s) ((tIc 4 1) 49 L st M) else none := ra_L rfl n L st M c s
theorem rs_X6_init_50 (n0 n : Nat) (L : AL) (st : List AV) (M : List AC) (c s : Nat) : rx_X6_init n0 (n + 1) 50 L st M c s = if n0 ≤ M.length then am_jC (rx_X6_init n0 n) ((tNewa false) 50 L st M) c s else none := ra_A rfl n L st M c s
theorem rs_X6_init_52 (n0 n : Nat) (L : AL) (st : List AV) (M : List AC) (c s : Nat) : rx_X6_init n0 (n + 1) 52 L st M c s = if n0 ≤ M.length then am_jB (fun pc L st M => rx_X6_init n0 n pc L st M c s) ((tPf kR 6 9) 52 L st M) else none := ra_L rfl n L st M c s
theorem rs_X6_init_55 (n0 n : Nat) (L : AL) (st : List AV) (M : List AC) (c s : Nat) : rx_X6_init n0 (n + 1) 55 L st M c s = if n0 ≤ M.length then am_jB (fun pc L st M => rx_X6_init n0 n pc L st M c s) ((tAld 0 1) 55 L st M) else none := ra_L rfl n L st M c s
theorem rs_X6_init_56 (n0 n : Nat) (L : AL) (st : List AV) (M : List AC) (c s : Nat) : rx_X6_init n0 (n + 1) 56 L st M c s = if n0 ≤ M.length then am_jB (fun pc L st M => rx_X6_init n0 n pc L st M c s) ((tIc 4 1) 56 L st M) else none := ra_L rfl n L st M c s
theorem rs_X6_init_57 (n0 n : Nat) (L : AL) (st : List AV) (M : List AC) (c s : Nat) : rx_X6_init n0 (n + 1) 57 L st M c s = if n0 ≤ M.length then am_jC (rx_X6_init n0 n) ((tNewa false) 57 L st M) c s else none := ra_A rfl n L st M c s
theorem rs_X6_init_59 (n0 n : Nat) (L : AL) (st : List AV) (M : List AC) (c s : Nat) : rx_X6_init n0 (n + 1) 59 L st M c s = if n0 ≤ M.length then am_jB (fun pc L st M => rx_X6_init n0 n pc L st M c s) ((tPf kR 6 10) 59 L st M) else none := ra_L rfl n L st M c s
theorem rs_X6_init_62 (n0 n : Nat) (L : AL) (st : List AV) (M : List AC) (c s : Nat) : rx_X6_init n0 (n + 1) 62 L st M c s = if n0 ≤ M.length then am_jB (fun pc L st M => rx_X6_init n0 n pc L st M c s) ((tAld 0 1) 62 L st M) else none := ra_L rfl n L st M c s
theorem rs_X6_init_63 (n0 n : Nat) (L : AL) (st : List AV) (M : List AC) (c s : Nat) : rx_X6_init n0 (n + 1) 63 L st M c s = if n0 ≤ M.length then am_jB (fun pc L st M => rx_X6_init n0 n pc L st M c s) ((tIc 192 3) 63 L st M) else none := ra_L rfl n L st M c s
theorem rs_X6_init_66 (n0 n : Nat) (L : AL) (st : List AV) (M : List AC) (c s : Nat) : rx_X6_init n0 (n + 1) 66 L st M c s = if n0 ≤ M.length then am_jC (rx_X6_init n0 n) ((tNewa false) 66 L st M) c s else none := ra_A rfl n L st M c s
theorem rs_X6_init_68 (n0 n : Nat) (L : AL) (st : List AV) (M : List AC) (c s : Nat) : rx_X6_init n0 (n + 1) 68 L st M c s = if n0 ≤ M.length then am_jB (fun pc L st M => rx_X6_init n0 n pc L st M c s) ((tPf kR 6 13) 68 L st M) else none := ra_L rfl n L st M c s
theorem rs_X6_init_71 (n0 n : Nat) (L : AL) (st : List AV) (M : List AC) (c s : Nat) : rx_X6_init n0 (n + 1) 71 L st M c s = if n0 ≤ M.length then am_jB (fun pc L st M => rx_X6_init n0 n pc L st M c s) ((tAld 0 1) 71 L st M) else none := ra_L rfl n L st M c s
theorem rs_X6_init_72 (n0 n : Nat) (L : AL) (st : List AV) (M : List AC) (c s : Nat) : rx_X6_init n0 (n + 1) 72 L st M c s = if n0 ≤ M.length then am_jB (fun pc L st M => rx_X6_init n0 n pc L st M c s) ((tIc 2401 3) 72 L st M) else none := ra_L rfl n L st M c s
theorem rs_X6_init_75 (n0 n : Nat) (L : AL) (st : List AV) (M : List AC) (c s : Nat) : rx_X6_init n0 (n + 1) 75 L st M c s = if n0 ≤ M.length then am_jC (rx_X6_init n0 n) ((tNewa false) 75 L st M) c s else none := ra_A rfl n L st M c s
theorem rs_X6_init_77 (n0 n : Nat) (L : AL) (st : List AV) (M : List AC) (c s : Nat) : rx_X6_init n0 (n + 1) 77 L st M c s = if n0 ≤ M.length then am_jB (fun pc L st M => rx_X6_init n0 n pc L st M c s) ((tPf kR 6 16) 77 L st M) else none := ra_L rfl n L st M c s
theorem rs_X6_init_80 (n0 n : Nat) (L : AL) (st : List AV) (M : List AC) (c s : Nat) : rx_X6_init n0 (n + 1) 80 L st M c s = if n0 ≤ M.length then am_jB (fun pc L st M => rx_X6_init n0 n pc L st M c s) ((tAld 0 1) 80 L st M) else none := ra_L rfl n L st M c s
theorem rs_X6_init_81 (n0 n : Nat) (L : AL) (st : List AV) (M : List AC) (c s : Nat) : rx_X6_init n0 (n + 1) 81 L st M c s = if n0 ≤ M.length then am_jB (fun pc L st M => rx_X6_init n0 n pc L st M c s) ((tIc 2401 3) 81 L st M) else none := ra_L rfl n L st M c s
theorem rs_X6_init_84 (n0 n : Nat) (L : AL) (st : List AV) (M : List AC) (c s : Nat) : rx_X6_init n0 (n + 1) 84 L st M c s = if n0 ≤ M.length then am_jC (rx_X6_init n0 n) ((tNewa false) 84 L st M) c s else none := ra_A rfl n L st M c s
theorem rs_X6_init_86 (n0 n : Nat) (L : AL) (st : List AV) (M : List AC) (c s : Nat) : rx_X6_init n0 (n + 1) 86 L st M c s = if n0 ≤ M.length then am_jB (fun pc L st M => rx_X6_init n0 n pc L st M c s) ((tPf kR 6 17) 86 L st M) else none := ra_L rfl n L st M c s
theorem rs_X6_init_89 (n0 n : Nat) (L : AL) (st : List AV) (M : List AC) (c s : Nat) : rx_X6_init n0 (n + 1) 89 L st M c s = if n0 ≤ M.length then am_jB (fun pc L st M => rx_X6_init n0 n pc L st M c s) ((tAld 0 1) 89 L st M) else none := ra_L rfl n L st M c s
theorem rs_X6_init_90 (n0 n : Nat) (L : AL) (st : List AV) (M : List AC) (c s : Nat) : rx_X6_init n0 (n + 1) 90 L st M c s = if n0 ≤ M.length then am_jB (fun pc L st M => rx_X6_init n0 n pc L st M c s) ((tIc 2401 3) 90 L st M) else none := ra_L rfl n L st M c s
theorem rs_X6_init_93 (n0 n : Nat) (L : AL) (st : List AV) (M : List AC) (c s : Nat) : rx_X6_init n0 (n + 1) 93 L st M c s = if n0 ≤ M.length then am_jC (rx_X6_init n0 n) ((tNewa false) 93 L st M) c s else none := ra_A rfl n L st M c s
theorem rs_X6_init_95 (n0 n : Nat) (L : AL) (st : List AV) (M : List AC) (c s : Nat) : rx_X6_init n0 (n + 1) 95 L st M c s = if n0 ≤ M.length then am_jB (fun pc L st M => rx_X6_init n0 n pc L st M c s) ((tPf kR 6 18) 95 L st M) else none := ra_L rfl n L st M c s
theorem rs_X6_init_98 (n0 n : Nat) (L : AL) (st : List AV) (M : List AC) (c s : Nat) : rx_X6_init n0 (n + 1) 98 L st M c s = if n0 ≤ M.length then am_jB (fun pc L st M => rx_X6_init n0 n pc L st M c s) ((tAld 0 1) 98 L st M) else none := ra_L rfl n L st M c s
theorem rs_X6_init_99 (n0 n : Nat) (L : AL) (st : List AV) (M : List AC) (c s : Nat) : rx_X6_init n0 (n + 1) 99 L st M c s = if n0 ≤ M.length then am_jB (fun pc L st M => rx_X6_init n0 n pc L st M c s) ((tIc 2401 3) 99 L st M) else none := ra_L rfl n L st M c s
theorem rs_X6_init_102 (n0 n : Nat) (L : AL) (st : List AV) (M : List AC) (c s : Nat) : rx_X6_init n0 (n + 1) 102 L st M c s = if n0 ≤ M.length then am_jC (rx_X6_init n0 n) ((tNewa false) 102 L st M) c s else none := ra_A rfl n L st M c s
theorem rs_X6_init_104 (n0 n : Nat) (L : AL) (st : List AV) (M : List AC) (c s : Nat) : rx_X6_init n0 (n + 1) 104 L st M c s = if n0 ≤ M.length then am_jB (fun pc L st M => rx_X6_init n0 n pc L st M c s) ((tPf kR 6 19) 104 L st M) else none := ra_L rfl n L st M c s
theorem rs_X6_init_107 (n0 n : Nat) (L : AL) (st : List AV) (M : List AC) (c s : Nat) : rx_X6_init n0 (n + 1) 107 L st M c s = if n0 ≤ M.length then am_jB (fun pc L st M => rx_X6_init n0 n pc L st M c s) ((tAld 0 1) 107 L st M) else none := ra_L rfl n L st M c s
theorem rs_X6_init_108 (n0 n : Nat) (L : AL) (st : List AV) (M : List AC) (c s : Nat) : rx_X6_init n0 (n + 1) 108 L st M c s = if n0 ≤ M.length then am_jB (fun pc L st M => rx_X6_init n0 n pc L st M c s) ((tIc 4 1) 108 L st M) else none := ra_L rfl n L st M c s
theorem rs_X6_init_109 (n0 n : Nat) (L : AL) (st : List AV) (M : List AC) (c s : Nat) : rx_X6_init n0 (n + 1) 109 L st M c s = if n0 ≤ M.length then am_jC (rx_X6_init n0 n) ((tNewa false) 109 L st M) c s else none := ra_A rfl n L st M c s
theorem rs_X6_init_111 (n0 n : Nat) (L : AL) (st : List AV) (M : List AC) (c s : Nat) : rx_X6_init n0 (n + 1) 111 L st M c s = if n0 ≤ M.length then am_jB (fun pc L st M => rx_X6_init n0 n pc L st M c s) ((tPf kR 6 22) 111 L st M) else none := ra_L rfl n L st M c s
theorem rs_X6_init_114 (n0 n : Nat) (L : AL) (st : List AV) (M : List AC) (c s : Nat) : rx_X6_init n0 (n + 1) 114 L st M c s = if n0 ≤ M.length then am_jB (fun pc L st M => rx_X6_init n0 n pc L st M c s) ((tAld 0 1) 114 L st M) else none := ra_L rfl n L st M c s
theorem rs_X6_init_115 (n0 n : Nat) (L : AL) (st : List AV) (M : List AC) (c s : Nat) : rx_X6_init n0 (n + 1) 115 L st M c s = if n0 ≤ M.length then am_jB (fun pc L st M => rx_X6_init n0 n pc L st M c s) ((tIc 2 1) 115 L st M) else none := ra_L rfl n L st M c s
theorem rs_X6_init_116 (n0 n : Nat) (L : AL) (st : List AV) (M : List AC) (c s : Nat) : rx_X6_init n0 (n + 1) 116 L st M c s = if n0 ≤ M.length then am_jC (rx_X6_init n0 n) ((tNewa true) 116 L st M) c s else none := ra_A rfl n L st M c s
theorem rs_X6_init_118 (n0 n : Nat) (L : AL) (st : List AV) (M : List AC) (c s : Nat) : rx_X6_init n0 (n + 1) 118 L st M c s = if n0 ≤ M.length then am_jB (fun pc L st M => rx_X6_init n0 n pc L st M c s) ((tPf kR 6 24) 118 L st M) else none := ra_L rfl n L st M c s
theorem rs_X6_init_121 (n0 n : Nat) (L : AL) (st : List AV) (M : List AC) (c s : Nat) : rx_X6_init n0 (n + 1) 121 L st M c s = if n0 ≤ M.length then am_jB (fun pc L st M => rx_X6_init n0 n pc L st M c s) ((tAld 0 1) 121 L st M) else none := ra_L rfl n L st M c s
theorem rs_X6_init_122 (n0 n : Nat) (L : AL) (st : List AV) (M : List AC) (c s : Nat) : rx_X6_init n0 (n + 1) 122 L st M c s = if n0 ≤ M.length then am_jB (fun pc L st M => rx_X6_init n0 n pc L st M c s) ((tIc 24 2) 122 L st M) else none := ra_L rfl n L st M c s
theorem rs_X6_init_124 (n0 n : Nat) (L : AL) (st : List AV) (M : List AC) (c s : Nat) : rx_X6_init n0 (n + 1) 124 L st M c s = if n0 ≤ M.length then am_jC (rx_X6_init n0 n) ((tNewa false) 124 L st M) c s else none := ra_A rfl n L st M c s
theorem rs_X6_init_126 (n0 n : Nat) (L : AL) (st : List AV) (M : List AC) (c s : Nat) : rx_X6_init n0 (n + 1) 126 L st M c s = if n0 ≤ M.length then am_jB (fun pc L st M => rx_X6_init n0 n pc L st M c s) ((tPf kR 6 25) 126 L st M) else none := ra_L rfl n L st M c s
theorem rs_X6_init_129 (n0 n : Nat) (L : AL) (st : List AV) (M : List AC) (c s : Nat) : rx_X6_init n0 (n + 1) 129 L st M c s = if n0 ≤ M.length then am_jB (fun pc L st M => rx_X6_init n0 n pc L st M c s) ((tAld 0 1) 129 L st M) else none := ra_L rfl n L st M c s
theorem rs_X6_init_130 (n0 n : Nat) (L : AL) (st : List AV) (M : List AC) (c s : Nat) : rx_X6_init n0 (n + 1) 130 L st M c s = if n0 ≤ M.length then am_jB (fun pc L st M => rx_X6_init n0 n pc L st M c s) ((tIc 1 1) 130 L st M) else none := ra_L rfl n L st M c s
theorem rs_X6_init_131 (n0 n : Nat) (L : AL) (st : List AV) (M : List AC) (c s : Nat) : rx_X6_init n0 (n + 1) 131 L st M c s = if n0 ≤ M.length then am_jB (fun pc L st M => rx_X6_init n0 n pc L st M c s) ((tPf kI 6 0) 131 L st M) else none := ra_L rfl n L st M c s
theorem rs_X6_init_134 (n0 n : Nat) (L : AL) (st : List AV) (M : List AC) (c s : Nat) : rx_X6_init n0 (n + 1) 134 L st M c s = if n0 ≤ M.length then am_jB (fun pc L st M => rx_X6_init n0 n pc L st M c s) ((tIc 0 1) 134 L st M) else none := ra_L rfl n L st M c s
theorem rs_X6_init_135 (n0 n : Nat) (L : AL) (st : List AV) (M : List AC) (c s : Nat) : rx_X6_init n0 (n + 1) 135 L st M c s = if n0 ≤ M.length then am_jB (fun pc L st M => rx_X6_init n0 n pc L st M c s) ((tIst 1 1) 135 L st M) else none := ra_L rfl n L st M c s
theorem rs_X6_init_136 (n0 n : Nat) (L : AL) (st : List AV) (M : List AC) (c s : Nat) : rx_X6_init n0 (n + 1) 136 L st M c s = if n0 ≤ M.length then am_jB (fun pc L st M => rx_X6_init n0 n pc L st M c s) ((tIld 1 1) 136 L st M) else none := ra_L rfl n L st M c s
theorem rs_X6_init_137 (n0 n : Nat) (L : AL) (st : List AV) (M : List AC) (c s : Nat) : rx_X6_init n0 (n + 1) 137 L st M c s = if n0 ≤ M.length then am_jB (fun pc L st M => rx_X6_init n0 n pc L st M c s) ((tIc 4 1) 137 L st M) else none := ra_L rfl n L st M c s
theorem rs_X6_init_138 (n0 n : Nat) (L : AL) (st : List AV) (M : List AC) (c s : Nat) : rx_X6_init n0 (n + 1) 138 L st M c s = if n0 ≤ M.length then am_jB (fun pc L st M => rx_X6_init n0 n pc L st M c s) ((tCmge 154) 138 L st M) else none := ra_L rfl n L st M c s
theorem rs_X6_init_141 (n0 n : Nat) (L : AL) (st : List AV) (M : List AC) (c s : Nat) : rx_X6_init n0 (n + 1) 141 L st M c s = if n0 ≤ M.length then am_jB (fun pc L st M => rx_X6_init n0 n pc L st M c s) ((tAld 0 1) 141 L st M) else none := ra_L rfl n L st M c s
theorem rs_X6_init_142 (n0 n : Nat) (L : AL) (st : List AV) (M : List AC) (c s : Nat) : rx_X6_init n0 (n + 1) 142 L st M c s = if n0 ≤ M.length then am_jB (fun pc L st M => rx_X6_init n0 n pc L st M c s) ((tGf 6 1) 142 L st M) else none := ra_L rfl n L st M c s
theorem rs_X6_init_145 (n0 n : Nat) (L : AL) (st : List AV) (M : List AC) (c s : Nat) : rx_X6_init n0 (n + 1) 145 L st M c s = if n0 ≤ M.length then am_jB (fun pc L st M => rx_X6_init n0 n pc L st M c s) ((tIld 1 1) 145 L st M) else none := ra_L rfl n L st M c s
theorem rs_X6_init_146 (n0 n : Nat) (L : AL) (st : List AV) (M : List AC) (c s : Nat) : rx_X6_init n0 (n + 1) 146 L st M c s = if n0 ≤ M.length then am_jB (fun pc L st M => rx_X6_init n0 n pc L st M c s) ((tIc 1 1) 146 L st M) else none := ra_L rfl n L st M c s
theorem rs_X6_init_147 (n0 n : Nat) (L : AL) (st : List AV) (M : List AC) (c s : Nat) : rx_X6_init n0 (n + 1) 147 L st M c s = if n0 ≤ M.length then am_jB (fun pc L st M => rx_X6_init n0 n pc L st M c s) (tIas 147 L st M) else none := ra_L rfl n L st M c s
theorem rs_X6_init_148 (n0 n : Nat) (L : AL) (st : List AV) (M : List AC) (c s : Nat) : rx_X6_init n0 (n + 1) 148 L st M c s = if n0 ≤ M.length then am_jB (fun pc L st M => rx_X6_init n0 n pc L st M c s) ((tIinc 1 1) 148 L st M) else none := ra_L rfl n L st M c s
theorem rs_X6_init_151 (n0 n : Nat) (L : AL) (st : List AV) (M : List AC) (c s : Nat) : rx_X6_init n0 (n + 1) 151 L st M c s = if n0 ≤ M.length then am_jB (fun pc L st M => rx_X6_init n0 n pc L st M c s) ((tGo 136) 151 L st M) else none := ra_L rfl n L st M c s
theorem rs_X6_init_154 (n0 n : Nat) (L : AL) (st : List AV) (M : List AC) (c s : Nat) : rx_X6_init n0 (n + 1) 154 L st M c s = am_eA rV st M c s := ra_R rfl rfl n L st M c s
theorem ri_X6_init (c : Prop) [Decidable c] (p q n0 n : Nat) (L : AL) (st : List AV) (M : List AC) (x y : Nat) : rx_X6_init n0 n (if c then p else q) L st M x y = if c then rx_X6_init n0 n p L st M x y else rx_X6_init n0 n q L st M x y := by split <;> rfl
theorem rm_X6_init {n0 n k pc : Nat} {L : AL} {st : List AV} {M : List AC} {c s : Nat} {x : Option AV × List AC × Nat × Nat} (h : rx_X6_init n0 n pc L st M c s = some x) (hk : n ≤ k) : rx_X6_init n0 k pc L st M c s = some x := am_ra_mono n k h hk
def fn_X6_init : FnA := am_fnA tb_X6_init rV [154] 2
theorem fok_X6_init : FokA mi_X6_init fn_X6_init := am_fokA (fun a => ok_X6_init a _) rk_X6_init rfl
abbrev mi_X5_init : Mi := (yX5_init, cX5_init, 1, none, 3)
theorem mf_X5_init : am_mf mi_X5_init 0 := ⟨w_co_X5_init, w_in_X5, ⟨by decide +kernel, by decide +kernel⟩, by decide +kernel, by decide⟩
def tb_X5_init : List (Nat × TrA) := [(0, tL (tAld 0 1)), (1, tL tObj), (4, tL (tAld 0 1)), (5, tL (tIc 24 2)), (7, tNewa false), (9, tL (tPf kR 5 0)), (12, tL (tAld 0 1)), (13, tL (tIc 0 1)), (14, tL (tPf kI 5 1)), (17, tL (tAld 0 1)), (18, tNew 4 5 [vI 0, vN, vN, vN, vN]), (21, tL tDup), (22, tCi 0 fn_X4_init), (25, tL (tPf kR 5 2)), (28, tL (tAld 0 1)), (29, tNew 4 5 [vI 0, vN, vN, vN, vN]), (32, tL tDup), (33, tCi 0 fn_X4_init), (36, tL (tPf kR 5 3)), (39, tL (tAld 0 1)), (40, tNew 0 3 [vI 0, vN, vN]), (43, tL tDup), (44, tCi 0 fn_X0_init), (47, tL (tPf kR 5 4)), (50, tL (tAld 0 1)), (51, tNew 1 3 [vN, vN, vN]), (54, tL tDup), (55, tL (tIc 16 2)), (57, tCi 1 fn_X1_init), (60, tL (tPf kR 5 5)), (63, tL (tAld 0 1)), (64, tL (tIc 0 1)), (65, tL (tPf kI 5 6)), (68, tL (tAld 0 1)), (69, tL (tIc 0 1)), (70, tL (tPf kI 5 7)), (73, tL (tAld 0 1)), (74, tNew 1 3 [vN, vN, vN]), (77, tL tDup), (78, tL (tIc 2 1)), (79, tCi 1 fn_X1_init), (82, tL (tPf kR 5 8)), (85, tL (tAld 0 1)), (86, tL (tIc 2 1)), (87, tNewa true), (89, tL (tPf kR 5 9)), (92, tL (tAld 0 1)), (93, tNew 2 1 [vN]), (96, tL tDup), (97, tCi 0 fn_X2_init), (100, tL (tPf kR 5 10)), (103, tL (tAld 0 1)), (104, tL tNul), (105, tL (tPf kR 5 11)), (108, tL (tAld 0 1)), (109, tL (tLc 0 1)), (110, tL (tPf kJ 5 12))]
theorem ok_X5_init (a : Am) (G : (Nat → Nat) → Prop) : TokG a mi_X5_init G tb_X5_init :=
  TcG (sd_L (sd_aload_n dX5_init_0)) <|
  TcG (sd_L (sd_obj w_ml_X5_1 dX5_init_1)) <|
  TcG (sd_L (sd_aload_n dX5_init_4)) <|
  TcG (sd_L (sd_bipush (by decide +kernel) dX5_init_5)) <|
  TcG (sd_newa false rfl dX5_init_7) <|
  TcG (sd_L (sd_putF (T := TX5) rfl giX5 (by decide) w_fl_X5_9 tyX5 tyX5_ok nmX5 (kA_ok _) rfl rfl rfl dX5_init_9)) <|
  TcG (sd_L (sd_aload_n dX5_init_12)) <|
  TcG (sd_L (sd_iconst rfl dX5_init_13)) <|
  TcG (sd_L (sd_putf (T := TX5) rfl giX5 (by decide) w_fl_X5_13 tyX5 tyX5_ok nmX5 (kI_ok) rfl dX5_init_14)) <|
  TcG (sd_L (sd_aload_n dX5_init_17)) <|
  TcG (sd_new rfl giX4 tyX4 tyX4_ok w_cs_X5_17 w_is_X4 w_in_X4 [vI 0, vN, vN, vN, vN] df_X4 rfl dX5_init_18) <|
  TcG (sd_L (sd_dup dX5_init_21)) <|
  TcG (sd_ciN fok_X4_init mf_X4_init (List.mem_of_getElem? (i := 0) rfl) rfl w_im_X4_init (by decide) dX5_init_22) <|
  TcG (sd_L (sd_putF (T := TX5) rfl giX5 (by decide) w_fl_X5_20 tyX5 tyX5_ok nmX5 (kO_ok _) rfl rfl rfl dX5_init_25)) <|
  TcG (sd_L (sd_aload_n dX5_init_28)) <|
  TcG (sd_new rfl giX4 tyX4 tyX4_ok w_cs_X5_17 w_is_X4 w_in_X4 [vI 0, vN, vN, vN, vN] df_X4 rfl dX5_init_29) <|
  TcG (sd_L (sd_dup dX5_init_32)) <|
  TcG (sd_ciN fok_X4_init mf_X4_init (List.mem_of_getElem? (i := 0) rfl) rfl w_im_X4_init (by decide) dX5_init_33) <|
  TcG (sd_L (sd_putF (T := TX5) rfl giX5 (by decide) w_fl_X5_24 tyX5 tyX5_ok nmX5 (kO_ok _) rfl rfl rfl dX5_init_36)) <|
  TcG (sd_L (sd_aload_n dX5_init_39)) <|
  TcG (sd_new rfl giX0 tyX0 tyX0_ok w_cs_X5_27 w_is_X0 w_in_X0 [vI 0, vN, vN] df_X0 rfl dX5_init_40) <|
  TcG (sd_L (sd_dup dX5_init_43)) <|
  TcG (sd_ciN fok_X0_init mf_X0_init (List.mem_of_getElem? (i := 1) rfl) rfl w_im_X0_init (by decide) dX5_init_44) <|
  TcG (sd_L (sd_putF (T := TX5) rfl giX5 (by decide) w_fl_X5_30 tyX5 tyX5_ok nmX5 (kO_ok _) rfl rfl rfl dX5_init_47)) <|
  TcG (sd_L (sd_aload_n dX5_init_50)) <|
  TcG (sd_new rfl giX1 tyX1 tyX1_ok w_cs_X5_34 w_is_X1 w_in_X1 [vN, vN, vN] df_X1 rfl dX5_init_51) <|
  TcG (sd_L (sd_dup dX5_init_54)) <|
  TcG (sd_L (sd_bipush (by decide +kernel) dX5_init_55)) <|
  TcG (sd_ci fok_X1_init mf_X1_init w_ml_X5_36 rfl w_im_X1_init (by decide) dX5_init_57) <|
  TcG (sd_L (sd_putF (T := TX5) rfl giX5 (by decide) w_fl_X5_39 tyX5 tyX5_ok nmX5 (kO_ok _) rfl rfl rfl dX5_init_60)) <|
  TcG (sd_L (sd_aload_n dX5_init_63)) <|
  TcG (sd_L (sd_iconst rfl dX5_init_64)) <|
  TcG (sd_L (sd_putf (T := TX5) rfl giX5 (by decide) w_fl_X5_43 tyX5 tyX5_ok nmX5 (kI_ok) rfl dX5_init_65)) <|
  TcG (sd_L (sd_aload_n dX5_init_68)) <|
  TcG (sd_L (sd_iconst rfl dX5_init_69)) <|
  TcG (sd_L (sd_putf (T := TX5) rfl giX5 (by decide) w_fl_X5_46 tyX5 tyX5_ok nmX5 (kI_ok) rfl dX5_init_70)) <|
  TcG (sd_L (sd_aload_n dX5_init_73)) <|
  TcG (sd_new rfl giX1 tyX1 tyX1_ok w_cs_X5_34 w_is_X1 w_in_X1 [vN, vN, vN] df_X1 rfl dX5_init_74) <|
  TcG (sd_L (sd_dup dX5_init_77)) <|
  TcG (sd_L (sd_iconst rfl dX5_init_78)) <|
  TcG (sd_ci fok_X1_init mf_X1_init w_ml_X5_36 rfl w_im_X1_init (by decide) dX5_init_79) <|
  TcG (sd_L (sd_putF (T := TX5) rfl giX5 (by decide) w_fl_X5_49 tyX5 tyX5_ok nmX5 (kO_ok _) rfl rfl rfl dX5_init_82)) <|
  TcG (sd_L (sd_aload_n dX5_init_85)) <|
  TcG (sd_L (sd_iconst rfl dX5_init_86)) <|
  TcG (sd_newa true rfl dX5_init_87) <|
  TcG (sd_L (sd_putF (T := TX5) rfl giX5 (by decide) w_fl_X5_52 tyX5 tyX5_ok nmX5 (kA_ok _) rfl rfl rfl dX5_init_89)) <|
  TcG (sd_L (sd_aload_n dX5_init_92)) <|
  TcG (sd_new rfl giX2 tyX2 tyX2_ok w_cs_X5_56 w_is_X2 w_in_X2 [vN] df_X2 rfl dX5_init_93) <|
  TcG (sd_L (sd_dup dX5_init_96)) <|
  TcG (sd_ciN fok_X2_init mf_X2_init (List.mem_of_getElem? (i := 2) rfl) rfl w_im_X2_init (by decide) dX5_init_97) <|
  TcG (sd_L (sd_putF (T := TX5) rfl giX5 (by decide) w_fl_X5_59 tyX5 tyX5_ok nmX5 (kO_ok _) rfl rfl rfl dX5_init_100)) <|
  TcG (sd_L (sd_aload_n dX5_init_103)) <|
  TcG (sd_L (sd_null dX5_init_104)) <|
  TcG (sd_L (sd_putf (T := TX5) rfl giX5 (by decide) w_fl_X5_63 tyX5 tyX5_ok nmX5 (kO_ok _) rfl dX5_init_105)) <|
  TcG (sd_L (sd_aload_n dX5_init_108)) <|
  TcG (sd_L (sd_lconst rfl dX5_init_109)) <|
  TcG (sd_L (sd_putf (T := TX5) rfl giX5 (by decide) w_fl_X5_67 tyX5 tyX5_ok nmX5 (kJ_ok) rfl dX5_init_110)) <|
  TnG
theorem rk_X5_init : Rok mi_X5_init rV [113] := rk_v dX5_init_113 <| rk_n
def rx_X5_init (n0 : Nat) : Nat → Nat → AL → List AV → List AC → Nat → Nat → Option (Option AV × List AC × Nat × Nat) := am_ra n0 tb_X5_init rV [113]
theorem rs_X5_init_0 (n0 n : Nat) (L : AL) (st : List AV) (M : List AC) (c s : Nat) : rx_X5_init n0 (n + 1) 0 L st M c s = if n0 ≤ M.length then am_jB (fun pc L st M => rx_X5_init n0 n pc L st M c s) ((tAld 0 1) 0 L st M) else none := ra_L rfl n L st M c s
theorem rs_X5_init_1 (n0 n : Nat) (L : AL) (st : List AV) (M : List AC) (c s : Nat) : rx_X5_init n0 (n + 1) 1 L st M c s = if n0 ≤ M.length then am_jB (fun pc L st M => rx_X5_init n0 n pc L st M c s) (tObj 1 L st M) else none := ra_L rfl n L st M c s
theorem rs_X5_init_4 (n0 n : Nat) (L : AL) (st : List AV) (M : List AC) (c s : Nat) : rx_X5_init n0 (n + 1) 4 L st M c s = if n0 ≤ M.length then am_jB (fun pc L st M => rx_X5_init n0 n pc L st M c s) ((tAld 0 1) 4 L st M) else none := ra_L rfl n L st M c s
theorem rs_X5_init_5 (n0 n : Nat) (L : AL) (st : List AV) (M : List AC) (c s : Nat) : rx_X5_init n0 (n + 1) 5 L st M c s = if n0 ≤ M.length then am_jB (fun pc L st M => rx_X5_init n0 n pc L st M c s) ((tIc 24 2) 5 L st M) else none := ra_L rfl n L st M c s
theorem rs_X5_init_7 (n0 n : Nat) (L : AL) (st : List AV) (M : List AC) (c s : Nat) : rx_X5_init n0 (n + 1) 7 L st M c s = if n0 ≤ M.length then am_jC (rx_X5_init n0 n) ((tNewa false) 7 L st M) c s else none := ra_A rfl n L st M c s
theorem rs_X5_init_9 (n0 n : Nat) (L : AL) (st : List AV) (M : List AC) (c s : Nat) : rx_X5_init n0 (n + 1) 9 L st M c s = if n0 ≤ M.length then am_jB (fun pc L st M => rx_X5_init n0 n pc L st M c s) ((tPf kR 5 0) 9 L st M) else none := ra_L rfl n L st M c s
theorem rs_X5_init_12 (n0 n : Nat) (L : AL) (st : List AV) (M : List AC) (c s : Nat) : rx_X5_init n0 (n + 1) 12 L st M c s = if n0 ≤ M.length then am_jB (fun pc L st M => rx_X5_init n0 n pc L st M c s) ((tAld 0 1) 12 L st M) else none := ra_L rfl n L st M c s
theorem rs_X5_init_13 (n0 n : Nat) (L : AL) (st : List AV) (M : List AC) (c s : Nat) : rx_X5_init n0 (n + 1) 13 L st M c s = if n0 ≤ M.length then am_jB (fun pc L st M => rx_X5_init n0 n pc L st M c s) ((tIc 0 1) 13 L st M) else none := ra_L rfl n L st M c s
theorem rs_X5_init_14 (n0 n : Nat) (L : AL) (st : List AV) (M : List AC) (c s : Nat) : rx_X5_init n0 (n + 1) 14 L st M c s = if n0 ≤ M.length then am_jB (fun pc L st M => rx_X5_init n0 n pc L st M c s) ((tPf kI 5 1) 14 L st M) else none := ra_L rfl n L st M c s
theorem rs_X5_init_17 (n0 n : Nat) (L : AL) (st : List AV) (M : List AC) (c s : Nat) : rx_X5_init n0 (n + 1) 17 L st M c s = if n0 ≤ M.length then am_jB (fun pc L st M => rx_X5_init n0 n pc L st M c s) ((tAld 0 1) 17 L st M) else none := ra_L rfl n L st M c s
theorem rs_X5_init_18 (n0 n : Nat) (L : AL) (st : List AV) (M : List AC) (c s : Nat) : rx_X5_init n0 (n + 1) 18 L st M c s = if n0 ≤ M.length then am_jC (rx_X5_init n0 n) ((tNew 4 5 [vI 0, vN, vN, vN, vN]) 18 L st M) c s else none := ra_A rfl n L st M c s
theorem rs_X5_init_21 (n0 n : Nat) (L : AL) (st : List AV) (M : List AC) (c s : Nat) : rx_X5_init n0 (n + 1) 21 L st M c s = if n0 ≤ M.length then am_jB (fun pc L st M => rx_X5_init n0 n pc L st M c s) (tDup 21 L st M) else none := ra_L rfl n L st M c s
theorem rs_X5_init_22 (n0 n : Nat) (L : AL) (st : List AV) (M : List AC) (c s : Nat) : rx_X5_init n0 (n + 1) 22 L st M c s = if n0 ≤ M.length then am_jC (rx_X5_init n0 n) ((tCi 0 fn_X4_init) 22 L st M) c s else none := ra_A rfl n L st M c s
theorem rs_X5_init_25 (n0 n : Nat) (L : AL) (st : List AV) (M : List AC) (c s : Nat) : rx_X5_init n0 (n + 1) 25 L st M c s = if n0 ≤ M.length then am_jB (fun pc L st M => rx_X5_init n0 n pc L st M c s) ((tPf kR 5 2) 25 L st M) else none := ra_L rfl n L st M c s
theorem rs_X5_init_28 (n0 n : Nat) (L : AL) (st : List AV) (M : List AC) (c s : Nat) : rx_X5_init n0 (n + 1) 28 L st M c s = if n0 ≤ M.length then am_jB (fun pc L st M => rx_X5_init n0 n pc L st M c s) ((tAld 0 1) 28 L st M) else none := ra_L rfl n L st M c s
theorem rs_X5_init_29 (n0 n : Nat) (L : AL) (st : List AV) (M : List AC) (c s : Nat) : rx_X5_init n0 (n + 1) 29 L st M c s = if n0 ≤ M.length then am_jC (rx_X5_init n0 n) ((tNew 4 5 [vI 0, vN, vN, vN, vN]) 29 L st M) c s else none := ra_A rfl n L st M c s
theorem rs_X5_init_32 (n0 n : Nat) (L : AL) (st : List AV) (M : List AC) (c s : Nat) : rx_X5_init n0 (n + 1) 32 L st M c s = if n0 ≤ M.length then am_jB (fun pc L st M => rx_X5_init n0 n pc L st M c s) (tDup 32 L st M) else none := ra_L rfl n L st M c s
theorem rs_X5_init_33 (n0 n : Nat) (L : AL) (st : List AV) (M : List AC) (c s : Nat) : rx_X5_init n0 (n + 1) 33 L st M c s = if n0 ≤ M.length then am_jC (rx_X5_init n0 n) ((tCi 0 fn_X4_init) 33 L st M) c s else none := ra_A rfl n L st M c s
theorem rs_X5_init_36 (n0 n : Nat) (L : AL) (st : List AV) (M : List AC) (c s : Nat) : rx_X5_init n0 (n + 1) 36 L st M c s = if n0 ≤ M.length then am_jB (fun pc L st M => rx_X5_init n0 n pc L st M c s) ((tPf kR 5 3) 36 L st M) else none := ra_L rfl n L st M c s
theorem rs_X5_init_39 (n0 n : Nat) (L : AL) (st : List AV) (M : List AC) (c s : Nat) : rx_X5_init n0 (n + 1) 39 L st M c s = if n0 ≤ M.length then am_jB (fun pc L st M => rx_X5_init n0 n pc L st M c s) ((tAld 0 1) 39 L st M) else none := ra_L rfl n L st M c s
theorem rs_X5_init_40 (n0 n : Nat) (L : AL) (st : List AV) (M : List AC) (c s : Nat) : rx_X5_init n0 (n + 1) 40 L st M c s = if n0 ≤ M.length then am_jC (rx_X5_init n0 n) ((tNew 0 3 [vI 0, vN, vN]) 40 L st M) c s else none := ra_A rfl n L st M c s
theorem rs_X5_init_43 (n0 n : Nat) (L : AL) (st : List AV) (M : List AC) (c s : Nat) : rx_X5_init n0 (n + 1) 43 L st M c s = if n0 ≤ M.length then am_jB (fun pc L st M => rx_X5_init n0 n pc L st M c s) (tDup 43 L st M) else none := ra_L rfl n L st M c s
theorem rs_X5_init_44 (n0 n : Nat) (L : AL) (st : List AV) (M : List AC) (c s : Nat) : rx_X5_init n0 (n + 1) 44 L st M c s = if n0 ≤ M.length then am_jC (rx_X5_init n0 n) ((tCi 0 fn_X0_init) 44 L st M) c s else none := ra_A rfl n L st M c s
theorem rs_X5_init_47 (n0 n : Nat) (L : AL) (st : List AV) (M : List AC) (c s : Nat) : rx_X5_init n0 (n + 1) 47 L st M c s = if n0 ≤ M.length then am_jB (fun pc L st M => rx_X5_init n0 n pc L st M c s) ((tPf kR 5 4) 47 L st M) else none := ra_L rfl n L st M c s
theorem rs_X5_init_50 (n0 n : Nat) (L : AL) (st : List AV) (M : List AC) (c s : Nat) : rx_X5_init n0 (n + 1) 50 L st M c s = if n0 ≤ M.length then am_jB (fun pc L st M => rx_X5_init n0 n pc L st M c s) ((tAld 0 1) 50 L st M) else none := ra_L rfl n L st M c s
theorem rs_X5_init_51 (n0 n : Nat) (L : AL) (st : List AV) (M : List AC) (c s : Nat) : rx_X5_init n0 (n + 1) 51 L st M c s = if n0 ≤ M.length then am_jC (rx_X5_init n0 n) ((tNew 1 3 [vN, vN, vN]) 51 L st M) c s else none := ra_A rfl n L st M c s
theorem rs_X5_init_54 (n0 n : Nat) (L : AL) (st : List AV) (M : List AC) (c s : Nat) : rx_X5_init n0 (n + 1) 54 L st M c s = if n0 ≤ M.length then am_jB (fun pc L st M => rx_X5_init n0 n pc L st M c s) (tDup 54 L st M) else none := ra_L rfl n L st M c s
theorem rs_X5_init_55 (n0 n : Nat) (L : AL) (st : List AV) (M : List AC) (c s : Nat) : rx_X5_init n0 (n + 1) 55 L st M c s = if n0 ≤ M.length then am_jB (fun pc L st M => rx_X5_init n0 n pc L st M c s) ((tIc 16 2) 55 L st M) else none := ra_L rfl n L st M c s
theorem rs_X5_init_57 (n0 n : Nat) (L : AL) (st : List AV) (M : List AC) (c s : Nat) : rx_X5_init n0 (n + 1) 57 L st M c s = if n0 ≤ M.length then am_jC (rx_X5_init n0 n) ((tCi 1 fn_X1_init) 57 L st M) c s else none := ra_A rfl n L st M c s
theorem rs_X5_init_60 (n0 n : Nat) (L : AL) (st : List AV) (M : List AC) (c s : Nat) : rx_X5_init n0 (n + 1) 60 L st M c s = if n0 ≤ M.length then am_jB (fun pc L st M => rx_X5_init n0 n pc L st M c s) ((tPf kR 5 5) 60 L st M) else none := ra_L rfl n L st M c s
theorem rs_X5_init_63 (n0 n : Nat) (L : AL) (st : List AV) (M : List AC) (c s : Nat) : rx_X5_init n0 (n + 1) 63 L st M c s = if n0 ≤ M.length then am_jB (fun pc L st M => rx_X5_init n0 n pc L st M c s) ((tAld 0 1) 63 L st M) else none := ra_L rfl n L st M c s
theorem rs_X5_init_64 (n0 n : Nat) (L : AL) (st : List AV) (M : List AC) (c s : Nat) : rx_X5_init n0 (n + 1) 64 L st M c s = if n0 ≤ M.length then am_jB (fun pc L st M => rx_X5_init n0 n pc L st M c s) ((tIc 0 1) 64 L st M) else none := ra_L rfl n L st M c s
theorem rs_X5_init_65 (n0 n : Nat) (L : AL) (st : List AV) (M : List AC) (c s : Nat) : rx_X5_init n0 (n + 1) 65 L st M c s = if n0 ≤ M.length then am_jB (fun pc L st M => rx_X5_init n0 n pc L st M c s) ((tPf kI 5 6) 65 L st M) else none := ra_L rfl n L st M c s
theorem rs_X5_init_68 (n0 n : Nat) (L : AL) (st : List AV) (M : List AC) (c s : Nat) : rx_X5_init n0 (n + 1) 68 L st M c s = if n0 ≤ M.length then am_jB (fun pc L st M => rx_X5_init n0 n pc L st M c s) ((tAld 0 1) 68 L st M) else none := ra_L rfl n L st M c s
theorem rs_X5_init_69 (n0 n : Nat) (L : AL) (st : List AV) (M : List AC) (c s : Nat) : rx_X5_init n0 (n + 1) 69 L st M c s = if n0 ≤ M.length then am_jB (fun pc L st M => rx_X5_init n0 n pc L st M c s) ((tIc 0 1) 69 L st M) else none := ra_L rfl n L st M c s
theorem rs_X5_init_70 (n0 n : Nat) (L : AL) (st : List AV) (M : List AC) (c s : Nat) : rx_X5_init n0 (n + 1) 70 L st M c s = if n0 ≤ M.length then am_jB (fun pc L st M => rx_X5_init n0 n pc L st M c s) ((tPf kI 5 7) 70 L st M) else none := ra_L rfl n L st M c s
theorem rs_X5_init_73 (n0 n : Nat) (L : AL) (st : List AV) (M : List AC) (c s : Nat) : rx_X5_init n0 (n + 1) 73 L st M c s = if n0 ≤ M.length then am_jB (fun pc L st M => rx_X5_init n0 n pc L st M c s) ((tAld 0 1) 73 L st M) else none := ra_L rfl n L st M c s
theorem rs_X5_init_74 (n0 n : Nat) (L : AL) (st : List AV) (M : List AC) (c s : Nat) : rx_X5_init n0 (n + 1) 74 L st M c s = if n0 ≤ M.length then am_jC (rx_X5_init n0 n) ((tNew 1 3 [vN, vN, vN]) 74 L st M) c s else none := ra_A rfl n L st M c s
theorem rs_X5_init_77 (n0 n : Nat) (L : AL) (st : List AV) (M : List AC) (c s : Nat) : rx_X5_init n0 (n + 1) 77 L st M c s = if n0 ≤ M.length then am_jB (fun pc L st M => rx_X5_init n0 n pc L st M c s) (tDup 77 L st M) else none := ra_L rfl n L st M c s
theorem rs_X5_init_78 (n0 n : Nat) (L : AL) (st : List AV) (M : List AC) (c s : Nat) : rx_X5_init n0 (n + 1) 78 L st M c s = if n0 ≤ M.length then am_jB (fun pc L st M => rx_X5_init n0 n pc L st M c s) ((tIc 2 1) 78 L st M) else none := ra_L rfl n L st M c s
theorem rs_X5_init_79 (n0 n : Nat) (L : AL) (st : List AV) (M : List AC) (c s : Nat) : rx_X5_init n0 (n + 1) 79 L st M c s = if n0 ≤ M.length then am_jC (rx_X5_init n0 n) ((tCi 1 fn_X1_init) 79 L st M) c s else none := ra_A rfl n L st M c s
theorem rs_X5_init_82 (n0 n : Nat) (L : AL) (st : List AV) (M : List AC) (c s : Nat) : rx_X5_init n0 (n + 1) 82 L st M c s = if n0 ≤ M.length then am_jB (fun pc L st M => rx_X5_init n0 n pc L st M c s) ((tPf kR 5 8) 82 L st M) else none := ra_L rfl n L st M c s
theorem rs_X5_init_85 (n0 n : Nat) (L : AL) (st : List AV) (M : List AC) (c s : Nat) : rx_X5_init n0 (n + 1) 85 L st M c s = if n0 ≤ M.length then am_jB (fun pc L st M => rx_X5_init n0 n pc L st M c s) ((tAld 0 1) 85 L st M) else none := ra_L rfl n L st M c s
theorem rs_X5_init_86 (n0 n : Nat) (L : AL) (st : List AV) (M : List AC) (c s : Nat) : rx_X5_init n0 (n + 1) 86 L st M c s = if n0 ≤ M.length then am_jB (fun pc L st M => rx_X5_init n0 n pc L st M c s) ((tIc 2 1) 86 L st M) else none := ra_L rfl n L st M c s
theorem rs_X5_init_87 (n0 n : Nat) (L : AL) (st : List AV) (M : List AC) (c s : Nat) : rx_X5_init n0 (n + 1) 87 L st M c s = if n0 ≤ M.length then am_jC (rx_X5_init n0 n) ((tNewa true) 87 L st M) c s else none := ra_A rfl n L st M c s
theorem rs_X5_init_89 (n0 n : Nat) (L : AL) (st : List AV) (M : List AC) (c s : Nat) : rx_X5_init n0 (n + 1) 89 L st M c s = if n0 ≤ M.length then am_jB (fun pc L st M => rx_X5_init n0 n pc L st M c s) ((tPf kR 5 9) 89 L st M) else none := ra_L rfl n L st M c s
theorem rs_X5_init_92 (n0 n : Nat) (L : AL) (st : List AV) (M : List AC) (c s : Nat) : rx_X5_init n0 (n + 1) 92 L st M c s = if n0 ≤ M.length then am_jB (fun pc L st M => rx_X5_init n0 n pc L st M c s) ((tAld 0 1) 92 L st M) else none := ra_L rfl n L st M c s
theorem rs_X5_init_93 (n0 n : Nat) (L : AL) (st : List AV) (M : List AC) (c s : Nat) : rx_X5_init n0 (n + 1) 93 L st M c s = if n0 ≤ M.length then am_jC (rx_X5_init n0 n) ((tNew 2 1 [vN]) 93 L st M) c s else none := ra_A rfl n L st M c s
theorem rs_X5_init_96 (n0 n : Nat) (L : AL) (st : List AV) (M : List AC) (c s : Nat) : rx_X5_init n0 (n + 1) 96 L st M c s = if n0 ≤ M.length then am_jB (fun pc L st M => rx_X5_init n0 n pc L st M c s) (tDup 96 L st M) else none := ra_L rfl n L st M c s
theorem rs_X5_init_97 (n0 n : Nat) (L : AL) (st : List AV) (M : List AC) (c s : Nat) : rx_X5_init n0 (n + 1) 97 L st M c s = if n0 ≤ M.length then am_jC (rx_X5_init n0 n) ((tCi 0 fn_X2_init) 97 L st M) c s else none := ra_A rfl n L st M c s
theorem rs_X5_init_100 (n0 n : Nat) (L : AL) (st : List AV) (M : List AC) (c s : Nat) : rx_X5_init n0 (n + 1) 100 L st M c s = if n0 ≤ M.length then am_jB (fun pc L st M => rx_X5_init n0 n pc L st M c s) ((tPf kR 5 10) 100 L st M) else none := ra_L rfl n L st M c s
theorem rs_X5_init_103 (n0 n : Nat) (L : AL) (st : List AV) (M : List AC) (c s : Nat) : rx_X5_init n0 (n + 1) 103 L st M c s = if n0 ≤ M.length then am_jB (fun pc L st M => rx_X5_init n0 n pc L st M c s) ((tAld 0 1) 103 L st M) else none := ra_L rfl n L st M c s
theorem rs_X5_init_104 (n0 n : Nat) (L : AL) (st : List AV) (M : List AC) (c s : Nat) : rx_X5_init n0 (n + 1) 104 L st M c s = if n0 ≤ M.length then am_jB (fun pc L st M => rx_X5_init n0 n pc L st M c s) (tNul 104 L st M) else none := ra_L rfl n L st M c s
theorem rs_X5_init_105 (n0 n : Nat) (L : AL) (st : List AV) (M : List AC) (c s : Nat) : rx_X5_init n0 (n + 1) 105 L st M c s = if n0 ≤ M.length then am_jB (fun pc L st M => rx_X5_init n0 n pc L st M c s) ((tPf kR 5 11) 105 L st M) else none := ra_L rfl n L st M c s
theorem rs_X5_init_108 (n0 n : Nat) (L : AL) (st : List AV) (M : List AC) (c s : Nat) : rx_X5_init n0 (n + 1) 108 L st M c s = if n0 ≤ M.length then am_jB (fun pc L st M => rx_X5_init n0 n pc L st M c s) ((tAld 0 1) 108 L st M) else none := ra_L rfl n L st M c s
theorem rs_X5_init_109 (n0 n : Nat) (L : AL) (st : List AV) (M : List AC) (c s : Nat) : rx_X5_init n0 (n + 1) 109 L st M c s = if n0 ≤ M.length then am_jB (fun pc L st M => rx_X5_init n0 n pc L st M c s) ((tLc 0 1) 109 L st M) else none := ra_L rfl n L st M c s
theorem rs_X5_init_110 (n0 n : Nat) (L : AL) (st : List AV) (M : List AC) (c s : Nat) : rx_X5_init n0 (n + 1) 110 L st M c s = if n0 ≤ M.length then am_jB (fun pc L st M => rx_X5_init n0 n pc L st M c s) ((tPf kJ 5 12) 110 L st M) else none := ra_L rfl n L st M c s
theorem rs_X5_init_113 (n0 n : Nat) (L : AL) (st : List AV) (M : List AC) (c s : Nat) : rx_X5_init n0 (n + 1) 113 L st M c s = am_eA rV st M c s := ra_R rfl rfl n L st M c s
theorem ri_X5_init (c : Prop) [Decidable c] (p q n0 n : Nat) (L : AL) (st : List AV) (M : List AC) (x y : Nat) : rx_X5_init n0 n (if c then p else q) L st M x y = if c then rx_X5_init n0 n p L st M x y else rx_X5_init n0 n q L st M x y := by split <;> rfl
theorem rm_X5_init {n0 n k pc : Nat} {L : AL} {st : List AV} {M : List AC} {c s : Nat} {x : Option AV × List AC × Nat × Nat} (h : rx_X5_init n0 n pc L st M c s = some x) (hk : n ≤ k) : rx_X5_init n0 k pc L st M c s = some x := am_ra_mono n k h hk
def fn_X5_init : FnA := am_fnA tb_X5_init rV [113] 1
theorem fok_X5_init : FokA mi_X5_init fn_X5_init := am_fokA (fun a => ok_X5_init a _) rk_X5_init rfl
end
