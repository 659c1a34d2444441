noncomputable section
def Z24 : List Int := List.replicate 2401 0
theorem Z24_len : Z24.length = 2401 := List.length_replicate
theorem Z24_get (i : Nat) : Z24.getD i 0 = 0 := by
  unfold Z24
  rw [List.getD_eq_getElem?_getD, List.getElem?_replicate]
  split <;> rfl
/-- the component's search as it begins at the state x -/
def S0c (x : Int) (Q : List Int) : S3 := (Q.set 0 x, 1, Z24.set x.toNat 1, Z24)
theorem S0c_I3 {x : Int} {Q : List Int} (hx : 0 ≤ x ∧ x < 2401) (h1 : Q.length = 2401) : I3 (S0c x Q) := by
  have hl : x.toNat < Z24.length := by rw [Z24_len]; omega
  unfold S0c
  refine ⟨⟨?_, ?_, Z24_len⟩, ?_, ?_, ?_⟩
  · dsimp only; rw [List.length_set]; exact h1
  · dsimp only; rw [List.length_set]; exact Z24_len
  · intro i
    dsimp only
    by_cases hi : x.toNat = i
    · subst hi
      rw [gd_self hl]
      exact ⟨by decide, by decide⟩
    · rw [gd_ne hi, Z24_get]
      exact ⟨by decide, by decide⟩
  · dsimp only; omega
  · intro i hi
    dsimp only at hi ⊢
    have e : i = 0 := by omega
    subst e
    rw [gd_self (by omega)]
    exact hx
theorem sp_X3_find {M : List AC} {st : Int} {g s d b : F4} (hs : HS M 7 st g s d b) (hr : SR st g s d b) {sz gl : Int} {Q T P : List Int} (h43 : M[43]? = some (se sz gl)) (h44 : M[44]? = some (aI Q)) (h45 : M[45]? = some (aI T)) (h46 : M[46]? = some (aI P)) (k1 : Q.length = 2401) (k2 : T.length = 2401) (k3 : P.length = 2401) (m tw : Int) (hm : 1 ≤ m ∧ m ≤ 6) (htw : tw = 0 ∨ tw = 1) : ∃ d1 : F4, fn_X3_find [vR 43, vI m, vI tw] M = some (some (vI (if (bf3 st g s b m tw 2401 0 (S0c (so d) Q)).2 = -9 then 0 else 1)), U3 M (if (bf3 st g s b m tw 2401 0 (S0c (so d) Q)).2 = -9 then gl else (bf3 st g s b m tw 2401 0 (S0c (so d) Q)).2) d1 (bf3 st g s b m tw 2401 0 (S0c (so d) Q)).1) := by
  have hx := so_rng hr.2.2.2.1
  obtain ⟨j0, j1, j2, j3, j4⟩ := hs.seven
  have hM : H3 M st g s b := ⟨len_of h46, j0, j1, j2, j4⟩
  obtain ⟨d1, k, hk, h⟩ := lp_X3_find hM hr.1 hr.2.1 hr.2.2.1 hr.2.2.2.2 (gl := gl) hm htw 2401 0 d (S0c (so d) Q) none none none (by omega) (by omega) (S0c_I3 hx k1)
  refine ⟨d1, ?_⟩
  generalize bf3 st g s b m tw 2401 0 (S0c (so d) Q) = R at h ⊢
  generalize U3 M (if R.2 = -9 then gl else R.2) d1 R.1 = Y at h ⊢
  have q1 : fn_J7_fill_53178 [vR 45, vI 0] M = some (none, M.set 45 (aI Z24)) := sp_J7_fill h45 k2 (by decide) rfl 0
  have q2 : fn_J7_fill_53178 [vR 46, vI 0] (M.set 45 (aI Z24)) = some (none, (M.set 45 (aI Z24)).set 46 (aI Z24)) := sp_J7_fill (by rw [List.getElem?_set_ne (by decide)]; exact h46) k3 (by decide) rfl 0
  have q3 := sp_X3_state (V := (M.set 45 (aI Z24)).set 46 (aI Z24)) (st := st) (g := g) (s := s) (d := d) (b := b) (sz := sz) (gl := gl) (HS.of7 (by simp [-List.getElem?_eq_getElem, j0, gs j0]) (by simp [-List.getElem?_eq_getElem, j1, gs j1]) (by simp [-List.getElem?_eq_getElem, j2, gs j2]) (by simp [-List.getElem?_eq_getElem, j3, gs j3]) (by simp [-List.getElem?_eq_getElem, j4, gs j4])) (by simp [-List.getElem?_eq_getElem, h43, gs h43])
  unfold S0c U3 at h
  dsimp only at h
  rw [set_same j3] at h
  generalize so d = x at hx q3 h
  have wx : wr x = x := wr_id (by omega) (by omega)
  have g0 : (Q.set 0 x).getD 0 0 = x := gd_self (by omega)
  have hZ := Z24_len
  generalize Z24 = Z at q1 q2 q3 h hZ
  simp only [se] at h h43 q3
  (refine am_fnR (tb := tb_X3_find) (N := 1000000) (Nat.le_of_ble_eq_true rfl) (Nat.le_of_ble_eq_true rfl) ?_; show Ru rx_X3_find 1000000 0 _ _ _ _)
  refine ⟨k + 60, by omega, ?_⟩
  simp [↓ri_X3_find, rs_X3_find_0, rs_X3_find_1, rs_X3_find_4, rs_X3_find_5, rs_X3_find_8, rs_X3_find_9, rs_X3_find_12, rs_X3_find_13, rs_X3_find_16, rs_X3_find_17, rs_X3_find_20, rs_X3_find_21, rs_X3_find_22, rs_X3_find_25, rs_X3_find_26, rs_X3_find_27, rs_X3_find_30, rs_X3_find_31, rs_X3_find_34, rs_X3_find_35, rs_X3_find_36, rs_X3_find_37, rs_X3_find_38, rs_X3_find_39, rs_X3_find_40, rs_X3_find_43, rs_X3_find_44, rs_X3_find_46, rs_X3_find_47, rs_X3_find_50, rs_X3_find_53, rs_X3_find_54, rs_X3_find_57, rs_X3_find_60, rs_X3_find_61, rs_X3_find_64, rs_X3_find_65, rs_X3_find_66, rs_X3_find_67, rs_X3_find_70, rs_X3_find_73, rs_X3_find_74, rs_X3_find_75, rs_X3_find_78, rs_X3_find_79, rs_X3_find_80, rs_X3_find_83, rs_X3_find_85, rs_X3_find_86, rs_X3_find_88, rs_X3_find_90, rs_X3_find_91, rs_X3_find_94, rs_X3_find_95, rs_X3_find_98, rs_X3_find_99, rs_X3_find_102, rs_X3_find_104, rs_X3_find_106, rs_X3_find_107, rs_X3_find_110, rs_X3_find_112, rs_X3_find_113, rs_X3_find_114, rs_X3_find_117, rs_X3_find_119, rs_X3_find_121, rs_X3_find_123, rs_X3_find_125, rs_X3_find_128, rs_X3_find_129, rs_X3_find_130, rs_X3_find_133, rs_X3_find_134, rs_X3_find_135, rs_X3_find_137, rs_X3_find_139, rs_X3_find_142, rs_X3_find_145, rs_X3_find_148, rs_X3_find_151, rs_X3_find_154, rs_X3_find_157, rs_X3_find_160, rs_X3_find_84, rs_X3_find_161, -List.getElem?_eq_getElem, am_js, am_e, am_in, am_sl, rI, rZ, rV, rJ, rA, rC, kI, kJ, kR, am_one, am_nl, am_w8, tIc, tLc, tNul, tIld, tLld, tAld, tIst, tLst, tAst, tIinc, tI2, tDv, tL2, tLrem, tLs, tLcmp, tI2l, tL2i, tI2c, tDup, tDup2, tPop, tGo, tIfeq, tIfne, tIflt, tIfge, tIfgt, tIfle, tCmeq, tCmne, tCmlt, tCmge, tCmgt, tCmle, tNu, tTs, tGf, tPf, tGs, tIal, tIas, tBal, tBas, tAln, tSv, tSc, tSb, tSl, tSk, tCv, tCs, tCt, tMx, tMn, wr_10000, wr_100000, wr_1000000, wr_10000000, wr_100000000, wr_2400, wr_9999, wr_0, wr_1, wr_2, wr_3, wr_4, wr_5, wr_6, wr_7, wr_8, wr_9, wr_10, wr_11, wr_12, wr_13, wr_14, wr_15, wr_16, wr_17, wr_18, wr_19, wr_20, wr_21, wr_22, wr_23, wr_24, wr_25, wr_26, wr_27, wr_28, wr_29, wr_30, wr_31, wr_32, wr_33, wr_34, wr_35, wr_36, wr_37, wr_38, wr_39, wr_40, wr_41, wr_42, wr_43, wr_44, wr_45, wr_46, wr_47, wr_48, wr_49, wr_50, wr_51, wr_52, wr_53, wr_54, wr_55, wr_56, wr_57, wr_58, wr_59, wr_60, wr_61, wr_62, wr_63, wr_99, wr_100, wr_192, wr_255, wr_256, wr_343, wr_999, wr_1000, wr_2401, wr_2147483647, wr_65535, wr_m1, wr_m2, wr_m3, wr_m4, wr_m9, ak_1000, ak_1001, ak_1002, ak_0, ak_1, ak_2, ak_3, ak_4, ak_5, ak_6, ak_7, ak_8, ak_9, ak_10, ak_11, ak_12, ak_13, ak_14, ak_15, ak_16, ak_17, ak_18, ak_19, ak_20, ak_21, ak_22, ak_23, ak_24, ak_25, ak_26, ak_27, ak_28, ak_29, ak_30, ak_31, ak_32, ak_33, ak_34, ak_35, ak_36, ak_37, ak_38, ak_39, ak_40, ak_41, ak_42, ak_43, ak_44, ak_45, ak_46, ak_47, -List.getD_eq_getElem?_getD, h43, h44, h45, h46, gs h43, gs h44, gs h45, gs h46, q1, q2, q3, k1, hZ, wx, hx, g0, ss (i := 43) (j := 44) (by decide), ss (i := 43) (j := 45) (by decide), ss (i := 43) (j := 46) (by decide), ss (i := 44) (j := 45) (by decide), ss (i := 44) (j := 46) (by decide), ss (i := 45) (j := 46) (by decide)]
  exact rm_X3_find h (Nat.le_add_right _ _)
def pr3 (T : List Int) (x : Int) : Int := (T.getD x.toNat 0 - 1).tdiv 100
theorem pr3_rng {T : List Int} (h : ∀ i : Nat, 0 ≤ T.getD i 0 ∧ T.getD i 0 ≤ 240100) (x : Int) : 0 ≤ pr3 T x ∧ pr3 T x < 2401 := by
  unfold pr3
  have := h x.toNat
  generalize T.getD x.toNat 0 = z at this ⊢
  by_cases hz : z = 0
  · subst hz
    exact ⟨by decide, by decide⟩
  · rw [Int.tdiv_eq_ediv_of_nonneg (by omega)]
    omega
def sts (q0 : Int) (T : List Int) : Nat → Int → Int → Int
  | 0, c, _ => c
  | n + 1, c, x => if x = q0 then c else sts q0 T n (c + 1) (pr3 T x)
theorem sts_rng (q0 : Int) (T : List Int) : ∀ (n : Nat) (c x : Int), c ≤ sts q0 T n c x ∧ sts q0 T n c x ≤ c + n
  | 0, c, _ => ⟨Int.le_refl _, by show c ≤ c + ((0 : Nat) : Int); omega⟩
  | n + 1, c, x => by
    rw [sts]
    have := sts_rng q0 T n (c + 1) (pr3 T x)
    split
    · omega
    · omega
abbrev mi_X3_steps : Mi := (yX3_steps, cX3_steps, 3, some .int, 1)
theorem mf_X3_steps : am_mf mi_X3_steps 0 := ⟨w_co_X3_steps, w_in_X3, ⟨by decide +kernel, by decide +kernel⟩, by decide +kernel, by decide⟩
def tb_X3_steps : List (Nat × Tr) := [(0, tIc 0 1), (1, tIst 1 1), (2, tAld 0 1), (3, tGf 3 5), (6, tIst 2 1), (7, tIld 2 1), (8, tAld 0 1), (9, tGf 3 1), (12, tIc 0 1), (13, tIal), (14, tCmeq 42), (17, tIld 1 1), (18, tIc 2401 3), (21, tCmge 42), (24, tIinc 1 1), (27, tAld 0 1), (28, tGf 3 3), (31, tIld 2 1), (32, tIal), (33, tIc 1 1), (34, tI2 (fun a b => a - b)), (35, tIc 100 2), (37, tDv Int.tdiv), (38, tIst 2 1), (39, tGo 7), (42, tIld 1 1)]
theorem ok_X3_steps : Tok mi_X3_steps tb_X3_steps :=
  Tc (sd_iconst rfl dX3_steps_0) <|
  Tc (sd_istore_n dX3_steps_1) <|
  Tc (sd_aload_n dX3_steps_2) <|
  Tc (sd_getf (T := TX3) rfl giX3 (by decide) w_fl_X3_25 dX3_steps_3) <|
  Tc (sd_istore_n dX3_steps_6) <|
  Tc (sd_iload_n dX3_steps_7) <|
  Tc (sd_aload_n dX3_steps_8) <|
  Tc (sd_getf (T := TX3) rfl giX3 (by decide) w_fl_X3_9 dX3_steps_9) <|
  Tc (sd_iconst rfl dX3_steps_12) <|
  Tc (sd_ial dX3_steps_13) <|
  Tc (sd_cm_eq (by decide) dX3_steps_14) <|
  Tc (sd_iload_n dX3_steps_17) <|
  Tc (sd_sipush (by decide +kernel) dX3_steps_18) <|
  Tc (sd_cm_ge (by decide) dX3_steps_21) <|
  Tc (sd_iinc dX3_steps_24) <|
  Tc (sd_aload_n dX3_steps_27) <|
  Tc (sd_getf (T := TX3) rfl giX3 (by decide) w_fl_X3_19 dX3_steps_28) <|
  Tc (sd_iload_n dX3_steps_31) <|
  Tc (sd_ial dX3_steps_32) <|
  Tc (sd_iconst rfl dX3_steps_33) <|
  Tc (sd_isub dX3_steps_34) <|
  Tc (sd_bipush (by decide +kernel) dX3_steps_35) <|
  Tc (sd_idiv dX3_steps_37) <|
  Tc (sd_istore_n dX3_steps_38) <|
  Tc (sd_goto (by decide) dX3_steps_39) <|
  Tc (sd_iload_n dX3_steps_42) <|
  Tn
theorem rk_X3_steps : Rok mi_X3_steps rI [43] := rk_i dX3_steps_43 <| rk_n
def rx_X3_steps : Nat → Nat → AL → List AV → List AC → Option (Option AV × List AC) := am_r tb_X3_steps rI [43]
theorem rs_X3_steps_0 (n : Nat) (L : AL) (st : List AV) (M : List AC) : rx_X3_steps (n + 1) 0 L st M = am_j (rx_X3_steps n) ((tIc 0 1) 0 L st M) := rfl
theorem rs_X3_steps_1 (n : Nat) (L : AL) (st : List AV) (M : List AC) : rx_X3_steps (n + 1) 1 L st M = am_j (rx_X3_steps n) ((tIst 1 1) 1 L st M) := rfl
theorem rs_X3_steps_2 (n : Nat) (L : AL) (st : List AV) (M : List AC) : rx_X3_steps (n + 1) 2 L st M = am_j (rx_X3_steps n) ((tAld 0 1) 2 L st M) := rfl
theorem rs_X3_steps_3 (n : Nat) (L : AL) (st : List AV) (M : List AC) : rx_X3_steps (n + 1) 3 L st M = am_j (rx_X3_steps n) ((tGf 3 5) 3 L st M) := rfl
theorem rs_X3_steps_6 (n : Nat) (L : AL) (st : List AV) (M : List AC) : rx_X3_steps (n + 1) 6 L st M = am_j (rx_X3_steps n) ((tIst 2 1) 6 L st M) := rfl
theorem rs_X3_steps_7 (n : Nat) (L : AL) (st : List AV) (M : List AC) : rx_X3_steps (n + 1) 7 L st M = am_j (rx_X3_steps n) ((tIld 2 1) 7 L st M) := rfl
theorem rs_X3_steps_8 (n : Nat) (L : AL) (st : List AV) (M : List AC) : rx_X3_steps (n + 1) 8 L st M = am_j (rx_X3_steps n) ((tAld 0 1) 8 L st M) := rfl
theorem rs_X3_steps_9 (n : Nat) (L : AL) (st : List AV) (M : List AC) : rx_X3_steps (n + 1) 9 L st M = am_j (rx_X3_steps n) ((tGf 3 1) 9 L st M) := rfl
theorem rs_X3_steps_12 (n : Nat) (L : AL) (st : List AV) (M : List AC) : rx_X3_steps (n + 1) 12 L st M = am_j (rx_X3_steps n) ((tIc 0 1) 12 L st M) := rfl
theorem rs_X3_steps_13 (n : Nat) (L : AL) (st : List AV) (M : List AC) : rx_X3_steps (n + 1) 13 L st M = am_j (rx_X3_steps n) (tIal 13 L st M) := rfl
theorem rs_X3_steps_14 (n : Nat) (L : AL) (st : List AV) (M : List AC) : rx_X3_steps (n + 1) 14 L st M = am_j (rx_X3_steps n) ((tCmeq 42) 14 L st M) := rfl
theorem rs_X3_steps_17 (n : Nat) (L : AL) (st : List AV) (M : List AC) : rx_X3_steps (n + 1) 17 L st M = am_j (rx_X3_steps n) ((tIld 1 1) 17 L st M) := rfl
theorem rs_X3_steps_18 (n : Nat) (L : AL) (st : List AV) (M : List AC) : rx_X3_steps (n + 1) 18 L st M = am_j (rx_X3_steps n) ((tIc 2401 3) 18 L st M) := rfl
theorem rs_X3_steps_21 (n : Nat) (L : AL) (st : List AV) (M : List AC) : rx_X3_steps (n + 1) 21 L st M = am_j (rx_X3_steps n) ((tCmge 42) 21 L st M) := rfl
theorem rs_X3_steps_24 (n : Nat) (L : AL) (st : List AV) (M : List AC) : rx_X3_steps (n + 1) 24 L st M = am_j (rx_X3_steps n) ((tIinc 1 1) 24 L st M) := rfl
theorem rs_X3_steps_27 (n : Nat) (L : AL) (st : List AV) (M : List AC) : rx_X3_steps (n + 1) 27 L st M = am_j (rx_X3_steps n) ((tAld 0 1) 27 L st M) := rfl
theorem rs_X3_steps_28 (n : Nat) (L : AL) (st : List AV) (M : List AC) : rx_X3_steps (n + 1) 28 L st M = am_j (rx_X3_steps n) ((tGf 3 3) 28 L st M) := rfl
theorem rs_X3_steps_31 (n : Nat) (L : AL) (st : List AV) (M : List AC) : rx_X3_steps (n + 1) 31 L st M = am_j (rx_X3_steps n) ((tIld 2 1) 31 L st M) := rfl
theorem rs_X3_steps_32 (n : Nat) (L : AL) (st : List AV) (M : List AC) : rx_X3_steps (n + 1) 32 L st M = am_j (rx_X3_steps n) (tIal 32 L st M) := rfl
theorem rs_X3_steps_33 (n : Nat) (L : AL) (st : List AV) (M : List AC) : rx_X3_steps (n + 1) 33 L st M = am_j (rx_X3_steps n) ((tIc 1 1) 33 L st M) := rfl
theorem rs_X3_steps_34 (n : Nat) (L : AL) (st : List AV) (M : List AC) : rx_X3_steps (n + 1) 34 L st M = am_j (rx_X3_steps n) ((tI2 (fun a b => a - b)) 34 L st M) := rfl
theorem rs_X3_steps_35 (n : Nat) (L : AL) (st : List AV) (M : List AC) : rx_X3_steps (n + 1) 35 L st M = am_j (rx_X3_steps n) ((tIc 100 2) 35 L st M) := rfl
theorem rs_X3_steps_37 (n : Nat) (L : AL) (st : List AV) (M : List AC) : rx_X3_steps (n + 1) 37 L st M = am_j (rx_X3_steps n) ((tDv Int.tdiv) 37 L st M) := rfl
theorem rs_X3_steps_38 (n : Nat) (L : AL) (st : List AV) (M : List AC) : rx_X3_steps (n + 1) 38 L st M = am_j (rx_X3_steps n) ((tIst 2 1) 38 L st M) := rfl
theorem rs_X3_steps_39 (n : Nat) (L : AL) (st : List AV) (M : List AC) : rx_X3_steps (n + 1) 39 L st M = am_j (rx_X3_steps n) ((tGo 7) 39 L st M) := rfl
theorem rs_X3_steps_42 (n : Nat) (L : AL) (st : List AV) (M : List AC) : rx_X3_steps (n + 1) 42 L st M = am_j (rx_X3_steps n) ((tIld 1 1) 42 L st M) := rfl
theorem rs_X3_steps_43 (n : Nat) (L : AL) (st : List AV) (M : List AC) : rx_X3_steps (n + 1) 43 L st M = am_e rI st M := rfl
theorem ri_X3_steps (c : Prop) [Decidable c] (p q n : Nat) (L : AL) (st : List AV) (M : List AC) : rx_X3_steps n (if c then p else q) L st M = if c then rx_X3_steps n p L st M else rx_X3_steps n q L st M := by split <;> rfl
theorem rm_X3_steps {n k pc : Nat} {L : AL} {st : List AV} {M : List AC} {x : Option AV × List AC} (h : rx_X3_steps n pc L st M = some x) (hk : n ≤ k) : rx_X3_steps k pc L st M = some x := am_r_mono n k h hk
def fn_X3_steps : Fn := am_fn rx_X3_steps 3
theorem fok_X3_steps : Fok mi_X3_steps fn_X3_steps := fun _ _ _ _ h => am_fok ok_X3_steps rk_X3_steps rfl h
theorem lp_X3_steps {V : List AC} {sz gl : Int} {Q T : List Int} (v43 : V[43]? = some (se sz gl)) (v44 : V[44]? = some (aI Q)) (v45 : V[45]? = some (aI T)) (k1 : Q.length = 2401) (k2 : T.length = 2401) (hT : ∀ i : Nat, 0 ≤ T.getD i 0 ∧ T.getD i 0 ≤ 240100) (hQ : 0 ≤ Q.getD 0 0 ∧ Q.getD 0 0 < 2401) : ∀ (n : Nat) (c x : Int), c + n = 2401 → 0 ≤ c → 0 ≤ x ∧ x < 2401 → Ru rx_X3_steps (40 * n + 20) 7 [some (vR 43), some (vI c), some (vI x)] [] V (some (vI (sts (Q.getD 0 0) T n c x)), V)
  | 0, c, x, hc, hc0, hx => by
    have e : c = 2401 := by omega
    subst e
    have wx : wr x = x := wr_id (by omega) (by omega)
    refine ⟨19 + 1, by omega, ?_⟩
    rw [rs_X3_steps_7, sts]
    simp only [se] at v43
    generalize hq0 : Q.getD 0 0 = q0 at hQ
    have wq : wr q0 = q0 := by clear hq0; exact wr_id (by omega) (by omega)
    by_cases hxq : x = q0 <;>
    simp [↓ri_X3_steps, rs_X3_steps_0, rs_X3_steps_1, rs_X3_steps_2, rs_X3_steps_3, rs_X3_steps_6, rs_X3_steps_8, rs_X3_steps_9, rs_X3_steps_12, rs_X3_steps_13, rs_X3_steps_14, rs_X3_steps_17, rs_X3_steps_18, rs_X3_steps_21, rs_X3_steps_24, rs_X3_steps_27, rs_X3_steps_28, rs_X3_steps_31, rs_X3_steps_32, rs_X3_steps_33, rs_X3_steps_34, rs_X3_steps_35, rs_X3_steps_37, rs_X3_steps_38, rs_X3_steps_39, rs_X3_steps_42, rs_X3_steps_43, -List.getElem?_eq_getElem, am_js, am_e, am_in, am_sl, rI, rZ, rV, rJ, rA, rC, kI, kJ, kR, am_one, am_nl, am_w8, tIc, tLc, tNul, tIld, tLld, tAld, tIst, tLst, tAst, tIinc, tI2, tDv, tL2, tLrem, tLs, tLcmp, tI2l, tL2i, tI2c, tDup, tDup2, tPop, tGo, tIfeq, tIfne, tIflt, tIfge, tIfgt, tIfle, tCmeq, tCmne, tCmlt, tCmge, tCmgt, tCmle, tNu, tTs, tGf, tPf, tGs, tIal, tIas, tBal, tBas, tAln, tSv, tSc, tSb, tSl, tSk, tCv, tCs, tCt, tMx, tMn, wr_10000, wr_100000, wr_1000000, wr_10000000, wr_100000000, wr_2400, wr_9999, wr_0, wr_1, wr_2, wr_3, wr_4, wr_5, wr_6, wr_7, wr_8, wr_9, wr_10, wr_11, wr_12, wr_13, wr_14, wr_15, wr_16, wr_17, wr_18, wr_19, wr_20, wr_21, wr_22, wr_23, wr_24, wr_25, wr_26, wr_27, wr_28, wr_29, wr_30, wr_31, wr_32, wr_33, wr_34, wr_35, wr_36, wr_37, wr_38, wr_39, wr_40, wr_41, wr_42, wr_43, wr_44, wr_45, wr_46, wr_47, wr_48, wr_49, wr_50, wr_51, wr_52, wr_53, wr_54, wr_55, wr_56, wr_57, wr_58, wr_59, wr_60, wr_61, wr_62, wr_63, wr_99, wr_100, wr_192, wr_255, wr_256, wr_343, wr_999, wr_1000, wr_2401, wr_2147483647, wr_65535, wr_m1, wr_m2, wr_m3, wr_m4, wr_m9, ak_1000, ak_1001, ak_1002, ak_0, ak_1, ak_2, ak_3, ak_4, ak_5, ak_6, ak_7, ak_8, ak_9, ak_10, ak_11, ak_12, ak_13, ak_14, ak_15, ak_16, ak_17, ak_18, ak_19, ak_20, ak_21, ak_22, ak_23, ak_24, ak_25, ak_26, ak_27, ak_28, ak_29, ak_30, ak_31, ak_32, ak_33, ak_34, ak_35, ak_36, ak_37, ak_38, ak_39, ak_40, ak_41, ak_42, ak_43, ak_44, ak_45, ak_46, ak_47, -List.getD_eq_getElem?_getD, v43, v44, k1, wx, hq0, wq, hxq]
  | n + 1, c, x, hc, hc0, hx => by
    have wx : wr x = x := wr_id (by omega) (by omega)
    have wc : wr c = c := wr_id (by omega) (by omega)
    have nc : ¬ 2401 ≤ c := by omega
    rw [sts]
    by_cases hxq : x = Q.getD 0 0
    · rw [if_pos hxq]
      refine ⟨19 + 1, by omega, ?_⟩
      rw [rs_X3_steps_7]
      simp only [se] at v43
      generalize hq0 : Q.getD 0 0 = q0 at hQ hxq
      have wq : wr q0 = q0 := by clear hq0; exact wr_id (by omega) (by omega)
      subst hxq
      simp [↓ri_X3_steps, rs_X3_steps_0, rs_X3_steps_1, rs_X3_steps_2, rs_X3_steps_3, rs_X3_steps_6, rs_X3_steps_8, rs_X3_steps_9, rs_X3_steps_12, rs_X3_steps_13, rs_X3_steps_14, rs_X3_steps_17, rs_X3_steps_18, rs_X3_steps_21, rs_X3_steps_24, rs_X3_steps_27, rs_X3_steps_28, rs_X3_steps_31, rs_X3_steps_32, rs_X3_steps_33, rs_X3_steps_34, rs_X3_steps_35, rs_X3_steps_37, rs_X3_steps_38, rs_X3_steps_39, rs_X3_steps_42, rs_X3_steps_43, -List.getElem?_eq_getElem, am_js, am_e, am_in, am_sl, rI, rZ, rV, rJ, rA, rC, kI, kJ, kR, am_one, am_nl, am_w8, tIc, tLc, tNul, tIld, tLld, tAld, tIst, tLst, tAst, tIinc, tI2, tDv, tL2, tLrem, tLs, tLcmp, tI2l, tL2i, tI2c, tDup, tDup2, tPop, tGo, tIfeq, tIfne, tIflt, tIfge, tIfgt, tIfle, tCmeq, tCmne, tCmlt, tCmge, tCmgt, tCmle, tNu, tTs, tGf, tPf, tGs, tIal, tIas, tBal, tBas, tAln, tSv, tSc, tSb, tSl, tSk, tCv, tCs, tCt, tMx, tMn, wr_10000, wr_100000, wr_1000000, wr_10000000, wr_100000000, wr_2400, wr_9999, wr_0, wr_1, wr_2, wr_3, wr_4, wr_5, wr_6, wr_7, wr_8, wr_9, wr_10, wr_11, wr_12, wr_13, wr_14, wr_15, wr_16, wr_17, wr_18, wr_19, wr_20, wr_21, wr_22, wr_23, wr_24, wr_25, wr_26, wr_27, wr_28, wr_29, wr_30, wr_31, wr_32, wr_33, wr_34, wr_35, wr_36, wr_37, wr_38, wr_39, wr_40, wr_41, wr_42, wr_43, wr_44, wr_45, wr_46, wr_47, wr_48, wr_49, wr_50, wr_51, wr_52, wr_53, wr_54, wr_55, wr_56, wr_57, wr_58, wr_59, wr_60, wr_61, wr_62, wr_63, wr_99, wr_100, wr_192, wr_255, wr_256, wr_343, wr_999, wr_1000, wr_2401, wr_2147483647, wr_65535, wr_m1, wr_m2, wr_m3, wr_m4, wr_m9, ak_1000, ak_1001, ak_1002, ak_0, ak_1, ak_2, ak_3, ak_4, ak_5, ak_6, ak_7, ak_8, ak_9, ak_10, ak_11, ak_12, ak_13, ak_14, ak_15, ak_16, ak_17, ak_18, ak_19, ak_20, ak_21, ak_22, ak_23, ak_24, ak_25, ak_26, ak_27, ak_28, ak_29, ak_30, ak_31, ak_32, ak_33, ak_34, ak_35, ak_36, ak_37, ak_38, ak_39, ak_40, ak_41, ak_42, ak_43, ak_44, ak_45, ak_46, ak_47, -List.getD_eq_getElem?_getD, v43, v44, k1, wx, hq0]
    · rw [if_neg hxq]
      obtain ⟨m, hm, h⟩ := lp_X3_steps v43 v44 v45 k1 k2 hT hQ n (c + 1) (pr3 T x) (by omega) (by omega) (pr3_rng hT x)
      refine ⟨m + 39 + 1, by omega, ?_⟩
      rw [rs_X3_steps_7]
      generalize sts (Q.getD 0 0) T n (c + 1) (pr3 T x) = W at h ⊢
      simp only [se] at v43
      generalize hq0 : Q.getD 0 0 = q0 at hQ hxq
      have wq : wr q0 = q0 := by clear hq0; exact wr_id (by omega) (by omega)
      have ht := hT x.toNat
      unfold pr3 at h
      generalize hz : T.getD x.toNat 0 = z at ht h
      have wz' : wr (z - 1) = z - 1 := by clear hz hq0; exact wr_id (by omega) (by omega)
      simp [↓ri_X3_steps, rs_X3_steps_0, rs_X3_steps_1, rs_X3_steps_2, rs_X3_steps_3, rs_X3_steps_6, rs_X3_steps_8, rs_X3_steps_9, rs_X3_steps_12, rs_X3_steps_13, rs_X3_steps_14, rs_X3_steps_17, rs_X3_steps_18, rs_X3_steps_21, rs_X3_steps_24, rs_X3_steps_27, rs_X3_steps_28, rs_X3_steps_31, rs_X3_steps_32, rs_X3_steps_33, rs_X3_steps_34, rs_X3_steps_35, rs_X3_steps_37, rs_X3_steps_38, rs_X3_steps_39, rs_X3_steps_42, rs_X3_steps_43, -List.getElem?_eq_getElem, am_js, am_e, am_in, am_sl, rI, rZ, rV, rJ, rA, rC, kI, kJ, kR, am_one, am_nl, am_w8, tIc, tLc, tNul, tIld, tLld, tAld, tIst, tLst, tAst, tIinc, tI2, tDv, tL2, tLrem, tLs, tLcmp, tI2l, tL2i, tI2c, tDup, tDup2, tPop, tGo, tIfeq, tIfne, tIflt, tIfge, tIfgt, tIfle, tCmeq, tCmne, tCmlt, tCmge, tCmgt, tCmle, tNu, tTs, tGf, tPf, tGs, tIal, tIas, tBal, tBas, tAln, tSv, tSc, tSb, tSl, tSk, tCv, tCs, tCt, tMx, tMn, wr_10000, wr_100000, wr_1000000, wr_10000000, wr_100000000, wr_2400, wr_9999, wr_0, wr_1, wr_2, wr_3, wr_4, wr_5, wr_6, wr_7, wr_8, wr_9, wr_10, wr_11, wr_12, wr_13, wr_14, wr_15, wr_16, wr_17, wr_18, wr_19, wr_20, wr_21, wr_22, wr_23, wr_24, wr_25, wr_26, wr_27, wr_28, wr_29, wr_30, wr_31, wr_32, wr_33, wr_34, wr_35, wr_36, wr_37, wr_38, wr_39, wr_40, wr_41, wr_42, wr_43, wr_44, wr_45, wr_46, wr_47, wr_48, wr_49, wr_50, wr_51, wr_52, wr_53, wr_54, wr_55, wr_56, wr_57, wr_58, wr_59, wr_60, wr_61, wr_62, wr_63, wr_99, wr_100, wr_192, wr_255, wr_256, wr_343, wr_999, wr_1000, wr_2401, wr_2147483647, wr_65535, wr_m1, wr_m2, wr_m3, wr_m4, wr_m9, ak_1000, ak_1001, ak_1002, ak_0, ak_1, ak_2, ak_3, ak_4, ak_5, ak_6, ak_7, ak_8, ak_9, ak_10, ak_11, ak_12, ak_13, ak_14, ak_15, ak_16, ak_17, ak_18, ak_19, ak_20, ak_21, ak_22, ak_23, ak_24, ak_25, ak_26, ak_27, ak_28, ak_29, ak_30, ak_31, ak_32, ak_33, ak_34, ak_35, ak_36, ak_37, ak_38, ak_39, ak_40, ak_41, ak_42, ak_43, ak_44, ak_45, ak_46, ak_47, -List.getD_eq_getElem?_getD, v43, v44, v45, k1, k2, wx, wc, nc, hq0, wq, hxq, hz, wz', hx]
      exact rm_X3_steps h (Nat.le_add_right _ _)
theorem sp_X3_steps {V : List AC} {sz gl : Int} {Q T : List Int} (v43 : V[43]? = some (se sz gl)) (v44 : V[44]? = some (aI Q)) (v45 : V[45]? = some (aI T)) (k1 : Q.length = 2401) (k2 : T.length = 2401) (hT : ∀ i : Nat, 0 ≤ T.getD i 0 ∧ T.getD i 0 ≤ 240100) (hQ : 0 ≤ Q.getD 0 0 ∧ Q.getD 0 0 < 2401) (hg : 0 ≤ gl ∧ gl < 2401) : fn_X3_steps [vR 43] V = some (some (vI (sts (Q.getD 0 0) T 2401 0 gl)), V) := by
  obtain ⟨m, hm, h⟩ := lp_X3_steps v43 v44 v45 k1 k2 hT hQ 2401 0 gl (by omega) (by omega) hg
  generalize sts (Q.getD 0 0) T 2401 0 gl = W at h ⊢
  simp only [se] at v43
  (refine am_fnR (tb := tb_X3_steps) (N := 200000) (Nat.le_of_ble_eq_true rfl) (Nat.le_of_ble_eq_true rfl) ?_; show Ru rx_X3_steps 200000 0 _ _ _ _)
  refine ⟨m + 10, by omega, ?_⟩
  simp [↓ri_X3_steps, rs_X3_steps_0, rs_X3_steps_1, rs_X3_steps_2, rs_X3_steps_3, rs_X3_steps_6, rs_X3_steps_8, rs_X3_steps_9, rs_X3_steps_12, rs_X3_steps_13, rs_X3_steps_14, rs_X3_steps_17, rs_X3_steps_18, rs_X3_steps_21, rs_X3_steps_24, rs_X3_steps_27, rs_X3_steps_28, rs_X3_steps_31, rs_X3_steps_32, rs_X3_steps_33, rs_X3_steps_34, rs_X3_steps_35, rs_X3_steps_37, rs_X3_steps_38, rs_X3_steps_39, rs_X3_steps_42, rs_X3_steps_43, -List.getElem?_eq_getElem, am_js, am_e, am_in, am_sl, rI, rZ, rV, rJ, rA, rC, kI, kJ, kR, am_one, am_nl, am_w8, tIc, tLc, tNul, tIld, tLld, tAld, tIst, tLst, tAst, tIinc, tI2, tDv, tL2, tLrem, tLs, tLcmp, tI2l, tL2i, tI2c, tDup, tDup2, tPop, tGo, tIfeq, tIfne, tIflt, tIfge, tIfgt, tIfle, tCmeq, tCmne, tCmlt, tCmge, tCmgt, tCmle, tNu, tTs, tGf, tPf, tGs, tIal, tIas, tBal, tBas, tAln, tSv, tSc, tSb, tSl, tSk, tCv, tCs, tCt, tMx, tMn, wr_10000, wr_100000, wr_1000000, wr_10000000, wr_100000000, wr_2400, wr_9999, wr_0, wr_1, wr_2, wr_3, wr_4, wr_5, wr_6, wr_7, wr_8, wr_9, wr_10, wr_11, wr_12, wr_13, wr_14, wr_15, wr_16, wr_17, wr_18, wr_19, wr_20, wr_21, wr_22, wr_23, wr_24, wr_25, wr_26, wr_27, wr_28, wr_29, wr_30, wr_31, wr_32, wr_33, wr_34, wr_35, wr_36, wr_37, wr_38, wr_39, wr_40, wr_41, wr_42, wr_43, wr_44, wr_45, wr_46, wr_47, wr_48, wr_49, wr_50, wr_51, wr_52, wr_53, wr_54, wr_55, wr_56, wr_57, wr_58, wr_59, wr_60, wr_61, wr_62, wr_63, wr_99, wr_100, wr_192, wr_255, wr_256, wr_343, wr_999, wr_1000, wr_2401, wr_2147483647, wr_65535, wr_m1, wr_m2, wr_m3, wr_m4, wr_m9, ak_1000, ak_1001, ak_1002, ak_0, ak_1, ak_2, ak_3, ak_4, ak_5, ak_6, ak_7, ak_8, ak_9, ak_10, ak_11, ak_12, ak_13, ak_14, ak_15, ak_16, ak_17, ak_18, ak_19, ak_20, ak_21, ak_22, ak_23, ak_24, ak_25, ak_26, ak_27, ak_28, ak_29, ak_30, ak_31, ak_32, ak_33, ak_34, ak_35, ak_36, ak_37, ak_38, ak_39, ak_40, ak_41, ak_42, ak_43, ak_44, ak_45, ak_46, ak_47, v43]
  exact rm_X3_steps h (by omega)
def wk3 (T : List Int) : Nat → Int → Int
  | 0, x => x
  | n + 1, x => wk3 T n (pr3 T x)
abbrev mi_X3_step : Mi := (yX3_step, cX3_step, 5, some .int, 2)
theorem mf_X3_step : am_mf mi_X3_step 1 := ⟨w_co_X3_step, w_in_X3, ⟨by decide +kernel, by decide +kernel⟩, by decide +kernel, by decide⟩
def tb_X3_step : List (Nat × Tr) := [(0, tAld 0 1), (1, tCv 3 0 fn_X3_steps), (4, tIst 2 1), (5, tIld 1 1), (6, tIflt 14), (9, tIld 1 1), (10, tIld 2 1), (11, tCmlt 17), (14, tIc (-9) 2), (17, tAld 0 1), (18, tGf 3 5), (21, tIst 3 1), (22, tIld 2 1), (23, tIc 1 1), (24, tI2 (fun a b => a - b)), (25, tIst 4 2), (27, tIld 4 2), (29, tIld 1 1), (30, tCmle 51), (33, tAld 0 1), (34, tGf 3 3), (37, tIld 3 1), (38, tIal), (39, tIc 1 1), (40, tI2 (fun a b => a - b)), (41, tIc 100 2), (43, tDv Int.tdiv), (44, tIst 3 1), (45, tIinc 4 (-1)), (48, tGo 27), (51, tAld 0 1), (52, tGf 3 3), (55, tIld 3 1), (56, tIal), (57, tIc 1 1), (58, tI2 (fun a b => a - b)), (59, tIc 100 2), (61, tDv Int.tmod)]
theorem ok_X3_step : Tok mi_X3_step tb_X3_step :=
  Tc (sd_aload_n dX3_step_0) <|
  Tc (sd_cv (T := TX3) fok_X3_steps mf_X3_steps rfl w_ml_X3_66 w_im_X3_steps w_se_X3_steps (by decide) dX3_step_1) <|
  Tc (sd_istore_n dX3_step_4) <|
  Tc (sd_iload_n dX3_step_5) <|
  Tc (sd_if_lt (by decide) dX3_step_6) <|
  Tc (sd_iload_n dX3_step_9) <|
  Tc (sd_iload_n dX3_step_10) <|
  Tc (sd_cm_lt (by decide) dX3_step_11) <|
  Tc (sd_bipush (by decide +kernel) dX3_step_14) <|
  Tc (sd_aload_n dX3_step_17) <|
  Tc (sd_getf (T := TX3) rfl giX3 (by decide) w_fl_X3_25 dX3_step_18) <|
  Tc (sd_istore_n dX3_step_21) <|
  Tc (sd_iload_n dX3_step_22) <|
  Tc (sd_iconst rfl dX3_step_23) <|
  Tc (sd_isub dX3_step_24) <|
  Tc (sd_istore dX3_step_25) <|
  Tc (sd_iload dX3_step_27) <|
  Tc (sd_iload_n dX3_step_29) <|
  Tc (sd_cm_le (by decide) dX3_step_30) <|
  Tc (sd_aload_n dX3_step_33) <|
  Tc (sd_getf (T := TX3) rfl giX3 (by decide) w_fl_X3_19 dX3_step_34) <|
  Tc (sd_iload_n dX3_step_37) <|
  Tc (sd_ial dX3_step_38) <|
  Tc (sd_iconst rfl dX3_step_39) <|
  Tc (sd_isub dX3_step_40) <|
  Tc (sd_bipush (by decide +kernel) dX3_step_41) <|
  Tc (sd_idiv dX3_step_43) <|
  Tc (sd_istore_n dX3_step_44) <|
  Tc (sd_iinc dX3_step_45) <|
  Tc (sd_goto (by decide) dX3_step_48) <|
  Tc (sd_aload_n dX3_step_51) <|
  Tc (sd_getf (T := TX3) rfl giX3 (by decide) w_fl_X3_19 dX3_step_52) <|
  Tc (sd_iload_n dX3_step_55) <|
  Tc (sd_ial dX3_step_56) <|
  Tc (sd_iconst rfl dX3_step_57) <|
  Tc (sd_isub dX3_step_58) <|
  Tc (sd_bipush (by decide +kernel) dX3_step_59) <|
  Tc (sd_irem dX3_step_61) <|
  Tn
theorem rk_X3_step : Rok mi_X3_step rI [16, 62] := rk_i dX3_step_16 <| rk_i dX3_step_62 <| rk_n
def rx_X3_step : Nat → Nat → AL → List AV → List AC → Option (Option AV × List AC) := am_r tb_X3_step rI [16, 62]
theorem rs_X3_step_0 (n : Nat) (L : AL) (st : List AV) (M : List AC) : rx_X3_step (n + 1) 0 L st M = am_j (rx_X3_step n) ((tAld 0 1) 0 L st M) := rfl
theorem rs_X3_step_1 (n : Nat) (L : AL) (st : List AV) (M : List AC) : rx_X3_step (n + 1) 1 L st M = am_j (rx_X3_step n) ((tCv 3 0 fn_X3_steps) 1 L st M) := rfl
theorem rs_X3_step_4 (n : Nat) (L : AL) (st : List AV) (M : List AC) : rx_X3_step (n + 1) 4 L st M = am_j (rx_X3_step n) ((tIst 2 1) 4 L st M) := rfl
theorem rs_X3_step_5 (n : Nat) (L : AL) (st : List AV) (M : List AC) : rx_X3_step (n + 1) 5 L st M = am_j (rx_X3_step n) ((tIld 1 1) 5 L st M) := rfl
theorem rs_X3_step_6 (n : Nat) (L : AL) (st : List AV) (M : List AC) : rx_X3_step (n + 1) 6 L st M = am_j (rx_X3_step n) ((tIflt 14) 6 L st M) := rfl
theorem rs_X3_step_9 (n : Nat) (L : AL) (st : List AV) (M : List AC) : rx_X3_step (n + 1) 9 L st M = am_j (rx_X3_step n) ((tIld 1 1) 9 L st M) := rfl
theorem rs_X3_step_10 (n : Nat) (L : AL) (st : List AV) (M : List AC) : rx_X3_step (n + 1) 10 L st M = am_j (rx_X3_step n) ((tIld 2 1) 10 L st M) := rfl
theorem rs_X3_step_11 (n : Nat) (L : AL) (st : List AV) (M : List AC) : rx_X3_step (n + 1) 11 L st M = am_j (rx_X3_step n) ((tCmlt 17) 11 L st M) := rfl
theorem rs_X3_step_14 (n : Nat) (L : AL) (st : List AV) (M : List AC) : rx_X3_step (n + 1) 14 L st M = am_j (rx_X3_step n) ((tIc (-9) 2) 14 L st M) := rfl
theorem rs_X3_step_17 (n : Nat) (L : AL) (st : List AV) (M : List AC) : rx_X3_step (n + 1) 17 L st M = am_j (rx_X3_step n) ((tAld 0 1) 17 L st M) := rfl
theorem rs_X3_step_18 (n : Nat) (L : AL) (st : List AV) (M : List AC) : rx_X3_step (n + 1) 18 L st M = am_j (rx_X3_step n) ((tGf 3 5) 18 L st M) := rfl
theorem rs_X3_step_21 (n : Nat) (L : AL) (st : List AV) (M : List AC) : rx_X3_step (n + 1) 21 L st M = am_j (rx_X3_step n) ((tIst 3 1) 21 L st M) := rfl
theorem rs_X3_step_22 (n : Nat) (L : AL) (st : List AV) (M : List AC) : rx_X3_step (n + 1) 22 L st M = am_j (rx_X3_step n) ((tIld 2 1) 22 L st M) := rfl
theorem rs_X3_step_23 (n : Nat) (L : AL) (st : List AV) (M : List AC) : rx_X3_step (n + 1) 23 L st M = am_j (rx_X3_step n) ((tIc 1 1) 23 L st M) := rfl
theorem rs_X3_step_24 (n : Nat) (L : AL) (st : List AV) (M : List AC) : rx_X3_step (n + 1) 24 L st M = am_j (rx_X3_step n) ((tI2 (fun a b => a - b)) 24 L st M) := rfl
theorem rs_X3_step_25 (n : Nat) (L : AL) (st : List AV) (M : List AC) : rx_X3_step (n + 1) 25 L st M = am_j (rx_X3_step n) ((tIst 4 2) 25 L st M) := rfl
theorem rs_X3_step_27 (n : Nat) (L : AL) (st : List AV) (M : List AC) : rx_X3_step (n + 1) 27 L st M = am_j (rx_X3_step n) ((tIld 4 2) 27 L st M) := rfl
theorem rs_X3_step_29 (n : Nat) (L : AL) (st : List AV) (M : List AC) : rx_X3_step (n + 1) 29 L st M = am_j (rx_X3_step n) ((tIld 1 1) 29 L st M) := rfl
theorem rs_X3_step_30 (n : Nat) (L : AL) (st : List AV) (M : List AC) : rx_X3_step (n + 1) 30 L st M = am_j (rx_X3_step n) ((tCmle 51) 30 L st M) := rfl
theorem rs_X3_step_33 (n : Nat) (L : AL) (st : List AV) (M : List AC) : rx_X3_step (n + 1) 33 L st M = am_j (rx_X3_step n) ((tAld 0 1) 33 L st M) := rfl
theorem rs_X3_step_34 (n : Nat) (L : AL) (st : List AV) (M : List AC) : rx_X3_step (n + 1) 34 L st M = am_j (rx_X3_step n) ((tGf 3 3) 34 L st M) := rfl
theorem rs_X3_step_37 (n : Nat) (L : AL) (st : List AV) (M : List AC) : rx_X3_step (n + 1) 37 L st M = am_j (rx_X3_step n) ((tIld 3 1) 37 L st M) := rfl
theorem rs_X3_step_38 (n : Nat) (L : AL) (st : List AV) (M : List AC) : rx_X3_step (n + 1) 38 L st M = am_j (rx_X3_step n) (tIal 38 L st M) := rfl
theorem rs_X3_step_39 (n : Nat) (L : AL) (st : List AV) (M : List AC) : rx_X3_step (n + 1) 39 L st M = am_j (rx_X3_step n) ((tIc 1 1) 39 L st M) := rfl
theorem rs_X3_step_40 (n : Nat) (L : AL) (st : List AV) (M : List AC) : rx_X3_step (n + 1) 40 L st M = am_j (rx_X3_step n) ((tI2 (fun a b => a - b)) 40 L st M) := rfl
theorem rs_X3_step_41 (n : Nat) (L : AL) (st : List AV) (M : List AC) : rx_X3_step (n + 1) 41 L st M = am_j (rx_X3_step n) ((tIc 100 2) 41 L st M) := rfl
theorem rs_X3_step_43 (n : Nat) (L : AL) (st : List AV) (M : List AC) : rx_X3_step (n + 1) 43 L st M = am_j (rx_X3_step n) ((tDv Int.tdiv) 43 L st M) := rfl
theorem rs_X3_step_44 (n : Nat) (L : AL) (st : List AV) (M : List AC) : rx_X3_step (n + 1) 44 L st M = am_j (rx_X3_step n) ((tIst 3 1) 44 L st M) := rfl
theorem rs_X3_step_45 (n : Nat) (L : AL) (st : List AV) (M : List AC) : rx_X3_step (n + 1) 45 L st M = am_j (rx_X3_step n) ((tIinc 4 (-1)) 45 L st M) := rfl
theorem rs_X3_step_48 (n : Nat) (L : AL) (st : List AV) (M : List AC) : rx_X3_step (n + 1) 48 L st M = am_j (rx_X3_step n) ((tGo 27) 48 L st M) := rfl
theorem rs_X3_step_51 (n : Nat) (L : AL) (st : List AV) (M : List AC) : rx_X3_step (n + 1) 51 L st M = am_j (rx_X3_step n) ((tAld 0 1) 51 L st M) := rfl
theorem rs_X3_step_52 (n : Nat) (L : AL) (st : List AV) (M : List AC) : rx_X3_step (n + 1) 52 L st M = am_j (rx_X3_step n) ((tGf 3 3) 52 L st M) := rfl
theorem rs_X3_step_55 (n : Nat) (L : AL) (st : List AV) (M : List AC) : rx_X3_step (n + 1) 55 L st M = am_j (rx_X3_step n) ((tIld 3 1) 55 L st M) := rfl
theorem rs_X3_step_56 (n : Nat) (L : AL) (st : List AV) (M : List AC) : rx_X3_step (n + 1) 56 L st M = am_j (rx_X3_step n) (tIal 56 L st M) := rfl
theorem rs_X3_step_57 (n : Nat) (L : AL) (st : List AV) (M : List AC) : rx_X3_step (n + 1) 57 L st M = am_j (rx_X3_step n) ((tIc 1 1) 57 L st M) := rfl
theorem rs_X3_step_58 (n : Nat) (L : AL) (st : List AV) (M : List AC) : rx_X3_step (n + 1) 58 L st M = am_j (rx_X3_step n) ((tI2 (fun a b => a - b)) 58 L st M) := rfl
theorem rs_X3_step_59 (n : Nat) (L : AL) (st : List AV) (M : List AC) : rx_X3_step (n + 1) 59 L st M = am_j (rx_X3_step n) ((tIc 100 2) 59 L st M) := rfl
theorem rs_X3_step_61 (n : Nat) (L : AL) (st : List AV) (M : List AC) : rx_X3_step (n + 1) 61 L st M = am_j (rx_X3_step n) ((tDv Int.tmod) 61 L st M) := rfl
theorem rs_X3_step_16 (n : Nat) (L : AL) (st : List AV) (M : List AC) : rx_X3_step (n + 1) 16 L st M = am_e rI st M := rfl
theorem rs_X3_step_62 (n : Nat) (L : AL) (st : List AV) (M : List AC) : rx_X3_step (n + 1) 62 L st M = am_e rI st M := rfl
theorem ri_X3_step (c : Prop) [Decidable c] (p q n : Nat) (L : AL) (st : List AV) (M : List AC) : rx_X3_step n (if c then p else q) L st M = if c then rx_X3_step n p L st M else rx_X3_step n q L st M := by split <;> rfl
theorem rm_X3_step {n k pc : Nat} {L : AL} {st : List AV} {M : List AC} {x : Option AV × List AC} (h : rx_X3_step n pc L st M = some x) (hk : n ≤ k) : rx_X3_step k pc L st M = some x := am_r_mono n k h hk
def fn_X3_step : Fn := am_fn rx_X3_step 5
theorem fok_X3_step : Fok mi_X3_step fn_X3_step := fun _ _ _ _ h => am_fok ok_X3_step rk_X3_step rfl h
theorem lp_X3_step {V : List AC} {sz gl : Int} {T : List Int} (v43 : V[43]? = some (se sz gl)) (v45 : V[45]? = some (aI T)) (k2 : T.length = 2401) (hT : ∀ i : Nat, 0 ≤ T.getD i 0 ∧ T.getD i 0 ≤ 240100) (i c : Int) (hi : 0 ≤ i ∧ i < 2401) : ∀ (n : Nat) (x : Int), i + n < 2401 → 0 ≤ x ∧ x < 2401 → Ru rx_X3_step (40 * n + 20) 27 [some (vR 43), some (vI i), some (vI c), some (vI x), some (vI (i + n))] [] V (some (vI ((T.getD (wk3 T n x).toNat 0 - 1).tmod 100)), V)
  | 0, x, hin, hx => by
    have wx : wr x = x := wr_id (by omega) (by omega)
    have wi : wr i = i := wr_id (by omega) (by omega)
    have e0 : i + ((0 : Nat) : Int) = i := by omega
    rw [e0, wk3]
    refine ⟨19 + 1, by omega, ?_⟩
    rw [rs_X3_step_27]
    simp only [se] at v43
    have ht := hT x.toNat
    generalize hz : T.getD x.toNat 0 = z at ht
    have wz' : wr (z - 1) = z - 1 := by clear hz; exact wr_id (by omega) (by omega)
    simp [↓ri_X3_step, rs_X3_step_0, rs_X3_step_1, rs_X3_step_4, rs_X3_step_5, rs_X3_step_6, rs_X3_step_9, rs_X3_step_10, rs_X3_step_11, rs_X3_step_14, rs_X3_step_17, rs_X3_step_18, rs_X3_step_21, rs_X3_step_22, rs_X3_step_23, rs_X3_step_24, rs_X3_step_25, rs_X3_step_29, rs_X3_step_30, rs_X3_step_33, rs_X3_step_34, rs_X3_step_37, rs_X3_step_38, rs_X3_step_39, rs_X3_step_40, rs_X3_step_41, rs_X3_step_43, rs_X3_step_44, rs_X3_step_45, rs_X3_step_48, rs_X3_step_51, rs_X3_step_52, rs_X3_step_55, rs_X3_step_56, rs_X3_step_57, rs_X3_step_58, rs_X3_step_59, rs_X3_step_61, rs_X3_step_16, rs_X3_step_62, -List.getElem?_eq_getElem, am_js, am_e, am_in, am_sl, rI, rZ, rV, rJ, rA, rC, kI, kJ, kR, am_one, am_nl, am_w8, tIc, tLc, tNul, tIld, tLld, tAld, tIst, tLst, tAst, tIinc, tI2, tDv, tL2, tLrem, tLs, tLcmp, tI2l, tL2i, tI2c, tDup, tDup2, tPop, tGo, tIfeq, tIfne, tIflt, tIfge, tIfgt, tIfle, tCmeq, tCmne, tCmlt, tCmge, tCmgt, tCmle, tNu, tTs, tGf, tPf, tGs, tIal, tIas, tBal, tBas, tAln, tSv, tSc, tSb, tSl, tSk, tCv, tCs, tCt, tMx, tMn, wr_10000, wr_100000, wr_1000000, wr_10000000, wr_100000000, wr_2400, wr_9999, wr_0, wr_1, wr_2, wr_3, wr_4, wr_5, wr_6, wr_7, wr_8, wr_9, wr_10, wr_11, wr_12, wr_13, wr_14, wr_15, wr_16, wr_17, wr_18, wr_19, wr_20, wr_21, wr_22, wr_23, wr_24, wr_25, wr_26, wr_27, wr_28, wr_29, wr_30, wr_31, wr_32, wr_33, wr_34, wr_35, wr_36, wr_37, wr_38, wr_39, wr_40, wr_41, wr_42, wr_43, wr_44, wr_45, wr_46, wr_47, wr_48, wr_49, wr_50, wr_51, wr_52, wr_53, wr_54, wr_55, wr_56, wr_57, wr_58, wr_59, wr_60, wr_61, wr_62, wr_63, wr_99, wr_100, wr_192, wr_255, wr_256, wr_343, wr_999, wr_1000, wr_2401, wr_2147483647, wr_65535, wr_m1, wr_m2, wr_m3, wr_m4, wr_m9, ak_1000, ak_1001, ak_1002, ak_0, ak_1, ak_2, ak_3, ak_4, ak_5, ak_6, ak_7, ak_8, ak_9, ak_10, ak_11, ak_12, ak_13, ak_14, ak_15, ak_16, ak_17, ak_18, ak_19, ak_20, ak_21, ak_22, ak_23, ak_24, ak_25, ak_26, ak_27, ak_28, ak_29, ak_30, ak_31, ak_32, ak_33, ak_34, ak_35, ak_36, ak_37, ak_38, ak_39, ak_40, ak_41, ak_42, ak_43, ak_44, ak_45, ak_46, ak_47, -List.getD_eq_getElem?_getD, v43, v45, k2, wx, wi, hx, hz, wz']
  | n + 1, x, hin, hx => by
    have wx : wr x = x := wr_id (by omega) (by omega)
    have wi : wr i = i := wr_id (by omega) (by omega)
    obtain ⟨j, hj⟩ : ∃ j : Int, i + ((n + 1 : Nat) : Int) = j := ⟨_, rfl⟩
    rw [hj, wk3]
    have wj : wr j = j := wr_id (by omega) (by omega)
    have nj : ¬ j ≤ i := by omega
    obtain ⟨m, hm, h⟩ := lp_X3_step v43 v45 k2 hT i c hi n (pr3 T x) (by omega) (pr3_rng hT x)
    rw [show i + (n : Int) = j + -1 by omega] at h
    generalize (T.getD (wk3 T n (pr3 T x)).toNat 0 - 1).tmod 100 = W at h ⊢
    refine ⟨m + 39 + 1, by omega, ?_⟩
    rw [rs_X3_step_27]
    simp only [se] at v43
    have ht := hT x.toNat
    unfold pr3 at h
    generalize hz : T.getD x.toNat 0 = z at ht h
    have wz' : wr (z - 1) = z - 1 := by clear hz; exact wr_id (by omega) (by omega)
    have ej : j - 1 = j + -1 := by clear hz; omega
    simp [↓ri_X3_step, rs_X3_step_0, rs_X3_step_1, rs_X3_step_4, rs_X3_step_5, rs_X3_step_6, rs_X3_step_9, rs_X3_step_10, rs_X3_step_11, rs_X3_step_14, rs_X3_step_17, rs_X3_step_18, rs_X3_step_21, rs_X3_step_22, rs_X3_step_23, rs_X3_step_24, rs_X3_step_25, rs_X3_step_29, rs_X3_step_30, rs_X3_step_33, rs_X3_step_34, rs_X3_step_37, rs_X3_step_38, rs_X3_step_39, rs_X3_step_40, rs_X3_step_41, rs_X3_step_43, rs_X3_step_44, rs_X3_step_45, rs_X3_step_48, rs_X3_step_51, rs_X3_step_52, rs_X3_step_55, rs_X3_step_56, rs_X3_step_57, rs_X3_step_58, rs_X3_step_59, rs_X3_step_61, rs_X3_step_16, rs_X3_step_62, -List.getElem?_eq_getElem, am_js, am_e, am_in, am_sl, rI, rZ, rV, rJ, rA, rC, kI, kJ, kR, am_one, am_nl, am_w8, tIc, tLc, tNul, tIld, tLld, tAld, tIst, tLst, tAst, tIinc, tI2, tDv, tL2, tLrem, tLs, tLcmp, tI2l, tL2i, tI2c, tDup, tDup2, tPop, tGo, tIfeq, tIfne, tIflt, tIfge, tIfgt, tIfle, tCmeq, tCmne, tCmlt, tCmge, tCmgt, tCmle, tNu, tTs, tGf, tPf, tGs, tIal, tIas, tBal, tBas, tAln, tSv, tSc, tSb, tSl, tSk, tCv, tCs, tCt, tMx, tMn, wr_10000, wr_100000, wr_1000000, wr_10000000, wr_100000000, wr_2400, wr_9999, wr_0, wr_1, wr_2, wr_3, wr_4, wr_5, wr_6, wr_7, wr_8, wr_9, wr_10, wr_11, wr_12, wr_13, wr_14, wr_15, wr_16, wr_17, wr_18, wr_19, wr_20, wr_21, wr_22, wr_23, wr_24, wr_25, wr_26, wr_27, wr_28, wr_29, wr_30, wr_31, wr_32, wr_33, wr_34, wr_35, wr_36, wr_37, wr_38, wr_39, wr_40, wr_41, wr_42, wr_43, wr_44, wr_45, wr_46, wr_47, wr_48, wr_49, wr_50, wr_51, wr_52, wr_53, wr_54, wr_55, wr_56, wr_57, wr_58, wr_59, wr_60, wr_61, wr_62, wr_63, wr_99, wr_100, wr_192, wr_255, wr_256, wr_343, wr_999, wr_1000, wr_2401, wr_2147483647, wr_65535, wr_m1, wr_m2, wr_m3, wr_m4, wr_m9, ak_1000, ak_1001, ak_1002, ak_0, ak_1, ak_2, ak_3, ak_4, ak_5, ak_6, ak_7, ak_8, ak_9, ak_10, ak_11, ak_12, ak_13, ak_14, ak_15, ak_16, ak_17, ak_18, ak_19, ak_20, ak_21, ak_22, ak_23, ak_24, ak_25, ak_26, ak_27, ak_28, ak_29, ak_30, ak_31, ak_32, ak_33, ak_34, ak_35, ak_36, ak_37, ak_38, ak_39, ak_40, ak_41, ak_42, ak_43, ak_44, ak_45, ak_46, ak_47, -List.getD_eq_getElem?_getD, v43, v45, k2, wx, wi, wj, nj, hx, hz, wz', ej]
    exact rm_X3_step h (Nat.le_add_right _ _)
theorem sp_X3_step {V : List AC} {sz gl : Int} {Q T : List Int} (v43 : V[43]? = some (se sz gl)) (v44 : V[44]? = some (aI Q)) (v45 : V[45]? = some (aI T)) (k1 : Q.length = 2401) (k2 : T.length = 2401) (hT : ∀ i : Nat, 0 ≤ T.getD i 0 ∧ T.getD i 0 ≤ 240100) (hQ : 0 ≤ Q.getD 0 0 ∧ Q.getD 0 0 < 2401) (hg : 0 ≤ gl ∧ gl < 2401) (i : Int) (hi : -2147483648 ≤ i ∧ i < 2147483648) : fn_X3_step [vR 43, vI i] V = some (some (vI (if 0 ≤ i ∧ i < sts (Q.getD 0 0) T 2401 0 gl then (T.getD (wk3 T (sts (Q.getD 0 0) T 2401 0 gl - 1 - i).toNat gl).toNat 0 - 1).tmod 100 else -9)), V) := by
  have wi : wr i = i := wr_id (by omega) (by omega)
  have q1 := sp_X3_steps v43 v44 v45 k1 k2 hT hQ hg
  have hr := sts_rng (Q.getD 0 0) T 2401 0 gl
  generalize sts (Q.getD 0 0) T 2401 0 gl = c at q1 hr ⊢
  have wc : wr c = c := wr_id (by omega) (by omega)
  by_cases h : 0 ≤ i ∧ i < c
  · rw [if_pos h]
    obtain ⟨m, hm, h'⟩ := lp_X3_step v43 v45 k2 hT i c (by omega) (c - 1 - i).toNat gl (by omega) hg
    rw [show i + ((c - 1 - i).toNat : Int) = c - 1 by omega] at h'
    generalize (T.getD (wk3 T (c - 1 - i).toNat gl).toNat 0 - 1).tmod 100 = W at h' ⊢
    simp only [se] at v43
    have a1 : ¬ i < 0 := by omega
    have a2 : i < c := h.2
    (refine am_fnR (tb := tb_X3_step) (N := 200000) (Nat.le_of_ble_eq_true rfl) (Nat.le_of_ble_eq_true rfl) ?_; show Ru rx_X3_step 200000 0 _ _ _ _)
    refine ⟨m + 30, by omega, ?_⟩
    simp [↓ri_X3_step, rs_X3_step_0, rs_X3_step_1, rs_X3_step_4, rs_X3_step_5, rs_X3_step_6, rs_X3_step_9, rs_X3_step_10, rs_X3_step_11, rs_X3_step_14, rs_X3_step_17, rs_X3_step_18, rs_X3_step_21, rs_X3_step_22, rs_X3_step_23, rs_X3_step_24, rs_X3_step_25, rs_X3_step_29, rs_X3_step_30, rs_X3_step_33, rs_X3_step_34, rs_X3_step_37, rs_X3_step_38, rs_X3_step_39, rs_X3_step_40, rs_X3_step_41, rs_X3_step_43, rs_X3_step_44, rs_X3_step_45, rs_X3_step_48, rs_X3_step_51, rs_X3_step_52, rs_X3_step_55, rs_X3_step_56, rs_X3_step_57, rs_X3_step_58, rs_X3_step_59, rs_X3_step_61, rs_X3_step_16, rs_X3_step_62, -List.getElem?_eq_getElem, am_js, am_e, am_in, am_sl, rI, rZ, rV, rJ, rA, rC, kI, kJ, kR, am_one, am_nl, am_w8, tIc, tLc, tNul, tIld, tLld, tAld, tIst, tLst, tAst, tIinc, tI2, tDv, tL2, tLrem, tLs, tLcmp, tI2l, tL2i, tI2c, tDup, tDup2, tPop, tGo, tIfeq, tIfne, tIflt, tIfge, tIfgt, tIfle, tCmeq, tCmne, tCmlt, tCmge, tCmgt, tCmle, tNu, tTs, tGf, tPf, tGs, tIal, tIas, tBal, tBas, tAln, tSv, tSc, tSb, tSl, tSk, tCv, tCs, tCt, tMx, tMn, wr_10000, wr_100000, wr_1000000, wr_10000000, wr_100000000, wr_2400, wr_9999, wr_0, wr_1, wr_2, wr_3, wr_4, wr_5, wr_6, wr_7, wr_8, wr_9, wr_10, wr_11, wr_12, wr_13, wr_14, wr_15, wr_16, wr_17, wr_18, wr_19, wr_20, wr_21, wr_22, wr_23, wr_24, wr_25, wr_26, wr_27, wr_28, wr_29, wr_30, wr_31, wr_32, wr_33, wr_34, wr_35, wr_36, wr_37, wr_38, wr_39, wr_40, wr_41, wr_42, wr_43, wr_44, wr_45, wr_46, wr_47, wr_48, wr_49, wr_50, wr_51, wr_52, wr_53, wr_54, wr_55, wr_56, wr_57, wr_58, wr_59, wr_60, wr_61, wr_62, wr_63, wr_99, wr_100, wr_192, wr_255, wr_256, wr_343, wr_999, wr_1000, wr_2401, wr_2147483647, wr_65535, wr_m1, wr_m2, wr_m3, wr_m4, wr_m9, ak_1000, ak_1001, ak_1002, ak_0, ak_1, ak_2, ak_3, ak_4, ak_5, ak_6, ak_7, ak_8, ak_9, ak_10, ak_11, ak_12, ak_13, ak_14, ak_15, ak_16, ak_17, ak_18, ak_19, ak_20, ak_21, ak_22, ak_23, ak_24, ak_25, ak_26, ak_27, ak_28, ak_29, ak_30, ak_31, ak_32, ak_33, ak_34, ak_35, ak_36, ak_37, ak_38, ak_39, ak_40, ak_41, ak_42, ak_43, ak_44, ak_45, ak_46, ak_47, v43, q1, wi, wc, a1, a2]
    exact rm_X3_step h' (by omega)
  · rw [if_neg h]
    simp only [se] at v43
    by_cases a1 : i < 0
    · (refine am_fnI (tb := tb_X3_step) (n := 40) (Nat.le_of_ble_eq_true rfl) (Nat.le_of_ble_eq_true rfl) ?_; show rx_X3_step 40 0 _ _ _ = _)
      simp [↓ri_X3_step, rs_X3_step_0, rs_X3_step_1, rs_X3_step_4, rs_X3_step_5, rs_X3_step_6, rs_X3_step_9, rs_X3_step_10, rs_X3_step_11, rs_X3_step_14, rs_X3_step_17, rs_X3_step_18, rs_X3_step_21, rs_X3_step_22, rs_X3_step_23, rs_X3_step_24, rs_X3_step_25, rs_X3_step_27, rs_X3_step_29, rs_X3_step_30, rs_X3_step_33, rs_X3_step_34, rs_X3_step_37, rs_X3_step_38, rs_X3_step_39, rs_X3_step_40, rs_X3_step_41, rs_X3_step_43, rs_X3_step_44, rs_X3_step_45, rs_X3_step_48, rs_X3_step_51, rs_X3_step_52, rs_X3_step_55, rs_X3_step_56, rs_X3_step_57, rs_X3_step_58, rs_X3_step_59, rs_X3_step_61, rs_X3_step_16, rs_X3_step_62, -List.getElem?_eq_getElem, am_js, am_e, am_in, am_sl, rI, rZ, rV, rJ, rA, rC, kI, kJ, kR, am_one, am_nl, am_w8, tIc, tLc, tNul, tIld, tLld, tAld, tIst, tLst, tAst, tIinc, tI2, tDv, tL2, tLrem, tLs, tLcmp, tI2l, tL2i, tI2c, tDup, tDup2, tPop, tGo, tIfeq, tIfne, tIflt, tIfge, tIfgt, tIfle, tCmeq, tCmne, tCmlt, tCmge, tCmgt, tCmle, tNu, tTs, tGf, tPf, tGs, tIal, tIas, tBal, tBas, tAln, tSv, tSc, tSb, tSl, tSk, tCv, tCs, tCt, tMx, tMn, wr_10000, wr_100000, wr_1000000, wr_10000000, wr_100000000, wr_2400, wr_9999, wr_0, wr_1, wr_2, wr_3, wr_4, wr_5, wr_6, wr_7, wr_8, wr_9, wr_10, wr_11, wr_12, wr_13, wr_14, wr_15, wr_16, wr_17, wr_18, wr_19, wr_20, wr_21, wr_22, wr_23, wr_24, wr_25, wr_26, wr_27, wr_28, wr_29, wr_30, wr_31, wr_32, wr_33, wr_34, wr_35, wr_36, wr_37, wr_38, wr_39, wr_40, wr_41, wr_42, wr_43, wr_44, wr_45, wr_46, wr_47, wr_48, wr_49, wr_50, wr_51, wr_52, wr_53, wr_54, wr_55, wr_56, wr_57, wr_58, wr_59, wr_60, wr_61, wr_62, wr_63, wr_99, wr_100, wr_192, wr_255, wr_256, wr_343, wr_999, wr_1000, wr_2401, wr_2147483647, wr_65535, wr_m1, wr_m2, wr_m3, wr_m4, wr_m9, ak_1000, ak_1001, ak_1002, ak_0, ak_1, ak_2, ak_3, ak_4, ak_5, ak_6, ak_7, ak_8, ak_9, ak_10, ak_11, ak_12, ak_13, ak_14, ak_15, ak_16, ak_17, ak_18, ak_19, ak_20, ak_21, ak_22, ak_23, ak_24, ak_25, ak_26, ak_27, ak_28, ak_29, ak_30, ak_31, ak_32, ak_33, ak_34, ak_35, ak_36, ak_37, ak_38, ak_39, ak_40, ak_41, ak_42, ak_43, ak_44, ak_45, ak_46, ak_47, v43, q1, wi, a1]
    · have a2 : ¬ i < c := by omega
      (refine am_fnI (tb := tb_X3_step) (n := 40) (Nat.le_of_ble_eq_true rfl) (Nat.le_of_ble_eq_true rfl) ?_; show rx_X3_step 40 0 _ _ _ = _)
      simp [↓ri_X3_step, rs_X3_step_0, rs_X3_step_1, rs_X3_step_4, rs_X3_step_5, rs_X3_step_6, rs_X3_step_9, rs_X3_step_10, rs_X3_step_11, rs_X3_step_14, rs_X3_step_18, rs_X3_step_21, rs_X3_step_22, rs_X3_step_23, rs_X3_step_24, rs_X3_step_25, rs_X3_step_27, rs_X3_step_29, rs_X3_step_30, rs_X3_step_33, rs_X3_step_34, rs_X3_step_37, rs_X3_step_38, rs_X3_step_39, rs_X3_step_40, rs_X3_step_41, rs_X3_step_43, rs_X3_step_44, rs_X3_step_45, rs_X3_step_48, rs_X3_step_51, rs_X3_step_52, rs_X3_step_55, rs_X3_step_56, rs_X3_step_57, rs_X3_step_58, rs_X3_step_59, rs_X3_step_61, rs_X3_step_16, rs_X3_step_62, -List.getElem?_eq_getElem, am_js, am_e, am_in, am_sl, rI, rZ, rV, rJ, rA, rC, kI, kJ, kR, am_one, am_nl, am_w8, tIc, tLc, tNul, tIld, tLld, tAld, tIst, tLst, tAst, tIinc, tI2, tDv, tL2, tLrem, tLs, tLcmp, tI2l, tL2i, tI2c, tDup, tDup2, tPop, tGo, tIfeq, tIfne, tIflt, tIfge, tIfgt, tIfle, tCmeq, tCmne, tCmlt, tCmge, tCmgt, tCmle, tNu, tTs, tGf, tPf, tGs, tIal, tIas, tBal, tBas, tAln, tSv, tSc, tSb, tSl, tSk, tCv, tCs, tCt, tMx, tMn, wr_10000, wr_100000, wr_1000000, wr_10000000, wr_100000000, wr_2400, wr_9999, wr_0, wr_1, wr_2, wr_3, wr_4, wr_5, wr_6, wr_7, wr_8, wr_9, wr_10, wr_11, wr_12, wr_13, wr_14, wr_15, wr_16, wr_17, wr_18, wr_19, wr_20, wr_21, wr_22, wr_23, wr_24, wr_25, wr_26, wr_27, wr_28, wr_29, wr_30, wr_31, wr_32, wr_33, wr_34, wr_35, wr_36, wr_37, wr_38, wr_39, wr_40, wr_41, wr_42, wr_43, wr_44, wr_45, wr_46, wr_47, wr_48, wr_49, wr_50, wr_51, wr_52, wr_53, wr_54, wr_55, wr_56, wr_57, wr_58, wr_59, wr_60, wr_61, wr_62, wr_63, wr_99, wr_100, wr_192, wr_255, wr_256, wr_343, wr_999, wr_1000, wr_2401, wr_2147483647, wr_65535, wr_m1, wr_m2, wr_m3, wr_m4, wr_m9, ak_1000, ak_1001, ak_1002, ak_0, ak_1, ak_2, ak_3, ak_4, ak_5, ak_6, ak_7, ak_8, ak_9, ak_10, ak_11, ak_12, ak_13, ak_14, ak_15, ak_16, ak_17, ak_18, ak_19, ak_20, ak_21, ak_22, ak_23, ak_24, ak_25, ak_26, ak_27, ak_28, ak_29, ak_30, ak_31, ak_32, ak_33, ak_34, ak_35, ak_36, ak_37, ak_38, ak_39, ak_40, ak_41, ak_42, ak_43, ak_44, ak_45, ak_46, ak_47, v43, q1, wi, wc, a1, a2]
end
