noncomputable section
/-- where a SET of the corners c and o to the depths p from the state x ends -/
def tg2 (st : Int) (g s b : F4) (x c o p : Int) : Int := so (sl st g s b 4 (s4 (s4 (su x) c.toNat (p / 7)) o.toNat (p % 7)) 0).1
def g2b (st : Int) (g s b : F4) (x c o : Int) : Nat → Int → S6 → S6
  | 0, _, S => S
  | n + 1, p, S => g2b st g s b x c o n (p + 1) (cmT S (tg2 st g s b x c o p) x 0)
def g2o (st : Int) (g s b : F4) (x c : Int) : Nat → Int → S6 → S6
  | 0, _, S => S
  | n + 1, o, S => g2o st g s b x c n (o + 1) (g2b st g s b x c o 49 0 S)
def g2c (st : Int) (g s b : F4) (x : Int) : Nat → Int → S6 → S6
  | 0, _, S => S
  | n + 1, c, S => g2c st g s b x n (c + 1) (g2o st g s b x c (3 - c).toNat (c + 1) S)
theorem tg2_rng (st : Int) (g s b : F4) {x c o p : Int} (hx : 0 ≤ x ∧ x < 2401) (hp : 0 ≤ p ∧ p < 49) : 0 ≤ tg2 st g s b x c o p ∧ tg2 st g s b x c o p < 2401 := so_rng (sl_i4 st g s b 4 _ 0 (i4_s (i4_s (su_rng hx) _ (by omega) (by omega)) _ (by omega) (by omega)))
theorem g2b_K (st : Int) (g s b : F4) {x c o : Int} (hx : 0 ≤ x ∧ x < 2401) : ∀ (n : Nat) (p : Int) (S : S6), 0 ≤ p → p + n = 49 → K6 x S → K6 x (g2b st g s b x c o n p S)
  | 0, _, _, _, _, h => h
  | n + 1, p, S, hp, hn, h => by
    rw [g2b]
    exact g2b_K st g s b hx n (p + 1) _ (by omega) (by omega) (h.cm (tg2_rng st g s b hx ⟨hp, by omega⟩) _)
theorem g2o_K (st : Int) (g s b : F4) {x c : Int} (hx : 0 ≤ x ∧ x < 2401) : ∀ (n : Nat) (o : Int) (S : S6), K6 x S → K6 x (g2o st g s b x c n o S)
  | 0, _, _, h => h
  | n + 1, o, S, h => by
    rw [g2o]
    exact g2o_K st g s b hx n (o + 1) _ (g2b_K st g s b hx 49 0 S (by omega) (by omega) h)
theorem g2c_K (st : Int) (g s b : F4) {x : Int} (hx : 0 ≤ x ∧ x < 2401) : ∀ (n : Nat) (c : Int) (S : S6), K6 x S → K6 x (g2c st g s b x n c S)
  | 0, _, _, h => h
  | n + 1, c, S, h => by
    rw [g2c]
    exact g2c_K st g s b hx n (c + 1) _ (g2o_K st g s b hx _ _ S h)
abbrev mi_X6_goTwo : Mi := (yX6_goTwo, cX6_goTwo, 5, none, 8)
theorem mf_X6_goTwo : am_mf mi_X6_goTwo 1 := ⟨w_co_X6_goTwo, w_in_X6, ⟨by decide +kernel, by decide +kernel⟩, by decide +kernel, by decide⟩
def tb_X6_goTwo : List (Nat × Tr) := [(0, tIc 0 1), (1, tIst 2 1), (2, tIld 2 1), (3, tIc 3 1), (4, tCmge 77), (7, tIld 2 1), (8, tIc 1 1), (9, tI2 (fun a b => a + b)), (10, tIst 3 1), (11, tIld 3 1), (12, tIc 4 1), (13, tCmge 71), (16, tIc 0 1), (17, tIst 4 2), (19, tIld 4 2), (21, tIc 49 2), (23, tCmge 65), (26, tAld 0 1), (27, tIld 1 1), (28, tCv 6 1 fn_X6_layState), (31, tAld 0 1), (32, tGf 6 8), (35, tIld 2 1), (36, tIld 4 2), (38, tIc 7 2), (40, tDv Int.tdiv), (41, tIas), (42, tAld 0 1), (43, tGf 6 8), (46, tIld 3 1), (47, tIld 4 2), (49, tIc 7 2), (51, tDv Int.tmod), (52, tIas), (53, tAld 0 1), (54, tIld 1 1), (55, tIc 0 1), (56, tCv 6 2 fn_X6_come), (59, tIinc 4 1), (62, tGo 19), (65, tIinc 3 1), (68, tGo 11), (71, tIinc 2 1), (74, tGo 2)]
theorem ok_X6_goTwo : Tok mi_X6_goTwo tb_X6_goTwo :=
  Tc (sd_iconst rfl dX6_goTwo_0) <|
  Tc (sd_istore_n dX6_goTwo_1) <|
  Tc (sd_iload_n dX6_goTwo_2) <|
  Tc (sd_iconst rfl dX6_goTwo_3) <|
  Tc (sd_cm_ge (by decide) dX6_goTwo_4) <|
  Tc (sd_iload_n dX6_goTwo_7) <|
  Tc (sd_iconst rfl dX6_goTwo_8) <|
  Tc (sd_iadd dX6_goTwo_9) <|
  Tc (sd_istore_n dX6_goTwo_10) <|
  Tc (sd_iload_n dX6_goTwo_11) <|
  Tc (sd_iconst rfl dX6_goTwo_12) <|
  Tc (sd_cm_ge (by decide) dX6_goTwo_13) <|
  Tc (sd_iconst rfl dX6_goTwo_16) <|
  Tc (sd_istore dX6_goTwo_17) <|
  Tc (sd_iload dX6_goTwo_19) <|
  Tc (sd_bipush (by decide +kernel) dX6_goTwo_21) <|
  Tc (sd_cm_ge (by decide) dX6_goTwo_23) <|
  Tc (sd_aload_n dX6_goTwo_26) <|
  Tc (sd_iload_n dX6_goTwo_27) <|
  Tc (sd_cv (T := TX6) fok_X6_layState mf_X6_layState rfl w_ml_X6_161 w_im_X6_layState w_se_X6_layState (by decide) dX6_goTwo_28) <|
  Tc (sd_aload_n dX6_goTwo_31) <|
  Tc (sd_getf (T := TX6) rfl giX6 (by decide) w_fl_X6_25 dX6_goTwo_32) <|
  Tc (sd_iload_n dX6_goTwo_35) <|
  Tc (sd_iload dX6_goTwo_36) <|
  Tc (sd_bipush (by decide +kernel) dX6_goTwo_38) <|
  Tc (sd_idiv dX6_goTwo_40) <|
  Tc (sd_ias dX6_goTwo_41) <|
  Tc (sd_aload_n dX6_goTwo_42) <|
  Tc (sd_getf (T := TX6) rfl giX6 (by decide) w_fl_X6_25 dX6_goTwo_43) <|
  Tc (sd_iload_n dX6_goTwo_46) <|
  Tc (sd_iload dX6_goTwo_47) <|
  Tc (sd_bipush (by decide +kernel) dX6_goTwo_49) <|
  Tc (sd_irem dX6_goTwo_51) <|
  Tc (sd_ias dX6_goTwo_52) <|
  Tc (sd_aload_n dX6_goTwo_53) <|
  Tc (sd_iload_n dX6_goTwo_54) <|
  Tc (sd_iconst rfl dX6_goTwo_55) <|
  Tc (sd_cv (T := TX6) fok_X6_come mf_X6_come rfl w_ml_X6_189 w_im_X6_come w_se_X6_come (by decide) dX6_goTwo_56) <|
  Tc (sd_iinc dX6_goTwo_59) <|
  Tc (sd_goto (by decide) dX6_goTwo_62) <|
  Tc (sd_iinc dX6_goTwo_65) <|
  Tc (sd_goto (by decide) dX6_goTwo_68) <|
  Tc (sd_iinc dX6_goTwo_71) <|
  Tc (sd_goto (by decide) dX6_goTwo_74) <|
  Tn
theorem rk_X6_goTwo : Rok mi_X6_goTwo rV [77] := rk_v dX6_goTwo_77 <| rk_n
def rx_X6_goTwo : Nat → Nat → AL → List AV → List AC → Option (Option AV × List AC) := am_r tb_X6_goTwo rV [77]
theorem rs_X6_goTwo_0 (n : Nat) (L : AL) (st : List AV) (M : List AC) : rx_X6_goTwo (n + 1) 0 L st M = am_j (rx_X6_goTwo n) ((tIc 0 1) 0 L st M) := rfl
theorem rs_X6_goTwo_1 (n : Nat) (L : AL) (st : List AV) (M : List AC) : rx_X6_goTwo (n + 1) 1 L st M = am_j (rx_X6_goTwo n) ((tIst 2 1) 1 L st M) := rfl
theorem rs_X6_goTwo_2 (n : Nat) (L : AL) (st : List AV) (M : List AC) : rx_X6_goTwo (n + 1) 2 L st M = am_j (rx_X6_goTwo n) ((tIld 2 1) 2 L st M) := rfl
theorem rs_X6_goTwo_3 (n : Nat) (L : AL) (st : List AV) (M : List AC) : rx_X6_goTwo (n + 1) 3 L st M = am_j (rx_X6_goTwo n) ((tIc 3 1) 3 L st M) := rfl
theorem rs_X6_goTwo_4 (n : Nat) (L : AL) (st : List AV) (M : List AC) : rx_X6_goTwo (n + 1) 4 L st M = am_j (rx_X6_goTwo n) ((tCmge 77) 4 L st M) := rfl
theorem rs_X6_goTwo_7 (n : Nat) (L : AL) (st : List AV) (M : List AC) : rx_X6_goTwo (n + 1) 7 L st M = am_j (rx_X6_goTwo n) ((tIld 2 1) 7 L st M) := rfl
theorem rs_X6_goTwo_8 (n : Nat) (L : AL) (st : List AV) (M : List AC) : rx_X6_goTwo (n + 1) 8 L st M = am_j (rx_X6_goTwo n) ((tIc 1 1) 8 L st M) := rfl
theorem rs_X6_goTwo_9 (n : Nat) (L : AL) (st : List AV) (M : List AC) : rx_X6_goTwo (n + 1) 9 L st M = am_j (rx_X6_goTwo n) ((tI2 (fun a b => a + b)) 9 L st M) := rfl
theorem rs_X6_goTwo_10 (n : Nat) (L : AL) (st : List AV) (M : List AC) : rx_X6_goTwo (n + 1) 10 L st M = am_j (rx_X6_goTwo n) ((tIst 3 1) 10 L st M) := rfl
theorem rs_X6_goTwo_11 (n : Nat) (L : AL) (st : List AV) (M : List AC) : rx_X6_goTwo (n + 1) 11 L st M = am_j (rx_X6_goTwo n) ((tIld 3 1) 11 L st M) := rfl
theorem rs_X6_goTwo_12 (n : Nat) (L : AL) (st : List AV) (M : List AC) : rx_X6_goTwo (n + 1) 12 L st M = am_j (rx_X6_goTwo n) ((tIc 4 1) 12 L st M) := rfl
theorem rs_X6_goTwo_13 (n : Nat) (L : AL) (st : List AV) (M : List AC) : rx_X6_goTwo (n + 1) 13 L st M = am_j (rx_X6_goTwo n) ((tCmge 71) 13 L st M) := rfl
theorem rs_X6_goTwo_16 (n : Nat) (L : AL) (st : List AV) (M : List AC) : rx_X6_goTwo (n + 1) 16 L st M = am_j (rx_X6_goTwo n) ((tIc 0 1) 16 L st M) := rfl
theorem rs_X6_goTwo_17 (n : Nat) (L : AL) (st : List AV) (M : List AC) : rx_X6_goTwo (n + 1) 17 L st M = am_j (rx_X6_goTwo n) ((tIst 4 2) 17 L st M) := rfl
theorem rs_X6_goTwo_19 (n : Nat) (L : AL) (st : List AV) (M : List AC) : rx_X6_goTwo (n + 1) 19 L st M = am_j (rx_X6_goTwo n) ((tIld 4 2) 19 L st M) := rfl
theorem rs_X6_goTwo_21 (n : Nat) (L : AL) (st : List AV) (M : List AC) : rx_X6_goTwo (n + 1) 21 L st M = am_j (rx_X6_goTwo n) ((tIc 49 2) 21 L st M) := rfl
theorem rs_X6_goTwo_23 (n : Nat) (L : AL) (st : List AV) (M : List AC) : rx_X6_goTwo (n + 1) 23 L st M = am_j (rx_X6_goTwo n) ((tCmge 65) 23 L st M) := rfl
theorem rs_X6_goTwo_26 (n : Nat) (L : AL) (st : List AV) (M : List AC) : rx_X6_goTwo (n + 1) 26 L st M = am_j (rx_X6_goTwo n) ((tAld 0 1) 26 L st M) := rfl
theorem rs_X6_goTwo_27 (n : Nat) (L : AL) (st : List AV) (M : List AC) : rx_X6_goTwo (n + 1) 27 L st M = am_j (rx_X6_goTwo n) ((tIld 1 1) 27 L st M) := rfl
theorem rs_X6_goTwo_28 (n : Nat) (L : AL) (st : List AV) (M : List AC) : rx_X6_goTwo (n + 1) 28 L st M = am_j (rx_X6_goTwo n) ((tCv 6 1 fn_X6_layState) 28 L st M) := rfl
theorem rs_X6_goTwo_31 (n : Nat) (L : AL) (st : List AV) (M : List AC) : rx_X6_goTwo (n + 1) 31 L st M = am_j (rx_X6_goTwo n) ((tAld 0 1) 31 L st M) := rfl
theorem rs_X6_goTwo_32 (n : Nat) (L : AL) (st : List AV) (M : List AC) : rx_X6_goTwo (n + 1) 32 L st M = am_j (rx_X6_goTwo n) ((tGf 6 8) 32 L st M) := rfl
theorem rs_X6_goTwo_35 (n : Nat) (L : AL) (st : List AV) (M : List AC) : rx_X6_goTwo (n + 1) 35 L st M = am_j (rx_X6_goTwo n) ((tIld 2 1) 35 L st M) := rfl
theorem rs_X6_goTwo_36 (n : Nat) (L : AL) (st : List AV) (M : List AC) : rx_X6_goTwo (n + 1) 36 L st M = am_j (rx_X6_goTwo n) ((tIld 4 2) 36 L st M) := rfl
theorem rs_X6_goTwo_38 (n : Nat) (L : AL) (st : List AV) (M : List AC) : rx_X6_goTwo (n + 1) 38 L st M = am_j (rx_X6_goTwo n) ((tIc 7 2) 38 L st M) := rfl
theorem rs_X6_goTwo_40 (n : Nat) (L : AL) (st : List AV) (M : List AC) : rx_X6_goTwo (n + 1) 40 L st M = am_j (rx_X6_goTwo n) ((tDv Int.tdiv) 40 L st M) := rfl
theorem rs_X6_goTwo_41 (n : Nat) (L : AL) (st : List AV) (M : List AC) : rx_X6_goTwo (n + 1) 41 L st M = am_j (rx_X6_goTwo n) (tIas 41 L st M) := rfl
theorem rs_X6_goTwo_42 (n : Nat) (L : AL) (st : List AV) (M : List AC) : rx_X6_goTwo (n + 1) 42 L st M = am_j (rx_X6_goTwo n) ((tAld 0 1) 42 L st M) := rfl
theorem rs_X6_goTwo_43 (n : Nat) (L : AL) (st : List AV) (M : List AC) : rx_X6_goTwo (n + 1) 43 L st M = am_j (rx_X6_goTwo n) ((tGf 6 8) 43 L st M) := rfl
theorem rs_X6_goTwo_46 (n : Nat) (L : AL) (st : List AV) (M : List AC) : rx_X6_goTwo (n + 1) 46 L st M = am_j (rx_X6_goTwo n) ((tIld 3 1) 46 L st M) := rfl
theorem rs_X6_goTwo_47 (n : Nat) (L : AL) (st : List AV) (M : List AC) : rx_X6_goTwo (n + 1) 47 L st M = am_j (rx_X6_goTwo n) ((tIld 4 2) 47 L st M) := rfl
theorem rs_X6_goTwo_49 (n : Nat) (L : AL) (st : List AV) (M : List AC) : rx_X6_goTwo (n + 1) 49 L st M = am_j (rx_X6_goTwo n) ((tIc 7 2) 49 L st M) := rfl
theorem rs_X6_goTwo_51 (n : Nat) (L : AL) (st : List AV) (M : List AC) : rx_X6_goTwo (n + 1) 51 L st M = am_j (rx_X6_goTwo n) ((tDv Int.tmod) 51 L st M) := rfl
theorem rs_X6_goTwo_52 (n : Nat) (L : AL) (st : List AV) (M : List AC) : rx_X6_goTwo (n + 1) 52 L st M = am_j (rx_X6_goTwo n) (tIas 52 L st M) := rfl
theorem rs_X6_goTwo_53 (n : Nat) (L : AL) (st : List AV) (M : List AC) : rx_X6_goTwo (n + 1) 53 L st M = am_j (rx_X6_goTwo n) ((tAld 0 1) 53 L st M) := rfl
theorem rs_X6_goTwo_54 (n : Nat) (L : AL) (st : List AV) (M : List AC) : rx_X6_goTwo (n + 1) 54 L st M = am_j (rx_X6_goTwo n) ((tIld 1 1) 54 L st M) := rfl
theorem rs_X6_goTwo_55 (n : Nat) (L : AL) (st : List AV) (M : List AC) : rx_X6_goTwo (n + 1) 55 L st M = am_j (rx_X6_goTwo n) ((tIc 0 1) 55 L st M) := rfl
theorem rs_X6_goTwo_56 (n : Nat) (L : AL) (st : List AV) (M : List AC) : rx_X6_goTwo (n + 1) 56 L st M = am_j (rx_X6_goTwo n) ((tCv 6 2 fn_X6_come) 56 L st M) := rfl
theorem rs_X6_goTwo_59 (n : Nat) (L : AL) (st : List AV) (M : List AC) : rx_X6_goTwo (n + 1) 59 L st M = am_j (rx_X6_goTwo n) ((tIinc 4 1) 59 L st M) := rfl
theorem rs_X6_goTwo_62 (n : Nat) (L : AL) (st : List AV) (M : List AC) : rx_X6_goTwo (n + 1) 62 L st M = am_j (rx_X6_goTwo n) ((tGo 19) 62 L st M) := rfl
theorem rs_X6_goTwo_65 (n : Nat) (L : AL) (st : List AV) (M : List AC) : rx_X6_goTwo (n + 1) 65 L st M = am_j (rx_X6_goTwo n) ((tIinc 3 1) 65 L st M) := rfl
theorem rs_X6_goTwo_68 (n : Nat) (L : AL) (st : List AV) (M : List AC) : rx_X6_goTwo (n + 1) 68 L st M = am_j (rx_X6_goTwo n) ((tGo 11) 68 L st M) := rfl
theorem rs_X6_goTwo_71 (n : Nat) (L : AL) (st : List AV) (M : List AC) : rx_X6_goTwo (n + 1) 71 L st M = am_j (rx_X6_goTwo n) ((tIinc 2 1) 71 L st M) := rfl
theorem rs_X6_goTwo_74 (n : Nat) (L : AL) (st : List AV) (M : List AC) : rx_X6_goTwo (n + 1) 74 L st M = am_j (rx_X6_goTwo n) ((tGo 2) 74 L st M) := rfl
theorem rs_X6_goTwo_77 (n : Nat) (L : AL) (st : List AV) (M : List AC) : rx_X6_goTwo (n + 1) 77 L st M = am_e rV st M := rfl
theorem ri_X6_goTwo (c : Prop) [Decidable c] (p q n : Nat) (L : AL) (st : List AV) (M : List AC) : rx_X6_goTwo n (if c then p else q) L st M = if c then rx_X6_goTwo n p L st M else rx_X6_goTwo n q L st M := by split <;> rfl
theorem rm_X6_goTwo {n k pc : Nat} {L : AL} {st : List AV} {M : List AC} {x : Option AV × List AC} (h : rx_X6_goTwo n pc L st M = some x) (hk : n ≤ k) : rx_X6_goTwo k pc L st M = some x := am_r_mono n k h hk
def fn_X6_goTwo : Fn := am_fn rx_X6_goTwo 5
theorem fok_X6_goTwo : Fok mi_X6_goTwo fn_X6_goTwo := fun _ _ _ _ h => am_fok ok_X6_goTwo rk_X6_goTwo rfl h
theorem l2_X6_goTwo {M : List AC} {g b s : F4} (h : H6 M g b s) {st lk len ac nx rf lr en : Int} {sd : Int64} (hst : 1 ≤ st ∧ st ≤ 3) (hg : i4 1 9 g) (hs9 : i4 0 9 s) (hb : i4 0 3 b) {x c o : Int} (hx : 0 ≤ x ∧ x < 2401) (hc : 0 ≤ c ∧ c < o) (ho : o < 4) : ∀ (n : Nat) (p : Int) (d : F4) (S : S6), p + n = 49 → 0 ≤ p → K6 x S →
    ∃ d' : F4, ∀ (y : Option AV × List AC) (N : Nat), Ru rx_X6_goTwo N 65 [some (vR 26), some (vI x), some (vI c), some (vI o), some (vI 49)] [] (U6 M st lk len ac nx rf lr en sd d' (g2b st g s b x c o n p S)) y → Ru rx_X6_goTwo (N + 40 * n + 10) 19 [some (vR 26), some (vI x), some (vI c), some (vI o), some (vI p)] [] (U6 M st lk len ac nx rf lr en sd d S) y
  | 0, p, d, S, hp, hp0, hK => by
    have e : p = 49 := by omega
    subst e
    refine ⟨d, fun y N kk => ?_⟩
    rw [g2b] at kk
    obtain ⟨m, hm, h'⟩ := kk
    refine ⟨m + 9 + 1, by omega, ?_⟩
    rw [rs_X6_goTwo_19]
    simp [↓ri_X6_goTwo, rs_X6_goTwo_0, rs_X6_goTwo_1, rs_X6_goTwo_2, rs_X6_goTwo_3, rs_X6_goTwo_4, rs_X6_goTwo_7, rs_X6_goTwo_8, rs_X6_goTwo_9, rs_X6_goTwo_10, rs_X6_goTwo_11, rs_X6_goTwo_12, rs_X6_goTwo_13, rs_X6_goTwo_16, rs_X6_goTwo_17, rs_X6_goTwo_21, rs_X6_goTwo_23, rs_X6_goTwo_26, rs_X6_goTwo_27, rs_X6_goTwo_28, rs_X6_goTwo_31, rs_X6_goTwo_32, rs_X6_goTwo_35, rs_X6_goTwo_36, rs_X6_goTwo_38, rs_X6_goTwo_40, rs_X6_goTwo_41, rs_X6_goTwo_42, rs_X6_goTwo_43, rs_X6_goTwo_46, rs_X6_goTwo_47, rs_X6_goTwo_49, rs_X6_goTwo_51, rs_X6_goTwo_52, rs_X6_goTwo_53, rs_X6_goTwo_54, rs_X6_goTwo_55, rs_X6_goTwo_56, rs_X6_goTwo_59, rs_X6_goTwo_62, rs_X6_goTwo_68, rs_X6_goTwo_71, rs_X6_goTwo_74, rs_X6_goTwo_77, -List.getElem?_eq_getElem, am_js, am_e, am_in, am_sl, rI, rZ, rV, rJ, rA, rC, kI, kJ, kR, am_one, am_nl, am_w8, tIc, tLc, tNul, tIld, tLld, tAld, tIst, tLst, tAst, tIinc, tI2, tDv, tL2, tLrem, tLs, tLcmp, tI2l, tL2i, tI2c, tDup, tDup2, tPop, tGo, tIfeq, tIfne, tIflt, tIfge, tIfgt, tIfle, tCmeq, tCmne, tCmlt, tCmge, tCmgt, tCmle, tNu, tTs, tGf, tPf, tGs, tIal, tIas, tBal, tBas, tAln, tSv, tSc, tSb, tSl, tSk, tCv, tCs, tCt, tMx, tMn, wr_10000, wr_100000, wr_1000000, wr_10000000, wr_100000000, wr_2400, wr_9999, wr_0, wr_1, wr_2, wr_3, wr_4, wr_5, wr_6, wr_7, wr_8, wr_9, wr_10, wr_11, wr_12, wr_13, wr_14, wr_15, wr_16, wr_17, wr_18, wr_19, wr_20, wr_21, wr_22, wr_23, wr_24, wr_25, wr_26, wr_27, wr_28, wr_29, wr_30, wr_31, wr_32, wr_33, wr_34, wr_35, wr_36, wr_37, wr_38, wr_39, wr_40, wr_41, wr_42, wr_43, wr_44, wr_45, wr_46, wr_47, wr_48, wr_49, wr_50, wr_51, wr_52, wr_53, wr_54, wr_55, wr_56, wr_57, wr_58, wr_59, wr_60, wr_61, wr_62, wr_63, wr_99, wr_100, wr_192, wr_255, wr_256, wr_343, wr_999, wr_1000, wr_2401, wr_2147483647, wr_65535, wr_m1, wr_m2, wr_m3, wr_m4, wr_m9, ak_1000, ak_1001, ak_1002, ak_0, ak_1, ak_2, ak_3, ak_4, ak_5, ak_6, ak_7, ak_8, ak_9, ak_10, ak_11, ak_12, ak_13, ak_14, ak_15, ak_16, ak_17, ak_18, ak_19, ak_20, ak_21, ak_22, ak_23, ak_24, ak_25, ak_26, ak_27, ak_28, ak_29, ak_30, ak_31, ak_32, ak_33, ak_34, ak_35, ak_36, ak_37, ak_38, ak_39, ak_40, ak_41, ak_42, ak_43, ak_44, ak_45, ak_46, ak_47]
    exact rm_X6_goTwo h' (by omega)
  | n + 1, p, d, S, hp, hp0, hK => by
    have wp : wr p = p := wr_id (by omega) (by omega)
    have np : ¬ 49 ≤ p := by omega
    obtain ⟨u26, u27, u32, -⟩ := U6_at h st lk len ac nx rf lr en sd d S
    have q1 := sp_X6_layState u26 u32 x hx
    rw [U6_32] at q1
    obtain ⟨v26, v27, v32, -⟩ := U6_at h st lk len ac nx rf lr en sd (su x) S
    have hsu := su_rng hx
    have hd' : i4 0 6 (s4 (s4 (su x) c.toNat (p / 7)) o.toNat (p % 7)) := i4_s (i4_s hsu _ (by omega) (by omega)) _ (by omega) (by omega)
    have q2 := sp_X6_come h st lk len ac nx rf lr en sd (s4 (s4 (su x) c.toNat (p / 7)) o.toNat (p % 7)) S ⟨hst, hg, hs9, hd', hb⟩ x 0 hx hK
    rw [← U6_32 (d := su x)] at q2
    have hK2 := hK.cm (tg2_rng st g s b (c := c) (o := o) hx ⟨hp0, by omega⟩) 0
    obtain ⟨d', ih⟩ := l2_X6_goTwo h (lk := lk) (len := len) (ac := ac) (nx := nx) (rf := rf) (lr := lr) (en := en) (sd := sd) hst hg hs9 hb hx hc ho n (p + 1) (sl st g s b 4 (s4 (s4 (su x) c.toNat (p / 7)) o.toNat (p % 7)) 0).1 (cmT S (tg2 st g s b x c o p) x 0) (by omega) (by omega) hK2
    refine ⟨d', fun y N kk => ?_⟩
    rw [g2b] at kk
    obtain ⟨m, hm, h'⟩ := ih y N kk
    clear kk ih
    refine ⟨m + 39 + 1, by omega, ?_⟩
    rw [rs_X6_goTwo_19]
    unfold tg2 at h'
    generalize U6 M st lk len ac nx rf lr en sd (sl st g s b 4 (s4 (s4 (su x) c.toNat (p / 7)) o.toNat (p % 7)) 0).1 (cmT S (so (sl st g s b 4 (s4 (s4 (su x) c.toNat (p / 7)) o.toNat (p % 7)) 0).1) x 0) = V2 at q2 h'
    generalize U6 M st lk len ac nx rf lr en sd (su x) S = V at q1 q2 v26 v32
    generalize U6 M st lk len ac nx rf lr en sd d S = V0 at q1 u26 ⊢
    simp only [mo] at u26 v26
    clear hd' hK2 hsu
    have e1 : p.tdiv 7 = p / 7 := Int.tdiv_eq_ediv_of_nonneg hp0
    have e2 : p.tmod 7 = p % 7 := Int.tmod_eq_emod_of_nonneg hp0
    generalize p / 7 = pa at e1 q2
    generalize p % 7 = pb at e2 q2
    generalize su x = u at v32 q2
    have hco : (c = 0 ∧ o = 1) ∨ (c = 0 ∧ o = 2) ∨ (c = 0 ∧ o = 3) ∨ (c = 1 ∧ o = 2) ∨ (c = 1 ∧ o = 3) ∨ (c = 2 ∧ o = 3) := by clear e1 e2; omega
    rcases hco with ⟨rfl, rfl⟩ | ⟨rfl, rfl⟩ | ⟨rfl, rfl⟩ | ⟨rfl, rfl⟩ | ⟨rfl, rfl⟩ | ⟨rfl, rfl⟩ <;> simp [s4] at q2 <;>
    simp [↓ri_X6_goTwo, rs_X6_goTwo_0, rs_X6_goTwo_1, rs_X6_goTwo_2, rs_X6_goTwo_3, rs_X6_goTwo_4, rs_X6_goTwo_7, rs_X6_goTwo_8, rs_X6_goTwo_9, rs_X6_goTwo_10, rs_X6_goTwo_11, rs_X6_goTwo_12, rs_X6_goTwo_13, rs_X6_goTwo_16, rs_X6_goTwo_17, rs_X6_goTwo_21, rs_X6_goTwo_23, rs_X6_goTwo_26, rs_X6_goTwo_27, rs_X6_goTwo_28, rs_X6_goTwo_31, rs_X6_goTwo_32, rs_X6_goTwo_35, rs_X6_goTwo_36, rs_X6_goTwo_38, rs_X6_goTwo_40, rs_X6_goTwo_41, rs_X6_goTwo_42, rs_X6_goTwo_43, rs_X6_goTwo_46, rs_X6_goTwo_47, rs_X6_goTwo_49, rs_X6_goTwo_51, rs_X6_goTwo_52, rs_X6_goTwo_53, rs_X6_goTwo_54, rs_X6_goTwo_55, rs_X6_goTwo_56, rs_X6_goTwo_59, rs_X6_goTwo_62, rs_X6_goTwo_65, rs_X6_goTwo_68, rs_X6_goTwo_71, rs_X6_goTwo_74, rs_X6_goTwo_77, -List.getElem?_eq_getElem, am_js, am_e, am_in, am_sl, rI, rZ, rV, rJ, rA, rC, kI, kJ, kR, am_one, am_nl, am_w8, tIc, tLc, tNul, tIld, tLld, tAld, tIst, tLst, tAst, tIinc, tI2, tDv, tL2, tLrem, tLs, tLcmp, tI2l, tL2i, tI2c, tDup, tDup2, tPop, tGo, tIfeq, tIfne, tIflt, tIfge, tIfgt, tIfle, tCmeq, tCmne, tCmlt, tCmge, tCmgt, tCmle, tNu, tTs, tGf, tPf, tGs, tIal, tIas, tBal, tBas, tAln, tSv, tSc, tSb, tSl, tSk, tCv, tCs, tCt, tMx, tMn, wr_10000, wr_100000, wr_1000000, wr_10000000, wr_100000000, wr_2400, wr_9999, wr_0, wr_1, wr_2, wr_3, wr_4, wr_5, wr_6, wr_7, wr_8, wr_9, wr_10, wr_11, wr_12, wr_13, wr_14, wr_15, wr_16, wr_17, wr_18, wr_19, wr_20, wr_21, wr_22, wr_23, wr_24, wr_25, wr_26, wr_27, wr_28, wr_29, wr_30, wr_31, wr_32, wr_33, wr_34, wr_35, wr_36, wr_37, wr_38, wr_39, wr_40, wr_41, wr_42, wr_43, wr_44, wr_45, wr_46, wr_47, wr_48, wr_49, wr_50, wr_51, wr_52, wr_53, wr_54, wr_55, wr_56, wr_57, wr_58, wr_59, wr_60, wr_61, wr_62, wr_63, wr_99, wr_100, wr_192, wr_255, wr_256, wr_343, wr_999, wr_1000, wr_2401, wr_2147483647, wr_65535, wr_m1, wr_m2, wr_m3, wr_m4, wr_m9, ak_1000, ak_1001, ak_1002, ak_0, ak_1, ak_2, ak_3, ak_4, ak_5, ak_6, ak_7, ak_8, ak_9, ak_10, ak_11, ak_12, ak_13, ak_14, ak_15, ak_16, ak_17, ak_18, ak_19, ak_20, ak_21, ak_22, ak_23, ak_24, ak_25, ak_26, ak_27, ak_28, ak_29, ak_30, ak_31, ak_32, ak_33, ak_34, ak_35, ak_36, ak_37, ak_38, ak_39, ak_40, ak_41, ak_42, ak_43, ak_44, ak_45, ak_46, ak_47, u26, q1, v26, v32, gs v32, wp, np, e1, e2, q2] <;>
    exact rm_X6_goTwo h' (by clear e1 e2; omega)
theorem l1_X6_goTwo {M : List AC} {g b s : F4} (h : H6 M g b s) {st lk len ac nx rf lr en : Int} {sd : Int64} (hst : 1 ≤ st ∧ st ≤ 3) (hg : i4 1 9 g) (hs9 : i4 0 9 s) (hb : i4 0 3 b) {x c : Int} (hx : 0 ≤ x ∧ x < 2401) (hc : 0 ≤ c ∧ c < 3) : ∀ (n : Nat) (o : Int) (d : F4) (S : S6) (x4 : Option AV), o + n = 4 → c < o → K6 x S →
    ∃ d' : F4, ∀ (y : Option AV × List AC) (N : Nat), Ru rx_X6_goTwo N 71 [some (vR 26), some (vI x), some (vI c), some (vI 4), if n = 0 then x4 else some (vI 49)] [] (U6 M st lk len ac nx rf lr en sd d' (g2o st g s b x c n o S)) y → Ru rx_X6_goTwo (N + 2000 * n + 10) 11 [some (vR 26), some (vI x), some (vI c), some (vI o), x4] [] (U6 M st lk len ac nx rf lr en sd d S) y
  | 0, o, d, S, x4, ho, hco, hK => by
    have e : o = 4 := by omega
    subst e
    refine ⟨d, fun y N kk => ?_⟩
    rw [g2o, if_pos rfl] at kk
    obtain ⟨m, hm, h'⟩ := kk
    refine ⟨m + 9 + 1, by omega, ?_⟩
    rw [rs_X6_goTwo_11]
    simp [↓ri_X6_goTwo, rs_X6_goTwo_0, rs_X6_goTwo_1, rs_X6_goTwo_2, rs_X6_goTwo_3, rs_X6_goTwo_4, rs_X6_goTwo_7, rs_X6_goTwo_8, rs_X6_goTwo_9, rs_X6_goTwo_10, rs_X6_goTwo_12, rs_X6_goTwo_13, rs_X6_goTwo_16, rs_X6_goTwo_17, rs_X6_goTwo_19, rs_X6_goTwo_21, rs_X6_goTwo_23, rs_X6_goTwo_26, rs_X6_goTwo_27, rs_X6_goTwo_28, rs_X6_goTwo_31, rs_X6_goTwo_32, rs_X6_goTwo_35, rs_X6_goTwo_36, rs_X6_goTwo_38, rs_X6_goTwo_40, rs_X6_goTwo_41, rs_X6_goTwo_42, rs_X6_goTwo_43, rs_X6_goTwo_46, rs_X6_goTwo_47, rs_X6_goTwo_49, rs_X6_goTwo_51, rs_X6_goTwo_52, rs_X6_goTwo_53, rs_X6_goTwo_54, rs_X6_goTwo_55, rs_X6_goTwo_56, rs_X6_goTwo_59, rs_X6_goTwo_62, rs_X6_goTwo_65, rs_X6_goTwo_68, rs_X6_goTwo_74, rs_X6_goTwo_77, -List.getElem?_eq_getElem, am_js, am_e, am_in, am_sl, rI, rZ, rV, rJ, rA, rC, kI, kJ, kR, am_one, am_nl, am_w8, tIc, tLc, tNul, tIld, tLld, tAld, tIst, tLst, tAst, tIinc, tI2, tDv, tL2, tLrem, tLs, tLcmp, tI2l, tL2i, tI2c, tDup, tDup2, tPop, tGo, tIfeq, tIfne, tIflt, tIfge, tIfgt, tIfle, tCmeq, tCmne, tCmlt, tCmge, tCmgt, tCmle, tNu, tTs, tGf, tPf, tGs, tIal, tIas, tBal, tBas, tAln, tSv, tSc, tSb, tSl, tSk, tCv, tCs, tCt, tMx, tMn, wr_10000, wr_100000, wr_1000000, wr_10000000, wr_100000000, wr_2400, wr_9999, wr_0, wr_1, wr_2, wr_3, wr_4, wr_5, wr_6, wr_7, wr_8, wr_9, wr_10, wr_11, wr_12, wr_13, wr_14, wr_15, wr_16, wr_17, wr_18, wr_19, wr_20, wr_21, wr_22, wr_23, wr_24, wr_25, wr_26, wr_27, wr_28, wr_29, wr_30, wr_31, wr_32, wr_33, wr_34, wr_35, wr_36, wr_37, wr_38, wr_39, wr_40, wr_41, wr_42, wr_43, wr_44, wr_45, wr_46, wr_47, wr_48, wr_49, wr_50, wr_51, wr_52, wr_53, wr_54, wr_55, wr_56, wr_57, wr_58, wr_59, wr_60, wr_61, wr_62, wr_63, wr_99, wr_100, wr_192, wr_255, wr_256, wr_343, wr_999, wr_1000, wr_2401, wr_2147483647, wr_65535, wr_m1, wr_m2, wr_m3, wr_m4, wr_m9, ak_1000, ak_1001, ak_1002, ak_0, ak_1, ak_2, ak_3, ak_4, ak_5, ak_6, ak_7, ak_8, ak_9, ak_10, ak_11, ak_12, ak_13, ak_14, ak_15, ak_16, ak_17, ak_18, ak_19, ak_20, ak_21, ak_22, ak_23, ak_24, ak_25, ak_26, ak_27, ak_28, ak_29, ak_30, ak_31, ak_32, ak_33, ak_34, ak_35, ak_36, ak_37, ak_38, ak_39, ak_40, ak_41, ak_42, ak_43, ak_44, ak_45, ak_46, ak_47]
    exact rm_X6_goTwo h' (by omega)
  | n + 1, o, d, S, x4, ho, hco, hK => by
    have wo : wr o = o := wr_id (by omega) (by omega)
    have no : ¬ 4 ≤ o := by omega
    obtain ⟨d1, h1⟩ := l2_X6_goTwo h (lk := lk) (len := len) (ac := ac) (nx := nx) (rf := rf) (lr := lr) (en := en) (sd := sd) hst hg hs9 hb hx (c := c) (o := o) ⟨hc.1, hco⟩ (by omega) 49 0 d S (by omega) (by omega) hK
    have hK2 := g2b_K st g s b (c := c) (o := o) hx 49 0 S (by omega) (by omega) hK
    obtain ⟨d2, h2⟩ := l1_X6_goTwo h (lk := lk) (len := len) (ac := ac) (nx := nx) (rf := rf) (lr := lr) (en := en) (sd := sd) hst hg hs9 hb hx hc n (o + 1) d1 (g2b st g s b x c o 49 0 S) (some (vI 49)) (by omega) (by omega) hK2
    refine ⟨d2, fun y N kk => ?_⟩
    rw [g2o, if_neg (Nat.succ_ne_zero n)] at kk
    obtain ⟨k, hk, h2⟩ := h2 y N (by rw [ite_self]; exact kk)
    obtain ⟨m, hm, h3⟩ := h1 y (k + 10) (by
      refine ⟨k + 9 + 1, by omega, ?_⟩
      rw [rs_X6_goTwo_65]
      simp [↓ri_X6_goTwo, rs_X6_goTwo_0, rs_X6_goTwo_1, rs_X6_goTwo_2, rs_X6_goTwo_3, rs_X6_goTwo_4, rs_X6_goTwo_7, rs_X6_goTwo_8, rs_X6_goTwo_9, rs_X6_goTwo_10, rs_X6_goTwo_12, rs_X6_goTwo_13, rs_X6_goTwo_16, rs_X6_goTwo_17, rs_X6_goTwo_19, rs_X6_goTwo_21, rs_X6_goTwo_23, rs_X6_goTwo_26, rs_X6_goTwo_27, rs_X6_goTwo_28, rs_X6_goTwo_31, rs_X6_goTwo_32, rs_X6_goTwo_35, rs_X6_goTwo_36, rs_X6_goTwo_38, rs_X6_goTwo_40, rs_X6_goTwo_41, rs_X6_goTwo_42, rs_X6_goTwo_43, rs_X6_goTwo_46, rs_X6_goTwo_47, rs_X6_goTwo_49, rs_X6_goTwo_51, rs_X6_goTwo_52, rs_X6_goTwo_53, rs_X6_goTwo_54, rs_X6_goTwo_55, rs_X6_goTwo_56, rs_X6_goTwo_59, rs_X6_goTwo_62, rs_X6_goTwo_68, rs_X6_goTwo_71, rs_X6_goTwo_74, rs_X6_goTwo_77, -List.getElem?_eq_getElem, am_js, am_e, am_in, am_sl, rI, rZ, rV, rJ, rA, rC, kI, kJ, kR, am_one, am_nl, am_w8, tIc, tLc, tNul, tIld, tLld, tAld, tIst, tLst, tAst, tIinc, tI2, tDv, tL2, tLrem, tLs, tLcmp, tI2l, tL2i, tI2c, tDup, tDup2, tPop, tGo, tIfeq, tIfne, tIflt, tIfge, tIfgt, tIfle, tCmeq, tCmne, tCmlt, tCmge, tCmgt, tCmle, tNu, tTs, tGf, tPf, tGs, tIal, tIas, tBal, tBas, tAln, tSv, tSc, tSb, tSl, tSk, tCv, tCs, tCt, tMx, tMn, wr_10000, wr_100000, wr_1000000, wr_10000000, wr_100000000, wr_2400, wr_9999, wr_0, wr_1, wr_2, wr_3, wr_4, wr_5, wr_6, wr_7, wr_8, wr_9, wr_10, wr_11, wr_12, wr_13, wr_14, wr_15, wr_16, wr_17, wr_18, wr_19, wr_20, wr_21, wr_22, wr_23, wr_24, wr_25, wr_26, wr_27, wr_28, wr_29, wr_30, wr_31, wr_32, wr_33, wr_34, wr_35, wr_36, wr_37, wr_38, wr_39, wr_40, wr_41, wr_42, wr_43, wr_44, wr_45, wr_46, wr_47, wr_48, wr_49, wr_50, wr_51, wr_52, wr_53, wr_54, wr_55, wr_56, wr_57, wr_58, wr_59, wr_60, wr_61, wr_62, wr_63, wr_99, wr_100, wr_192, wr_255, wr_256, wr_343, wr_999, wr_1000, wr_2401, wr_2147483647, wr_65535, wr_m1, wr_m2, wr_m3, wr_m4, wr_m9, ak_1000, ak_1001, ak_1002, ak_0, ak_1, ak_2, ak_3, ak_4, ak_5, ak_6, ak_7, ak_8, ak_9, ak_10, ak_11, ak_12, ak_13, ak_14, ak_15, ak_16, ak_17, ak_18, ak_19, ak_20, ak_21, ak_22, ak_23, ak_24, ak_25, ak_26, ak_27, ak_28, ak_29, ak_30, ak_31, ak_32, ak_33, ak_34, ak_35, ak_36, ak_37, ak_38, ak_39, ak_40, ak_41, ak_42, ak_43, ak_44, ak_45, ak_46, ak_47]
      exact rm_X6_goTwo h2 (by omega))
    refine ⟨m + 9 + 1, by omega, ?_⟩
    rw [rs_X6_goTwo_11]
    simp [↓ri_X6_goTwo, rs_X6_goTwo_0, rs_X6_goTwo_1, rs_X6_goTwo_2, rs_X6_goTwo_3, rs_X6_goTwo_4, rs_X6_goTwo_7, rs_X6_goTwo_8, rs_X6_goTwo_9, rs_X6_goTwo_10, rs_X6_goTwo_12, rs_X6_goTwo_13, rs_X6_goTwo_16, rs_X6_goTwo_17, rs_X6_goTwo_21, rs_X6_goTwo_23, rs_X6_goTwo_26, rs_X6_goTwo_27, rs_X6_goTwo_28, rs_X6_goTwo_31, rs_X6_goTwo_32, rs_X6_goTwo_35, rs_X6_goTwo_36, rs_X6_goTwo_38, rs_X6_goTwo_40, rs_X6_goTwo_41, rs_X6_goTwo_42, rs_X6_goTwo_43, rs_X6_goTwo_46, rs_X6_goTwo_47, rs_X6_goTwo_49, rs_X6_goTwo_51, rs_X6_goTwo_52, rs_X6_goTwo_53, rs_X6_goTwo_54, rs_X6_goTwo_55, rs_X6_goTwo_56, rs_X6_goTwo_59, rs_X6_goTwo_62, rs_X6_goTwo_65, rs_X6_goTwo_68, rs_X6_goTwo_71, rs_X6_goTwo_74, rs_X6_goTwo_77, -List.getElem?_eq_getElem, am_js, am_e, am_in, am_sl, rI, rZ, rV, rJ, rA, rC, kI, kJ, kR, am_one, am_nl, am_w8, tIc, tLc, tNul, tIld, tLld, tAld, tIst, tLst, tAst, tIinc, tI2, tDv, tL2, tLrem, tLs, tLcmp, tI2l, tL2i, tI2c, tDup, tDup2, tPop, tGo, tIfeq, tIfne, tIflt, tIfge, tIfgt, tIfle, tCmeq, tCmne, tCmlt, tCmge, tCmgt, tCmle, tNu, tTs, tGf, tPf, tGs, tIal, tIas, tBal, tBas, tAln, tSv, tSc, tSb, tSl, tSk, tCv, tCs, tCt, tMx, tMn, wr_10000, wr_100000, wr_1000000, wr_10000000, wr_100000000, wr_2400, wr_9999, wr_0, wr_1, wr_2, wr_3, wr_4, wr_5, wr_6, wr_7, wr_8, wr_9, wr_10, wr_11, wr_12, wr_13, wr_14, wr_15, wr_16, wr_17, wr_18, wr_19, wr_20, wr_21, wr_22, wr_23, wr_24, wr_25, wr_26, wr_27, wr_28, wr_29, wr_30, wr_31, wr_32, wr_33, wr_34, wr_35, wr_36, wr_37, wr_38, wr_39, wr_40, wr_41, wr_42, wr_43, wr_44, wr_45, wr_46, wr_47, wr_48, wr_49, wr_50, wr_51, wr_52, wr_53, wr_54, wr_55, wr_56, wr_57, wr_58, wr_59, wr_60, wr_61, wr_62, wr_63, wr_99, wr_100, wr_192, wr_255, wr_256, wr_343, wr_999, wr_1000, wr_2401, wr_2147483647, wr_65535, wr_m1, wr_m2, wr_m3, wr_m4, wr_m9, ak_1000, ak_1001, ak_1002, ak_0, ak_1, ak_2, ak_3, ak_4, ak_5, ak_6, ak_7, ak_8, ak_9, ak_10, ak_11, ak_12, ak_13, ak_14, ak_15, ak_16, ak_17, ak_18, ak_19, ak_20, ak_21, ak_22, ak_23, ak_24, ak_25, ak_26, ak_27, ak_28, ak_29, ak_30, ak_31, ak_32, ak_33, ak_34, ak_35, ak_36, ak_37, ak_38, ak_39, ak_40, ak_41, ak_42, ak_43, ak_44, ak_45, ak_46, ak_47, wo, no]
    exact rm_X6_goTwo h3 (by omega)
theorem l0_X6_goTwo {M : List AC} {g b s : F4} (h : H6 M g b s) {st lk len ac nx rf lr en : Int} {sd : Int64} (hst : 1 ≤ st ∧ st ≤ 3) (hg : i4 1 9 g) (hs9 : i4 0 9 s) (hb : i4 0 3 b) {x : Int} (hx : 0 ≤ x ∧ x < 2401) : ∀ (n : Nat) (c : Int) (d : F4) (S : S6) (x3 x4 : Option AV), c + n = 3 → 0 ≤ c → K6 x S →
    ∃ d' : F4, Ru rx_X6_goTwo (6100 * n + 10) 2 [some (vR 26), some (vI x), some (vI c), x3, x4] [] (U6 M st lk len ac nx rf lr en sd d S) (none, U6 M st lk len ac nx rf lr en sd d' (g2c st g s b x n c S))
  | 0, c, d, S, x3, x4, hc, hc0, hK => by
    have e : c = 3 := by omega
    subst e
    refine ⟨d, 9 + 1, by omega, ?_⟩
    rw [rs_X6_goTwo_2, g2c]
    simp [↓ri_X6_goTwo, rs_X6_goTwo_0, rs_X6_goTwo_1, rs_X6_goTwo_3, rs_X6_goTwo_4, rs_X6_goTwo_7, rs_X6_goTwo_8, rs_X6_goTwo_9, rs_X6_goTwo_10, rs_X6_goTwo_11, rs_X6_goTwo_12, rs_X6_goTwo_13, rs_X6_goTwo_16, rs_X6_goTwo_17, rs_X6_goTwo_19, rs_X6_goTwo_21, rs_X6_goTwo_23, rs_X6_goTwo_26, rs_X6_goTwo_27, rs_X6_goTwo_28, rs_X6_goTwo_31, rs_X6_goTwo_32, rs_X6_goTwo_35, rs_X6_goTwo_36, rs_X6_goTwo_38, rs_X6_goTwo_40, rs_X6_goTwo_41, rs_X6_goTwo_42, rs_X6_goTwo_43, rs_X6_goTwo_46, rs_X6_goTwo_47, rs_X6_goTwo_49, rs_X6_goTwo_51, rs_X6_goTwo_52, rs_X6_goTwo_53, rs_X6_goTwo_54, rs_X6_goTwo_55, rs_X6_goTwo_56, rs_X6_goTwo_59, rs_X6_goTwo_62, rs_X6_goTwo_65, rs_X6_goTwo_68, rs_X6_goTwo_71, rs_X6_goTwo_74, rs_X6_goTwo_77, -List.getElem?_eq_getElem, am_js, am_e, am_in, am_sl, rI, rZ, rV, rJ, rA, rC, kI, kJ, kR, am_one, am_nl, am_w8, tIc, tLc, tNul, tIld, tLld, tAld, tIst, tLst, tAst, tIinc, tI2, tDv, tL2, tLrem, tLs, tLcmp, tI2l, tL2i, tI2c, tDup, tDup2, tPop, tGo, tIfeq, tIfne, tIflt, tIfge, tIfgt, tIfle, tCmeq, tCmne, tCmlt, tCmge, tCmgt, tCmle, tNu, tTs, tGf, tPf, tGs, tIal, tIas, tBal, tBas, tAln, tSv, tSc, tSb, tSl, tSk, tCv, tCs, tCt, tMx, tMn, wr_10000, wr_100000, wr_1000000, wr_10000000, wr_100000000, wr_2400, wr_9999, wr_0, wr_1, wr_2, wr_3, wr_4, wr_5, wr_6, wr_7, wr_8, wr_9, wr_10, wr_11, wr_12, wr_13, wr_14, wr_15, wr_16, wr_17, wr_18, wr_19, wr_20, wr_21, wr_22, wr_23, wr_24, wr_25, wr_26, wr_27, wr_28, wr_29, wr_30, wr_31, wr_32, wr_33, wr_34, wr_35, wr_36, wr_37, wr_38, wr_39, wr_40, wr_41, wr_42, wr_43, wr_44, wr_45, wr_46, wr_47, wr_48, wr_49, wr_50, wr_51, wr_52, wr_53, wr_54, wr_55, wr_56, wr_57, wr_58, wr_59, wr_60, wr_61, wr_62, wr_63, wr_99, wr_100, wr_192, wr_255, wr_256, wr_343, wr_999, wr_1000, wr_2401, wr_2147483647, wr_65535, wr_m1, wr_m2, wr_m3, wr_m4, wr_m9, ak_1000, ak_1001, ak_1002, ak_0, ak_1, ak_2, ak_3, ak_4, ak_5, ak_6, ak_7, ak_8, ak_9, ak_10, ak_11, ak_12, ak_13, ak_14, ak_15, ak_16, ak_17, ak_18, ak_19, ak_20, ak_21, ak_22, ak_23, ak_24, ak_25, ak_26, ak_27, ak_28, ak_29, ak_30, ak_31, ak_32, ak_33, ak_34, ak_35, ak_36, ak_37, ak_38, ak_39, ak_40, ak_41, ak_42, ak_43, ak_44, ak_45, ak_46, ak_47]
  | n + 1, c, d, S, x3, x4, hc, hc0, hK => by
    have wc : wr c = c := wr_id (by omega) (by omega)
    have nc : ¬ 3 ≤ c := by omega
    obtain ⟨d1, h1⟩ := l1_X6_goTwo h (lk := lk) (len := len) (ac := ac) (nx := nx) (rf := rf) (lr := lr) (en := en) (sd := sd) hst hg hs9 hb hx (c := c) ⟨hc0, by omega⟩ (3 - c).toNat (c + 1) d S x4 (by omega) (by omega) hK
    have hK2 := g2o_K st g s b (c := c) hx (3 - c).toNat (c + 1) S hK
    obtain ⟨d2, k, hk, h2⟩ := l0_X6_goTwo h (lk := lk) (len := len) (ac := ac) (nx := nx) (rf := rf) (lr := lr) (en := en) (sd := sd) hst hg hs9 hb hx n (c + 1) d1 (g2o st g s b x c (3 - c).toNat (c + 1) S) (some (vI 4)) (some (vI 49)) (by omega) (by omega) hK2
    rw [g2c]
    obtain ⟨m, hm, h3⟩ := h1 (none, U6 M st lk len ac nx rf lr en sd d2 (g2c st g s b x n (c + 1) (g2o st g s b x c (3 - c).toNat (c + 1) S))) (k + 10) (by
      rw [if_neg (by omega)]
      refine ⟨k + 9 + 1, by omega, ?_⟩
      rw [rs_X6_goTwo_71]
      simp [↓ri_X6_goTwo, rs_X6_goTwo_0, rs_X6_goTwo_1, rs_X6_goTwo_3, rs_X6_goTwo_4, rs_X6_goTwo_7, rs_X6_goTwo_8, rs_X6_goTwo_9, rs_X6_goTwo_10, rs_X6_goTwo_11, rs_X6_goTwo_12, rs_X6_goTwo_13, rs_X6_goTwo_16, rs_X6_goTwo_17, rs_X6_goTwo_19, rs_X6_goTwo_21, rs_X6_goTwo_23, rs_X6_goTwo_26, rs_X6_goTwo_27, rs_X6_goTwo_28, rs_X6_goTwo_31, rs_X6_goTwo_32, rs_X6_goTwo_35, rs_X6_goTwo_36, rs_X6_goTwo_38, rs_X6_goTwo_40, rs_X6_goTwo_41, rs_X6_goTwo_42, rs_X6_goTwo_43, rs_X6_goTwo_46, rs_X6_goTwo_47, rs_X6_goTwo_49, rs_X6_goTwo_51, rs_X6_goTwo_52, rs_X6_goTwo_53, rs_X6_goTwo_54, rs_X6_goTwo_55, rs_X6_goTwo_56, rs_X6_goTwo_59, rs_X6_goTwo_62, rs_X6_goTwo_65, rs_X6_goTwo_68, rs_X6_goTwo_74, rs_X6_goTwo_77, -List.getElem?_eq_getElem, am_js, am_e, am_in, am_sl, rI, rZ, rV, rJ, rA, rC, kI, kJ, kR, am_one, am_nl, am_w8, tIc, tLc, tNul, tIld, tLld, tAld, tIst, tLst, tAst, tIinc, tI2, tDv, tL2, tLrem, tLs, tLcmp, tI2l, tL2i, tI2c, tDup, tDup2, tPop, tGo, tIfeq, tIfne, tIflt, tIfge, tIfgt, tIfle, tCmeq, tCmne, tCmlt, tCmge, tCmgt, tCmle, tNu, tTs, tGf, tPf, tGs, tIal, tIas, tBal, tBas, tAln, tSv, tSc, tSb, tSl, tSk, tCv, tCs, tCt, tMx, tMn, wr_10000, wr_100000, wr_1000000, wr_10000000, wr_100000000, wr_2400, wr_9999, wr_0, wr_1, wr_2, wr_3, wr_4, wr_5, wr_6, wr_7, wr_8, wr_9, wr_10, wr_11, wr_12, wr_13, wr_14, wr_15, wr_16, wr_17, wr_18, wr_19, wr_20, wr_21, wr_22, wr_23, wr_24, wr_25, wr_26, wr_27, wr_28, wr_29, wr_30, wr_31, wr_32, wr_33, wr_34, wr_35, wr_36, wr_37, wr_38, wr_39, wr_40, wr_41, wr_42, wr_43, wr_44, wr_45, wr_46, wr_47, wr_48, wr_49, wr_50, wr_51, wr_52, wr_53, wr_54, wr_55, wr_56, wr_57, wr_58, wr_59, wr_60, wr_61, wr_62, wr_63, wr_99, wr_100, wr_192, wr_255, wr_256, wr_343, wr_999, wr_1000, wr_2401, wr_2147483647, wr_65535, wr_m1, wr_m2, wr_m3, wr_m4, wr_m9, ak_1000, ak_1001, ak_1002, ak_0, ak_1, ak_2, ak_3, ak_4, ak_5, ak_6, ak_7, ak_8, ak_9, ak_10, ak_11, ak_12, ak_13, ak_14, ak_15, ak_16, ak_17, ak_18, ak_19, ak_20, ak_21, ak_22, ak_23, ak_24, ak_25, ak_26, ak_27, ak_28, ak_29, ak_30, ak_31, ak_32, ak_33, ak_34, ak_35, ak_36, ak_37, ak_38, ak_39, ak_40, ak_41, ak_42, ak_43, ak_44, ak_45, ak_46, ak_47]
      exact rm_X6_goTwo h2 (by omega))
    refine ⟨d2, m + 19 + 1, by omega, ?_⟩
    rw [rs_X6_goTwo_2]
    simp [↓ri_X6_goTwo, rs_X6_goTwo_0, rs_X6_goTwo_1, rs_X6_goTwo_3, rs_X6_goTwo_4, rs_X6_goTwo_7, rs_X6_goTwo_8, rs_X6_goTwo_9, rs_X6_goTwo_10, rs_X6_goTwo_12, rs_X6_goTwo_13, rs_X6_goTwo_16, rs_X6_goTwo_17, rs_X6_goTwo_19, rs_X6_goTwo_21, rs_X6_goTwo_23, rs_X6_goTwo_26, rs_X6_goTwo_27, rs_X6_goTwo_28, rs_X6_goTwo_31, rs_X6_goTwo_32, rs_X6_goTwo_35, rs_X6_goTwo_36, rs_X6_goTwo_38, rs_X6_goTwo_40, rs_X6_goTwo_41, rs_X6_goTwo_42, rs_X6_goTwo_43, rs_X6_goTwo_46, rs_X6_goTwo_47, rs_X6_goTwo_49, rs_X6_goTwo_51, rs_X6_goTwo_52, rs_X6_goTwo_53, rs_X6_goTwo_54, rs_X6_goTwo_55, rs_X6_goTwo_56, rs_X6_goTwo_59, rs_X6_goTwo_62, rs_X6_goTwo_65, rs_X6_goTwo_68, rs_X6_goTwo_71, rs_X6_goTwo_74, rs_X6_goTwo_77, -List.getElem?_eq_getElem, am_js, am_e, am_in, am_sl, rI, rZ, rV, rJ, rA, rC, kI, kJ, kR, am_one, am_nl, am_w8, tIc, tLc, tNul, tIld, tLld, tAld, tIst, tLst, tAst, tIinc, tI2, tDv, tL2, tLrem, tLs, tLcmp, tI2l, tL2i, tI2c, tDup, tDup2, tPop, tGo, tIfeq, tIfne, tIflt, tIfge, tIfgt, tIfle, tCmeq, tCmne, tCmlt, tCmge, tCmgt, tCmle, tNu, tTs, tGf, tPf, tGs, tIal, tIas, tBal, tBas, tAln, tSv, tSc, tSb, tSl, tSk, tCv, tCs, tCt, tMx, tMn, wr_10000, wr_100000, wr_1000000, wr_10000000, wr_100000000, wr_2400, wr_9999, wr_0, wr_1, wr_2, wr_3, wr_4, wr_5, wr_6, wr_7, wr_8, wr_9, wr_10, wr_11, wr_12, wr_13, wr_14, wr_15, wr_16, wr_17, wr_18, wr_19, wr_20, wr_21, wr_22, wr_23, wr_24, wr_25, wr_26, wr_27, wr_28, wr_29, wr_30, wr_31, wr_32, wr_33, wr_34, wr_35, wr_36, wr_37, wr_38, wr_39, wr_40, wr_41, wr_42, wr_43, wr_44, wr_45, wr_46, wr_47, wr_48, wr_49, wr_50, wr_51, wr_52, wr_53, wr_54, wr_55, wr_56, wr_57, wr_58, wr_59, wr_60, wr_61, wr_62, wr_63, wr_99, wr_100, wr_192, wr_255, wr_256, wr_343, wr_999, wr_1000, wr_2401, wr_2147483647, wr_65535, wr_m1, wr_m2, wr_m3, wr_m4, wr_m9, ak_1000, ak_1001, ak_1002, ak_0, ak_1, ak_2, ak_3, ak_4, ak_5, ak_6, ak_7, ak_8, ak_9, ak_10, ak_11, ak_12, ak_13, ak_14, ak_15, ak_16, ak_17, ak_18, ak_19, ak_20, ak_21, ak_22, ak_23, ak_24, ak_25, ak_26, ak_27, ak_28, ak_29, ak_30, ak_31, ak_32, ak_33, ak_34, ak_35, ak_36, ak_37, ak_38, ak_39, ak_40, ak_41, ak_42, ak_43, ak_44, ak_45, ak_46, ak_47, wc, nc]
    exact rm_X6_goTwo h3 (by omega)
theorem sp_X6_goTwo {M : List AC} {g b s : F4} (h : H6 M g b s) {st lk len ac nx rf lr en : Int} {sd : Int64} (hst : 1 ≤ st ∧ st ≤ 3) (hg : i4 1 9 g) (hs9 : i4 0 9 s) (hb : i4 0 3 b) {x : Int} (hx : 0 ≤ x ∧ x < 2401) (d : F4) (S : S6) (hK : K6 x S) : ∃ d' : F4, fn_X6_goTwo [vR 26, vI x] (U6 M st lk len ac nx rf lr en sd d S) = some (none, U6 M st lk len ac nx rf lr en sd d' (g2c st g s b x 3 0 S)) := by
  obtain ⟨d', k, hk, h'⟩ := l0_X6_goTwo h (lk := lk) (len := len) (ac := ac) (nx := nx) (rf := rf) (lr := lr) (en := en) (sd := sd) hst hg hs9 hb hx 3 0 d S none none (by omega) (by omega) hK
  refine ⟨d', ?_⟩
  (refine am_fnR (tb := tb_X6_goTwo) (N := 30000) (Nat.le_of_ble_eq_true rfl) (Nat.le_of_ble_eq_true rfl) ?_; show Ru rx_X6_goTwo 30000 0 _ _ _ _)
  refine ⟨k + 5, by omega, ?_⟩
  simp [↓ri_X6_goTwo, rs_X6_goTwo_0, rs_X6_goTwo_1, rs_X6_goTwo_3, rs_X6_goTwo_4, rs_X6_goTwo_7, rs_X6_goTwo_8, rs_X6_goTwo_9, rs_X6_goTwo_10, rs_X6_goTwo_11, rs_X6_goTwo_12, rs_X6_goTwo_13, rs_X6_goTwo_16, rs_X6_goTwo_17, rs_X6_goTwo_19, rs_X6_goTwo_21, rs_X6_goTwo_23, rs_X6_goTwo_26, rs_X6_goTwo_27, rs_X6_goTwo_28, rs_X6_goTwo_31, rs_X6_goTwo_32, rs_X6_goTwo_35, rs_X6_goTwo_36, rs_X6_goTwo_38, rs_X6_goTwo_40, rs_X6_goTwo_41, rs_X6_goTwo_42, rs_X6_goTwo_43, rs_X6_goTwo_46, rs_X6_goTwo_47, rs_X6_goTwo_49, rs_X6_goTwo_51, rs_X6_goTwo_52, rs_X6_goTwo_53, rs_X6_goTwo_54, rs_X6_goTwo_55, rs_X6_goTwo_56, rs_X6_goTwo_59, rs_X6_goTwo_62, rs_X6_goTwo_65, rs_X6_goTwo_68, rs_X6_goTwo_71, rs_X6_goTwo_74, rs_X6_goTwo_77, -List.getElem?_eq_getElem, am_js, am_e, am_in, am_sl, rI, rZ, rV, rJ, rA, rC, kI, kJ, kR, am_one, am_nl, am_w8, tIc, tLc, tNul, tIld, tLld, tAld, tIst, tLst, tAst, tIinc, tI2, tDv, tL2, tLrem, tLs, tLcmp, tI2l, tL2i, tI2c, tDup, tDup2, tPop, tGo, tIfeq, tIfne, tIflt, tIfge, tIfgt, tIfle, tCmeq, tCmne, tCmlt, tCmge, tCmgt, tCmle, tNu, tTs, tGf, tPf, tGs, tIal, tIas, tBal, tBas, tAln, tSv, tSc, tSb, tSl, tSk, tCv, tCs, tCt, tMx, tMn, wr_10000, wr_100000, wr_1000000, wr_10000000, wr_100000000, wr_2400, wr_9999, wr_0, wr_1, wr_2, wr_3, wr_4, wr_5, wr_6, wr_7, wr_8, wr_9, wr_10, wr_11, wr_12, wr_13, wr_14, wr_15, wr_16, wr_17, wr_18, wr_19, wr_20, wr_21, wr_22, wr_23, wr_24, wr_25, wr_26, wr_27, wr_28, wr_29, wr_30, wr_31, wr_32, wr_33, wr_34, wr_35, wr_36, wr_37, wr_38, wr_39, wr_40, wr_41, wr_42, wr_43, wr_44, wr_45, wr_46, wr_47, wr_48, wr_49, wr_50, wr_51, wr_52, wr_53, wr_54, wr_55, wr_56, wr_57, wr_58, wr_59, wr_60, wr_61, wr_62, wr_63, wr_99, wr_100, wr_192, wr_255, wr_256, wr_343, wr_999, wr_1000, wr_2401, wr_2147483647, wr_65535, wr_m1, wr_m2, wr_m3, wr_m4, wr_m9, ak_1000, ak_1001, ak_1002, ak_0, ak_1, ak_2, ak_3, ak_4, ak_5, ak_6, ak_7, ak_8, ak_9, ak_10, ak_11, ak_12, ak_13, ak_14, ak_15, ak_16, ak_17, ak_18, ak_19, ak_20, ak_21, ak_22, ak_23, ak_24, ak_25, ak_26, ak_27, ak_28, ak_29, ak_30, ak_31, ak_32, ak_33, ak_34, ak_35, ak_36, ak_37, ak_38, ak_39, ak_40, ak_41, ak_42, ak_43, ak_44, ak_45, ak_46, ak_47]
  exact rm_X6_goTwo h' (by omega)
end
