noncomputable section
def xb3 (st : Int) (g s bb : F4) (x a : Int) : Nat → Int → S3 → S3
  | 0, _, S => S
  | n + 1, b, S => xb3 st g s bb x a n (b + 1) (spr st g s bb x a b S)
def xa3 (st : Int) (g s bb : F4) (tw x : Int) : Nat → Int → S3 → S3
  | 0, _, S => S
  | n + 1, a, S => xa3 st g s bb tw x n (a + 1) (xb3 st g s bb x a (if tw = 1 then (3 - a).toNat else 1) (if tw = 1 then a + 1 else a) S)
def bf3 (st : Int) (g s bb : F4) (m tw : Int) : Nat → Int → S3 → S3 × Int
  | 0, _, S => (S, -9)
  | n + 1, k, S => if k < S.2.1 then (if m ≤ (su (S.1.getD k.toNat 0)).1 ∧ m ≤ (su (S.1.getD k.toNat 0)).2.1 ∧ m ≤ (su (S.1.getD k.toNat 0)).2.2.1 ∧ m ≤ (su (S.1.getD k.toNat 0)).2.2.2 then (S, S.1.getD k.toNat 0) else bf3 st g s bb m tw n (k + 1) (xa3 st g s bb tw (S.1.getD k.toNat 0) 4 0 S)) else (S, -9)
theorem xb3_I (st : Int) (g s bb : F4) {x a : Int} (hx : 0 ≤ x ∧ x < 2401) (ha : 0 ≤ a) : ∀ (n : Nat) (b : Int) (S : S3), a ≤ b → b + n ≤ 4 → I3 S → I3 (xb3 st g s bb x a n b S)
  | 0, _, _, _, _, h => h
  | n + 1, b, S, hb, hn, h => by
    rw [xb3]
    exact xb3_I st g s bb hx ha n (b + 1) _ (by omega) (by omega) (spr_I st g s bb hx ⟨ha, hb, by omega⟩ h)
theorem xa3_I (st : Int) (g s bb : F4) {tw x : Int} (hx : 0 ≤ x ∧ x < 2401) (htw : tw = 0 ∨ tw = 1) : ∀ (n : Nat) (a : Int) (S : S3), 0 ≤ a → a + n ≤ 4 → I3 S → I3 (xa3 st g s bb tw x n a S)
  | 0, _, _, _, _, h => h
  | n + 1, a, S, ha, hn, h => by
    rw [xa3]
    refine xa3_I st g s bb hx htw n (a + 1) _ (by omega) (by omega) ?_
    rcases htw with rfl | rfl
    · rw [if_neg (by decide), if_neg (by decide)]
      exact xb3_I st g s bb hx ha 1 a S (by omega) (by omega) h
    · rw [if_pos rfl, if_pos rfl]
      exact xb3_I st g s bb hx ha _ (a + 1) S (by omega) (by omega) h
theorem ad3_Q {k : Int} (hk : 0 ≤ k) {S : S3} (h : k < S.2.1) (t v : Int) : (ad3 S t v).1.getD k.toNat 0 = S.1.getD k.toNat 0 ∧ k < (ad3 S t v).2.1 := by
  unfold ad3
  split
  · dsimp only
    refine ⟨gd_ne (by omega), by omega⟩
  · exact ⟨rfl, h⟩
theorem sq3_Q (st : Int) (g s bb : F4) {x r a b p k : Int} (hk : 0 ≤ k) : ∀ (n : Nat) (q : Int) (S : S3), k < S.2.1 → (sq3 st g s bb x r a b p n q S).1.getD k.toNat 0 = S.1.getD k.toNat 0 ∧ k < (sq3 st g s bb x r a b p n q S).2.1
  | 0, _, _, h => ⟨rfl, h⟩
  | n + 1, q, S, h => by
    rw [sq3]
    have h1 := ad3_Q hk h (tgs st g s bb r a b p q) (100 * x + 10 * a + p + 1)
    have h2 := sq3_Q st g s bb (x := x) (r := r) (a := a) (b := b) (p := p) hk n (q + 1) _ h1.2
    exact ⟨h2.1.trans h1.1, h2.2⟩
theorem sp3_Q (st : Int) (g s bb : F4) {x r a b k : Int} (hk : 0 ≤ k) : ∀ (n : Nat) (p : Int) (S : S3), k < S.2.1 → (sp3 st g s bb x r a b n p S).1.getD k.toNat 0 = S.1.getD k.toNat 0 ∧ k < (sp3 st g s bb x r a b n p S).2.1
  | 0, _, _, h => ⟨rfl, h⟩
  | n + 1, p, S, h => by
    rw [sp3]
    have h1 := sq3_Q st g s bb (x := x) (r := r) (a := a) (b := b) (p := p) hk (if a = b then 1 else 7) 0 S h
    have h2 := sp3_Q st g s bb (x := x) (r := r) (a := a) (b := b) hk n (p + 1) _ h1.2
    exact ⟨h2.1.trans h1.1, h2.2⟩
theorem spr_Q (st : Int) (g s bb : F4) {x a b k : Int} {S : S3} (h : k < S.2.1) (hk : 0 ≤ k) : (spr st g s bb x a b S).1.getD k.toNat 0 = S.1.getD k.toNat 0 ∧ k < (spr st g s bb x a b S).2.1 := by
  unfold spr
  split
  · exact sp3_Q st g s bb hk 7 0 _ h
  · exact ⟨rfl, h⟩
theorem xb3_Q (st : Int) (g s bb : F4) {x a k : Int} (hk : 0 ≤ k) : ∀ (n : Nat) (b : Int) (S : S3), k < S.2.1 → (xb3 st g s bb x a n b S).1.getD k.toNat 0 = S.1.getD k.toNat 0 ∧ k < (xb3 st g s bb x a n b S).2.1
  | 0, _, _, h => ⟨rfl, h⟩
  | n + 1, b, S, h => by
    rw [xb3]
    have h1 := spr_Q st g s bb (x := x) (a := a) (b := b) h hk
    have h2 := xb3_Q st g s bb (x := x) (a := a) hk n (b + 1) _ h1.2
    exact ⟨h2.1.trans h1.1, h2.2⟩
abbrev mi_X3_find : Mi := (yX3_find, cX3_find, 7, some .boolean, 6)
theorem mf_X3_find : am_mf mi_X3_find 2 := ⟨w_co_X3_find, w_in_X3, ⟨by decide +kernel, by decide +kernel⟩, by decide +kernel, by decide⟩
def tb_X3_find : List (Nat × Tr) := [(0, tAld 0 1), (1, tGf 3 3), (4, tIc 0 1), (5, tCs 2 fn_J7_fill_53178), (8, tAld 0 1), (9, tGf 3 4), (12, tIc 0 1), (13, tCs 2 fn_J7_fill_53178), (16, tAld 0 1), (17, tGf 3 1), (20, tIc 0 1), (21, tAld 0 1), (22, tCv 3 0 fn_X3_state), (25, tIas), (26, tAld 0 1), (27, tGf 3 3), (30, tAld 0 1), (31, tGf 3 1), (34, tIc 0 1), (35, tIal), (36, tIc 1 1), (37, tIas), (38, tAld 0 1), (39, tIc 1 1), (40, tPf kI 3 2), (43, tIc 0 1), (44, tIst 3 1), (45, tIld 3 1), (46, tAld 0 1), (47, tGf 3 2), (50, tCmge 160), (53, tIld 3 1), (54, tIc 2401 3), (57, tCmge 160), (60, tAld 0 1), (61, tGf 3 1), (64, tIld 3 1), (65, tIal), (66, tIld 1 1), (67, tCs 2 fn_X3_isDeep), (70, tIfeq 85), (73, tAld 0 1), (74, tAld 0 1), (75, tGf 3 1), (78, tIld 3 1), (79, tIal), (80, tPf kI 3 5), (83, tIc 1 1), (85, tIc 0 1), (86, tIst 4 2), (88, tIld 4 2), (90, tIc 4 1), (91, tCmge 154), (94, tIld 2 1), (95, tIfeq 102), (98, tIc 3 1), (99, tGo 104), (102, tIld 4 2), (104, tIst 5 2), (106, tIld 2 1), (107, tIfeq 117), (110, tIld 4 2), (112, tIc 1 1), (113, tI2 (fun a b => a + b)), (114, tGo 119), (117, tIld 4 2), (119, tIst 6 2), (121, tIld 6 2), (123, tIld 5 2), (125, tCmgt 148), (128, tAld 0 1), (129, tAld 0 1), (130, tGf 3 1), (133, tIld 3 1), (134, tIal), (135, tIld 4 2), (137, tIld 6 2), (139, tCv 3 3 fn_X3_spread), (142, tIinc 6 1), (145, tGo 121), (148, tIinc 4 1), (151, tGo 88), (154, tIinc 3 1), (157, tGo 45), (160, tIc 0 1)]
theorem ok_X3_find : Tok mi_X3_find tb_X3_find :=
  Tc (sd_aload_n dX3_find_0) <|
  Tc (sd_getf (T := TX3) rfl giX3 (by decide) w_fl_X3_19 dX3_find_1) <|
  Tc (sd_iconst rfl dX3_find_4) <|
  Tc (sd_cs fok_J7_fill_53178 mf_J7_fill_53178 w_ml_X3_32 w_st_J7_fill_53178 (by decide) dX3_find_5) <|
  Tc (sd_aload_n dX3_find_8) <|
  Tc (sd_getf (T := TX3) rfl giX3 (by decide) w_fl_X3_22 dX3_find_9) <|
  Tc (sd_iconst rfl dX3_find_12) <|
  Tc (sd_cs fok_J7_fill_53178 mf_J7_fill_53178 w_ml_X3_32 w_st_J7_fill_53178 (by decide) dX3_find_13) <|
  Tc (sd_aload_n dX3_find_16) <|
  Tc (sd_getf (T := TX3) rfl giX3 (by decide) w_fl_X3_9 dX3_find_17) <|
  Tc (sd_iconst rfl dX3_find_20) <|
  Tc (sd_aload_n dX3_find_21) <|
  Tc (sd_cv (T := TX3) fok_X3_state mf_X3_state rfl w_ml_X3_38 w_im_X3_state w_se_X3_state (by decide) dX3_find_22) <|
  Tc (sd_ias dX3_find_25) <|
  Tc (sd_aload_n dX3_find_26) <|
  Tc (sd_getf (T := TX3) rfl giX3 (by decide) w_fl_X3_19 dX3_find_27) <|
  Tc (sd_aload_n dX3_find_30) <|
  Tc (sd_getf (T := TX3) rfl giX3 (by decide) w_fl_X3_9 dX3_find_31) <|
  Tc (sd_iconst rfl dX3_find_34) <|
  Tc (sd_ial dX3_find_35) <|
  Tc (sd_iconst rfl dX3_find_36) <|
  Tc (sd_ias dX3_find_37) <|
  Tc (sd_aload_n dX3_find_38) <|
  Tc (sd_iconst rfl dX3_find_39) <|
  Tc (sd_putf (T := TX3) rfl giX3 (by decide) w_fl_X3_15 tyX3 tyX3_ok nmX3 (kI_ok) rfl dX3_find_40) <|
  Tc (sd_iconst rfl dX3_find_43) <|
  Tc (sd_istore_n dX3_find_44) <|
  Tc (sd_iload_n dX3_find_45) <|
  Tc (sd_aload_n dX3_find_46) <|
  Tc (sd_getf (T := TX3) rfl giX3 (by decide) w_fl_X3_15 dX3_find_47) <|
  Tc (sd_cm_ge (by decide) dX3_find_50) <|
  Tc (sd_iload_n dX3_find_53) <|
  Tc (sd_sipush (by decide +kernel) dX3_find_54) <|
  Tc (sd_cm_ge (by decide) dX3_find_57) <|
  Tc (sd_aload_n dX3_find_60) <|
  Tc (sd_getf (T := TX3) rfl giX3 (by decide) w_fl_X3_9 dX3_find_61) <|
  Tc (sd_iload_n dX3_find_64) <|
  Tc (sd_ial dX3_find_65) <|
  Tc (sd_iload_n dX3_find_66) <|
  Tc (sd_cs fok_X3_isDeep mf_X3_isDeep w_ml_X3_42 w_st_X3_isDeep (by decide) dX3_find_67) <|
  Tc (sd_if_eq (by decide) dX3_find_70) <|
  Tc (sd_aload_n dX3_find_73) <|
  Tc (sd_aload_n dX3_find_74) <|
  Tc (sd_getf (T := TX3) rfl giX3 (by decide) w_fl_X3_9 dX3_find_75) <|
  Tc (sd_iload_n dX3_find_78) <|
  Tc (sd_ial dX3_find_79) <|
  Tc (sd_putf (T := TX3) rfl giX3 (by decide) w_fl_X3_25 tyX3 tyX3_ok nmX3 (kI_ok) rfl dX3_find_80) <|
  Tc (sd_iconst rfl dX3_find_83) <|
  Tc (sd_iconst rfl dX3_find_85) <|
  Tc (sd_istore dX3_find_86) <|
  Tc (sd_iload dX3_find_88) <|
  Tc (sd_iconst rfl dX3_find_90) <|
  Tc (sd_cm_ge (by decide) dX3_find_91) <|
  Tc (sd_iload_n dX3_find_94) <|
  Tc (sd_if_eq (by decide) dX3_find_95) <|
  Tc (sd_iconst rfl dX3_find_98) <|
  Tc (sd_goto (by decide) dX3_find_99) <|
  Tc (sd_iload dX3_find_102) <|
  Tc (sd_istore dX3_find_104) <|
  Tc (sd_iload_n dX3_find_106) <|
  Tc (sd_if_eq (by decide) dX3_find_107) <|
  Tc (sd_iload dX3_find_110) <|
  Tc (sd_iconst rfl dX3_find_112) <|
  Tc (sd_iadd dX3_find_113) <|
  Tc (sd_goto (by decide) dX3_find_114) <|
  Tc (sd_iload dX3_find_117) <|
  Tc (sd_istore dX3_find_119) <|
  Tc (sd_iload dX3_find_121) <|
  Tc (sd_iload dX3_find_123) <|
  Tc (sd_cm_gt (by decide) dX3_find_125) <|
  Tc (sd_aload_n dX3_find_128) <|
  Tc (sd_aload_n dX3_find_129) <|
  Tc (sd_getf (T := TX3) rfl giX3 (by decide) w_fl_X3_9 dX3_find_130) <|
  Tc (sd_iload_n dX3_find_133) <|
  Tc (sd_ial dX3_find_134) <|
  Tc (sd_iload dX3_find_135) <|
  Tc (sd_iload dX3_find_137) <|
  Tc (sd_cv (T := TX3) fok_X3_spread mf_X3_spread rfl w_ml_X3_46 w_im_X3_spread w_se_X3_spread (by decide) dX3_find_139) <|
  Tc (sd_iinc dX3_find_142) <|
  Tc (sd_goto (by decide) dX3_find_145) <|
  Tc (sd_iinc dX3_find_148) <|
  Tc (sd_goto (by decide) dX3_find_151) <|
  Tc (sd_iinc dX3_find_154) <|
  Tc (sd_goto (by decide) dX3_find_157) <|
  Tc (sd_iconst rfl dX3_find_160) <|
  Tn
theorem rk_X3_find : Rok mi_X3_find rZ [84, 161] := rk_z dX3_find_84 <| rk_z dX3_find_161 <| rk_n
def rx_X3_find : Nat → Nat → AL → List AV → List AC → Option (Option AV × List AC) := am_r tb_X3_find rZ [84, 161]
theorem rs_X3_find_0 (n : Nat) (L : AL) (st : List AV) (M : List AC) : rx_X3_find (n + 1) 0 L st M = am_j (rx_X3_find n) ((tAld 0 1) 0 L st M) := rfl
theorem rs_X3_find_1 (n : Nat) (L : AL) (st : List AV) (M : List AC) : rx_X3_find (n + 1) 1 L st M = am_j (rx_X3_find n) ((tGf 3 3) 1 L st M) := rfl
theorem rs_X3_find_4 (n : Nat) (L : AL) (st : List AV) (M : List AC) : rx_X3_find (n + 1) 4 L st M = am_j (rx_X3_find n) ((tIc 0 1) 4 L st M) := rfl
theorem rs_X3_find_5 (n : Nat) (L : AL) (st : List AV) (M : List AC) : rx_X3_find (n + 1) 5 L st M = am_j (rx_X3_find n) ((tCs 2 fn_J7_fill_53178) 5 L st M) := rfl
theorem rs_X3_find_8 (n : Nat) (L : AL) (st : List AV) (M : List AC) : rx_X3_find (n + 1) 8 L st M = am_j (rx_X3_find n) ((tAld 0 1) 8 L st M) := rfl
theorem rs_X3_find_9 (n : Nat) (L : AL) (st : List AV) (M : List AC) : rx_X3_find (n + 1) 9 L st M = am_j (rx_X3_find n) ((tGf 3 4) 9 L st M) := rfl
theorem rs_X3_find_12 (n : Nat) (L : AL) (st : List AV) (M : List AC) : rx_X3_find (n + 1) 12 L st M = am_j (rx_X3_find n) ((tIc 0 1) 12 L st M) := rfl
theorem rs_X3_find_13 (n : Nat) (L : AL) (st : List AV) (M : List AC) : rx_X3_find (n + 1) 13 L st M = am_j (rx_X3_find n) ((tCs 2 fn_J7_fill_53178) 13 L st M) := rfl
theorem rs_X3_find_16 (n : Nat) (L : AL) (st : List AV) (M : List AC) : rx_X3_find (n + 1) 16 L st M = am_j (rx_X3_find n) ((tAld 0 1) 16 L st M) := rfl
theorem rs_X3_find_17 (n : Nat) (L : AL) (st : List AV) (M : List AC) : rx_X3_find (n + 1) 17 L st M = am_j (rx_X3_find n) ((tGf 3 1) 17 L st M) := rfl
theorem rs_X3_find_20 (n : Nat) (L : AL) (st : List AV) (M : List AC) : rx_X3_find (n + 1) 20 L st M = am_j (rx_X3_find n) ((tIc 0 1) 20 L st M) := rfl
theorem rs_X3_find_21 (n : Nat) (L : AL) (st : List AV) (M : List AC) : rx_X3_find (n + 1) 21 L st M = am_j (rx_X3_find n) ((tAld 0 1) 21 L st M) := rfl
theorem rs_X3_find_22 (n : Nat) (L : AL) (st : List AV) (M : List AC) : rx_X3_find (n + 1) 22 L st M = am_j (rx_X3_find n) ((tCv 3 0 fn_X3_state) 22 L st M) := rfl
theorem rs_X3_find_25 (n : Nat) (L : AL) (st : List AV) (M : List AC) : rx_X3_find (n + 1) 25 L st M = am_j (rx_X3_find n) (tIas 25 L st M) := rfl
theorem rs_X3_find_26 (n : Nat) (L : AL) (st : List AV) (M : List AC) : rx_X3_find (n + 1) 26 L st M = am_j (rx_X3_find n) ((tAld 0 1) 26 L st M) := rfl
theorem rs_X3_find_27 (n : Nat) (L : AL) (st : List AV) (M : List AC) : rx_X3_find (n + 1) 27 L st M = am_j (rx_X3_find n) ((tGf 3 3) 27 L st M) := rfl
theorem rs_X3_find_30 (n : Nat) (L : AL) (st : List AV) (M : List AC) : rx_X3_find (n + 1) 30 L st M = am_j (rx_X3_find n) ((tAld 0 1) 30 L st M) := rfl
theorem rs_X3_find_31 (n : Nat) (L : AL) (st : List AV) (M : List AC) : rx_X3_find (n + 1) 31 L st M = am_j (rx_X3_find n) ((tGf 3 1) 31 L st M) := rfl
theorem rs_X3_find_34 (n : Nat) (L : AL) (st : List AV) (M : List AC) : rx_X3_find (n + 1) 34 L st M = am_j (rx_X3_find n) ((tIc 0 1) 34 L st M) := rfl
theorem rs_X3_find_35 (n : Nat) (L : AL) (st : List AV) (M : List AC) : rx_X3_find (n + 1) 35 L st M = am_j (rx_X3_find n) (tIal 35 L st M) := rfl
theorem rs_X3_find_36 (n : Nat) (L : AL) (st : List AV) (M : List AC) : rx_X3_find (n + 1) 36 L st M = am_j (rx_X3_find n) ((tIc 1 1) 36 L st M) := rfl
theorem rs_X3_find_37 (n : Nat) (L : AL) (st : List AV) (M : List AC) : rx_X3_find (n + 1) 37 L st M = am_j (rx_X3_find n) (tIas 37 L st M) := rfl
theorem rs_X3_find_38 (n : Nat) (L : AL) (st : List AV) (M : List AC) : rx_X3_find (n + 1) 38 L st M = am_j (rx_X3_find n) ((tAld 0 1) 38 L st M) := rfl
theorem rs_X3_find_39 (n : Nat) (L : AL) (st : List AV) (M : List AC) : rx_X3_find (n + 1) 39 L st M = am_j (rx_X3_find n) ((tIc 1 1) 39 L st M) := rfl
theorem rs_X3_find_40 (n : Nat) (L : AL) (st : List AV) (M : List AC) : rx_X3_find (n + 1) 40 L st M = am_j (rx_X3_find n) ((tPf kI 3 2) 40 L st M) := rfl
theorem rs_X3_find_43 (n : Nat) (L : AL) (st : List AV) (M : List AC) : rx_X3_find (n + 1) 43 L st M = am_j (rx_X3_find n) ((tIc 0 1) 43 L st M) := rfl
theorem rs_X3_find_44 (n : Nat) (L : AL) (st : List AV) (M : List AC) : rx_X3_find (n + 1) 44 L st M = am_j (rx_X3_find n) ((tIst 3 1) 44 L st M) := rfl
theorem rs_X3_find_45 (n : Nat) (L : AL) (st : List AV) (M : List AC) : rx_X3_find (n + 1) 45 L st M = am_j (rx_X3_find n) ((tIld 3 1) 45 L st M) := rfl
theorem rs_X3_find_46 (n : Nat) (L : AL) (st : List AV) (M : List AC) : rx_X3_find (n + 1) 46 L st M = am_j (rx_X3_find n) ((tAld 0 1) 46 L st M) := rfl
theorem rs_X3_find_47 (n : Nat) (L : AL) (st : List AV) (M : List AC) : rx_X3_find (n + 1) 47 L st M = am_j (rx_X3_find n) ((tGf 3 2) 47 L st M) := rfl
theorem rs_X3_find_50 (n : Nat) (L : AL) (st : List AV) (M : List AC) : rx_X3_find (n + 1) 50 L st M = am_j (rx_X3_find n) ((tCmge 160) 50 L st M) := rfl
theorem rs_X3_find_53 (n : Nat) (L : AL) (st : List AV) (M : List AC) : rx_X3_find (n + 1) 53 L st M = am_j (rx_X3_find n) ((tIld 3 1) 53 L st M) := rfl
theorem rs_X3_find_54 (n : Nat) (L : AL) (st : List AV) (M : List AC) : rx_X3_find (n + 1) 54 L st M = am_j (rx_X3_find n) ((tIc 2401 3) 54 L st M) := rfl
theorem rs_X3_find_57 (n : Nat) (L : AL) (st : List AV) (M : List AC) : rx_X3_find (n + 1) 57 L st M = am_j (rx_X3_find n) ((tCmge 160) 57 L st M) := rfl
theorem rs_X3_find_60 (n : Nat) (L : AL) (st : List AV) (M : List AC) : rx_X3_find (n + 1) 60 L st M = am_j (rx_X3_find n) ((tAld 0 1) 60 L st M) := rfl
theorem rs_X3_find_61 (n : Nat) (L : AL) (st : List AV) (M : List AC) : rx_X3_find (n + 1) 61 L st M = am_j (rx_X3_find n) ((tGf 3 1) 61 L st M) := rfl
theorem rs_X3_find_64 (n : Nat) (L : AL) (st : List AV) (M : List AC) : rx_X3_find (n + 1) 64 L st M = am_j (rx_X3_find n) ((tIld 3 1) 64 L st M) := rfl
theorem rs_X3_find_65 (n : Nat) (L : AL) (st : List AV) (M : List AC) : rx_X3_find (n + 1) 65 L st M = am_j (rx_X3_find n) (tIal 65 L st M) := rfl
theorem rs_X3_find_66 (n : Nat) (L : AL) (st : List AV) (M : List AC) : rx_X3_find (n + 1) 66 L st M = am_j (rx_X3_find n) ((tIld 1 1) 66 L st M) := rfl
theorem rs_X3_find_67 (n : Nat) (L : AL) (st : List AV) (M : List AC) : rx_X3_find (n + 1) 67 L st M = am_j (rx_X3_find n) ((tCs 2 fn_X3_isDeep) 67 L st M) := rfl
theorem rs_X3_find_70 (n : Nat) (L : AL) (st : List AV) (M : List AC) : rx_X3_find (n + 1) 70 L st M = am_j (rx_X3_find n) ((tIfeq 85) 70 L st M) := rfl
theorem rs_X3_find_73 (n : Nat) (L : AL) (st : List AV) (M : List AC) : rx_X3_find (n + 1) 73 L st M = am_j (rx_X3_find n) ((tAld 0 1) 73 L st M) := rfl
theorem rs_X3_find_74 (n : Nat) (L : AL) (st : List AV) (M : List AC) : rx_X3_find (n + 1) 74 L st M = am_j (rx_X3_find n) ((tAld 0 1) 74 L st M) := rfl
theorem rs_X3_find_75 (n : Nat) (L : AL) (st : List AV) (M : List AC) : rx_X3_find (n + 1) 75 L st M = am_j (rx_X3_find n) ((tGf 3 1) 75 L st M) := rfl
theorem rs_X3_find_78 (n : Nat) (L : AL) (st : List AV) (M : List AC) : rx_X3_find (n + 1) 78 L st M = am_j (rx_X3_find n) ((tIld 3 1) 78 L st M) := rfl
theorem rs_X3_find_79 (n : Nat) (L : AL) (st : List AV) (M : List AC) : rx_X3_find (n + 1) 79 L st M = am_j (rx_X3_find n) (tIal 79 L st M) := rfl
theorem rs_X3_find_80 (n : Nat) (L : AL) (st : List AV) (M : List AC) : rx_X3_find (n + 1) 80 L st M = am_j (rx_X3_find n) ((tPf kI 3 5) 80 L st M) := rfl
theorem rs_X3_find_83 (n : Nat) (L : AL) (st : List AV) (M : List AC) : rx_X3_find (n + 1) 83 L st M = am_j (rx_X3_find n) ((tIc 1 1) 83 L st M) := rfl
theorem rs_X3_find_85 (n : Nat) (L : AL) (st : List AV) (M : List AC) : rx_X3_find (n + 1) 85 L st M = am_j (rx_X3_find n) ((tIc 0 1) 85 L st M) := rfl
theorem rs_X3_find_86 (n : Nat) (L : AL) (st : List AV) (M : List AC) : rx_X3_find (n + 1) 86 L st M = am_j (rx_X3_find n) ((tIst 4 2) 86 L st M) := rfl
theorem rs_X3_find_88 (n : Nat) (L : AL) (st : List AV) (M : List AC) : rx_X3_find (n + 1) 88 L st M = am_j (rx_X3_find n) ((tIld 4 2) 88 L st M) := rfl
theorem rs_X3_find_90 (n : Nat) (L : AL) (st : List AV) (M : List AC) : rx_X3_find (n + 1) 90 L st M = am_j (rx_X3_find n) ((tIc 4 1) 90 L st M) := rfl
theorem rs_X3_find_91 (n : Nat) (L : AL) (st : List AV) (M : List AC) : rx_X3_find (n + 1) 91 L st M = am_j (rx_X3_find n) ((tCmge 154) 91 L st M) := rfl
theorem rs_X3_find_94 (n : Nat) (L : AL) (st : List AV) (M : List AC) : rx_X3_find (n + 1) 94 L st M = am_j (rx_X3_find n) ((tIld 2 1) 94 L st M) := rfl
theorem rs_X3_find_95 (n : Nat) (L : AL) (st : List AV) (M : List AC) : rx_X3_find (n + 1) 95 L st M = am_j (rx_X3_find n) ((tIfeq 102) 95 L st M) := rfl
theorem rs_X3_find_98 (n : Nat) (L : AL) (st : List AV) (M : List AC) : rx_X3_find (n + 1) 98 L st M = am_j (rx_X3_find n) ((tIc 3 1) 98 L st M) := rfl
theorem rs_X3_find_99 (n : Nat) (L : AL) (st : List AV) (M : List AC) : rx_X3_find (n + 1) 99 L st M = am_j (rx_X3_find n) ((tGo 104) 99 L st M) := rfl
theorem rs_X3_find_102 (n : Nat) (L : AL) (st : List AV) (M : List AC) : rx_X3_find (n + 1) 102 L st M = am_j (rx_X3_find n) ((tIld 4 2) 102 L st M) := rfl
theorem rs_X3_find_104 (n : Nat) (L : AL) (st : List AV) (M : List AC) : rx_X3_find (n + 1) 104 L st M = am_j (rx_X3_find n) ((tIst 5 2) 104 L st M) := rfl
theorem rs_X3_find_106 (n : Nat) (L : AL) (st : List AV) (M : List AC) : rx_X3_find (n + 1) 106 L st M = am_j (rx_X3_find n) ((tIld 2 1) 106 L st M) := rfl
theorem rs_X3_find_107 (n : Nat) (L : AL) (st : List AV) (M : List AC) : rx_X3_find (n + 1) 107 L st M = am_j (rx_X3_find n) ((tIfeq 117) 107 L st M) := rfl
theorem rs_X3_find_110 (n : Nat) (L : AL) (st : List AV) (M : List AC) : rx_X3_find (n + 1) 110 L st M = am_j (rx_X3_find n) ((tIld 4 2) 110 L st M) := rfl
theorem rs_X3_find_112 (n : Nat) (L : AL) (st : List AV) (M : List AC) : rx_X3_find (n + 1) 112 L st M = am_j (rx_X3_find n) ((tIc 1 1) 112 L st M) := rfl
theorem rs_X3_find_113 (n : Nat) (L : AL) (st : List AV) (M : List AC) : rx_X3_find (n + 1) 113 L st M = am_j (rx_X3_find n) ((tI2 (fun a b => a + b)) 113 L st M) := rfl
theorem rs_X3_find_114 (n : Nat) (L : AL) (st : List AV) (M : List AC) : rx_X3_find (n + 1) 114 L st M = am_j (rx_X3_find n) ((tGo 119) 114 L st M) := rfl
theorem rs_X3_find_117 (n : Nat) (L : AL) (st : List AV) (M : List AC) : rx_X3_find (n + 1) 117 L st M = am_j (rx_X3_find n) ((tIld 4 2) 117 L st M) := rfl
theorem rs_X3_find_119 (n : Nat) (L : AL) (st : List AV) (M : List AC) : rx_X3_find (n + 1) 119 L st M = am_j (rx_X3_find n) ((tIst 6 2) 119 L st M) := rfl
theorem rs_X3_find_121 (n : Nat) (L : AL) (st : List AV) (M : List AC) : rx_X3_find (n + 1) 121 L st M = am_j (rx_X3_find n) ((tIld 6 2) 121 L st M) := rfl
theorem rs_X3_find_123 (n : Nat) (L : AL) (st : List AV) (M : List AC) : rx_X3_find (n + 1) 123 L st M = am_j (rx_X3_find n) ((tIld 5 2) 123 L st M) := rfl
theorem rs_X3_find_125 (n : Nat) (L : AL) (st : List AV) (M : List AC) : rx_X3_find (n + 1) 125 L st M = am_j (rx_X3_find n) ((tCmgt 148) 125 L st M) := rfl
theorem rs_X3_find_128 (n : Nat) (L : AL) (st : List AV) (M : List AC) : rx_X3_find (n + 1) 128 L st M = am_j (rx_X3_find n) ((tAld 0 1) 128 L st M) := rfl
theorem rs_X3_find_129 (n : Nat) (L : AL) (st : List AV) (M : List AC) : rx_X3_find (n + 1) 129 L st M = am_j (rx_X3_find n) ((tAld 0 1) 129 L st M) := rfl
theorem rs_X3_find_130 (n : Nat) (L : AL) (st : List AV) (M : List AC) : rx_X3_find (n + 1) 130 L st M = am_j (rx_X3_find n) ((tGf 3 1) 130 L st M) := rfl
theorem rs_X3_find_133 (n : Nat) (L : AL) (st : List AV) (M : List AC) : rx_X3_find (n + 1) 133 L st M = am_j (rx_X3_find n) ((tIld 3 1) 133 L st M) := rfl
theorem rs_X3_find_134 (n : Nat) (L : AL) (st : List AV) (M : List AC) : rx_X3_find (n + 1) 134 L st M = am_j (rx_X3_find n) (tIal 134 L st M) := rfl
theorem rs_X3_find_135 (n : Nat) (L : AL) (st : List AV) (M : List AC) : rx_X3_find (n + 1) 135 L st M = am_j (rx_X3_find n) ((tIld 4 2) 135 L st M) := rfl
theorem rs_X3_find_137 (n : Nat) (L : AL) (st : List AV) (M : List AC) : rx_X3_find (n + 1) 137 L st M = am_j (rx_X3_find n) ((tIld 6 2) 137 L st M) := rfl
theorem rs_X3_find_139 (n : Nat) (L : AL) (st : List AV) (M : List AC) : rx_X3_find (n + 1) 139 L st M = am_j (rx_X3_find n) ((tCv 3 3 fn_X3_spread) 139 L st M) := rfl
theorem rs_X3_find_142 (n : Nat) (L : AL) (st : List AV) (M : List AC) : rx_X3_find (n + 1) 142 L st M = am_j (rx_X3_find n) ((tIinc 6 1) 142 L st M) := rfl
theorem rs_X3_find_145 (n : Nat) (L : AL) (st : List AV) (M : List AC) : rx_X3_find (n + 1) 145 L st M = am_j (rx_X3_find n) ((tGo 121) 145 L st M) := rfl
theorem rs_X3_find_148 (n : Nat) (L : AL) (st : List AV) (M : List AC) : rx_X3_find (n + 1) 148 L st M = am_j (rx_X3_find n) ((tIinc 4 1) 148 L st M) := rfl
theorem rs_X3_find_151 (n : Nat) (L : AL) (st : List AV) (M : List AC) : rx_X3_find (n + 1) 151 L st M = am_j (rx_X3_find n) ((tGo 88) 151 L st M) := rfl
theorem rs_X3_find_154 (n : Nat) (L : AL) (st : List AV) (M : List AC) : rx_X3_find (n + 1) 154 L st M = am_j (rx_X3_find n) ((tIinc 3 1) 154 L st M) := rfl
theorem rs_X3_find_157 (n : Nat) (L : AL) (st : List AV) (M : List AC) : rx_X3_find (n + 1) 157 L st M = am_j (rx_X3_find n) ((tGo 45) 157 L st M) := rfl
theorem rs_X3_find_160 (n : Nat) (L : AL) (st : List AV) (M : List AC) : rx_X3_find (n + 1) 160 L st M = am_j (rx_X3_find n) ((tIc 0 1) 160 L st M) := rfl
theorem rs_X3_find_84 (n : Nat) (L : AL) (st : List AV) (M : List AC) : rx_X3_find (n + 1) 84 L st M = am_e rZ st M := rfl
theorem rs_X3_find_161 (n : Nat) (L : AL) (st : List AV) (M : List AC) : rx_X3_find (n + 1) 161 L st M = am_e rZ st M := rfl
theorem ri_X3_find (c : Prop) [Decidable c] (p q n : Nat) (L : AL) (st : List AV) (M : List AC) : rx_X3_find n (if c then p else q) L st M = if c then rx_X3_find n p L st M else rx_X3_find n q L st M := by split <;> rfl
theorem rm_X3_find {n k pc : Nat} {L : AL} {st : List AV} {M : List AC} {x : Option AV × List AC} (h : rx_X3_find n pc L st M = some x) (hk : n ≤ k) : rx_X3_find k pc L st M = some x := am_r_mono n k h hk
def fn_X3_find : Fn := am_fn rx_X3_find 7
theorem fok_X3_find : Fok mi_X3_find fn_X3_find := fun _ _ _ _ h => am_fok ok_X3_find rk_X3_find rfl h
theorem l2_X3_find {M : List AC} {st : Int} {g s bb : F4} (hM : H3 M st g s bb) (hst : 1 ≤ st ∧ st ≤ 3) (hg : i4 1 9 g) (hs9 : i4 0 9 s) (hb : i4 0 3 bb) {gl m tw k a lb x : Int} (hx : 0 ≤ x ∧ x < 2401) (hk : 0 ≤ k ∧ k < 2401) (ha : 0 ≤ a) (hlb : lb < 4) : ∀ (n : Nat) (b : Int) (d : F4) (S : S3), b + n = lb + 1 → a ≤ b → I3 S → S.1.getD k.toNat 0 = x → (k < S.2.1) →
    ∃ d' : F4, ∀ (y : Option AV × List AC) (N : Nat), Ru rx_X3_find N 148 [some (vR 43), some (vI m), some (vI tw), some (vI k), some (vI a), some (vI lb), some (vI (lb + 1))] [] (U3 M gl d' (xb3 st g s bb x a n b S)) y → Ru rx_X3_find (N + 16 * n + 6) 121 [some (vR 43), some (vI m), some (vI tw), some (vI k), some (vI a), some (vI lb), some (vI b)] [] (U3 M gl d S) y
  | 0, b, d, S, hbn, hab, hI, hQ, hkS => by
    have e : b = lb + 1 := by omega
    subst e
    have w1' : wr lb = lb := wr_id (by omega) (by omega)
    have w2 : wr (lb + 1) = lb + 1 := wr_id (by omega) (by omega)
    have gt : lb < lb + 1 := by omega
    refine ⟨d, fun y N kk => ?_⟩
    rw [xb3] at kk
    obtain ⟨n, hn, h⟩ := kk
    refine ⟨n + 5 + 1, by omega, ?_⟩
    rw [rs_X3_find_121]
    simp [↓ri_X3_find, rs_X3_find_0, rs_X3_find_1, rs_X3_find_4, rs_X3_find_5, rs_X3_find_8, rs_X3_find_9, rs_X3_find_12, rs_X3_find_13, rs_X3_find_16, rs_X3_find_17, rs_X3_find_20, rs_X3_find_21, rs_X3_find_22, rs_X3_find_25, rs_X3_find_26, rs_X3_find_27, rs_X3_find_30, rs_X3_find_31, rs_X3_find_34, rs_X3_find_35, rs_X3_find_36, rs_X3_find_37, rs_X3_find_38, rs_X3_find_39, rs_X3_find_40, rs_X3_find_43, rs_X3_find_44, rs_X3_find_45, rs_X3_find_46, rs_X3_find_47, rs_X3_find_50, rs_X3_find_53, rs_X3_find_54, rs_X3_find_57, rs_X3_find_60, rs_X3_find_61, rs_X3_find_64, rs_X3_find_65, rs_X3_find_66, rs_X3_find_67, rs_X3_find_70, rs_X3_find_73, rs_X3_find_74, rs_X3_find_75, rs_X3_find_78, rs_X3_find_79, rs_X3_find_80, rs_X3_find_83, rs_X3_find_85, rs_X3_find_86, rs_X3_find_88, rs_X3_find_90, rs_X3_find_91, rs_X3_find_94, rs_X3_find_95, rs_X3_find_98, rs_X3_find_99, rs_X3_find_102, rs_X3_find_104, rs_X3_find_106, rs_X3_find_107, rs_X3_find_110, rs_X3_find_112, rs_X3_find_113, rs_X3_find_114, rs_X3_find_117, rs_X3_find_119, rs_X3_find_123, rs_X3_find_125, rs_X3_find_128, rs_X3_find_129, rs_X3_find_130, rs_X3_find_133, rs_X3_find_134, rs_X3_find_135, rs_X3_find_137, rs_X3_find_139, rs_X3_find_142, rs_X3_find_145, rs_X3_find_151, rs_X3_find_154, rs_X3_find_157, rs_X3_find_160, rs_X3_find_84, rs_X3_find_161, -List.getElem?_eq_getElem, am_js, am_e, am_in, am_sl, rI, rZ, rV, rJ, rA, rC, kI, kJ, kR, am_one, am_nl, am_w8, tIc, tLc, tNul, tIld, tLld, tAld, tIst, tLst, tAst, tIinc, tI2, tDv, tL2, tLrem, tLs, tLcmp, tI2l, tL2i, tI2c, tDup, tDup2, tPop, tGo, tIfeq, tIfne, tIflt, tIfge, tIfgt, tIfle, tCmeq, tCmne, tCmlt, tCmge, tCmgt, tCmle, tNu, tTs, tGf, tPf, tGs, tIal, tIas, tBal, tBas, tAln, tSv, tSc, tSb, tSl, tSk, tCv, tCs, tCt, tMx, tMn, wr_10000, wr_100000, wr_1000000, wr_10000000, wr_100000000, wr_2400, wr_9999, wr_0, wr_1, wr_2, wr_3, wr_4, wr_5, wr_6, wr_7, wr_8, wr_9, wr_10, wr_11, wr_12, wr_13, wr_14, wr_15, wr_16, wr_17, wr_18, wr_19, wr_20, wr_21, wr_22, wr_23, wr_24, wr_25, wr_26, wr_27, wr_28, wr_29, wr_30, wr_31, wr_32, wr_33, wr_34, wr_35, wr_36, wr_37, wr_38, wr_39, wr_40, wr_41, wr_42, wr_43, wr_44, wr_45, wr_46, wr_47, wr_48, wr_49, wr_50, wr_51, wr_52, wr_53, wr_54, wr_55, wr_56, wr_57, wr_58, wr_59, wr_60, wr_61, wr_62, wr_63, wr_99, wr_100, wr_192, wr_255, wr_256, wr_343, wr_999, wr_1000, wr_2401, wr_2147483647, wr_65535, wr_m1, wr_m2, wr_m3, wr_m4, wr_m9, ak_1000, ak_1001, ak_1002, ak_0, ak_1, ak_2, ak_3, ak_4, ak_5, ak_6, ak_7, ak_8, ak_9, ak_10, ak_11, ak_12, ak_13, ak_14, ak_15, ak_16, ak_17, ak_18, ak_19, ak_20, ak_21, ak_22, ak_23, ak_24, ak_25, ak_26, ak_27, ak_28, ak_29, ak_30, ak_31, ak_32, ak_33, ak_34, ak_35, ak_36, ak_37, ak_38, ak_39, ak_40, ak_41, ak_42, ak_43, ak_44, ak_45, ak_46, ak_47, w1', w2, gt]
    exact rm_X3_find h (by omega)
  | n + 1, b, d, S, hbn, hab, hI, hQ, hkS => by
    have w1' : wr lb = lb := wr_id (by clear hQ; omega) (by clear hQ; omega)
    have w2 : wr b = b := wr_id (by clear hQ; omega) (by clear hQ; omega)
    have wk : wr k = k := wr_id (by clear hQ; omega) (by clear hQ; omega)
    have gt : ¬ lb < b := by clear hQ; omega
    obtain ⟨d1, q1⟩ := sp_X3_spread hM hst hg hs9 hb (gl := gl) (a := a) (b := b) hx ⟨ha, hab, by clear hQ; omega⟩ d S hI
    have hI2 := spr_I st g s bb (a := a) (b := b) hx ⟨ha, hab, by clear hQ; omega⟩ hI
    have hQ2 := spr_Q st g s bb (x := x) (a := a) (b := b) hkS hk.1
    obtain ⟨d', ih⟩ := l2_X3_find hM hst hg hs9 hb (gl := gl) (m := m) (tw := tw) hx hk ha hlb n (b + 1) d1 (spr st g s bb x a b S) (by clear hQ; omega) (by clear hQ; omega) hI2 (by rw [hQ2.1]; exact hQ) hQ2.2
    refine ⟨d', fun y N kk => ?_⟩
    rw [xb3] at kk
    obtain ⟨n', hn, h⟩ := ih y N kk
    clear kk ih hQ2
    obtain ⟨-, v43, v44, -, -⟩ := U3_at hM gl d S
    have l1 := hI.1.1
    refine ⟨n' + 15 + 1, by clear hQ; omega, ?_⟩
    rw [rs_X3_find_121]
    generalize U3 M gl d1 (spr st g s bb x a b S) = V2 at q1 h
    generalize U3 M gl d S = V at q1 v43 v44 ⊢
    simp only [se] at v43
    simp [↓ri_X3_find, rs_X3_find_0, rs_X3_find_1, rs_X3_find_4, rs_X3_find_5, rs_X3_find_8, rs_X3_find_9, rs_X3_find_12, rs_X3_find_13, rs_X3_find_16, rs_X3_find_17, rs_X3_find_20, rs_X3_find_21, rs_X3_find_22, rs_X3_find_25, rs_X3_find_26, rs_X3_find_27, rs_X3_find_30, rs_X3_find_31, rs_X3_find_34, rs_X3_find_35, rs_X3_find_36, rs_X3_find_37, rs_X3_find_38, rs_X3_find_39, rs_X3_find_40, rs_X3_find_43, rs_X3_find_44, rs_X3_find_45, rs_X3_find_46, rs_X3_find_47, rs_X3_find_50, rs_X3_find_53, rs_X3_find_54, rs_X3_find_57, rs_X3_find_60, rs_X3_find_61, rs_X3_find_64, rs_X3_find_65, rs_X3_find_66, rs_X3_find_67, rs_X3_find_70, rs_X3_find_73, rs_X3_find_74, rs_X3_find_75, rs_X3_find_78, rs_X3_find_79, rs_X3_find_80, rs_X3_find_83, rs_X3_find_85, rs_X3_find_86, rs_X3_find_88, rs_X3_find_90, rs_X3_find_91, rs_X3_find_94, rs_X3_find_95, rs_X3_find_98, rs_X3_find_99, rs_X3_find_102, rs_X3_find_104, rs_X3_find_106, rs_X3_find_107, rs_X3_find_110, rs_X3_find_112, rs_X3_find_113, rs_X3_find_114, rs_X3_find_117, rs_X3_find_119, rs_X3_find_123, rs_X3_find_125, rs_X3_find_128, rs_X3_find_129, rs_X3_find_130, rs_X3_find_133, rs_X3_find_134, rs_X3_find_135, rs_X3_find_137, rs_X3_find_139, rs_X3_find_142, rs_X3_find_145, rs_X3_find_148, rs_X3_find_151, rs_X3_find_154, rs_X3_find_157, rs_X3_find_160, rs_X3_find_84, rs_X3_find_161, -List.getElem?_eq_getElem, am_js, am_e, am_in, am_sl, rI, rZ, rV, rJ, rA, rC, kI, kJ, kR, am_one, am_nl, am_w8, tIc, tLc, tNul, tIld, tLld, tAld, tIst, tLst, tAst, tIinc, tI2, tDv, tL2, tLrem, tLs, tLcmp, tI2l, tL2i, tI2c, tDup, tDup2, tPop, tGo, tIfeq, tIfne, tIflt, tIfge, tIfgt, tIfle, tCmeq, tCmne, tCmlt, tCmge, tCmgt, tCmle, tNu, tTs, tGf, tPf, tGs, tIal, tIas, tBal, tBas, tAln, tSv, tSc, tSb, tSl, tSk, tCv, tCs, tCt, tMx, tMn, wr_10000, wr_100000, wr_1000000, wr_10000000, wr_100000000, wr_2400, wr_9999, wr_0, wr_1, wr_2, wr_3, wr_4, wr_5, wr_6, wr_7, wr_8, wr_9, wr_10, wr_11, wr_12, wr_13, wr_14, wr_15, wr_16, wr_17, wr_18, wr_19, wr_20, wr_21, wr_22, wr_23, wr_24, wr_25, wr_26, wr_27, wr_28, wr_29, wr_30, wr_31, wr_32, wr_33, wr_34, wr_35, wr_36, wr_37, wr_38, wr_39, wr_40, wr_41, wr_42, wr_43, wr_44, wr_45, wr_46, wr_47, wr_48, wr_49, wr_50, wr_51, wr_52, wr_53, wr_54, wr_55, wr_56, wr_57, wr_58, wr_59, wr_60, wr_61, wr_62, wr_63, wr_99, wr_100, wr_192, wr_255, wr_256, wr_343, wr_999, wr_1000, wr_2401, wr_2147483647, wr_65535, wr_m1, wr_m2, wr_m3, wr_m4, wr_m9, ak_1000, ak_1001, ak_1002, ak_0, ak_1, ak_2, ak_3, ak_4, ak_5, ak_6, ak_7, ak_8, ak_9, ak_10, ak_11, ak_12, ak_13, ak_14, ak_15, ak_16, ak_17, ak_18, ak_19, ak_20, ak_21, ak_22, ak_23, ak_24, ak_25, ak_26, ak_27, ak_28, ak_29, ak_30, ak_31, ak_32, ak_33, ak_34, ak_35, ak_36, ak_37, ak_38, ak_39, ak_40, ak_41, ak_42, ak_43, ak_44, ak_45, ak_46, ak_47, -List.getD_eq_getElem?_getD, w1', w2, wk, gt, v43, v44, l1, hk, hQ, q1]
    exact rm_X3_find h (Nat.le_add_right _ _)
theorem l1_X3_find {M : List AC} {st : Int} {g s bb : F4} (hM : H3 M st g s bb) (hst : 1 ≤ st ∧ st ≤ 3) (hg : i4 1 9 g) (hs9 : i4 0 9 s) (hb : i4 0 3 bb) {gl m tw k x : Int} (hx : 0 ≤ x ∧ x < 2401) (hk : 0 ≤ k ∧ k < 2401) (htw : tw = 0 ∨ tw = 1) : ∀ (n : Nat) (a : Int) (d : F4) (S : S3) (x5 x6 : Option AV), a + n = 4 → 0 ≤ a → I3 S → S.1.getD k.toNat 0 = x → (k < S.2.1) →
    ∃ (d' : F4) (x5' x6' : Option AV), ∀ (y : Option AV × List AC) (N : Nat), Ru rx_X3_find N 154 [some (vR 43), some (vI m), some (vI tw), some (vI k), some (vI 4), x5', x6'] [] (U3 M gl d' (xa3 st g s bb tw x n a S)) y → Ru rx_X3_find (N + 80 * n + 6) 88 [some (vR 43), some (vI m), some (vI tw), some (vI k), some (vI a), x5, x6] [] (U3 M gl d S) y
  | 0, a, d, S, x5, x6, han, ha, hI, hQ, hkS => by
    have e : a = 4 := by omega
    subst e
    refine ⟨d, x5, x6, fun y N kk => ?_⟩
    rw [xa3] at kk
    obtain ⟨n, hn, h⟩ := kk
    refine ⟨n + 5 + 1, by omega, ?_⟩
    rw [rs_X3_find_88]
    simp [↓ri_X3_find, rs_X3_find_0, rs_X3_find_1, rs_X3_find_4, rs_X3_find_5, rs_X3_find_8, rs_X3_find_9, rs_X3_find_12, rs_X3_find_13, rs_X3_find_16, rs_X3_find_17, rs_X3_find_20, rs_X3_find_21, rs_X3_find_22, rs_X3_find_25, rs_X3_find_26, rs_X3_find_27, rs_X3_find_30, rs_X3_find_31, rs_X3_find_34, rs_X3_find_35, rs_X3_find_36, rs_X3_find_37, rs_X3_find_38, rs_X3_find_39, rs_X3_find_40, rs_X3_find_43, rs_X3_find_44, rs_X3_find_45, rs_X3_find_46, rs_X3_find_47, rs_X3_find_50, rs_X3_find_53, rs_X3_find_54, rs_X3_find_57, rs_X3_find_60, rs_X3_find_61, rs_X3_find_64, rs_X3_find_65, rs_X3_find_66, rs_X3_find_67, rs_X3_find_70, rs_X3_find_73, rs_X3_find_74, rs_X3_find_75, rs_X3_find_78, rs_X3_find_79, rs_X3_find_80, rs_X3_find_83, rs_X3_find_85, rs_X3_find_86, rs_X3_find_90, rs_X3_find_91, rs_X3_find_94, rs_X3_find_95, rs_X3_find_98, rs_X3_find_99, rs_X3_find_102, rs_X3_find_104, rs_X3_find_106, rs_X3_find_107, rs_X3_find_110, rs_X3_find_112, rs_X3_find_113, rs_X3_find_114, rs_X3_find_117, rs_X3_find_119, rs_X3_find_121, rs_X3_find_123, rs_X3_find_125, rs_X3_find_128, rs_X3_find_129, rs_X3_find_130, rs_X3_find_133, rs_X3_find_134, rs_X3_find_135, rs_X3_find_137, rs_X3_find_139, rs_X3_find_142, rs_X3_find_145, rs_X3_find_148, rs_X3_find_151, rs_X3_find_157, rs_X3_find_160, rs_X3_find_84, rs_X3_find_161, -List.getElem?_eq_getElem, am_js, am_e, am_in, am_sl, rI, rZ, rV, rJ, rA, rC, kI, kJ, kR, am_one, am_nl, am_w8, tIc, tLc, tNul, tIld, tLld, tAld, tIst, tLst, tAst, tIinc, tI2, tDv, tL2, tLrem, tLs, tLcmp, tI2l, tL2i, tI2c, tDup, tDup2, tPop, tGo, tIfeq, tIfne, tIflt, tIfge, tIfgt, tIfle, tCmeq, tCmne, tCmlt, tCmge, tCmgt, tCmle, tNu, tTs, tGf, tPf, tGs, tIal, tIas, tBal, tBas, tAln, tSv, tSc, tSb, tSl, tSk, tCv, tCs, tCt, tMx, tMn, wr_10000, wr_100000, wr_1000000, wr_10000000, wr_100000000, wr_2400, wr_9999, wr_0, wr_1, wr_2, wr_3, wr_4, wr_5, wr_6, wr_7, wr_8, wr_9, wr_10, wr_11, wr_12, wr_13, wr_14, wr_15, wr_16, wr_17, wr_18, wr_19, wr_20, wr_21, wr_22, wr_23, wr_24, wr_25, wr_26, wr_27, wr_28, wr_29, wr_30, wr_31, wr_32, wr_33, wr_34, wr_35, wr_36, wr_37, wr_38, wr_39, wr_40, wr_41, wr_42, wr_43, wr_44, wr_45, wr_46, wr_47, wr_48, wr_49, wr_50, wr_51, wr_52, wr_53, wr_54, wr_55, wr_56, wr_57, wr_58, wr_59, wr_60, wr_61, wr_62, wr_63, wr_99, wr_100, wr_192, wr_255, wr_256, wr_343, wr_999, wr_1000, wr_2401, wr_2147483647, wr_65535, wr_m1, wr_m2, wr_m3, wr_m4, wr_m9, ak_1000, ak_1001, ak_1002, ak_0, ak_1, ak_2, ak_3, ak_4, ak_5, ak_6, ak_7, ak_8, ak_9, ak_10, ak_11, ak_12, ak_13, ak_14, ak_15, ak_16, ak_17, ak_18, ak_19, ak_20, ak_21, ak_22, ak_23, ak_24, ak_25, ak_26, ak_27, ak_28, ak_29, ak_30, ak_31, ak_32, ak_33, ak_34, ak_35, ak_36, ak_37, ak_38, ak_39, ak_40, ak_41, ak_42, ak_43, ak_44, ak_45, ak_46, ak_47]
    exact rm_X3_find h (by omega)
  | n + 1, a, d, S, x5, x6, han, ha, hI, hQ, hkS => by
    have wa' : wr a = a := wr_id (by clear hQ; omega) (by clear hQ; omega)
    have na : ¬ 4 ≤ a := by clear hQ; omega
    rcases htw with rfl | rfl
    · obtain ⟨d1, h1⟩ := l2_X3_find hM hst hg hs9 hb (gl := gl) (m := m) (tw := 0) (lb := a) hx hk ha (by clear hQ; omega) 1 a d S (by clear hQ; omega) (by clear hQ; omega) hI hQ hkS
      have hI2 := xb3_I st g s bb hx ha 1 a S (by clear hQ; omega) (by clear hQ; omega) hI
      have hQ2 := xb3_Q st g s bb (x := x) (a := a) hk.1 1 a S hkS
      obtain ⟨d2, x5', x6', h2⟩ := l1_X3_find hM hst hg hs9 hb (gl := gl) (m := m) hx hk (Or.inl rfl) n (a + 1) d1 (xb3 st g s bb x a 1 a S) (some (vI a)) (some (vI (a + 1))) (by clear hQ; omega) (by clear hQ; omega) hI2 (by rw [hQ2.1]; exact hQ) hQ2.2
      refine ⟨d2, x5', x6', fun y N kk => ?_⟩
      rw [xa3, if_neg (by decide), if_neg (by decide)] at kk
      obtain ⟨k2, hk2, h3⟩ := h2 y N kk
      obtain ⟨k3, hk3, h4⟩ := h1 y (k2 + 4) (by
        refine ⟨k2 + 3 + 1, by clear hQ; omega, ?_⟩
        rw [rs_X3_find_148]
        simp [↓ri_X3_find, rs_X3_find_0, rs_X3_find_1, rs_X3_find_4, rs_X3_find_5, rs_X3_find_8, rs_X3_find_9, rs_X3_find_12, rs_X3_find_13, rs_X3_find_16, rs_X3_find_17, rs_X3_find_20, rs_X3_find_21, rs_X3_find_22, rs_X3_find_25, rs_X3_find_26, rs_X3_find_27, rs_X3_find_30, rs_X3_find_31, rs_X3_find_34, rs_X3_find_35, rs_X3_find_36, rs_X3_find_37, rs_X3_find_38, rs_X3_find_39, rs_X3_find_40, rs_X3_find_43, rs_X3_find_44, rs_X3_find_45, rs_X3_find_46, rs_X3_find_47, rs_X3_find_50, rs_X3_find_53, rs_X3_find_54, rs_X3_find_57, rs_X3_find_60, rs_X3_find_61, rs_X3_find_64, rs_X3_find_65, rs_X3_find_66, rs_X3_find_67, rs_X3_find_70, rs_X3_find_73, rs_X3_find_74, rs_X3_find_75, rs_X3_find_78, rs_X3_find_79, rs_X3_find_80, rs_X3_find_83, rs_X3_find_85, rs_X3_find_86, rs_X3_find_90, rs_X3_find_91, rs_X3_find_94, rs_X3_find_95, rs_X3_find_98, rs_X3_find_99, rs_X3_find_102, rs_X3_find_104, rs_X3_find_106, rs_X3_find_107, rs_X3_find_110, rs_X3_find_112, rs_X3_find_113, rs_X3_find_114, rs_X3_find_117, rs_X3_find_119, rs_X3_find_121, rs_X3_find_123, rs_X3_find_125, rs_X3_find_128, rs_X3_find_129, rs_X3_find_130, rs_X3_find_133, rs_X3_find_134, rs_X3_find_135, rs_X3_find_137, rs_X3_find_139, rs_X3_find_142, rs_X3_find_145, rs_X3_find_151, rs_X3_find_154, rs_X3_find_157, rs_X3_find_160, rs_X3_find_84, rs_X3_find_161, -List.getElem?_eq_getElem, am_js, am_e, am_in, am_sl, rI, rZ, rV, rJ, rA, rC, kI, kJ, kR, am_one, am_nl, am_w8, tIc, tLc, tNul, tIld, tLld, tAld, tIst, tLst, tAst, tIinc, tI2, tDv, tL2, tLrem, tLs, tLcmp, tI2l, tL2i, tI2c, tDup, tDup2, tPop, tGo, tIfeq, tIfne, tIflt, tIfge, tIfgt, tIfle, tCmeq, tCmne, tCmlt, tCmge, tCmgt, tCmle, tNu, tTs, tGf, tPf, tGs, tIal, tIas, tBal, tBas, tAln, tSv, tSc, tSb, tSl, tSk, tCv, tCs, tCt, tMx, tMn, wr_10000, wr_100000, wr_1000000, wr_10000000, wr_100000000, wr_2400, wr_9999, wr_0, wr_1, wr_2, wr_3, wr_4, wr_5, wr_6, wr_7, wr_8, wr_9, wr_10, wr_11, wr_12, wr_13, wr_14, wr_15, wr_16, wr_17, wr_18, wr_19, wr_20, wr_21, wr_22, wr_23, wr_24, wr_25, wr_26, wr_27, wr_28, wr_29, wr_30, wr_31, wr_32, wr_33, wr_34, wr_35, wr_36, wr_37, wr_38, wr_39, wr_40, wr_41, wr_42, wr_43, wr_44, wr_45, wr_46, wr_47, wr_48, wr_49, wr_50, wr_51, wr_52, wr_53, wr_54, wr_55, wr_56, wr_57, wr_58, wr_59, wr_60, wr_61, wr_62, wr_63, wr_99, wr_100, wr_192, wr_255, wr_256, wr_343, wr_999, wr_1000, wr_2401, wr_2147483647, wr_65535, wr_m1, wr_m2, wr_m3, wr_m4, wr_m9, ak_1000, ak_1001, ak_1002, ak_0, ak_1, ak_2, ak_3, ak_4, ak_5, ak_6, ak_7, ak_8, ak_9, ak_10, ak_11, ak_12, ak_13, ak_14, ak_15, ak_16, ak_17, ak_18, ak_19, ak_20, ak_21, ak_22, ak_23, ak_24, ak_25, ak_26, ak_27, ak_28, ak_29, ak_30, ak_31, ak_32, ak_33, ak_34, ak_35, ak_36, ak_37, ak_38, ak_39, ak_40, ak_41, ak_42, ak_43, ak_44, ak_45, ak_46, ak_47]
        exact rm_X3_find h3 (by clear hQ hQ2; omega))
      refine ⟨k3 + 19 + 1, by clear hQ hQ2; omega, ?_⟩
      rw [rs_X3_find_88]
      clear kk h1 h2 hQ hQ2
      simp [↓ri_X3_find, rs_X3_find_0, rs_X3_find_1, rs_X3_find_4, rs_X3_find_5, rs_X3_find_8, rs_X3_find_9, rs_X3_find_12, rs_X3_find_13, rs_X3_find_16, rs_X3_find_17, rs_X3_find_20, rs_X3_find_21, rs_X3_find_22, rs_X3_find_25, rs_X3_find_26, rs_X3_find_27, rs_X3_find_30, rs_X3_find_31, rs_X3_find_34, rs_X3_find_35, rs_X3_find_36, rs_X3_find_37, rs_X3_find_38, rs_X3_find_39, rs_X3_find_40, rs_X3_find_43, rs_X3_find_44, rs_X3_find_45, rs_X3_find_46, rs_X3_find_47, rs_X3_find_50, rs_X3_find_53, rs_X3_find_54, rs_X3_find_57, rs_X3_find_60, rs_X3_find_61, rs_X3_find_64, rs_X3_find_65, rs_X3_find_66, rs_X3_find_67, rs_X3_find_70, rs_X3_find_73, rs_X3_find_74, rs_X3_find_75, rs_X3_find_78, rs_X3_find_79, rs_X3_find_80, rs_X3_find_83, rs_X3_find_85, rs_X3_find_86, rs_X3_find_90, rs_X3_find_91, rs_X3_find_94, rs_X3_find_95, rs_X3_find_98, rs_X3_find_99, rs_X3_find_102, rs_X3_find_104, rs_X3_find_106, rs_X3_find_107, rs_X3_find_110, rs_X3_find_112, rs_X3_find_113, rs_X3_find_114, rs_X3_find_117, rs_X3_find_119, rs_X3_find_123, rs_X3_find_125, rs_X3_find_128, rs_X3_find_129, rs_X3_find_130, rs_X3_find_133, rs_X3_find_134, rs_X3_find_135, rs_X3_find_137, rs_X3_find_139, rs_X3_find_142, rs_X3_find_145, rs_X3_find_148, rs_X3_find_151, rs_X3_find_154, rs_X3_find_157, rs_X3_find_160, rs_X3_find_84, rs_X3_find_161, -List.getElem?_eq_getElem, am_js, am_e, am_in, am_sl, rI, rZ, rV, rJ, rA, rC, kI, kJ, kR, am_one, am_nl, am_w8, tIc, tLc, tNul, tIld, tLld, tAld, tIst, tLst, tAst, tIinc, tI2, tDv, tL2, tLrem, tLs, tLcmp, tI2l, tL2i, tI2c, tDup, tDup2, tPop, tGo, tIfeq, tIfne, tIflt, tIfge, tIfgt, tIfle, tCmeq, tCmne, tCmlt, tCmge, tCmgt, tCmle, tNu, tTs, tGf, tPf, tGs, tIal, tIas, tBal, tBas, tAln, tSv, tSc, tSb, tSl, tSk, tCv, tCs, tCt, tMx, tMn, wr_10000, wr_100000, wr_1000000, wr_10000000, wr_100000000, wr_2400, wr_9999, wr_0, wr_1, wr_2, wr_3, wr_4, wr_5, wr_6, wr_7, wr_8, wr_9, wr_10, wr_11, wr_12, wr_13, wr_14, wr_15, wr_16, wr_17, wr_18, wr_19, wr_20, wr_21, wr_22, wr_23, wr_24, wr_25, wr_26, wr_27, wr_28, wr_29, wr_30, wr_31, wr_32, wr_33, wr_34, wr_35, wr_36, wr_37, wr_38, wr_39, wr_40, wr_41, wr_42, wr_43, wr_44, wr_45, wr_46, wr_47, wr_48, wr_49, wr_50, wr_51, wr_52, wr_53, wr_54, wr_55, wr_56, wr_57, wr_58, wr_59, wr_60, wr_61, wr_62, wr_63, wr_99, wr_100, wr_192, wr_255, wr_256, wr_343, wr_999, wr_1000, wr_2401, wr_2147483647, wr_65535, wr_m1, wr_m2, wr_m3, wr_m4, wr_m9, ak_1000, ak_1001, ak_1002, ak_0, ak_1, ak_2, ak_3, ak_4, ak_5, ak_6, ak_7, ak_8, ak_9, ak_10, ak_11, ak_12, ak_13, ak_14, ak_15, ak_16, ak_17, ak_18, ak_19, ak_20, ak_21, ak_22, ak_23, ak_24, ak_25, ak_26, ak_27, ak_28, ak_29, ak_30, ak_31, ak_32, ak_33, ak_34, ak_35, ak_36, ak_37, ak_38, ak_39, ak_40, ak_41, ak_42, ak_43, ak_44, ak_45, ak_46, ak_47, wa', na]
      exact rm_X3_find h4 (by omega)
    · obtain ⟨d1, h1⟩ := l2_X3_find hM hst hg hs9 hb (gl := gl) (m := m) (tw := 1) (lb := 3) hx hk ha (by decide) (3 - a).toNat (a + 1) d S (by clear hQ; omega) (by clear hQ; omega) hI hQ hkS
      have hI2 := xb3_I st g s bb hx ha (3 - a).toNat (a + 1) S (by clear hQ; omega) (by clear hQ; omega) hI
      have hQ2 := xb3_Q st g s bb (x := x) (a := a) hk.1 (3 - a).toNat (a + 1) S hkS
      obtain ⟨d2, x5', x6', h2⟩ := l1_X3_find hM hst hg hs9 hb (gl := gl) (m := m) hx hk (Or.inr rfl) n (a + 1) d1 (xb3 st g s bb x a (3 - a).toNat (a + 1) S) (some (vI 3)) (some (vI 4)) (by clear hQ; omega) (by clear hQ; omega) hI2 (by rw [hQ2.1]; exact hQ) hQ2.2
      refine ⟨d2, x5', x6', fun y N kk => ?_⟩
      rw [xa3, if_pos rfl, if_pos rfl] at kk
      obtain ⟨k2, hk2, h3⟩ := h2 y N kk
      obtain ⟨k3, hk3, h4⟩ := h1 y (k2 + 4) (by
        refine ⟨k2 + 3 + 1, by clear hQ; omega, ?_⟩
        rw [rs_X3_find_148]
        simp [↓ri_X3_find, rs_X3_find_0, rs_X3_find_1, rs_X3_find_4, rs_X3_find_5, rs_X3_find_8, rs_X3_find_9, rs_X3_find_12, rs_X3_find_13, rs_X3_find_16, rs_X3_find_17, rs_X3_find_20, rs_X3_find_21, rs_X3_find_22, rs_X3_find_25, rs_X3_find_26, rs_X3_find_27, rs_X3_find_30, rs_X3_find_31, rs_X3_find_34, rs_X3_find_35, rs_X3_find_36, rs_X3_find_37, rs_X3_find_38, rs_X3_find_39, rs_X3_find_40, rs_X3_find_43, rs_X3_find_44, rs_X3_find_45, rs_X3_find_46, rs_X3_find_47, rs_X3_find_50, rs_X3_find_53, rs_X3_find_54, rs_X3_find_57, rs_X3_find_60, rs_X3_find_61, rs_X3_find_64, rs_X3_find_65, rs_X3_find_66, rs_X3_find_67, rs_X3_find_70, rs_X3_find_73, rs_X3_find_74, rs_X3_find_75, rs_X3_find_78, rs_X3_find_79, rs_X3_find_80, rs_X3_find_83, rs_X3_find_85, rs_X3_find_86, rs_X3_find_90, rs_X3_find_91, rs_X3_find_94, rs_X3_find_95, rs_X3_find_98, rs_X3_find_99, rs_X3_find_102, rs_X3_find_104, rs_X3_find_106, rs_X3_find_107, rs_X3_find_110, rs_X3_find_112, rs_X3_find_113, rs_X3_find_114, rs_X3_find_117, rs_X3_find_119, rs_X3_find_121, rs_X3_find_123, rs_X3_find_125, rs_X3_find_128, rs_X3_find_129, rs_X3_find_130, rs_X3_find_133, rs_X3_find_134, rs_X3_find_135, rs_X3_find_137, rs_X3_find_139, rs_X3_find_142, rs_X3_find_145, rs_X3_find_151, rs_X3_find_154, rs_X3_find_157, rs_X3_find_160, rs_X3_find_84, rs_X3_find_161, -List.getElem?_eq_getElem, am_js, am_e, am_in, am_sl, rI, rZ, rV, rJ, rA, rC, kI, kJ, kR, am_one, am_nl, am_w8, tIc, tLc, tNul, tIld, tLld, tAld, tIst, tLst, tAst, tIinc, tI2, tDv, tL2, tLrem, tLs, tLcmp, tI2l, tL2i, tI2c, tDup, tDup2, tPop, tGo, tIfeq, tIfne, tIflt, tIfge, tIfgt, tIfle, tCmeq, tCmne, tCmlt, tCmge, tCmgt, tCmle, tNu, tTs, tGf, tPf, tGs, tIal, tIas, tBal, tBas, tAln, tSv, tSc, tSb, tSl, tSk, tCv, tCs, tCt, tMx, tMn, wr_10000, wr_100000, wr_1000000, wr_10000000, wr_100000000, wr_2400, wr_9999, wr_0, wr_1, wr_2, wr_3, wr_4, wr_5, wr_6, wr_7, wr_8, wr_9, wr_10, wr_11, wr_12, wr_13, wr_14, wr_15, wr_16, wr_17, wr_18, wr_19, wr_20, wr_21, wr_22, wr_23, wr_24, wr_25, wr_26, wr_27, wr_28, wr_29, wr_30, wr_31, wr_32, wr_33, wr_34, wr_35, wr_36, wr_37, wr_38, wr_39, wr_40, wr_41, wr_42, wr_43, wr_44, wr_45, wr_46, wr_47, wr_48, wr_49, wr_50, wr_51, wr_52, wr_53, wr_54, wr_55, wr_56, wr_57, wr_58, wr_59, wr_60, wr_61, wr_62, wr_63, wr_99, wr_100, wr_192, wr_255, wr_256, wr_343, wr_999, wr_1000, wr_2401, wr_2147483647, wr_65535, wr_m1, wr_m2, wr_m3, wr_m4, wr_m9, ak_1000, ak_1001, ak_1002, ak_0, ak_1, ak_2, ak_3, ak_4, ak_5, ak_6, ak_7, ak_8, ak_9, ak_10, ak_11, ak_12, ak_13, ak_14, ak_15, ak_16, ak_17, ak_18, ak_19, ak_20, ak_21, ak_22, ak_23, ak_24, ak_25, ak_26, ak_27, ak_28, ak_29, ak_30, ak_31, ak_32, ak_33, ak_34, ak_35, ak_36, ak_37, ak_38, ak_39, ak_40, ak_41, ak_42, ak_43, ak_44, ak_45, ak_46, ak_47]
        exact rm_X3_find h3 (by clear hQ hQ2; omega))
      refine ⟨k3 + 19 + 1, by clear hQ hQ2; omega, ?_⟩
      rw [rs_X3_find_88]
      clear kk h1 h2 hQ hQ2
      simp [↓ri_X3_find, rs_X3_find_0, rs_X3_find_1, rs_X3_find_4, rs_X3_find_5, rs_X3_find_8, rs_X3_find_9, rs_X3_find_12, rs_X3_find_13, rs_X3_find_16, rs_X3_find_17, rs_X3_find_20, rs_X3_find_21, rs_X3_find_22, rs_X3_find_25, rs_X3_find_26, rs_X3_find_27, rs_X3_find_30, rs_X3_find_31, rs_X3_find_34, rs_X3_find_35, rs_X3_find_36, rs_X3_find_37, rs_X3_find_38, rs_X3_find_39, rs_X3_find_40, rs_X3_find_43, rs_X3_find_44, rs_X3_find_45, rs_X3_find_46, rs_X3_find_47, rs_X3_find_50, rs_X3_find_53, rs_X3_find_54, rs_X3_find_57, rs_X3_find_60, rs_X3_find_61, rs_X3_find_64, rs_X3_find_65, rs_X3_find_66, rs_X3_find_67, rs_X3_find_70, rs_X3_find_73, rs_X3_find_74, rs_X3_find_75, rs_X3_find_78, rs_X3_find_79, rs_X3_find_80, rs_X3_find_83, rs_X3_find_85, rs_X3_find_86, rs_X3_find_90, rs_X3_find_91, rs_X3_find_94, rs_X3_find_95, rs_X3_find_98, rs_X3_find_99, rs_X3_find_102, rs_X3_find_104, rs_X3_find_106, rs_X3_find_107, rs_X3_find_110, rs_X3_find_112, rs_X3_find_113, rs_X3_find_114, rs_X3_find_117, rs_X3_find_119, rs_X3_find_123, rs_X3_find_125, rs_X3_find_128, rs_X3_find_129, rs_X3_find_130, rs_X3_find_133, rs_X3_find_134, rs_X3_find_135, rs_X3_find_137, rs_X3_find_139, rs_X3_find_142, rs_X3_find_145, rs_X3_find_148, rs_X3_find_151, rs_X3_find_154, rs_X3_find_157, rs_X3_find_160, rs_X3_find_84, rs_X3_find_161, -List.getElem?_eq_getElem, am_js, am_e, am_in, am_sl, rI, rZ, rV, rJ, rA, rC, kI, kJ, kR, am_one, am_nl, am_w8, tIc, tLc, tNul, tIld, tLld, tAld, tIst, tLst, tAst, tIinc, tI2, tDv, tL2, tLrem, tLs, tLcmp, tI2l, tL2i, tI2c, tDup, tDup2, tPop, tGo, tIfeq, tIfne, tIflt, tIfge, tIfgt, tIfle, tCmeq, tCmne, tCmlt, tCmge, tCmgt, tCmle, tNu, tTs, tGf, tPf, tGs, tIal, tIas, tBal, tBas, tAln, tSv, tSc, tSb, tSl, tSk, tCv, tCs, tCt, tMx, tMn, wr_10000, wr_100000, wr_1000000, wr_10000000, wr_100000000, wr_2400, wr_9999, wr_0, wr_1, wr_2, wr_3, wr_4, wr_5, wr_6, wr_7, wr_8, wr_9, wr_10, wr_11, wr_12, wr_13, wr_14, wr_15, wr_16, wr_17, wr_18, wr_19, wr_20, wr_21, wr_22, wr_23, wr_24, wr_25, wr_26, wr_27, wr_28, wr_29, wr_30, wr_31, wr_32, wr_33, wr_34, wr_35, wr_36, wr_37, wr_38, wr_39, wr_40, wr_41, wr_42, wr_43, wr_44, wr_45, wr_46, wr_47, wr_48, wr_49, wr_50, wr_51, wr_52, wr_53, wr_54, wr_55, wr_56, wr_57, wr_58, wr_59, wr_60, wr_61, wr_62, wr_63, wr_99, wr_100, wr_192, wr_255, wr_256, wr_343, wr_999, wr_1000, wr_2401, wr_2147483647, wr_65535, wr_m1, wr_m2, wr_m3, wr_m4, wr_m9, ak_1000, ak_1001, ak_1002, ak_0, ak_1, ak_2, ak_3, ak_4, ak_5, ak_6, ak_7, ak_8, ak_9, ak_10, ak_11, ak_12, ak_13, ak_14, ak_15, ak_16, ak_17, ak_18, ak_19, ak_20, ak_21, ak_22, ak_23, ak_24, ak_25, ak_26, ak_27, ak_28, ak_29, ak_30, ak_31, ak_32, ak_33, ak_34, ak_35, ak_36, ak_37, ak_38, ak_39, ak_40, ak_41, ak_42, ak_43, ak_44, ak_45, ak_46, ak_47, wa', na]
      exact rm_X3_find h4 (by omega)
theorem lp_X3_find {M : List AC} {st : Int} {g s bb : F4} (hM : H3 M st g s bb) (hst : 1 ≤ st ∧ st ≤ 3) (hg : i4 1 9 g) (hs9 : i4 0 9 s) (hb : i4 0 3 bb) {gl m tw : Int} (hm : 1 ≤ m ∧ m ≤ 6) (htw : tw = 0 ∨ tw = 1) : ∀ (n : Nat) (k : Int) (d : F4) (S : S3) (x4 x5 x6 : Option AV), k + n = 2401 → 0 ≤ k → I3 S →
    ∃ d' : F4, Ru rx_X3_find (380 * n + 20) 45 [some (vR 43), some (vI m), some (vI tw), some (vI k), x4, x5, x6] [] (U3 M gl d S) (some (vI (if (bf3 st g s bb m tw n k S).2 = -9 then 0 else 1)), U3 M (if (bf3 st g s bb m tw n k S).2 = -9 then gl else (bf3 st g s bb m tw n k S).2) d' (bf3 st g s bb m tw n k S).1)
  | 0, k, d, S, x4, x5, x6, hk, hk0, hI => by
    have e : k = 2401 := by omega
    subst e
    obtain ⟨-, v43, -⟩ := U3_at hM gl d S
    have hz := hI.2.2.1
    have wz' : wr S.2.1 = S.2.1 := wr_id (by omega) (by omega)
    refine ⟨d, 19 + 1, by omega, ?_⟩
    rw [rs_X3_find_45, bf3, if_pos rfl, if_pos rfl]
    generalize U3 M gl d S = V at v43 ⊢
    simp only [se] at v43
    simp [↓ri_X3_find, rs_X3_find_0, rs_X3_find_1, rs_X3_find_4, rs_X3_find_5, rs_X3_find_8, rs_X3_find_9, rs_X3_find_12, rs_X3_find_13, rs_X3_find_16, rs_X3_find_17, rs_X3_find_20, rs_X3_find_21, rs_X3_find_22, rs_X3_find_25, rs_X3_find_26, rs_X3_find_27, rs_X3_find_30, rs_X3_find_31, rs_X3_find_34, rs_X3_find_35, rs_X3_find_36, rs_X3_find_37, rs_X3_find_38, rs_X3_find_39, rs_X3_find_40, rs_X3_find_43, rs_X3_find_44, rs_X3_find_46, rs_X3_find_47, rs_X3_find_50, rs_X3_find_53, rs_X3_find_54, rs_X3_find_57, rs_X3_find_60, rs_X3_find_61, rs_X3_find_64, rs_X3_find_65, rs_X3_find_66, rs_X3_find_67, rs_X3_find_70, rs_X3_find_73, rs_X3_find_74, rs_X3_find_75, rs_X3_find_78, rs_X3_find_79, rs_X3_find_80, rs_X3_find_83, rs_X3_find_85, rs_X3_find_86, rs_X3_find_88, rs_X3_find_90, rs_X3_find_91, rs_X3_find_94, rs_X3_find_95, rs_X3_find_98, rs_X3_find_99, rs_X3_find_102, rs_X3_find_104, rs_X3_find_106, rs_X3_find_107, rs_X3_find_110, rs_X3_find_112, rs_X3_find_113, rs_X3_find_114, rs_X3_find_117, rs_X3_find_119, rs_X3_find_121, rs_X3_find_123, rs_X3_find_125, rs_X3_find_128, rs_X3_find_129, rs_X3_find_130, rs_X3_find_133, rs_X3_find_134, rs_X3_find_135, rs_X3_find_137, rs_X3_find_139, rs_X3_find_142, rs_X3_find_145, rs_X3_find_148, rs_X3_find_151, rs_X3_find_154, rs_X3_find_157, rs_X3_find_160, rs_X3_find_84, rs_X3_find_161, -List.getElem?_eq_getElem, am_js, am_e, am_in, am_sl, rI, rZ, rV, rJ, rA, rC, kI, kJ, kR, am_one, am_nl, am_w8, tIc, tLc, tNul, tIld, tLld, tAld, tIst, tLst, tAst, tIinc, tI2, tDv, tL2, tLrem, tLs, tLcmp, tI2l, tL2i, tI2c, tDup, tDup2, tPop, tGo, tIfeq, tIfne, tIflt, tIfge, tIfgt, tIfle, tCmeq, tCmne, tCmlt, tCmge, tCmgt, tCmle, tNu, tTs, tGf, tPf, tGs, tIal, tIas, tBal, tBas, tAln, tSv, tSc, tSb, tSl, tSk, tCv, tCs, tCt, tMx, tMn, wr_10000, wr_100000, wr_1000000, wr_10000000, wr_100000000, wr_2400, wr_9999, wr_0, wr_1, wr_2, wr_3, wr_4, wr_5, wr_6, wr_7, wr_8, wr_9, wr_10, wr_11, wr_12, wr_13, wr_14, wr_15, wr_16, wr_17, wr_18, wr_19, wr_20, wr_21, wr_22, wr_23, wr_24, wr_25, wr_26, wr_27, wr_28, wr_29, wr_30, wr_31, wr_32, wr_33, wr_34, wr_35, wr_36, wr_37, wr_38, wr_39, wr_40, wr_41, wr_42, wr_43, wr_44, wr_45, wr_46, wr_47, wr_48, wr_49, wr_50, wr_51, wr_52, wr_53, wr_54, wr_55, wr_56, wr_57, wr_58, wr_59, wr_60, wr_61, wr_62, wr_63, wr_99, wr_100, wr_192, wr_255, wr_256, wr_343, wr_999, wr_1000, wr_2401, wr_2147483647, wr_65535, wr_m1, wr_m2, wr_m3, wr_m4, wr_m9, ak_1000, ak_1001, ak_1002, ak_0, ak_1, ak_2, ak_3, ak_4, ak_5, ak_6, ak_7, ak_8, ak_9, ak_10, ak_11, ak_12, ak_13, ak_14, ak_15, ak_16, ak_17, ak_18, ak_19, ak_20, ak_21, ak_22, ak_23, ak_24, ak_25, ak_26, ak_27, ak_28, ak_29, ak_30, ak_31, ak_32, ak_33, ak_34, ak_35, ak_36, ak_37, ak_38, ak_39, ak_40, ak_41, ak_42, ak_43, ak_44, ak_45, ak_46, ak_47, v43, wz', hz]
  | n + 1, k, d, S, x4, x5, x6, hk, hk0, hI => by
    have wk : wr k = k := wr_id (by omega) (by omega)
    have k24 : k < 2401 := by omega
    have nk24 : ¬ 2401 ≤ k := by omega
    obtain ⟨-, v43, v44, -, -⟩ := U3_at hM gl d S
    have hz := hI.2.2.1
    have wz' : wr S.2.1 = S.2.1 := wr_id (by omega) (by omega)
    have l1 := hI.1.1
    by_cases hkl : k < S.2.1
    · have nk : ¬ S.2.1 ≤ k := by omega
      have hx := hI.2.2.2 k.toNat (by omega)
      have q2 := sp_X3_isDeep (S.1.getD k.toNat 0) m hx (by omega) (U3 M gl d S)
      by_cases hd : m ≤ (su (S.1.getD k.toNat 0)).1 ∧ m ≤ (su (S.1.getD k.toNat 0)).2.1 ∧ m ≤ (su (S.1.getD k.toNat 0)).2.2.1 ∧ m ≤ (su (S.1.getD k.toNat 0)).2.2.2
      · rw [if_pos hd] at q2
        have e : bf3 st g s bb m tw (n + 1) k S = (S, S.1.getD k.toNat 0) := by rw [bf3, if_pos hkl, if_pos hd]
        rw [e]
        clear e hd
        generalize hxx : S.1.getD k.toNat 0 = x at q2 hx
        have nx9 : ¬ x = -9 := by clear hxx; omega
        dsimp only
        rw [if_neg nx9, if_neg nx9]
        refine ⟨d, 39 + 1, by clear hxx; omega, ?_⟩
        rw [rs_X3_find_45]
        have fin : U3 M x d S = (U3 M gl d S).set 43 (se S.2.1 x) := by
          unfold U3
          simp only [ss (i := 10) (j := 43) (by decide), ss (i := 10) (j := 44) (by decide), ss (i := 10) (j := 45) (by decide), ss (i := 10) (j := 46) (by decide), ss (i := 43) (j := 44) (by decide), ss (i := 43) (j := 45) (by decide), ss (i := 43) (j := 46) (by decide), ss (i := 44) (j := 45) (by decide), ss (i := 44) (j := 46) (by decide), ss (i := 45) (j := 46) (by decide), List.set_set]
        rw [fin]
        clear fin
        generalize U3 M gl d S = V at q2 v43 v44 ⊢
        simp only [se] at v43 ⊢
        simp [↓ri_X3_find, rs_X3_find_0, rs_X3_find_1, rs_X3_find_4, rs_X3_find_5, rs_X3_find_8, rs_X3_find_9, rs_X3_find_12, rs_X3_find_13, rs_X3_find_16, rs_X3_find_17, rs_X3_find_20, rs_X3_find_21, rs_X3_find_22, rs_X3_find_25, rs_X3_find_26, rs_X3_find_27, rs_X3_find_30, rs_X3_find_31, rs_X3_find_34, rs_X3_find_35, rs_X3_find_36, rs_X3_find_37, rs_X3_find_38, rs_X3_find_39, rs_X3_find_40, rs_X3_find_43, rs_X3_find_44, rs_X3_find_46, rs_X3_find_47, rs_X3_find_50, rs_X3_find_53, rs_X3_find_54, rs_X3_find_57, rs_X3_find_60, rs_X3_find_61, rs_X3_find_64, rs_X3_find_65, rs_X3_find_66, rs_X3_find_67, rs_X3_find_70, rs_X3_find_73, rs_X3_find_74, rs_X3_find_75, rs_X3_find_78, rs_X3_find_79, rs_X3_find_80, rs_X3_find_83, rs_X3_find_85, rs_X3_find_86, rs_X3_find_88, rs_X3_find_90, rs_X3_find_91, rs_X3_find_94, rs_X3_find_95, rs_X3_find_98, rs_X3_find_99, rs_X3_find_102, rs_X3_find_104, rs_X3_find_106, rs_X3_find_107, rs_X3_find_110, rs_X3_find_112, rs_X3_find_113, rs_X3_find_114, rs_X3_find_117, rs_X3_find_119, rs_X3_find_121, rs_X3_find_123, rs_X3_find_125, rs_X3_find_128, rs_X3_find_129, rs_X3_find_130, rs_X3_find_133, rs_X3_find_134, rs_X3_find_135, rs_X3_find_137, rs_X3_find_139, rs_X3_find_142, rs_X3_find_145, rs_X3_find_148, rs_X3_find_151, rs_X3_find_154, rs_X3_find_157, rs_X3_find_160, rs_X3_find_84, rs_X3_find_161, -List.getElem?_eq_getElem, am_js, am_e, am_in, am_sl, rI, rZ, rV, rJ, rA, rC, kI, kJ, kR, am_one, am_nl, am_w8, tIc, tLc, tNul, tIld, tLld, tAld, tIst, tLst, tAst, tIinc, tI2, tDv, tL2, tLrem, tLs, tLcmp, tI2l, tL2i, tI2c, tDup, tDup2, tPop, tGo, tIfeq, tIfne, tIflt, tIfge, tIfgt, tIfle, tCmeq, tCmne, tCmlt, tCmge, tCmgt, tCmle, tNu, tTs, tGf, tPf, tGs, tIal, tIas, tBal, tBas, tAln, tSv, tSc, tSb, tSl, tSk, tCv, tCs, tCt, tMx, tMn, wr_10000, wr_100000, wr_1000000, wr_10000000, wr_100000000, wr_2400, wr_9999, wr_0, wr_1, wr_2, wr_3, wr_4, wr_5, wr_6, wr_7, wr_8, wr_9, wr_10, wr_11, wr_12, wr_13, wr_14, wr_15, wr_16, wr_17, wr_18, wr_19, wr_20, wr_21, wr_22, wr_23, wr_24, wr_25, wr_26, wr_27, wr_28, wr_29, wr_30, wr_31, wr_32, wr_33, wr_34, wr_35, wr_36, wr_37, wr_38, wr_39, wr_40, wr_41, wr_42, wr_43, wr_44, wr_45, wr_46, wr_47, wr_48, wr_49, wr_50, wr_51, wr_52, wr_53, wr_54, wr_55, wr_56, wr_57, wr_58, wr_59, wr_60, wr_61, wr_62, wr_63, wr_99, wr_100, wr_192, wr_255, wr_256, wr_343, wr_999, wr_1000, wr_2401, wr_2147483647, wr_65535, wr_m1, wr_m2, wr_m3, wr_m4, wr_m9, ak_1000, ak_1001, ak_1002, ak_0, ak_1, ak_2, ak_3, ak_4, ak_5, ak_6, ak_7, ak_8, ak_9, ak_10, ak_11, ak_12, ak_13, ak_14, ak_15, ak_16, ak_17, ak_18, ak_19, ak_20, ak_21, ak_22, ak_23, ak_24, ak_25, ak_26, ak_27, ak_28, ak_29, ak_30, ak_31, ak_32, ak_33, ak_34, ak_35, ak_36, ak_37, ak_38, ak_39, ak_40, ak_41, ak_42, ak_43, ak_44, ak_45, ak_46, ak_47, -List.getD_eq_getElem?_getD, v43, v44, wk, wz', nk, nk24, k24, hk0, l1, hxx, q2]
      · rw [if_neg hd] at q2
        have e : bf3 st g s bb m tw (n + 1) k S = bf3 st g s bb m tw n (k + 1) (xa3 st g s bb tw (S.1.getD k.toNat 0) 4 0 S) := by rw [bf3, if_pos hkl, if_neg hd]
        rw [e]
        clear e hd
        obtain ⟨d1, y5, y6, h1⟩ := l1_X3_find hM hst hg hs9 hb (gl := gl) (m := m) hx ⟨hk0, k24⟩ htw 4 0 d S x5 x6 (by omega) (by omega) hI rfl hkl
        have hI2 := xa3_I st g s bb hx htw 4 0 S (by omega) (by omega) hI
        obtain ⟨d', k', hk', h'⟩ := lp_X3_find hM hst hg hs9 hb (gl := gl) hm htw n (k + 1) d1 (xa3 st g s bb tw (S.1.getD k.toNat 0) 4 0 S) (some (vI 4)) y5 y6 (by omega) (by omega) hI2
        generalize bf3 st g s bb m tw n (k + 1) (xa3 st g s bb tw (S.1.getD k.toNat 0) 4 0 S) = R at h' ⊢
        obtain ⟨k2, hk2, h2⟩ := h1 (some (vI (if R.2 = -9 then 0 else 1)), U3 M (if R.2 = -9 then gl else R.2) d' R.1) (k' + 10) (by
          refine ⟨k' + 9 + 1, by omega, ?_⟩
          rw [rs_X3_find_154]
          simp [↓ri_X3_find, rs_X3_find_0, rs_X3_find_1, rs_X3_find_4, rs_X3_find_5, rs_X3_find_8, rs_X3_find_9, rs_X3_find_12, rs_X3_find_13, rs_X3_find_16, rs_X3_find_17, rs_X3_find_20, rs_X3_find_21, rs_X3_find_22, rs_X3_find_25, rs_X3_find_26, rs_X3_find_27, rs_X3_find_30, rs_X3_find_31, rs_X3_find_34, rs_X3_find_35, rs_X3_find_36, rs_X3_find_37, rs_X3_find_38, rs_X3_find_39, rs_X3_find_40, rs_X3_find_43, rs_X3_find_44, rs_X3_find_46, rs_X3_find_47, rs_X3_find_50, rs_X3_find_53, rs_X3_find_54, rs_X3_find_57, rs_X3_find_60, rs_X3_find_61, rs_X3_find_64, rs_X3_find_65, rs_X3_find_66, rs_X3_find_67, rs_X3_find_70, rs_X3_find_73, rs_X3_find_74, rs_X3_find_75, rs_X3_find_78, rs_X3_find_79, rs_X3_find_80, rs_X3_find_83, rs_X3_find_85, rs_X3_find_86, rs_X3_find_88, rs_X3_find_90, rs_X3_find_91, rs_X3_find_94, rs_X3_find_95, rs_X3_find_98, rs_X3_find_99, rs_X3_find_102, rs_X3_find_104, rs_X3_find_106, rs_X3_find_107, rs_X3_find_110, rs_X3_find_112, rs_X3_find_113, rs_X3_find_114, rs_X3_find_117, rs_X3_find_119, rs_X3_find_121, rs_X3_find_123, rs_X3_find_125, rs_X3_find_128, rs_X3_find_129, rs_X3_find_130, rs_X3_find_133, rs_X3_find_134, rs_X3_find_135, rs_X3_find_137, rs_X3_find_139, rs_X3_find_142, rs_X3_find_145, rs_X3_find_148, rs_X3_find_151, rs_X3_find_157, rs_X3_find_160, rs_X3_find_84, rs_X3_find_161, -List.getElem?_eq_getElem, am_js, am_e, am_in, am_sl, rI, rZ, rV, rJ, rA, rC, kI, kJ, kR, am_one, am_nl, am_w8, tIc, tLc, tNul, tIld, tLld, tAld, tIst, tLst, tAst, tIinc, tI2, tDv, tL2, tLrem, tLs, tLcmp, tI2l, tL2i, tI2c, tDup, tDup2, tPop, tGo, tIfeq, tIfne, tIflt, tIfge, tIfgt, tIfle, tCmeq, tCmne, tCmlt, tCmge, tCmgt, tCmle, tNu, tTs, tGf, tPf, tGs, tIal, tIas, tBal, tBas, tAln, tSv, tSc, tSb, tSl, tSk, tCv, tCs, tCt, tMx, tMn, wr_10000, wr_100000, wr_1000000, wr_10000000, wr_100000000, wr_2400, wr_9999, wr_0, wr_1, wr_2, wr_3, wr_4, wr_5, wr_6, wr_7, wr_8, wr_9, wr_10, wr_11, wr_12, wr_13, wr_14, wr_15, wr_16, wr_17, wr_18, wr_19, wr_20, wr_21, wr_22, wr_23, wr_24, wr_25, wr_26, wr_27, wr_28, wr_29, wr_30, wr_31, wr_32, wr_33, wr_34, wr_35, wr_36, wr_37, wr_38, wr_39, wr_40, wr_41, wr_42, wr_43, wr_44, wr_45, wr_46, wr_47, wr_48, wr_49, wr_50, wr_51, wr_52, wr_53, wr_54, wr_55, wr_56, wr_57, wr_58, wr_59, wr_60, wr_61, wr_62, wr_63, wr_99, wr_100, wr_192, wr_255, wr_256, wr_343, wr_999, wr_1000, wr_2401, wr_2147483647, wr_65535, wr_m1, wr_m2, wr_m3, wr_m4, wr_m9, ak_1000, ak_1001, ak_1002, ak_0, ak_1, ak_2, ak_3, ak_4, ak_5, ak_6, ak_7, ak_8, ak_9, ak_10, ak_11, ak_12, ak_13, ak_14, ak_15, ak_16, ak_17, ak_18, ak_19, ak_20, ak_21, ak_22, ak_23, ak_24, ak_25, ak_26, ak_27, ak_28, ak_29, ak_30, ak_31, ak_32, ak_33, ak_34, ak_35, ak_36, ak_37, ak_38, ak_39, ak_40, ak_41, ak_42, ak_43, ak_44, ak_45, ak_46, ak_47]
          exact rm_X3_find h' (by omega))
        clear h1
        refine ⟨d', k2 + 39 + 1, by omega, ?_⟩
        rw [rs_X3_find_45]
        generalize hxx : S.1.getD k.toNat 0 = x at q2
        generalize U3 M gl d S = V at q2 v43 v44 h2 ⊢
        simp only [se] at v43
        simp [↓ri_X3_find, rs_X3_find_0, rs_X3_find_1, rs_X3_find_4, rs_X3_find_5, rs_X3_find_8, rs_X3_find_9, rs_X3_find_12, rs_X3_find_13, rs_X3_find_16, rs_X3_find_17, rs_X3_find_20, rs_X3_find_21, rs_X3_find_22, rs_X3_find_25, rs_X3_find_26, rs_X3_find_27, rs_X3_find_30, rs_X3_find_31, rs_X3_find_34, rs_X3_find_35, rs_X3_find_36, rs_X3_find_37, rs_X3_find_38, rs_X3_find_39, rs_X3_find_40, rs_X3_find_43, rs_X3_find_44, rs_X3_find_46, rs_X3_find_47, rs_X3_find_50, rs_X3_find_53, rs_X3_find_54, rs_X3_find_57, rs_X3_find_60, rs_X3_find_61, rs_X3_find_64, rs_X3_find_65, rs_X3_find_66, rs_X3_find_67, rs_X3_find_70, rs_X3_find_73, rs_X3_find_74, rs_X3_find_75, rs_X3_find_78, rs_X3_find_79, rs_X3_find_80, rs_X3_find_83, rs_X3_find_85, rs_X3_find_86, rs_X3_find_90, rs_X3_find_91, rs_X3_find_94, rs_X3_find_95, rs_X3_find_98, rs_X3_find_99, rs_X3_find_102, rs_X3_find_104, rs_X3_find_106, rs_X3_find_107, rs_X3_find_110, rs_X3_find_112, rs_X3_find_113, rs_X3_find_114, rs_X3_find_117, rs_X3_find_119, rs_X3_find_121, rs_X3_find_123, rs_X3_find_125, rs_X3_find_128, rs_X3_find_129, rs_X3_find_130, rs_X3_find_133, rs_X3_find_134, rs_X3_find_135, rs_X3_find_137, rs_X3_find_139, rs_X3_find_142, rs_X3_find_145, rs_X3_find_148, rs_X3_find_151, rs_X3_find_154, rs_X3_find_157, rs_X3_find_160, rs_X3_find_84, rs_X3_find_161, -List.getElem?_eq_getElem, am_js, am_e, am_in, am_sl, rI, rZ, rV, rJ, rA, rC, kI, kJ, kR, am_one, am_nl, am_w8, tIc, tLc, tNul, tIld, tLld, tAld, tIst, tLst, tAst, tIinc, tI2, tDv, tL2, tLrem, tLs, tLcmp, tI2l, tL2i, tI2c, tDup, tDup2, tPop, tGo, tIfeq, tIfne, tIflt, tIfge, tIfgt, tIfle, tCmeq, tCmne, tCmlt, tCmge, tCmgt, tCmle, tNu, tTs, tGf, tPf, tGs, tIal, tIas, tBal, tBas, tAln, tSv, tSc, tSb, tSl, tSk, tCv, tCs, tCt, tMx, tMn, wr_10000, wr_100000, wr_1000000, wr_10000000, wr_100000000, wr_2400, wr_9999, wr_0, wr_1, wr_2, wr_3, wr_4, wr_5, wr_6, wr_7, wr_8, wr_9, wr_10, wr_11, wr_12, wr_13, wr_14, wr_15, wr_16, wr_17, wr_18, wr_19, wr_20, wr_21, wr_22, wr_23, wr_24, wr_25, wr_26, wr_27, wr_28, wr_29, wr_30, wr_31, wr_32, wr_33, wr_34, wr_35, wr_36, wr_37, wr_38, wr_39, wr_40, wr_41, wr_42, wr_43, wr_44, wr_45, wr_46, wr_47, wr_48, wr_49, wr_50, wr_51, wr_52, wr_53, wr_54, wr_55, wr_56, wr_57, wr_58, wr_59, wr_60, wr_61, wr_62, wr_63, wr_99, wr_100, wr_192, wr_255, wr_256, wr_343, wr_999, wr_1000, wr_2401, wr_2147483647, wr_65535, wr_m1, wr_m2, wr_m3, wr_m4, wr_m9, ak_1000, ak_1001, ak_1002, ak_0, ak_1, ak_2, ak_3, ak_4, ak_5, ak_6, ak_7, ak_8, ak_9, ak_10, ak_11, ak_12, ak_13, ak_14, ak_15, ak_16, ak_17, ak_18, ak_19, ak_20, ak_21, ak_22, ak_23, ak_24, ak_25, ak_26, ak_27, ak_28, ak_29, ak_30, ak_31, ak_32, ak_33, ak_34, ak_35, ak_36, ak_37, ak_38, ak_39, ak_40, ak_41, ak_42, ak_43, ak_44, ak_45, ak_46, ak_47, -List.getD_eq_getElem?_getD, v43, v44, wk, wz', nk, nk24, k24, hk0, l1, hxx, q2]
        exact rm_X3_find h2 (Nat.le_add_right _ _)
    · have nk : S.2.1 ≤ k := by omega
      refine ⟨d, 19 + 1, by omega, ?_⟩
      rw [rs_X3_find_45, bf3, if_neg hkl]
      dsimp only
      rw [if_pos rfl, if_pos rfl]
      generalize U3 M gl d S = V at v43 ⊢
      simp only [se] at v43
      simp [↓ri_X3_find, rs_X3_find_0, rs_X3_find_1, rs_X3_find_4, rs_X3_find_5, rs_X3_find_8, rs_X3_find_9, rs_X3_find_12, rs_X3_find_13, rs_X3_find_16, rs_X3_find_17, rs_X3_find_20, rs_X3_find_21, rs_X3_find_22, rs_X3_find_25, rs_X3_find_26, rs_X3_find_27, rs_X3_find_30, rs_X3_find_31, rs_X3_find_34, rs_X3_find_35, rs_X3_find_36, rs_X3_find_37, rs_X3_find_38, rs_X3_find_39, rs_X3_find_40, rs_X3_find_43, rs_X3_find_44, rs_X3_find_46, rs_X3_find_47, rs_X3_find_50, rs_X3_find_53, rs_X3_find_54, rs_X3_find_57, rs_X3_find_60, rs_X3_find_61, rs_X3_find_64, rs_X3_find_65, rs_X3_find_66, rs_X3_find_67, rs_X3_find_70, rs_X3_find_73, rs_X3_find_74, rs_X3_find_75, rs_X3_find_78, rs_X3_find_79, rs_X3_find_80, rs_X3_find_83, rs_X3_find_85, rs_X3_find_86, rs_X3_find_88, rs_X3_find_90, rs_X3_find_91, rs_X3_find_94, rs_X3_find_95, rs_X3_find_98, rs_X3_find_99, rs_X3_find_102, rs_X3_find_104, rs_X3_find_106, rs_X3_find_107, rs_X3_find_110, rs_X3_find_112, rs_X3_find_113, rs_X3_find_114, rs_X3_find_117, rs_X3_find_119, rs_X3_find_121, rs_X3_find_123, rs_X3_find_125, rs_X3_find_128, rs_X3_find_129, rs_X3_find_130, rs_X3_find_133, rs_X3_find_134, rs_X3_find_135, rs_X3_find_137, rs_X3_find_139, rs_X3_find_142, rs_X3_find_145, rs_X3_find_148, rs_X3_find_151, rs_X3_find_154, rs_X3_find_157, rs_X3_find_160, rs_X3_find_84, rs_X3_find_161, -List.getElem?_eq_getElem, am_js, am_e, am_in, am_sl, rI, rZ, rV, rJ, rA, rC, kI, kJ, kR, am_one, am_nl, am_w8, tIc, tLc, tNul, tIld, tLld, tAld, tIst, tLst, tAst, tIinc, tI2, tDv, tL2, tLrem, tLs, tLcmp, tI2l, tL2i, tI2c, tDup, tDup2, tPop, tGo, tIfeq, tIfne, tIflt, tIfge, tIfgt, tIfle, tCmeq, tCmne, tCmlt, tCmge, tCmgt, tCmle, tNu, tTs, tGf, tPf, tGs, tIal, tIas, tBal, tBas, tAln, tSv, tSc, tSb, tSl, tSk, tCv, tCs, tCt, tMx, tMn, wr_10000, wr_100000, wr_1000000, wr_10000000, wr_100000000, wr_2400, wr_9999, wr_0, wr_1, wr_2, wr_3, wr_4, wr_5, wr_6, wr_7, wr_8, wr_9, wr_10, wr_11, wr_12, wr_13, wr_14, wr_15, wr_16, wr_17, wr_18, wr_19, wr_20, wr_21, wr_22, wr_23, wr_24, wr_25, wr_26, wr_27, wr_28, wr_29, wr_30, wr_31, wr_32, wr_33, wr_34, wr_35, wr_36, wr_37, wr_38, wr_39, wr_40, wr_41, wr_42, wr_43, wr_44, wr_45, wr_46, wr_47, wr_48, wr_49, wr_50, wr_51, wr_52, wr_53, wr_54, wr_55, wr_56, wr_57, wr_58, wr_59, wr_60, wr_61, wr_62, wr_63, wr_99, wr_100, wr_192, wr_255, wr_256, wr_343, wr_999, wr_1000, wr_2401, wr_2147483647, wr_65535, wr_m1, wr_m2, wr_m3, wr_m4, wr_m9, ak_1000, ak_1001, ak_1002, ak_0, ak_1, ak_2, ak_3, ak_4, ak_5, ak_6, ak_7, ak_8, ak_9, ak_10, ak_11, ak_12, ak_13, ak_14, ak_15, ak_16, ak_17, ak_18, ak_19, ak_20, ak_21, ak_22, ak_23, ak_24, ak_25, ak_26, ak_27, ak_28, ak_29, ak_30, ak_31, ak_32, ak_33, ak_34, ak_35, ak_36, ak_37, ak_38, ak_39, ak_40, ak_41, ak_42, ak_43, ak_44, ak_45, ak_46, ak_47, v43, wk, wz', nk]
end
