noncomputable section
/-- a row filled from k on -/
def fil (v : Int) : Nat → Nat → List Int → List Int
  | 0, _, l => l
  | n + 1, k, l => fil v n (k + 1) (l.set k v)
theorem fil_len (v : Int) : ∀ (n k : Nat) (l : List Int), (fil v n k l).length = l.length
  | 0, _, _ => rfl
  | n + 1, k, l => by rw [fil, fil_len v n (k + 1), List.length_set]
theorem fil_get (v : Int) : ∀ (n k : Nat) (l : List Int) (i : Nat), (fil v n k l)[i]? = if k ≤ i ∧ i < k + n ∧ i < l.length then some v else l[i]?
  | 0, k, l, i => by
    rw [if_neg (by omega)]
    rfl
  | n + 1, k, l, i => by
    rw [fil, fil_get v n (k + 1) (l.set k v) i, List.length_set]
    by_cases h : k = i
    · subst h
      rw [if_neg (by omega)]
      by_cases h2 : k < l.length
      · rw [if_pos (by omega), List.getElem?_set_self h2]
      · rw [if_neg (by omega), List.getElem?_eq_none (by rw [List.length_set]; omega), List.getElem?_eq_none (by omega)]
    · rw [List.getElem?_set_ne h]
      by_cases h2 : k + 1 ≤ i ∧ i < k + 1 + n ∧ i < l.length
      · rw [if_pos h2, if_pos (by omega)]
      · rw [if_neg h2, if_neg (by omega)]
theorem fil_rep (v : Int) (l : List Int) (N : Nat) (h : l.length = N) : fil v N 0 l = List.replicate N v := by
  apply List.ext_getElem?
  intro i
  rw [fil_get, List.getElem?_replicate, h]
  by_cases hi : i < N
  · rw [if_pos ⟨by omega, by omega, hi⟩, if_pos hi]
  · rw [if_neg (by omega), if_neg hi, List.getElem?_eq_none (by omega)]
def F9 : List Int := List.replicate 2401 (-9)
theorem F9_len : F9.length = 2401 := List.length_replicate
theorem F9_get (i : Nat) : F9.getD i 0 = if i < 2401 then -9 else 0 := by
  unfold F9
  rw [List.getD_eq_getElem?_getD, List.getElem?_replicate]
  split <;> rfl
theorem cv_rep : ∀ n : Nat, cv (List.replicate n (-9)) = 0
  | 0 => rfl
  | n + 1 => by
    rw [List.replicate_succ, cv, cv_rep n]
    rfl
/-- the search as it begins at the state x -/
def S0 (x : Int) (B P L : List Int) : S6 := (F9.set x.toNat 0, B, P, L.set 0 x, 1)
theorem S0_I6 {x : Int} {B P L : List Int} (hx : 0 ≤ x ∧ x < 2401) (h1 : B.length = 2401) (h2 : P.length = 2401) (h3 : L.length = 2401) : I6 (S0 x B P L) := by
  have hl : x.toNat < F9.length := by rw [F9_len]; omega
  unfold S0
  refine ⟨⟨?_, h1, h2, ?_⟩, ?_, ?_, ?_, ?_⟩
  · dsimp only; rw [List.length_set]; exact F9_len
  · dsimp only; rw [List.length_set]; exact h3
  · intro i
    dsimp only
    by_cases hi : x.toNat = i
    · subst hi
      rw [gd_self hl]
      exact Or.inr ⟨by decide, by decide⟩
    · rw [gd_ne hi, F9_get]
      split
      · exact Or.inl rfl
      · exact Or.inr ⟨by decide, by decide⟩
  · dsimp only; omega
  · dsimp only
    rw [cv_set F9 x.toNat 0 hl (by rw [F9_get, if_pos (by omega)]) (by decide)]
    rw [show cv F9 = 0 from cv_rep 2401]
    rfl
  · intro i hi
    dsimp only at hi ⊢
    have e : i = 0 := by omega
    subst e
    rw [gd_self (by omega)]
    refine ⟨hx, ?_⟩
    rw [gd_self hl]
    decide
def bx6 (st : Int) (g s b : F4) (tw x : Int) (S : S6) : S6 := if tw = 1 then g2c st g s b x 3 0 S else g1c st g s b x 4 0 S
/-- the search: where it ends (-9: nowhere) -/
def bf6 (st : Int) (g s b : F4) (m tw : Int) : Nat → Int → S6 → S6 × Int
  | 0, _, S => (S, -9)
  | n + 1, k, S => if k < S.2.2.2.2 then (if m ≤ (su (S.2.2.2.1.getD k.toNat 0)).1 ∧ m ≤ (su (S.2.2.2.1.getD k.toNat 0)).2.1 ∧ m ≤ (su (S.2.2.2.1.getD k.toNat 0)).2.2.1 ∧ m ≤ (su (S.2.2.2.1.getD k.toNat 0)).2.2.2 then (S, S.2.2.2.1.getD k.toNat 0) else bf6 st g s b m tw n (k + 1) (bx6 st g s b tw (S.2.2.2.1.getD k.toNat 0) S)) else (S, -9)
theorem I6.K {S : S6} (h : I6 S) {k : Int} (hk : 0 ≤ k ∧ k < S.2.2.2.2) : (0 ≤ S.2.2.2.1.getD k.toNat 0 ∧ S.2.2.2.1.getD k.toNat 0 < 2401) ∧ K6 (S.2.2.2.1.getD k.toNat 0) S := by
  obtain ⟨a, b⟩ := h.2.2.2.2 k.toNat (by omega)
  refine ⟨a, h, ?_⟩
  rcases h.2.1 (S.2.2.2.1.getD k.toNat 0).toNat with e | e
  · exact absurd e b
  · exact e.1
theorem bx6_K (st : Int) (g s b : F4) {x : Int} (hx : 0 ≤ x ∧ x < 2401) (tw : Int) {S : S6} (h : K6 x S) : K6 x (bx6 st g s b tw x S) := by
  unfold bx6
  split
  · exact g2c_K st g s b hx 3 0 S h
  · exact g1c_K st g s b hx 4 0 S h
abbrev mi_X6_find : Mi := (yX6_find, cX6_find, 6, none, 9)
theorem mf_X6_find : am_mf mi_X6_find 2 := ⟨w_co_X6_find, w_in_X6, ⟨by decide +kernel, by decide +kernel⟩, by decide +kernel, by decide⟩
def tb_X6_find : List (Nat × Tr) := [(0, tIc 0 1), (1, tIst 3 1), (2, tIld 3 1), (3, tIc 2401 3), (6, tCmge 23), (9, tAld 0 1), (10, tGf 6 16), (13, tIld 3 1), (14, tIc (-9) 2), (16, tIas), (17, tIinc 3 1), (20, tGo 2), (23, tAld 0 1), (24, tCv 6 0 fn_X6_layNow), (27, tAld 0 1), (28, tCv 6 0 fn_X6_stateOf), (31, tIst 3 1), (32, tAld 0 1), (33, tGf 6 16), (36, tIld 3 1), (37, tIc 0 1), (38, tIas), (39, tAld 0 1), (40, tGf 6 19), (43, tIc 0 1), (44, tIld 3 1), (45, tIas), (46, tAld 0 1), (47, tIc 1 1), (48, tPf kI 6 21), (51, tAld 0 1), (52, tIc (-9) 2), (54, tPf kI 6 20), (57, tIc 0 1), (58, tIst 4 2), (60, tIld 4 2), (62, tAld 0 1), (63, tGf 6 21), (66, tCmge 135), (69, tAld 0 1), (70, tGf 6 20), (73, tIc (-9) 2), (75, tCmne 135), (78, tAld 0 1), (79, tGf 6 19), (82, tIld 4 2), (84, tIal), (85, tIst 5 2), (87, tAld 0 1), (88, tIld 5 2), (90, tCv 6 1 fn_X6_layState), (93, tAld 0 1), (94, tIld 1 1), (95, tCv 6 1 fn_X6_isDeep), (98, tIfeq 110), (101, tAld 0 1), (102, tIld 5 2), (104, tPf kI 6 20), (107, tGo 129), (110, tIld 2 1), (111, tIfeq 123), (114, tAld 0 1), (115, tIld 5 2), (117, tCv 6 1 fn_X6_goTwo), (120, tGo 129), (123, tAld 0 1), (124, tIld 5 2), (126, tCv 6 1 fn_X6_goOne), (129, tIinc 4 1), (132, tGo 60)]
theorem ok_X6_find : Tok mi_X6_find tb_X6_find :=
  Tc (sd_iconst rfl dX6_find_0) <|
  Tc (sd_istore_n dX6_find_1) <|
  Tc (sd_iload_n dX6_find_2) <|
  Tc (sd_sipush (by decide +kernel) dX6_find_3) <|
  Tc (sd_cm_ge (by decide) dX6_find_6) <|
  Tc (sd_aload_n dX6_find_9) <|
  Tc (sd_getf (T := TX6) rfl giX6 (by decide) w_fl_X6_37 dX6_find_10) <|
  Tc (sd_iload_n dX6_find_13) <|
  Tc (sd_bipush (by decide +kernel) dX6_find_14) <|
  Tc (sd_ias dX6_find_16) <|
  Tc (sd_iinc dX6_find_17) <|
  Tc (sd_goto (by decide) dX6_find_20) <|
  Tc (sd_aload_n dX6_find_23) <|
  Tc (sd_cv (T := TX6) fok_X6_layNow mf_X6_layNow rfl w_ml_X6_115 w_im_X6_layNow w_se_X6_layNow (by decide) dX6_find_24) <|
  Tc (sd_aload_n dX6_find_27) <|
  Tc (sd_cv (T := TX6) fok_X6_stateOf mf_X6_stateOf rfl w_ml_X6_174 w_im_X6_stateOf w_se_X6_stateOf (by decide) dX6_find_28) <|
  Tc (sd_istore_n dX6_find_31) <|
  Tc (sd_aload_n dX6_find_32) <|
  Tc (sd_getf (T := TX6) rfl giX6 (by decide) w_fl_X6_37 dX6_find_33) <|
  Tc (sd_iload_n dX6_find_36) <|
  Tc (sd_iconst rfl dX6_find_37) <|
  Tc (sd_ias dX6_find_38) <|
  Tc (sd_aload_n dX6_find_39) <|
  Tc (sd_getf (T := TX6) rfl giX6 (by decide) w_fl_X6_46 dX6_find_40) <|
  Tc (sd_iconst rfl dX6_find_43) <|
  Tc (sd_iload_n dX6_find_44) <|
  Tc (sd_ias dX6_find_45) <|
  Tc (sd_aload_n dX6_find_46) <|
  Tc (sd_iconst rfl dX6_find_47) <|
  Tc (sd_putf (T := TX6) rfl giX6 (by decide) w_fl_X6_177 tyX6 tyX6_ok nmX6 (kI_ok) rfl dX6_find_48) <|
  Tc (sd_aload_n dX6_find_51) <|
  Tc (sd_bipush (by decide +kernel) dX6_find_52) <|
  Tc (sd_putf (T := TX6) rfl giX6 (by decide) w_fl_X6_180 tyX6 tyX6_ok nmX6 (kI_ok) rfl dX6_find_54) <|
  Tc (sd_iconst rfl dX6_find_57) <|
  Tc (sd_istore dX6_find_58) <|
  Tc (sd_iload dX6_find_60) <|
  Tc (sd_aload_n dX6_find_62) <|
  Tc (sd_getf (T := TX6) rfl giX6 (by decide) w_fl_X6_177 dX6_find_63) <|
  Tc (sd_cm_ge (by decide) dX6_find_66) <|
  Tc (sd_aload_n dX6_find_69) <|
  Tc (sd_getf (T := TX6) rfl giX6 (by decide) w_fl_X6_180 dX6_find_70) <|
  Tc (sd_bipush (by decide +kernel) dX6_find_73) <|
  Tc (sd_cm_ne (by decide) dX6_find_75) <|
  Tc (sd_aload_n dX6_find_78) <|
  Tc (sd_getf (T := TX6) rfl giX6 (by decide) w_fl_X6_46 dX6_find_79) <|
  Tc (sd_iload dX6_find_82) <|
  Tc (sd_ial dX6_find_84) <|
  Tc (sd_istore dX6_find_85) <|
  Tc (sd_aload_n dX6_find_87) <|
  Tc (sd_iload dX6_find_88) <|
  Tc (sd_cv (T := TX6) fok_X6_layState mf_X6_layState rfl w_ml_X6_161 w_im_X6_layState w_se_X6_layState (by decide) dX6_find_90) <|
  Tc (sd_aload_n dX6_find_93) <|
  Tc (sd_iload_n dX6_find_94) <|
  Tc (sd_cv (T := TX6) fok_X6_isDeep mf_X6_isDeep rfl w_ml_X6_164 w_im_X6_isDeep w_se_X6_isDeep (by decide) dX6_find_95) <|
  Tc (sd_if_eq (by decide) dX6_find_98) <|
  Tc (sd_aload_n dX6_find_101) <|
  Tc (sd_iload dX6_find_102) <|
  Tc (sd_putf (T := TX6) rfl giX6 (by decide) w_fl_X6_180 tyX6 tyX6_ok nmX6 (kI_ok) rfl dX6_find_104) <|
  Tc (sd_goto (by decide) dX6_find_107) <|
  Tc (sd_iload_n dX6_find_110) <|
  Tc (sd_if_eq (by decide) dX6_find_111) <|
  Tc (sd_aload_n dX6_find_114) <|
  Tc (sd_iload dX6_find_115) <|
  Tc (sd_cv (T := TX6) fok_X6_goTwo mf_X6_goTwo rfl w_ml_X6_183 w_im_X6_goTwo w_se_X6_goTwo (by decide) dX6_find_117) <|
  Tc (sd_goto (by decide) dX6_find_120) <|
  Tc (sd_aload_n dX6_find_123) <|
  Tc (sd_iload dX6_find_124) <|
  Tc (sd_cv (T := TX6) fok_X6_goOne mf_X6_goOne rfl w_ml_X6_186 w_im_X6_goOne w_se_X6_goOne (by decide) dX6_find_126) <|
  Tc (sd_iinc dX6_find_129) <|
  Tc (sd_goto (by decide) dX6_find_132) <|
  Tn
theorem rk_X6_find : Rok mi_X6_find rV [135] := rk_v dX6_find_135 <| rk_n
def rx_X6_find : Nat → Nat → AL → List AV → List AC → Option (Option AV × List AC) := am_r tb_X6_find rV [135]
theorem rs_X6_find_0 (n : Nat) (L : AL) (st : List AV) (M : List AC) : rx_X6_find (n + 1) 0 L st M = am_j (rx_X6_find n) ((tIc 0 1) 0 L st M) := rfl
theorem rs_X6_find_1 (n : Nat) (L : AL) (st : List AV) (M : List AC) : rx_X6_find (n + 1) 1 L st M = am_j (rx_X6_find n) ((tIst 3 1) 1 L st M) := rfl
theorem rs_X6_find_2 (n : Nat) (L : AL) (st : List AV) (M : List AC) : rx_X6_find (n + 1) 2 L st M = am_j (rx_X6_find n) ((tIld 3 1) 2 L st M) := rfl
theorem rs_X6_find_3 (n : Nat) (L : AL) (st : List AV) (M : List AC) : rx_X6_find (n + 1) 3 L st M = am_j (rx_X6_find n) ((tIc 2401 3) 3 L st M) := rfl
theorem rs_X6_find_6 (n : Nat) (L : AL) (st : List AV) (M : List AC) : rx_X6_find (n + 1) 6 L st M = am_j (rx_X6_find n) ((tCmge 23) 6 L st M) := rfl
theorem rs_X6_find_9 (n : Nat) (L : AL) (st : List AV) (M : List AC) : rx_X6_find (n + 1) 9 L st M = am_j (rx_X6_find n) ((tAld 0 1) 9 L st M) := rfl
theorem rs_X6_find_10 (n : Nat) (L : AL) (st : List AV) (M : List AC) : rx_X6_find (n + 1) 10 L st M = am_j (rx_X6_find n) ((tGf 6 16) 10 L st M) := rfl
theorem rs_X6_find_13 (n : Nat) (L : AL) (st : List AV) (M : List AC) : rx_X6_find (n + 1) 13 L st M = am_j (rx_X6_find n) ((tIld 3 1) 13 L st M) := rfl
theorem rs_X6_find_14 (n : Nat) (L : AL) (st : List AV) (M : List AC) : rx_X6_find (n + 1) 14 L st M = am_j (rx_X6_find n) ((tIc (-9) 2) 14 L st M) := rfl
theorem rs_X6_find_16 (n : Nat) (L : AL) (st : List AV) (M : List AC) : rx_X6_find (n + 1) 16 L st M = am_j (rx_X6_find n) (tIas 16 L st M) := rfl
theorem rs_X6_find_17 (n : Nat) (L : AL) (st : List AV) (M : List AC) : rx_X6_find (n + 1) 17 L st M = am_j (rx_X6_find n) ((tIinc 3 1) 17 L st M) := rfl
theorem rs_X6_find_20 (n : Nat) (L : AL) (st : List AV) (M : List AC) : rx_X6_find (n + 1) 20 L st M = am_j (rx_X6_find n) ((tGo 2) 20 L st M) := rfl
theorem rs_X6_find_23 (n : Nat) (L : AL) (st : List AV) (M : List AC) : rx_X6_find (n + 1) 23 L st M = am_j (rx_X6_find n) ((tAld 0 1) 23 L st M) := rfl
theorem rs_X6_find_24 (n : Nat) (L : AL) (st : List AV) (M : List AC) : rx_X6_find (n + 1) 24 L st M = am_j (rx_X6_find n) ((tCv 6 0 fn_X6_layNow) 24 L st M) := rfl
theorem rs_X6_find_27 (n : Nat) (L : AL) (st : List AV) (M : List AC) : rx_X6_find (n + 1) 27 L st M = am_j (rx_X6_find n) ((tAld 0 1) 27 L st M) := rfl
theorem rs_X6_find_28 (n : Nat) (L : AL) (st : List AV) (M : List AC) : rx_X6_find (n + 1) 28 L st M = am_j (rx_X6_find n) ((tCv 6 0 fn_X6_stateOf) 28 L st M) := rfl
theorem rs_X6_find_31 (n : Nat) (L : AL) (st : List AV) (M : List AC) : rx_X6_find (n + 1) 31 L st M = am_j (rx_X6_find n) ((tIst 3 1) 31 L st M) := rfl
theorem rs_X6_find_32 (n : Nat) (L : AL) (st : List AV) (M : List AC) : rx_X6_find (n + 1) 32 L st M = am_j (rx_X6_find n) ((tAld 0 1) 32 L st M) := rfl
theorem rs_X6_find_33 (n : Nat) (L : AL) (st : List AV) (M : List AC) : rx_X6_find (n + 1) 33 L st M = am_j (rx_X6_find n) ((tGf 6 16) 33 L st M) := rfl
theorem rs_X6_find_36 (n : Nat) (L : AL) (st : List AV) (M : List AC) : rx_X6_find (n + 1) 36 L st M = am_j (rx_X6_find n) ((tIld 3 1) 36 L st M) := rfl
theorem rs_X6_find_37 (n : Nat) (L : AL) (st : List AV) (M : List AC) : rx_X6_find (n + 1) 37 L st M = am_j (rx_X6_find n) ((tIc 0 1) 37 L st M) := rfl
theorem rs_X6_find_38 (n : Nat) (L : AL) (st : List AV) (M : List AC) : rx_X6_find (n + 1) 38 L st M = am_j (rx_X6_find n) (tIas 38 L st M) := rfl
theorem rs_X6_find_39 (n : Nat) (L : AL) (st : List AV) (M : List AC) : rx_X6_find (n + 1) 39 L st M = am_j (rx_X6_find n) ((tAld 0 1) 39 L st M) := rfl
theorem rs_X6_find_40 (n : Nat) (L : AL) (st : List AV) (M : List AC) : rx_X6_find (n + 1) 40 L st M = am_j (rx_X6_find n) ((tGf 6 19) 40 L st M) := rfl
theorem rs_X6_find_43 (n : Nat) (L : AL) (st : List AV) (M : List AC) : rx_X6_find (n + 1) 43 L st M = am_j (rx_X6_find n) ((tIc 0 1) 43 L st M) := rfl
theorem rs_X6_find_44 (n : Nat) (L : AL) (st : List AV) (M : List AC) : rx_X6_find (n + 1) 44 L st M = am_j (rx_X6_find n) ((tIld 3 1) 44 L st M) := rfl
theorem rs_X6_find_45 (n : Nat) (L : AL) (st : List AV) (M : List AC) : rx_X6_find (n + 1) 45 L st M = am_j (rx_X6_find n) (tIas 45 L st M) := rfl
theorem rs_X6_find_46 (n : Nat) (L : AL) (st : List AV) (M : List AC) : rx_X6_find (n + 1) 46 L st M = am_j (rx_X6_find n) ((tAld 0 1) 46 L st M) := rfl
theorem rs_X6_find_47 (n : Nat) (L : AL) (st : List AV) (M : List AC) : rx_X6_find (n + 1) 47 L st M = am_j (rx_X6_find n) ((tIc 1 1) 47 L st M) := rfl
theorem rs_X6_find_48 (n : Nat) (L : AL) (st : List AV) (M : List AC) : rx_X6_find (n + 1) 48 L st M = am_j (rx_X6_find n) ((tPf kI 6 21) 48 L st M) := rfl
theorem rs_X6_find_51 (n : Nat) (L : AL) (st : List AV) (M : List AC) : rx_X6_find (n + 1) 51 L st M = am_j (rx_X6_find n) ((tAld 0 1) 51 L st M) := rfl
theorem rs_X6_find_52 (n : Nat) (L : AL) (st : List AV) (M : List AC) : rx_X6_find (n + 1) 52 L st M = am_j (rx_X6_find n) ((tIc (-9) 2) 52 L st M) := rfl
theorem rs_X6_find_54 (n : Nat) (L : AL) (st : List AV) (M : List AC) : rx_X6_find (n + 1) 54 L st M = am_j (rx_X6_find n) ((tPf kI 6 20) 54 L st M) := rfl
theorem rs_X6_find_57 (n : Nat) (L : AL) (st : List AV) (M : List AC) : rx_X6_find (n + 1) 57 L st M = am_j (rx_X6_find n) ((tIc 0 1) 57 L st M) := rfl
theorem rs_X6_find_58 (n : Nat) (L : AL) (st : List AV) (M : List AC) : rx_X6_find (n + 1) 58 L st M = am_j (rx_X6_find n) ((tIst 4 2) 58 L st M) := rfl
theorem rs_X6_find_60 (n : Nat) (L : AL) (st : List AV) (M : List AC) : rx_X6_find (n + 1) 60 L st M = am_j (rx_X6_find n) ((tIld 4 2) 60 L st M) := rfl
theorem rs_X6_find_62 (n : Nat) (L : AL) (st : List AV) (M : List AC) : rx_X6_find (n + 1) 62 L st M = am_j (rx_X6_find n) ((tAld 0 1) 62 L st M) := rfl
theorem rs_X6_find_63 (n : Nat) (L : AL) (st : List AV) (M : List AC) : rx_X6_find (n + 1) 63 L st M = am_j (rx_X6_find n) ((tGf 6 21) 63 L st M) := rfl
theorem rs_X6_find_66 (n : Nat) (L : AL) (st : List AV) (M : List AC) : rx_X6_find (n + 1) 66 L st M = am_j (rx_X6_find n) ((tCmge 135) 66 L st M) := rfl
theorem rs_X6_find_69 (n : Nat) (L : AL) (st : List AV) (M : List AC) : rx_X6_find (n + 1) 69 L st M = am_j (rx_X6_find n) ((tAld 0 1) 69 L st M) := rfl
theorem rs_X6_find_70 (n : Nat) (L : AL) (st : List AV) (M : List AC) : rx_X6_find (n + 1) 70 L st M = am_j (rx_X6_find n) ((tGf 6 20) 70 L st M) := rfl
theorem rs_X6_find_73 (n : Nat) (L : AL) (st : List AV) (M : List AC) : rx_X6_find (n + 1) 73 L st M = am_j (rx_X6_find n) ((tIc (-9) 2) 73 L st M) := rfl
theorem rs_X6_find_75 (n : Nat) (L : AL) (st : List AV) (M : List AC) : rx_X6_find (n + 1) 75 L st M = am_j (rx_X6_find n) ((tCmne 135) 75 L st M) := rfl
theorem rs_X6_find_78 (n : Nat) (L : AL) (st : List AV) (M : List AC) : rx_X6_find (n + 1) 78 L st M = am_j (rx_X6_find n) ((tAld 0 1) 78 L st M) := rfl
theorem rs_X6_find_79 (n : Nat) (L : AL) (st : List AV) (M : List AC) : rx_X6_find (n + 1) 79 L st M = am_j (rx_X6_find n) ((tGf 6 19) 79 L st M) := rfl
theorem rs_X6_find_82 (n : Nat) (L : AL) (st : List AV) (M : List AC) : rx_X6_find (n + 1) 82 L st M = am_j (rx_X6_find n) ((tIld 4 2) 82 L st M) := rfl
theorem rs_X6_find_84 (n : Nat) (L : AL) (st : List AV) (M : List AC) : rx_X6_find (n + 1) 84 L st M = am_j (rx_X6_find n) (tIal 84 L st M) := rfl
theorem rs_X6_find_85 (n : Nat) (L : AL) (st : List AV) (M : List AC) : rx_X6_find (n + 1) 85 L st M = am_j (rx_X6_find n) ((tIst 5 2) 85 L st M) := rfl
theorem rs_X6_find_87 (n : Nat) (L : AL) (st : List AV) (M : List AC) : rx_X6_find (n + 1) 87 L st M = am_j (rx_X6_find n) ((tAld 0 1) 87 L st M) := rfl
theorem rs_X6_find_88 (n : Nat) (L : AL) (st : List AV) (M : List AC) : rx_X6_find (n + 1) 88 L st M = am_j (rx_X6_find n) ((tIld 5 2) 88 L st M) := rfl
theorem rs_X6_find_90 (n : Nat) (L : AL) (st : List AV) (M : List AC) : rx_X6_find (n + 1) 90 L st M = am_j (rx_X6_find n) ((tCv 6 1 fn_X6_layState) 90 L st M) := rfl
theorem rs_X6_find_93 (n : Nat) (L : AL) (st : List AV) (M : List AC) : rx_X6_find (n + 1) 93 L st M = am_j (rx_X6_find n) ((tAld 0 1) 93 L st M) := rfl
theorem rs_X6_find_94 (n : Nat) (L : AL) (st : List AV) (M : List AC) : rx_X6_find (n + 1) 94 L st M = am_j (rx_X6_find n) ((tIld 1 1) 94 L st M) := rfl
theorem rs_X6_find_95 (n : Nat) (L : AL) (st : List AV) (M : List AC) : rx_X6_find (n + 1) 95 L st M = am_j (rx_X6_find n) ((tCv 6 1 fn_X6_isDeep) 95 L st M) := rfl
theorem rs_X6_find_98 (n : Nat) (L : AL) (st : List AV) (M : List AC) : rx_X6_find (n + 1) 98 L st M = am_j (rx_X6_find n) ((tIfeq 110) 98 L st M) := rfl
theorem rs_X6_find_101 (n : Nat) (L : AL) (st : List AV) (M : List AC) : rx_X6_find (n + 1) 101 L st M = am_j (rx_X6_find n) ((tAld 0 1) 101 L st M) := rfl
theorem rs_X6_find_102 (n : Nat) (L : AL) (st : List AV) (M : List AC) : rx_X6_find (n + 1) 102 L st M = am_j (rx_X6_find n) ((tIld 5 2) 102 L st M) := rfl
theorem rs_X6_find_104 (n : Nat) (L : AL) (st : List AV) (M : List AC) : rx_X6_find (n + 1) 104 L st M = am_j (rx_X6_find n) ((tPf kI 6 20) 104 L st M) := rfl
theorem rs_X6_find_107 (n : Nat) (L : AL) (st : List AV) (M : List AC) : rx_X6_find (n + 1) 107 L st M = am_j (rx_X6_find n) ((tGo 129) 107 L st M) := rfl
theorem rs_X6_find_110 (n : Nat) (L : AL) (st : List AV) (M : List AC) : rx_X6_find (n + 1) 110 L st M = am_j (rx_X6_find n) ((tIld 2 1) 110 L st M) := rfl
theorem rs_X6_find_111 (n : Nat) (L : AL) (st : List AV) (M : List AC) : rx_X6_find (n + 1) 111 L st M = am_j (rx_X6_find n) ((tIfeq 123) 111 L st M) := rfl
theorem rs_X6_find_114 (n : Nat) (L : AL) (st : List AV) (M : List AC) : rx_X6_find (n + 1) 114 L st M = am_j (rx_X6_find n) ((tAld 0 1) 114 L st M) := rfl
theorem rs_X6_find_115 (n : Nat) (L : AL) (st : List AV) (M : List AC) : rx_X6_find (n + 1) 115 L st M = am_j (rx_X6_find n) ((tIld 5 2) 115 L st M) := rfl
theorem rs_X6_find_117 (n : Nat) (L : AL) (st : List AV) (M : List AC) : rx_X6_find (n + 1) 117 L st M = am_j (rx_X6_find n) ((tCv 6 1 fn_X6_goTwo) 117 L st M) := rfl
theorem rs_X6_find_120 (n : Nat) (L : AL) (st : List AV) (M : List AC) : rx_X6_find (n + 1) 120 L st M = am_j (rx_X6_find n) ((tGo 129) 120 L st M) := rfl
theorem rs_X6_find_123 (n : Nat) (L : AL) (st : List AV) (M : List AC) : rx_X6_find (n + 1) 123 L st M = am_j (rx_X6_find n) ((tAld 0 1) 123 L st M) := rfl
theorem rs_X6_find_124 (n : Nat) (L : AL) (st : List AV) (M : List AC) : rx_X6_find (n + 1) 124 L st M = am_j (rx_X6_find n) ((tIld 5 2) 124 L st M) := rfl
theorem rs_X6_find_126 (n : Nat) (L : AL) (st : List AV) (M : List AC) : rx_X6_find (n + 1) 126 L st M = am_j (rx_X6_find n) ((tCv 6 1 fn_X6_goOne) 126 L st M) := rfl
theorem rs_X6_find_129 (n : Nat) (L : AL) (st : List AV) (M : List AC) : rx_X6_find (n + 1) 129 L st M = am_j (rx_X6_find n) ((tIinc 4 1) 129 L st M) := rfl
theorem rs_X6_find_132 (n : Nat) (L : AL) (st : List AV) (M : List AC) : rx_X6_find (n + 1) 132 L st M = am_j (rx_X6_find n) ((tGo 60) 132 L st M) := rfl
theorem rs_X6_find_135 (n : Nat) (L : AL) (st : List AV) (M : List AC) : rx_X6_find (n + 1) 135 L st M = am_e rV st M := rfl
theorem ri_X6_find (c : Prop) [Decidable c] (p q n : Nat) (L : AL) (st : List AV) (M : List AC) : rx_X6_find n (if c then p else q) L st M = if c then rx_X6_find n p L st M else rx_X6_find n q L st M := by split <;> rfl
theorem rm_X6_find {n k pc : Nat} {L : AL} {st : List AV} {M : List AC} {x : Option AV × List AC} (h : rx_X6_find n pc L st M = some x) (hk : n ≤ k) : rx_X6_find k pc L st M = some x := am_r_mono n k h hk
def fn_X6_find : Fn := am_fn rx_X6_find 6
theorem fok_X6_find : Fok mi_X6_find fn_X6_find := fun _ _ _ _ h => am_fok ok_X6_find rk_X6_find rfl h
theorem lp_X6_find {M : List AC} {g b s : F4} (h : H6 M g b s) {st lk len ac nx rf lr : Int} {sd : Int64} (hst : 1 ≤ st ∧ st ≤ 3) (hg : i4 1 9 g) (hs9 : i4 0 9 s) (hb : i4 0 3 b) {m tw : Int} (hm : 1 ≤ m ∧ m ≤ 6) (htw : tw = 0 ∨ tw = 1) (sx : Int) : ∀ (n : Nat) (k : Int) (d : F4) (S : S6) (x5 : Option AV), k + n = 2401 → 0 ≤ k → I6 S →
    ∃ d' : F4, Ru rx_X6_find (100 * n + 20) 60 [some (vR 26), some (vI m), some (vI tw), some (vI sx), some (vI k), x5] [] (U6 M st lk len ac nx rf lr (-9) sd d S) (none, U6 M st lk len ac nx rf lr (bf6 st g s b m tw n k S).2 sd d' (bf6 st g s b m tw n k S).1)
  | 0, k, d, S, x5, hk, hk0, hI => by
    have e : k = 2401 := by omega
    subst e
    obtain ⟨u26, -⟩ := U6_at h st lk len ac nx rf lr (-9) sd d S
    have hle := hI.le
    have h1 := hI.2.2.1
    refine ⟨d, 19 + 1, by omega, ?_⟩
    rw [rs_X6_find_60, bf6]
    have wm : wr S.2.2.2.2 = S.2.2.2.2 := wr_id (by omega) (by omega)
    generalize U6 M st lk len ac nx rf lr (-9) sd d S = V at u26 ⊢
    simp only [mo] at u26
    simp [↓ri_X6_find, rs_X6_find_0, rs_X6_find_1, rs_X6_find_2, rs_X6_find_3, rs_X6_find_6, rs_X6_find_9, rs_X6_find_10, rs_X6_find_13, rs_X6_find_14, rs_X6_find_16, rs_X6_find_17, rs_X6_find_20, rs_X6_find_23, rs_X6_find_24, rs_X6_find_27, rs_X6_find_28, rs_X6_find_31, rs_X6_find_32, rs_X6_find_33, rs_X6_find_36, rs_X6_find_37, rs_X6_find_38, rs_X6_find_39, rs_X6_find_40, rs_X6_find_43, rs_X6_find_44, rs_X6_find_45, rs_X6_find_46, rs_X6_find_47, rs_X6_find_48, rs_X6_find_51, rs_X6_find_52, rs_X6_find_54, rs_X6_find_57, rs_X6_find_58, rs_X6_find_62, rs_X6_find_63, rs_X6_find_66, rs_X6_find_69, rs_X6_find_70, rs_X6_find_73, rs_X6_find_75, rs_X6_find_78, rs_X6_find_79, rs_X6_find_82, rs_X6_find_84, rs_X6_find_85, rs_X6_find_87, rs_X6_find_88, rs_X6_find_90, rs_X6_find_93, rs_X6_find_94, rs_X6_find_95, rs_X6_find_98, rs_X6_find_101, rs_X6_find_102, rs_X6_find_104, rs_X6_find_107, rs_X6_find_110, rs_X6_find_111, rs_X6_find_114, rs_X6_find_115, rs_X6_find_117, rs_X6_find_120, rs_X6_find_123, rs_X6_find_124, rs_X6_find_126, rs_X6_find_129, rs_X6_find_132, rs_X6_find_135, -List.getElem?_eq_getElem, am_js, am_e, am_in, am_sl, rI, rZ, rV, rJ, rA, rC, kI, kJ, kR, am_one, am_nl, am_w8, tIc, tLc, tNul, tIld, tLld, tAld, tIst, tLst, tAst, tIinc, tI2, tDv, tL2, tLrem, tLs, tLcmp, tI2l, tL2i, tI2c, tDup, tDup2, tPop, tGo, tIfeq, tIfne, tIflt, tIfge, tIfgt, tIfle, tCmeq, tCmne, tCmlt, tCmge, tCmgt, tCmle, tNu, tTs, tGf, tPf, tGs, tIal, tIas, tBal, tBas, tAln, tSv, tSc, tSb, tSl, tSk, tCv, tCs, tCt, tMx, tMn, wr_10000, wr_100000, wr_1000000, wr_10000000, wr_100000000, wr_2400, wr_9999, wr_0, wr_1, wr_2, wr_3, wr_4, wr_5, wr_6, wr_7, wr_8, wr_9, wr_10, wr_11, wr_12, wr_13, wr_14, wr_15, wr_16, wr_17, wr_18, wr_19, wr_20, wr_21, wr_22, wr_23, wr_24, wr_25, wr_26, wr_27, wr_28, wr_29, wr_30, wr_31, wr_32, wr_33, wr_34, wr_35, wr_36, wr_37, wr_38, wr_39, wr_40, wr_41, wr_42, wr_43, wr_44, wr_45, wr_46, wr_47, wr_48, wr_49, wr_50, wr_51, wr_52, wr_53, wr_54, wr_55, wr_56, wr_57, wr_58, wr_59, wr_60, wr_61, wr_62, wr_63, wr_99, wr_100, wr_192, wr_255, wr_256, wr_343, wr_999, wr_1000, wr_2401, wr_2147483647, wr_65535, wr_m1, wr_m2, wr_m3, wr_m4, wr_m9, ak_1000, ak_1001, ak_1002, ak_0, ak_1, ak_2, ak_3, ak_4, ak_5, ak_6, ak_7, ak_8, ak_9, ak_10, ak_11, ak_12, ak_13, ak_14, ak_15, ak_16, ak_17, ak_18, ak_19, ak_20, ak_21, ak_22, ak_23, ak_24, ak_25, ak_26, ak_27, ak_28, ak_29, ak_30, ak_31, ak_32, ak_33, ak_34, ak_35, ak_36, ak_37, ak_38, ak_39, ak_40, ak_41, ak_42, ak_43, ak_44, ak_45, ak_46, ak_47, u26, wm, hle]
  | n + 1, k, d, S, x5, hk, hk0, hI => by
    have wk : wr k = k := wr_id (by omega) (by omega)
    have wk1 : wr (k + 1) = k + 1 := wr_id (by omega) (by omega)
    obtain ⟨u26, u27, u32, u33, u34, u36, u37, u38, u39⟩ := U6_at h st lk len ac nx rf lr (-9) sd d S
    have hle := hI.le
    have h1 := hI.2.2.1
    have wm : wr S.2.2.2.2 = S.2.2.2.2 := wr_id (by omega) (by omega)
    have wmm : wr m = m := wr_id (by omega) (by omega)
    by_cases hkl : k < S.2.2.2.2
    · obtain ⟨hx, hK⟩ := hI.K ⟨hk0, hkl⟩
      have l4' := hI.1.2.2.2
      have q1 := sp_X6_layState u26 u32 (S.2.2.2.1.getD k.toNat 0) hx
      rw [U6_32] at q1
      obtain ⟨v26, v27, v32, -⟩ := U6_at h st lk len ac nx rf lr (-9) sd (su (S.2.2.2.1.getD k.toNat 0)) S
      have q2 := sp_X6_isDeep v26 v32 (su_rng hx) m (by omega)
      have nk : ¬ S.2.2.2.2 ≤ k := by omega
      have k24 : k < 2401 := by omega
      by_cases hd : m ≤ (su (S.2.2.2.1.getD k.toNat 0)).1 ∧ m ≤ (su (S.2.2.2.1.getD k.toNat 0)).2.1 ∧ m ≤ (su (S.2.2.2.1.getD k.toNat 0)).2.2.1 ∧ m ≤ (su (S.2.2.2.1.getD k.toNat 0)).2.2.2
      · rw [if_pos hd] at q2
        have e : bf6 st g s b m tw (n + 1) k S = (S, S.2.2.2.1.getD k.toNat 0) := by rw [bf6, if_pos hkl, if_pos hd]
        rw [e]
        clear e hd hI hK
        generalize hxx : S.2.2.2.1.getD k.toNat 0 = x at q1 q2 v26 v32 hx
        refine ⟨su x, 59 + 1, by clear hxx; omega, ?_⟩
        have wx : wr x = x := by clear hxx; exact wr_id (by omega) (by omega)
        have nx9 : ¬ x = -9 := by clear hxx; omega
        dsimp only
        rw [rs_X6_find_60, ← U6_26 (M := M) (st := st) (lk := lk) (len := len) (ac := ac) (nx := nx) (rf := rf) (lr := lr) (en := -9) (en' := x) (sd := sd) (d := su x) (S := S)]
        generalize U6 M st lk len ac nx rf lr (-9) sd (su x) S = V at q1 q2 v26 ⊢
        generalize U6 M st lk len ac nx rf lr (-9) sd d S = V0 at q1 u26 u39 ⊢
        simp only [mo] at u26 v26 ⊢
        by_cases hk2 : S.2.2.2.2 ≤ k + 1 <;>
        simp [↓ri_X6_find, rs_X6_find_0, rs_X6_find_1, rs_X6_find_2, rs_X6_find_3, rs_X6_find_6, rs_X6_find_9, rs_X6_find_10, rs_X6_find_13, rs_X6_find_14, rs_X6_find_16, rs_X6_find_17, rs_X6_find_20, rs_X6_find_23, rs_X6_find_24, rs_X6_find_27, rs_X6_find_28, rs_X6_find_31, rs_X6_find_32, rs_X6_find_33, rs_X6_find_36, rs_X6_find_37, rs_X6_find_38, rs_X6_find_39, rs_X6_find_40, rs_X6_find_43, rs_X6_find_44, rs_X6_find_45, rs_X6_find_46, rs_X6_find_47, rs_X6_find_48, rs_X6_find_51, rs_X6_find_52, rs_X6_find_54, rs_X6_find_57, rs_X6_find_58, rs_X6_find_62, rs_X6_find_63, rs_X6_find_66, rs_X6_find_69, rs_X6_find_70, rs_X6_find_73, rs_X6_find_75, rs_X6_find_78, rs_X6_find_79, rs_X6_find_82, rs_X6_find_84, rs_X6_find_85, rs_X6_find_87, rs_X6_find_88, rs_X6_find_90, rs_X6_find_93, rs_X6_find_94, rs_X6_find_95, rs_X6_find_98, rs_X6_find_101, rs_X6_find_102, rs_X6_find_104, rs_X6_find_107, rs_X6_find_110, rs_X6_find_111, rs_X6_find_114, rs_X6_find_115, rs_X6_find_117, rs_X6_find_120, rs_X6_find_123, rs_X6_find_124, rs_X6_find_126, rs_X6_find_129, rs_X6_find_132, rs_X6_find_135, -List.getElem?_eq_getElem, am_js, am_e, am_in, am_sl, rI, rZ, rV, rJ, rA, rC, kI, kJ, kR, am_one, am_nl, am_w8, tIc, tLc, tNul, tIld, tLld, tAld, tIst, tLst, tAst, tIinc, tI2, tDv, tL2, tLrem, tLs, tLcmp, tI2l, tL2i, tI2c, tDup, tDup2, tPop, tGo, tIfeq, tIfne, tIflt, tIfge, tIfgt, tIfle, tCmeq, tCmne, tCmlt, tCmge, tCmgt, tCmle, tNu, tTs, tGf, tPf, tGs, tIal, tIas, tBal, tBas, tAln, tSv, tSc, tSb, tSl, tSk, tCv, tCs, tCt, tMx, tMn, wr_10000, wr_100000, wr_1000000, wr_10000000, wr_100000000, wr_2400, wr_9999, wr_0, wr_1, wr_2, wr_3, wr_4, wr_5, wr_6, wr_7, wr_8, wr_9, wr_10, wr_11, wr_12, wr_13, wr_14, wr_15, wr_16, wr_17, wr_18, wr_19, wr_20, wr_21, wr_22, wr_23, wr_24, wr_25, wr_26, wr_27, wr_28, wr_29, wr_30, wr_31, wr_32, wr_33, wr_34, wr_35, wr_36, wr_37, wr_38, wr_39, wr_40, wr_41, wr_42, wr_43, wr_44, wr_45, wr_46, wr_47, wr_48, wr_49, wr_50, wr_51, wr_52, wr_53, wr_54, wr_55, wr_56, wr_57, wr_58, wr_59, wr_60, wr_61, wr_62, wr_63, wr_99, wr_100, wr_192, wr_255, wr_256, wr_343, wr_999, wr_1000, wr_2401, wr_2147483647, wr_65535, wr_m1, wr_m2, wr_m3, wr_m4, wr_m9, ak_1000, ak_1001, ak_1002, ak_0, ak_1, ak_2, ak_3, ak_4, ak_5, ak_6, ak_7, ak_8, ak_9, ak_10, ak_11, ak_12, ak_13, ak_14, ak_15, ak_16, ak_17, ak_18, ak_19, ak_20, ak_21, ak_22, ak_23, ak_24, ak_25, ak_26, ak_27, ak_28, ak_29, ak_30, ak_31, ak_32, ak_33, ak_34, ak_35, ak_36, ak_37, ak_38, ak_39, ak_40, ak_41, ak_42, ak_43, ak_44, ak_45, ak_46, ak_47, rs_X6_find_60, -List.getD_eq_getElem?_getD, u26, u39, l4', k24, hk0, wk, wk1, wm, nk, hxx, q1, q2, v26, gs v26, wx, nx9, hk2]
      · rw [if_neg hd] at q2
        have e : bf6 st g s b m tw (n + 1) k S = bf6 st g s b m tw n (k + 1) (bx6 st g s b tw (S.2.2.2.1.getD k.toNat 0) S) := by rw [bf6, if_pos hkl, if_neg hd]
        rw [e]
        have hK2 := bx6_K st g s b hx tw hK
        clear e hd
        generalize hxx : S.2.2.2.1.getD k.toNat 0 = x at q1 q2 v26 v32 hx hK hK2 ⊢
        rcases htw with rfl | rfl
        · obtain ⟨d1, q3⟩ := sp_X6_goOne h (lk := lk) (len := len) (ac := ac) (nx := nx) (rf := rf) (lr := lr) (en := -9) (sd := sd) hst hg hs9 hb hx (su x) S hK
          obtain ⟨d', k', hk', h'⟩ := lp_X6_find h (lk := lk) (len := len) (ac := ac) (nx := nx) (rf := rf) (lr := lr) (sd := sd) hst hg hs9 hb hm (Or.inl rfl) sx n (k + 1) d1 (bx6 st g s b 0 x S) (some (vI x)) (by clear hxx; omega) (by clear hxx; omega) hK2.1
          refine ⟨d', k' + 99 + 1, by clear hxx; omega, ?_⟩
          rw [rs_X6_find_60]
          rw [show bx6 st g s b 0 x S = g1c st g s b x 4 0 S from if_neg (by decide)] at h' ⊢
          generalize U6 M st lk len ac nx rf lr (-9) sd d1 (g1c st g s b x 4 0 S) = V2 at q3 h'
          generalize U6 M st lk len ac nx rf lr (-9) sd (su x) S = V at q1 q2 q3 v26
          generalize U6 M st lk len ac nx rf lr (-9) sd d S = V0 at q1 u26 u39 ⊢
          simp only [mo] at u26 v26
          simp [↓ri_X6_find, rs_X6_find_0, rs_X6_find_1, rs_X6_find_2, rs_X6_find_3, rs_X6_find_6, rs_X6_find_9, rs_X6_find_10, rs_X6_find_13, rs_X6_find_14, rs_X6_find_16, rs_X6_find_17, rs_X6_find_20, rs_X6_find_23, rs_X6_find_24, rs_X6_find_27, rs_X6_find_28, rs_X6_find_31, rs_X6_find_32, rs_X6_find_33, rs_X6_find_36, rs_X6_find_37, rs_X6_find_38, rs_X6_find_39, rs_X6_find_40, rs_X6_find_43, rs_X6_find_44, rs_X6_find_45, rs_X6_find_46, rs_X6_find_47, rs_X6_find_48, rs_X6_find_51, rs_X6_find_52, rs_X6_find_54, rs_X6_find_57, rs_X6_find_58, rs_X6_find_62, rs_X6_find_63, rs_X6_find_66, rs_X6_find_69, rs_X6_find_70, rs_X6_find_73, rs_X6_find_75, rs_X6_find_78, rs_X6_find_79, rs_X6_find_82, rs_X6_find_84, rs_X6_find_85, rs_X6_find_87, rs_X6_find_88, rs_X6_find_90, rs_X6_find_93, rs_X6_find_94, rs_X6_find_95, rs_X6_find_98, rs_X6_find_101, rs_X6_find_102, rs_X6_find_104, rs_X6_find_107, rs_X6_find_110, rs_X6_find_111, rs_X6_find_114, rs_X6_find_115, rs_X6_find_117, rs_X6_find_120, rs_X6_find_123, rs_X6_find_124, rs_X6_find_126, rs_X6_find_129, rs_X6_find_132, rs_X6_find_135, -List.getElem?_eq_getElem, am_js, am_e, am_in, am_sl, rI, rZ, rV, rJ, rA, rC, kI, kJ, kR, am_one, am_nl, am_w8, tIc, tLc, tNul, tIld, tLld, tAld, tIst, tLst, tAst, tIinc, tI2, tDv, tL2, tLrem, tLs, tLcmp, tI2l, tL2i, tI2c, tDup, tDup2, tPop, tGo, tIfeq, tIfne, tIflt, tIfge, tIfgt, tIfle, tCmeq, tCmne, tCmlt, tCmge, tCmgt, tCmle, tNu, tTs, tGf, tPf, tGs, tIal, tIas, tBal, tBas, tAln, tSv, tSc, tSb, tSl, tSk, tCv, tCs, tCt, tMx, tMn, wr_10000, wr_100000, wr_1000000, wr_10000000, wr_100000000, wr_2400, wr_9999, wr_0, wr_1, wr_2, wr_3, wr_4, wr_5, wr_6, wr_7, wr_8, wr_9, wr_10, wr_11, wr_12, wr_13, wr_14, wr_15, wr_16, wr_17, wr_18, wr_19, wr_20, wr_21, wr_22, wr_23, wr_24, wr_25, wr_26, wr_27, wr_28, wr_29, wr_30, wr_31, wr_32, wr_33, wr_34, wr_35, wr_36, wr_37, wr_38, wr_39, wr_40, wr_41, wr_42, wr_43, wr_44, wr_45, wr_46, wr_47, wr_48, wr_49, wr_50, wr_51, wr_52, wr_53, wr_54, wr_55, wr_56, wr_57, wr_58, wr_59, wr_60, wr_61, wr_62, wr_63, wr_99, wr_100, wr_192, wr_255, wr_256, wr_343, wr_999, wr_1000, wr_2401, wr_2147483647, wr_65535, wr_m1, wr_m2, wr_m3, wr_m4, wr_m9, ak_1000, ak_1001, ak_1002, ak_0, ak_1, ak_2, ak_3, ak_4, ak_5, ak_6, ak_7, ak_8, ak_9, ak_10, ak_11, ak_12, ak_13, ak_14, ak_15, ak_16, ak_17, ak_18, ak_19, ak_20, ak_21, ak_22, ak_23, ak_24, ak_25, ak_26, ak_27, ak_28, ak_29, ak_30, ak_31, ak_32, ak_33, ak_34, ak_35, ak_36, ak_37, ak_38, ak_39, ak_40, ak_41, ak_42, ak_43, ak_44, ak_45, ak_46, ak_47, -List.getD_eq_getElem?_getD, u26, u39, l4', k24, hk0, wk, wm, nk, hxx, q1, q2, q3, v26]
          exact rm_X6_find h' (by clear hxx; omega)
        · obtain ⟨d1, q3⟩ := sp_X6_goTwo h (lk := lk) (len := len) (ac := ac) (nx := nx) (rf := rf) (lr := lr) (en := -9) (sd := sd) hst hg hs9 hb hx (su x) S hK
          obtain ⟨d', k', hk', h'⟩ := lp_X6_find h (lk := lk) (len := len) (ac := ac) (nx := nx) (rf := rf) (lr := lr) (sd := sd) hst hg hs9 hb hm (Or.inr rfl) sx n (k + 1) d1 (bx6 st g s b 1 x S) (some (vI x)) (by clear hxx; omega) (by clear hxx; omega) hK2.1
          refine ⟨d', k' + 99 + 1, by clear hxx; omega, ?_⟩
          rw [rs_X6_find_60]
          rw [show bx6 st g s b 1 x S = g2c st g s b x 3 0 S from if_pos rfl] at h' ⊢
          generalize U6 M st lk len ac nx rf lr (-9) sd d1 (g2c st g s b x 3 0 S) = V2 at q3 h'
          generalize U6 M st lk len ac nx rf lr (-9) sd (su x) S = V at q1 q2 q3 v26
          generalize U6 M st lk len ac nx rf lr (-9) sd d S = V0 at q1 u26 u39 ⊢
          simp only [mo] at u26 v26
          simp [↓ri_X6_find, rs_X6_find_0, rs_X6_find_1, rs_X6_find_2, rs_X6_find_3, rs_X6_find_6, rs_X6_find_9, rs_X6_find_10, rs_X6_find_13, rs_X6_find_14, rs_X6_find_16, rs_X6_find_17, rs_X6_find_20, rs_X6_find_23, rs_X6_find_24, rs_X6_find_27, rs_X6_find_28, rs_X6_find_31, rs_X6_find_32, rs_X6_find_33, rs_X6_find_36, rs_X6_find_37, rs_X6_find_38, rs_X6_find_39, rs_X6_find_40, rs_X6_find_43, rs_X6_find_44, rs_X6_find_45, rs_X6_find_46, rs_X6_find_47, rs_X6_find_48, rs_X6_find_51, rs_X6_find_52, rs_X6_find_54, rs_X6_find_57, rs_X6_find_58, rs_X6_find_62, rs_X6_find_63, rs_X6_find_66, rs_X6_find_69, rs_X6_find_70, rs_X6_find_73, rs_X6_find_75, rs_X6_find_78, rs_X6_find_79, rs_X6_find_82, rs_X6_find_84, rs_X6_find_85, rs_X6_find_87, rs_X6_find_88, rs_X6_find_90, rs_X6_find_93, rs_X6_find_94, rs_X6_find_95, rs_X6_find_98, rs_X6_find_101, rs_X6_find_102, rs_X6_find_104, rs_X6_find_107, rs_X6_find_110, rs_X6_find_111, rs_X6_find_114, rs_X6_find_115, rs_X6_find_117, rs_X6_find_120, rs_X6_find_123, rs_X6_find_124, rs_X6_find_126, rs_X6_find_129, rs_X6_find_132, rs_X6_find_135, -List.getElem?_eq_getElem, am_js, am_e, am_in, am_sl, rI, rZ, rV, rJ, rA, rC, kI, kJ, kR, am_one, am_nl, am_w8, tIc, tLc, tNul, tIld, tLld, tAld, tIst, tLst, tAst, tIinc, tI2, tDv, tL2, tLrem, tLs, tLcmp, tI2l, tL2i, tI2c, tDup, tDup2, tPop, tGo, tIfeq, tIfne, tIflt, tIfge, tIfgt, tIfle, tCmeq, tCmne, tCmlt, tCmge, tCmgt, tCmle, tNu, tTs, tGf, tPf, tGs, tIal, tIas, tBal, tBas, tAln, tSv, tSc, tSb, tSl, tSk, tCv, tCs, tCt, tMx, tMn, wr_10000, wr_100000, wr_1000000, wr_10000000, wr_100000000, wr_2400, wr_9999, wr_0, wr_1, wr_2, wr_3, wr_4, wr_5, wr_6, wr_7, wr_8, wr_9, wr_10, wr_11, wr_12, wr_13, wr_14, wr_15, wr_16, wr_17, wr_18, wr_19, wr_20, wr_21, wr_22, wr_23, wr_24, wr_25, wr_26, wr_27, wr_28, wr_29, wr_30, wr_31, wr_32, wr_33, wr_34, wr_35, wr_36, wr_37, wr_38, wr_39, wr_40, wr_41, wr_42, wr_43, wr_44, wr_45, wr_46, wr_47, wr_48, wr_49, wr_50, wr_51, wr_52, wr_53, wr_54, wr_55, wr_56, wr_57, wr_58, wr_59, wr_60, wr_61, wr_62, wr_63, wr_99, wr_100, wr_192, wr_255, wr_256, wr_343, wr_999, wr_1000, wr_2401, wr_2147483647, wr_65535, wr_m1, wr_m2, wr_m3, wr_m4, wr_m9, ak_1000, ak_1001, ak_1002, ak_0, ak_1, ak_2, ak_3, ak_4, ak_5, ak_6, ak_7, ak_8, ak_9, ak_10, ak_11, ak_12, ak_13, ak_14, ak_15, ak_16, ak_17, ak_18, ak_19, ak_20, ak_21, ak_22, ak_23, ak_24, ak_25, ak_26, ak_27, ak_28, ak_29, ak_30, ak_31, ak_32, ak_33, ak_34, ak_35, ak_36, ak_37, ak_38, ak_39, ak_40, ak_41, ak_42, ak_43, ak_44, ak_45, ak_46, ak_47, -List.getD_eq_getElem?_getD, u26, u39, l4', k24, hk0, wk, wm, nk, hxx, q1, q2, q3, v26]
          exact rm_X6_find h' (by clear hxx; omega)
    · refine ⟨d, 19 + 1, by omega, ?_⟩
      have nk : S.2.2.2.2 ≤ k := by omega
      rw [rs_X6_find_60, bf6, if_neg hkl]
      dsimp only
      generalize U6 M st lk len ac nx rf lr (-9) sd d S = V at u26 ⊢
      simp only [mo] at u26
      simp [↓ri_X6_find, rs_X6_find_0, rs_X6_find_1, rs_X6_find_2, rs_X6_find_3, rs_X6_find_6, rs_X6_find_9, rs_X6_find_10, rs_X6_find_13, rs_X6_find_14, rs_X6_find_16, rs_X6_find_17, rs_X6_find_20, rs_X6_find_23, rs_X6_find_24, rs_X6_find_27, rs_X6_find_28, rs_X6_find_31, rs_X6_find_32, rs_X6_find_33, rs_X6_find_36, rs_X6_find_37, rs_X6_find_38, rs_X6_find_39, rs_X6_find_40, rs_X6_find_43, rs_X6_find_44, rs_X6_find_45, rs_X6_find_46, rs_X6_find_47, rs_X6_find_48, rs_X6_find_51, rs_X6_find_52, rs_X6_find_54, rs_X6_find_57, rs_X6_find_58, rs_X6_find_62, rs_X6_find_63, rs_X6_find_66, rs_X6_find_69, rs_X6_find_70, rs_X6_find_73, rs_X6_find_75, rs_X6_find_78, rs_X6_find_79, rs_X6_find_82, rs_X6_find_84, rs_X6_find_85, rs_X6_find_87, rs_X6_find_88, rs_X6_find_90, rs_X6_find_93, rs_X6_find_94, rs_X6_find_95, rs_X6_find_98, rs_X6_find_101, rs_X6_find_102, rs_X6_find_104, rs_X6_find_107, rs_X6_find_110, rs_X6_find_111, rs_X6_find_114, rs_X6_find_115, rs_X6_find_117, rs_X6_find_120, rs_X6_find_123, rs_X6_find_124, rs_X6_find_126, rs_X6_find_129, rs_X6_find_132, rs_X6_find_135, -List.getElem?_eq_getElem, am_js, am_e, am_in, am_sl, rI, rZ, rV, rJ, rA, rC, kI, kJ, kR, am_one, am_nl, am_w8, tIc, tLc, tNul, tIld, tLld, tAld, tIst, tLst, tAst, tIinc, tI2, tDv, tL2, tLrem, tLs, tLcmp, tI2l, tL2i, tI2c, tDup, tDup2, tPop, tGo, tIfeq, tIfne, tIflt, tIfge, tIfgt, tIfle, tCmeq, tCmne, tCmlt, tCmge, tCmgt, tCmle, tNu, tTs, tGf, tPf, tGs, tIal, tIas, tBal, tBas, tAln, tSv, tSc, tSb, tSl, tSk, tCv, tCs, tCt, tMx, tMn, wr_10000, wr_100000, wr_1000000, wr_10000000, wr_100000000, wr_2400, wr_9999, wr_0, wr_1, wr_2, wr_3, wr_4, wr_5, wr_6, wr_7, wr_8, wr_9, wr_10, wr_11, wr_12, wr_13, wr_14, wr_15, wr_16, wr_17, wr_18, wr_19, wr_20, wr_21, wr_22, wr_23, wr_24, wr_25, wr_26, wr_27, wr_28, wr_29, wr_30, wr_31, wr_32, wr_33, wr_34, wr_35, wr_36, wr_37, wr_38, wr_39, wr_40, wr_41, wr_42, wr_43, wr_44, wr_45, wr_46, wr_47, wr_48, wr_49, wr_50, wr_51, wr_52, wr_53, wr_54, wr_55, wr_56, wr_57, wr_58, wr_59, wr_60, wr_61, wr_62, wr_63, wr_99, wr_100, wr_192, wr_255, wr_256, wr_343, wr_999, wr_1000, wr_2401, wr_2147483647, wr_65535, wr_m1, wr_m2, wr_m3, wr_m4, wr_m9, ak_1000, ak_1001, ak_1002, ak_0, ak_1, ak_2, ak_3, ak_4, ak_5, ak_6, ak_7, ak_8, ak_9, ak_10, ak_11, ak_12, ak_13, ak_14, ak_15, ak_16, ak_17, ak_18, ak_19, ak_20, ak_21, ak_22, ak_23, ak_24, ak_25, ak_26, ak_27, ak_28, ak_29, ak_30, ak_31, ak_32, ak_33, ak_34, ak_35, ak_36, ak_37, ak_38, ak_39, ak_40, ak_41, ak_42, ak_43, ak_44, ak_45, ak_46, ak_47, u26, wk, wm, nk]
theorem fl_X6_find {M : List AC} {st lk len ac nx rf lr en lm : Int} {sd : Int64} (h0 : M[26]? = some (mo st lk len ac nx rf lr en lm sd)) (m tw : Int) (y : Option AV × List AC) (N : Nat) : ∀ (n k : Nat) (A : List Int), A.length = 2401 → 36 < M.length → k + n = 2401 → Ru rx_X6_find N 23 [some (vR 26), some (vI m), some (vI tw), some (vI 2401), none, none] [] (M.set 36 (aI (fil (-9) n k A))) y →
    Ru rx_X6_find (N + 20 * n + 10) 2 [some (vR 26), some (vI m), some (vI tw), some (vI (k : Int)), none, none] [] (M.set 36 (aI A)) y
  | 0, k, A, hA, hM, hk, kk => by
    have e : k = 2401 := by omega
    subst e
    obtain ⟨n, hn, h⟩ := kk
    rw [fil] at h
    refine ⟨n + 9 + 1, by omega, ?_⟩
    rw [rs_X6_find_2]
    simp [↓ri_X6_find, rs_X6_find_0, rs_X6_find_1, rs_X6_find_3, rs_X6_find_6, rs_X6_find_9, rs_X6_find_10, rs_X6_find_13, rs_X6_find_14, rs_X6_find_16, rs_X6_find_17, rs_X6_find_20, rs_X6_find_24, rs_X6_find_27, rs_X6_find_28, rs_X6_find_31, rs_X6_find_32, rs_X6_find_33, rs_X6_find_36, rs_X6_find_37, rs_X6_find_38, rs_X6_find_39, rs_X6_find_40, rs_X6_find_43, rs_X6_find_44, rs_X6_find_45, rs_X6_find_46, rs_X6_find_47, rs_X6_find_48, rs_X6_find_51, rs_X6_find_52, rs_X6_find_54, rs_X6_find_57, rs_X6_find_58, rs_X6_find_60, rs_X6_find_62, rs_X6_find_63, rs_X6_find_66, rs_X6_find_69, rs_X6_find_70, rs_X6_find_73, rs_X6_find_75, rs_X6_find_78, rs_X6_find_79, rs_X6_find_82, rs_X6_find_84, rs_X6_find_85, rs_X6_find_87, rs_X6_find_88, rs_X6_find_90, rs_X6_find_93, rs_X6_find_94, rs_X6_find_95, rs_X6_find_98, rs_X6_find_101, rs_X6_find_102, rs_X6_find_104, rs_X6_find_107, rs_X6_find_110, rs_X6_find_111, rs_X6_find_114, rs_X6_find_115, rs_X6_find_117, rs_X6_find_120, rs_X6_find_123, rs_X6_find_124, rs_X6_find_126, rs_X6_find_129, rs_X6_find_132, rs_X6_find_135, -List.getElem?_eq_getElem, am_js, am_e, am_in, am_sl, rI, rZ, rV, rJ, rA, rC, kI, kJ, kR, am_one, am_nl, am_w8, tIc, tLc, tNul, tIld, tLld, tAld, tIst, tLst, tAst, tIinc, tI2, tDv, tL2, tLrem, tLs, tLcmp, tI2l, tL2i, tI2c, tDup, tDup2, tPop, tGo, tIfeq, tIfne, tIflt, tIfge, tIfgt, tIfle, tCmeq, tCmne, tCmlt, tCmge, tCmgt, tCmle, tNu, tTs, tGf, tPf, tGs, tIal, tIas, tBal, tBas, tAln, tSv, tSc, tSb, tSl, tSk, tCv, tCs, tCt, tMx, tMn, wr_10000, wr_100000, wr_1000000, wr_10000000, wr_100000000, wr_2400, wr_9999, wr_0, wr_1, wr_2, wr_3, wr_4, wr_5, wr_6, wr_7, wr_8, wr_9, wr_10, wr_11, wr_12, wr_13, wr_14, wr_15, wr_16, wr_17, wr_18, wr_19, wr_20, wr_21, wr_22, wr_23, wr_24, wr_25, wr_26, wr_27, wr_28, wr_29, wr_30, wr_31, wr_32, wr_33, wr_34, wr_35, wr_36, wr_37, wr_38, wr_39, wr_40, wr_41, wr_42, wr_43, wr_44, wr_45, wr_46, wr_47, wr_48, wr_49, wr_50, wr_51, wr_52, wr_53, wr_54, wr_55, wr_56, wr_57, wr_58, wr_59, wr_60, wr_61, wr_62, wr_63, wr_99, wr_100, wr_192, wr_255, wr_256, wr_343, wr_999, wr_1000, wr_2401, wr_2147483647, wr_65535, wr_m1, wr_m2, wr_m3, wr_m4, wr_m9, ak_1000, ak_1001, ak_1002, ak_0, ak_1, ak_2, ak_3, ak_4, ak_5, ak_6, ak_7, ak_8, ak_9, ak_10, ak_11, ak_12, ak_13, ak_14, ak_15, ak_16, ak_17, ak_18, ak_19, ak_20, ak_21, ak_22, ak_23, ak_24, ak_25, ak_26, ak_27, ak_28, ak_29, ak_30, ak_31, ak_32, ak_33, ak_34, ak_35, ak_36, ak_37, ak_38, ak_39, ak_40, ak_41, ak_42, ak_43, ak_44, ak_45, ak_46, ak_47]
    exact rm_X6_find h (by omega)
  | n + 1, k, A, hA, hM, hk, kk => by
    have wk : wr (k : Int) = k := wr_id (by omega) (by omega)
    have nk : ¬ (2401 : Int) ≤ k := by omega
    have k24 : (k : Int) < 2401 := by omega
    have hA2 : (A.set k (-9)).length = 2401 := by rw [List.length_set]; exact hA
    rw [fil] at kk
    obtain ⟨m', hm', h⟩ := fl_X6_find h0 m tw y N n (k + 1) (A.set k (-9)) hA2 hM (by omega) kk
    refine ⟨m' + 19 + 1, by omega, ?_⟩
    rw [rs_X6_find_2]
    have i26 : (M.set 36 (aI A))[26]? = some (mo st lk len ac nx rf lr en lm sd) := by rw [List.getElem?_set_ne (by decide)]; exact h0
    have i36 : (M.set 36 (aI A))[36]? = some (aI A) := List.getElem?_set_self hM
    have e1 : ((k + 1 : Nat) : Int) = (k : Int) + 1 := by omega
    rw [e1] at h
    simp only [mo] at i26
    simp [↓ri_X6_find, rs_X6_find_0, rs_X6_find_1, rs_X6_find_3, rs_X6_find_6, rs_X6_find_9, rs_X6_find_10, rs_X6_find_13, rs_X6_find_14, rs_X6_find_16, rs_X6_find_17, rs_X6_find_20, rs_X6_find_23, rs_X6_find_24, rs_X6_find_27, rs_X6_find_28, rs_X6_find_31, rs_X6_find_32, rs_X6_find_33, rs_X6_find_36, rs_X6_find_37, rs_X6_find_38, rs_X6_find_39, rs_X6_find_40, rs_X6_find_43, rs_X6_find_44, rs_X6_find_45, rs_X6_find_46, rs_X6_find_47, rs_X6_find_48, rs_X6_find_51, rs_X6_find_52, rs_X6_find_54, rs_X6_find_57, rs_X6_find_58, rs_X6_find_60, rs_X6_find_62, rs_X6_find_63, rs_X6_find_66, rs_X6_find_69, rs_X6_find_70, rs_X6_find_73, rs_X6_find_75, rs_X6_find_78, rs_X6_find_79, rs_X6_find_82, rs_X6_find_84, rs_X6_find_85, rs_X6_find_87, rs_X6_find_88, rs_X6_find_90, rs_X6_find_93, rs_X6_find_94, rs_X6_find_95, rs_X6_find_98, rs_X6_find_101, rs_X6_find_102, rs_X6_find_104, rs_X6_find_107, rs_X6_find_110, rs_X6_find_111, rs_X6_find_114, rs_X6_find_115, rs_X6_find_117, rs_X6_find_120, rs_X6_find_123, rs_X6_find_124, rs_X6_find_126, rs_X6_find_129, rs_X6_find_132, rs_X6_find_135, -List.getElem?_eq_getElem, am_js, am_e, am_in, am_sl, rI, rZ, rV, rJ, rA, rC, kI, kJ, kR, am_one, am_nl, am_w8, tIc, tLc, tNul, tIld, tLld, tAld, tIst, tLst, tAst, tIinc, tI2, tDv, tL2, tLrem, tLs, tLcmp, tI2l, tL2i, tI2c, tDup, tDup2, tPop, tGo, tIfeq, tIfne, tIflt, tIfge, tIfgt, tIfle, tCmeq, tCmne, tCmlt, tCmge, tCmgt, tCmle, tNu, tTs, tGf, tPf, tGs, tIal, tIas, tBal, tBas, tAln, tSv, tSc, tSb, tSl, tSk, tCv, tCs, tCt, tMx, tMn, wr_10000, wr_100000, wr_1000000, wr_10000000, wr_100000000, wr_2400, wr_9999, wr_0, wr_1, wr_2, wr_3, wr_4, wr_5, wr_6, wr_7, wr_8, wr_9, wr_10, wr_11, wr_12, wr_13, wr_14, wr_15, wr_16, wr_17, wr_18, wr_19, wr_20, wr_21, wr_22, wr_23, wr_24, wr_25, wr_26, wr_27, wr_28, wr_29, wr_30, wr_31, wr_32, wr_33, wr_34, wr_35, wr_36, wr_37, wr_38, wr_39, wr_40, wr_41, wr_42, wr_43, wr_44, wr_45, wr_46, wr_47, wr_48, wr_49, wr_50, wr_51, wr_52, wr_53, wr_54, wr_55, wr_56, wr_57, wr_58, wr_59, wr_60, wr_61, wr_62, wr_63, wr_99, wr_100, wr_192, wr_255, wr_256, wr_343, wr_999, wr_1000, wr_2401, wr_2147483647, wr_65535, wr_m1, wr_m2, wr_m3, wr_m4, wr_m9, ak_1000, ak_1001, ak_1002, ak_0, ak_1, ak_2, ak_3, ak_4, ak_5, ak_6, ak_7, ak_8, ak_9, ak_10, ak_11, ak_12, ak_13, ak_14, ak_15, ak_16, ak_17, ak_18, ak_19, ak_20, ak_21, ak_22, ak_23, ak_24, ak_25, ak_26, ak_27, ak_28, ak_29, ak_30, ak_31, ak_32, ak_33, ak_34, ak_35, ak_36, ak_37, ak_38, ak_39, ak_40, ak_41, ak_42, ak_43, ak_44, ak_45, ak_46, ak_47, i26, i36, hA, wk, nk, k24]
    exact rm_X6_find h (by omega)
theorem U6_S0 {M : List AC} {B P : List Int} (h37 : M[37]? = some (aI B)) (h38 : M[38]? = some (aI P)) (st lk len ac nx rf lr en : Int) (sd : Int64) (d b s : F4) (A L : List Int) (lm : Int) : U6 ((M.set 33 (aI (l4 b))).set 34 (aI (l4 s))) st lk len ac nx rf lr en sd d (A, B, P, L, lm) = (((((M.set 26 (mo st lk len ac nx rf lr en lm sd)).set 32 (aI (l4 d))).set 33 (aI (l4 b))).set 34 (aI (l4 s))).set 36 (aI A)).set 39 (aI L) := by
  have hM : (M.set 37 (aI B)).set 38 (aI P) = M := by rw [set_same h37, set_same h38]
  have key : ∀ N : List AC, U6 ((N.set 33 (aI (l4 b))).set 34 (aI (l4 s))) st lk len ac nx rf lr en sd d (A, B, P, L, lm) = (((((((N.set 37 (aI B)).set 38 (aI P)).set 26 (mo st lk len ac nx rf lr en lm sd)).set 32 (aI (l4 d))).set 33 (aI (l4 b))).set 34 (aI (l4 s))).set 36 (aI A)).set 39 (aI L) := by
    intro N
    unfold U6
    dsimp only
    simp only [ss (i := 26) (j := 32) (by decide), ss (i := 26) (j := 33) (by decide), ss (i := 26) (j := 34) (by decide), ss (i := 26) (j := 36) (by decide), ss (i := 26) (j := 37) (by decide), ss (i := 26) (j := 38) (by decide), ss (i := 26) (j := 39) (by decide), ss (i := 32) (j := 33) (by decide), ss (i := 32) (j := 34) (by decide), ss (i := 32) (j := 36) (by decide), ss (i := 32) (j := 37) (by decide), ss (i := 32) (j := 38) (by decide), ss (i := 32) (j := 39) (by decide), ss (i := 33) (j := 34) (by decide), ss (i := 33) (j := 36) (by decide), ss (i := 33) (j := 37) (by decide), ss (i := 33) (j := 38) (by decide), ss (i := 33) (j := 39) (by decide), ss (i := 34) (j := 36) (by decide), ss (i := 34) (j := 37) (by decide), ss (i := 34) (j := 38) (by decide), ss (i := 34) (j := 39) (by decide), ss (i := 36) (j := 37) (by decide), ss (i := 36) (j := 38) (by decide), ss (i := 36) (j := 39) (by decide), ss (i := 37) (j := 38) (by decide), ss (i := 37) (j := 39) (by decide), ss (i := 38) (j := 39) (by decide)]
  rw [key M, hM]
theorem sp_X6_find {M : List AC} {st lk len ac nx rf lr en lm : Int} {sd : Int64} (h0 : M[26]? = some (mo st lk len ac nx rf lr en lm sd)) {g d b s d' b' s' : F4} (h27 : M[27]? = some (aI (l4 g))) (h28 : M[28]? = some (aI (nw d b s))) (h32 : M[32]? = some (aI (l4 d'))) (h33 : M[33]? = some (aI (l4 b'))) (h34 : M[34]? = some (aI (l4 s'))) (hr : SR st g s d b) {A B P L : List Int} (h36 : M[36]? = some (aI A)) (h37 : M[37]? = some (aI B)) (h38 : M[38]? = some (aI P)) (h39 : M[39]? = some (aI L)) (k1 : A.length = 2401) (k2 : B.length = 2401) (k3 : P.length = 2401) (k4 : L.length = 2401) (hM : 42 < M.length) (m tw : Int) (hm : 1 ≤ m ∧ m ≤ 6) (htw : tw = 0 ∨ tw = 1) : ∃ d1 : F4, fn_X6_find [vR 26, vI m, vI tw] M = some (none, U6 ((M.set 33 (aI (l4 b))).set 34 (aI (l4 s))) st lk len ac nx rf lr (bf6 st g s b m tw 2401 0 (S0 (so d) B P L)).2 sd d1 (bf6 st g s b m tw 2401 0 (S0 (so d) B P L)).1) := by
  have hx := so_rng hr.2.2.2.1
  have hI := S0_I6 hx k2 k3 k4
  have hH : H6 ((M.set 33 (aI (l4 b))).set 34 (aI (l4 s))) g b s := ⟨by rw [List.length_set, List.length_set]; exact hM, by simp [-List.getElem?_eq_getElem, h27], by simp [-List.getElem?_eq_getElem, gs h33], by simp [-List.getElem?_eq_getElem, gs h34]⟩
  obtain ⟨d1, k, hk, h⟩ := lp_X6_find hH (lk := lk) (len := len) (ac := ac) (nx := nx) (rf := rf) (lr := lr) (sd := sd) hr.1 hr.2.1 hr.2.2.1 hr.2.2.2.2 hm htw (so d) 2401 0 d (S0 (so d) B P L) none (by omega) (by omega) hI
  refine ⟨d1, ?_⟩
  generalize U6 ((M.set 33 (aI (l4 b))).set 34 (aI (l4 s))) st lk len ac nx rf lr (bf6 st g s b m tw 2401 0 (S0 (so d) B P L)).2 sd d1 (bf6 st g s b m tw 2401 0 (S0 (so d) B P L)).1 = Y at h ⊢
  unfold S0 at h
  rw [U6_S0 h37 h38] at h
  have q1 := sp_X6_layNow (M := M.set 36 (aI F9)) (st := st) (lk := lk) (len := len) (ac := ac) (nx := nx) (rf := rf) (lr := lr) (en := en) (lm := lm) (sd := sd) (d := d) (b := b) (s := s) (d' := d') (b' := b') (s' := s') (by simp [-List.getElem?_eq_getElem, h0, gs h0]) (by simp [-List.getElem?_eq_getElem, h28, gs h28]) (by simp [-List.getElem?_eq_getElem, h32, gs h32]) (by simp [-List.getElem?_eq_getElem, h33, gs h33]) (by simp [-List.getElem?_eq_getElem, h34, gs h34])
  have q2 := sp_X6_stateOf (M := (((M.set 36 (aI F9)).set 32 (aI (l4 d))).set 33 (aI (l4 b))).set 34 (aI (l4 s))) (st := st) (lk := lk) (len := len) (ac := ac) (nx := nx) (rf := rf) (lr := lr) (en := en) (lm := lm) (sd := sd) (d := d) (by simp [-List.getElem?_eq_getElem, h0, gs h0]) (by simp [-List.getElem?_eq_getElem, h32, gs h32])
  have w0 : wr (so d) = so d := wr_id (by omega) (by omega)
  generalize so d = x at hx h q2 w0
  obtain ⟨k2', hk2', h2⟩ := fl_X6_find h0 m tw (none, Y) (k + 60) 2401 0 A k1 (by omega) (by omega) (by
    rw [fil_rep (-9) A 2401 k1]
    change Ru rx_X6_find (k + 60) 23 _ [] (M.set 36 (aI F9)) (none, Y)
    refine ⟨k + 59 + 1, by omega, ?_⟩
    rw [rs_X6_find_23]
    have i26 : (M.set 36 (aI F9))[26]? = some (mo st lk len ac nx rf lr en lm sd) := by rw [List.getElem?_set_ne (by decide)]; exact h0
    have hF := F9_len
    generalize F9 = F at q1 q2 i26 hF h ⊢
    simp only [mo, ss (i := 26) (j := 32) (by decide), ss (i := 26) (j := 33) (by decide), ss (i := 26) (j := 34) (by decide), ss (i := 26) (j := 36) (by decide), ss (i := 26) (j := 39) (by decide), ss (i := 32) (j := 33) (by decide), ss (i := 32) (j := 34) (by decide), ss (i := 32) (j := 36) (by decide), ss (i := 32) (j := 39) (by decide), ss (i := 33) (j := 34) (by decide), ss (i := 33) (j := 36) (by decide), ss (i := 33) (j := 39) (by decide), ss (i := 34) (j := 36) (by decide), ss (i := 34) (j := 39) (by decide), ss (i := 36) (j := 39) (by decide)] at i26 q1 q2 h
    simp [↓ri_X6_find, rs_X6_find_0, rs_X6_find_1, rs_X6_find_2, rs_X6_find_3, rs_X6_find_6, rs_X6_find_9, rs_X6_find_10, rs_X6_find_13, rs_X6_find_14, rs_X6_find_16, rs_X6_find_17, rs_X6_find_20, rs_X6_find_24, rs_X6_find_27, rs_X6_find_28, rs_X6_find_31, rs_X6_find_32, rs_X6_find_33, rs_X6_find_36, rs_X6_find_37, rs_X6_find_38, rs_X6_find_39, rs_X6_find_40, rs_X6_find_43, rs_X6_find_44, rs_X6_find_45, rs_X6_find_46, rs_X6_find_47, rs_X6_find_48, rs_X6_find_51, rs_X6_find_52, rs_X6_find_54, rs_X6_find_57, rs_X6_find_58, rs_X6_find_62, rs_X6_find_63, rs_X6_find_66, rs_X6_find_69, rs_X6_find_70, rs_X6_find_73, rs_X6_find_75, rs_X6_find_78, rs_X6_find_79, rs_X6_find_82, rs_X6_find_84, rs_X6_find_85, rs_X6_find_87, rs_X6_find_88, rs_X6_find_90, rs_X6_find_93, rs_X6_find_94, rs_X6_find_95, rs_X6_find_98, rs_X6_find_101, rs_X6_find_102, rs_X6_find_104, rs_X6_find_107, rs_X6_find_110, rs_X6_find_111, rs_X6_find_114, rs_X6_find_115, rs_X6_find_117, rs_X6_find_120, rs_X6_find_123, rs_X6_find_124, rs_X6_find_126, rs_X6_find_129, rs_X6_find_132, rs_X6_find_135, -List.getElem?_eq_getElem, am_js, am_e, am_in, am_sl, rI, rZ, rV, rJ, rA, rC, kI, kJ, kR, am_one, am_nl, am_w8, tIc, tLc, tNul, tIld, tLld, tAld, tIst, tLst, tAst, tIinc, tI2, tDv, tL2, tLrem, tLs, tLcmp, tI2l, tL2i, tI2c, tDup, tDup2, tPop, tGo, tIfeq, tIfne, tIflt, tIfge, tIfgt, tIfle, tCmeq, tCmne, tCmlt, tCmge, tCmgt, tCmle, tNu, tTs, tGf, tPf, tGs, tIal, tIas, tBal, tBas, tAln, tSv, tSc, tSb, tSl, tSk, tCv, tCs, tCt, tMx, tMn, wr_10000, wr_100000, wr_1000000, wr_10000000, wr_100000000, wr_2400, wr_9999, wr_0, wr_1, wr_2, wr_3, wr_4, wr_5, wr_6, wr_7, wr_8, wr_9, wr_10, wr_11, wr_12, wr_13, wr_14, wr_15, wr_16, wr_17, wr_18, wr_19, wr_20, wr_21, wr_22, wr_23, wr_24, wr_25, wr_26, wr_27, wr_28, wr_29, wr_30, wr_31, wr_32, wr_33, wr_34, wr_35, wr_36, wr_37, wr_38, wr_39, wr_40, wr_41, wr_42, wr_43, wr_44, wr_45, wr_46, wr_47, wr_48, wr_49, wr_50, wr_51, wr_52, wr_53, wr_54, wr_55, wr_56, wr_57, wr_58, wr_59, wr_60, wr_61, wr_62, wr_63, wr_99, wr_100, wr_192, wr_255, wr_256, wr_343, wr_999, wr_1000, wr_2401, wr_2147483647, wr_65535, wr_m1, wr_m2, wr_m3, wr_m4, wr_m9, ak_1000, ak_1001, ak_1002, ak_0, ak_1, ak_2, ak_3, ak_4, ak_5, ak_6, ak_7, ak_8, ak_9, ak_10, ak_11, ak_12, ak_13, ak_14, ak_15, ak_16, ak_17, ak_18, ak_19, ak_20, ak_21, ak_22, ak_23, ak_24, ak_25, ak_26, ak_27, ak_28, ak_29, ak_30, ak_31, ak_32, ak_33, ak_34, ak_35, ak_36, ak_37, ak_38, ak_39, ak_40, ak_41, ak_42, ak_43, ak_44, ak_45, ak_46, ak_47, i26, h0, h39, q1, q2, gs h0, gs h36, gs h39, hF, k4, w0, hx, mo, ss (i := 26) (j := 32) (by decide), ss (i := 26) (j := 33) (by decide), ss (i := 26) (j := 34) (by decide), ss (i := 26) (j := 36) (by decide), ss (i := 26) (j := 39) (by decide), ss (i := 32) (j := 33) (by decide), ss (i := 32) (j := 34) (by decide), ss (i := 32) (j := 36) (by decide), ss (i := 32) (j := 39) (by decide), ss (i := 33) (j := 34) (by decide), ss (i := 33) (j := 36) (by decide), ss (i := 33) (j := 39) (by decide), ss (i := 34) (j := 36) (by decide), ss (i := 34) (j := 39) (by decide), ss (i := 36) (j := 39) (by decide)]
    exact rm_X6_find h (by omega))
  rw [set_same h36] at h2
  (refine am_fnR (tb := tb_X6_find) (N := 400000) (Nat.le_of_ble_eq_true rfl) (Nat.le_of_ble_eq_true rfl) ?_; show Ru rx_X6_find 400000 0 _ _ _ _)
  refine ⟨k2' + 5, by omega, ?_⟩
  simp [↓ri_X6_find, rs_X6_find_0, rs_X6_find_1, rs_X6_find_3, rs_X6_find_6, rs_X6_find_9, rs_X6_find_10, rs_X6_find_13, rs_X6_find_14, rs_X6_find_16, rs_X6_find_17, rs_X6_find_20, rs_X6_find_23, rs_X6_find_24, rs_X6_find_27, rs_X6_find_28, rs_X6_find_31, rs_X6_find_32, rs_X6_find_33, rs_X6_find_36, rs_X6_find_37, rs_X6_find_38, rs_X6_find_39, rs_X6_find_40, rs_X6_find_43, rs_X6_find_44, rs_X6_find_45, rs_X6_find_46, rs_X6_find_47, rs_X6_find_48, rs_X6_find_51, rs_X6_find_52, rs_X6_find_54, rs_X6_find_57, rs_X6_find_58, rs_X6_find_60, rs_X6_find_62, rs_X6_find_63, rs_X6_find_66, rs_X6_find_69, rs_X6_find_70, rs_X6_find_73, rs_X6_find_75, rs_X6_find_78, rs_X6_find_79, rs_X6_find_82, rs_X6_find_84, rs_X6_find_85, rs_X6_find_87, rs_X6_find_88, rs_X6_find_90, rs_X6_find_93, rs_X6_find_94, rs_X6_find_95, rs_X6_find_98, rs_X6_find_101, rs_X6_find_102, rs_X6_find_104, rs_X6_find_107, rs_X6_find_110, rs_X6_find_111, rs_X6_find_114, rs_X6_find_115, rs_X6_find_117, rs_X6_find_120, rs_X6_find_123, rs_X6_find_124, rs_X6_find_126, rs_X6_find_129, rs_X6_find_132, rs_X6_find_135, -List.getElem?_eq_getElem, am_js, am_e, am_in, am_sl, rI, rZ, rV, rJ, rA, rC, kI, kJ, kR, am_one, am_nl, am_w8, tIc, tLc, tNul, tIld, tLld, tAld, tIst, tLst, tAst, tIinc, tI2, tDv, tL2, tLrem, tLs, tLcmp, tI2l, tL2i, tI2c, tDup, tDup2, tPop, tGo, tIfeq, tIfne, tIflt, tIfge, tIfgt, tIfle, tCmeq, tCmne, tCmlt, tCmge, tCmgt, tCmle, tNu, tTs, tGf, tPf, tGs, tIal, tIas, tBal, tBas, tAln, tSv, tSc, tSb, tSl, tSk, tCv, tCs, tCt, tMx, tMn, wr_10000, wr_100000, wr_1000000, wr_10000000, wr_100000000, wr_2400, wr_9999, wr_0, wr_1, wr_2, wr_3, wr_4, wr_5, wr_6, wr_7, wr_8, wr_9, wr_10, wr_11, wr_12, wr_13, wr_14, wr_15, wr_16, wr_17, wr_18, wr_19, wr_20, wr_21, wr_22, wr_23, wr_24, wr_25, wr_26, wr_27, wr_28, wr_29, wr_30, wr_31, wr_32, wr_33, wr_34, wr_35, wr_36, wr_37, wr_38, wr_39, wr_40, wr_41, wr_42, wr_43, wr_44, wr_45, wr_46, wr_47, wr_48, wr_49, wr_50, wr_51, wr_52, wr_53, wr_54, wr_55, wr_56, wr_57, wr_58, wr_59, wr_60, wr_61, wr_62, wr_63, wr_99, wr_100, wr_192, wr_255, wr_256, wr_343, wr_999, wr_1000, wr_2401, wr_2147483647, wr_65535, wr_m1, wr_m2, wr_m3, wr_m4, wr_m9, ak_1000, ak_1001, ak_1002, ak_0, ak_1, ak_2, ak_3, ak_4, ak_5, ak_6, ak_7, ak_8, ak_9, ak_10, ak_11, ak_12, ak_13, ak_14, ak_15, ak_16, ak_17, ak_18, ak_19, ak_20, ak_21, ak_22, ak_23, ak_24, ak_25, ak_26, ak_27, ak_28, ak_29, ak_30, ak_31, ak_32, ak_33, ak_34, ak_35, ak_36, ak_37, ak_38, ak_39, ak_40, ak_41, ak_42, ak_43, ak_44, ak_45, ak_46, ak_47]
  exact rm_X6_find h2 (by omega)
end
