noncomputable section
/-- one corner put on to its depth of the row x -/
def po1 (st : Int) (g s b : F4) (x : Int) (d : F4) (c : Nat) : F4 := (sl st g s b 4 (s4 d c (g4 (uf x) c)) 0).1
/-- the corners cf k .. put on one behind the other -/
def pon (st : Int) (g s b : F4) (x : Int) (cf : Int → Int) : Nat → Int → F4 → F4
  | 0, _, d => d
  | n + 1, k, d => pon st g s b x cf n (k + 1) (po1 st g s b x d (cf k).toNat)
theorem pon_cong (st : Int) (g s b : F4) (x : Int) {cf cf' : Int → Int} : ∀ (n : Nat) (k : Int) (d : F4), (∀ j : Int, k ≤ j → j < k + n → cf j = cf' j) → pon st g s b x cf n k d = pon st g s b x cf' n k d
  | 0, _, _, _ => rfl
  | n + 1, k, d, h => by
    rw [pon, pon, h k (by omega) (by omega)]
    exact pon_cong st g s b x n (k + 1) _ (fun j h1 h2 => h j (by omega) (by omega))
theorem uf_g (x : Int) (c : Nat) (hc : c < 4) : g4 (uf x) c = x / pw (3 - (c : Int)) % 10 := by
  match c, hc with
  | 0, _ => rfl
  | 1, _ => rfl
  | 2, _ => rfl
  | 3, _ =>
    show x % 10 = x / 1 % 10
    rw [Int.ediv_one]
def c6 (o k : Int) : Int := o2 o (6 - 2 * k)
theorem c6_F : ∀ o : Fin 256, os (o.val : Int) = 15 → ∀ k : Fin 4, 0 ≤ c6 (o.val : Int) (k.val : Int) ∧ c6 (o.val : Int) (k.val : Int) < 4 ∧ c6 (o.val : Int) (k.val : Int) = to4 (o.val : Int) / pw (3 - (k.val : Int)) % 10 := by decide +kernel
theorem c6_e {o k : Int} (ho : 0 ≤ o ∧ o < 256) (hs : os o = 15) (hk : 0 ≤ k ∧ k < 4) : (0 ≤ c6 o k ∧ c6 o k < 4) ∧ c6 o k = to4 o / pw (3 - k) % 10 := by
  have h := c6_F ⟨o.toNat, by omega⟩
  have e1 : ((o.toNat : Nat) : Int) = o := by omega
  have e2 : ((k.toNat : Nat) : Int) = k := by omega
  dsimp only at h
  rw [e1] at h
  have h2 := h hs ⟨k.toNat, by omega⟩
  dsimp only at h2
  rw [e2] at h2
  exact ⟨⟨h2.1, h2.2.1⟩, h2.2.2⟩
abbrev mi_X6_putOn : Mi := (yX6_putOn, cX6_putOn, 5, some .int, 7)
theorem mf_X6_putOn : am_mf mi_X6_putOn 2 := ⟨w_co_X6_putOn, w_in_X6, ⟨by decide +kernel, by decide +kernel⟩, by decide +kernel, by decide⟩
def tb_X6_putOn : List (Nat × Tr) := [(0, tAld 0 1), (1, tCv 6 0 fn_X6_layNow), (4, tIc 0 1), (5, tIst 3 1), (6, tIld 3 1), (7, tIc 4 1), (8, tCmge 24), (11, tAld 0 1), (12, tGf 6 8), (15, tIld 3 1), (16, tIc 0 1), (17, tIas), (18, tIinc 3 1), (21, tGo 6), (24, tIc 0 1), (25, tIst 3 1), (26, tIld 3 1), (27, tIc 4 1), (28, tCmge 68), (31, tIld 2 1), (32, tIld 3 1), (33, tCs 2 fn_X6_ordered), (36, tIst 4 2), (38, tAld 0 1), (39, tGf 6 8), (42, tIld 4 2), (44, tIld 1 1), (45, tIc 3 1), (46, tIld 4 2), (48, tI2 (fun a b => a - b)), (49, tCs 1 fn_X6_tenTo), (52, tDv Int.tdiv), (53, tIc 10 2), (55, tDv Int.tmod), (56, tIas), (57, tAld 0 1), (58, tCv 6 0 fn_X6_slips), (61, tPop), (62, tIinc 3 1), (65, tGo 26), (68, tAld 0 1), (69, tCv 6 0 fn_X6_told)]
theorem ok_X6_putOn : Tok mi_X6_putOn tb_X6_putOn :=
  Tc (sd_aload_n dX6_putOn_0) <|
  Tc (sd_cv (T := TX6) fok_X6_layNow mf_X6_layNow rfl w_ml_X6_115 w_im_X6_layNow w_se_X6_layNow (by decide) dX6_putOn_1) <|
  Tc (sd_iconst rfl dX6_putOn_4) <|
  Tc (sd_istore_n dX6_putOn_5) <|
  Tc (sd_iload_n dX6_putOn_6) <|
  Tc (sd_iconst rfl dX6_putOn_7) <|
  Tc (sd_cm_ge (by decide) dX6_putOn_8) <|
  Tc (sd_aload_n dX6_putOn_11) <|
  Tc (sd_getf (T := TX6) rfl giX6 (by decide) w_fl_X6_25 dX6_putOn_12) <|
  Tc (sd_iload_n dX6_putOn_15) <|
  Tc (sd_iconst rfl dX6_putOn_16) <|
  Tc (sd_ias dX6_putOn_17) <|
  Tc (sd_iinc dX6_putOn_18) <|
  Tc (sd_goto (by decide) dX6_putOn_21) <|
  Tc (sd_iconst rfl dX6_putOn_24) <|
  Tc (sd_istore_n dX6_putOn_25) <|
  Tc (sd_iload_n dX6_putOn_26) <|
  Tc (sd_iconst rfl dX6_putOn_27) <|
  Tc (sd_cm_ge (by decide) dX6_putOn_28) <|
  Tc (sd_iload_n dX6_putOn_31) <|
  Tc (sd_iload_n dX6_putOn_32) <|
  Tc (sd_cs fok_X6_ordered mf_X6_ordered w_ml_X6_197 w_st_X6_ordered (by decide) dX6_putOn_33) <|
  Tc (sd_istore dX6_putOn_36) <|
  Tc (sd_aload_n dX6_putOn_38) <|
  Tc (sd_getf (T := TX6) rfl giX6 (by decide) w_fl_X6_25 dX6_putOn_39) <|
  Tc (sd_iload dX6_putOn_42) <|
  Tc (sd_iload_n dX6_putOn_44) <|
  Tc (sd_iconst rfl dX6_putOn_45) <|
  Tc (sd_iload dX6_putOn_46) <|
  Tc (sd_isub dX6_putOn_48) <|
  Tc (sd_cs fok_X6_tenTo mf_X6_tenTo w_ml_X6_120 w_st_X6_tenTo (by decide) dX6_putOn_49) <|
  Tc (sd_idiv dX6_putOn_52) <|
  Tc (sd_bipush (by decide +kernel) dX6_putOn_53) <|
  Tc (sd_irem dX6_putOn_55) <|
  Tc (sd_ias dX6_putOn_56) <|
  Tc (sd_aload_n dX6_putOn_57) <|
  Tc (sd_cv (T := TX6) fok_X6_slips mf_X6_slips rfl w_ml_X6_135 w_im_X6_slips w_se_X6_slips (by decide) dX6_putOn_58) <|
  Tc (sd_pop dX6_putOn_61) <|
  Tc (sd_iinc dX6_putOn_62) <|
  Tc (sd_goto (by decide) dX6_putOn_65) <|
  Tc (sd_aload_n dX6_putOn_68) <|
  Tc (sd_cv (T := TX6) fok_X6_told mf_X6_told rfl w_ml_X6_138 w_im_X6_told w_se_X6_told (by decide) dX6_putOn_69) <|
  Tn
theorem rk_X6_putOn : Rok mi_X6_putOn rI [72] := rk_i dX6_putOn_72 <| rk_n
def rx_X6_putOn : Nat → Nat → AL → List AV → List AC → Option (Option AV × List AC) := am_r tb_X6_putOn rI [72]
theorem rs_X6_putOn_0 (n : Nat) (L : AL) (st : List AV) (M : List AC) : rx_X6_putOn (n + 1) 0 L st M = am_j (rx_X6_putOn n) ((tAld 0 1) 0 L st M) := rfl
theorem rs_X6_putOn_1 (n : Nat) (L : AL) (st : List AV) (M : List AC) : rx_X6_putOn (n + 1) 1 L st M = am_j (rx_X6_putOn n) ((tCv 6 0 fn_X6_layNow) 1 L st M) := rfl
theorem rs_X6_putOn_4 (n : Nat) (L : AL) (st : List AV) (M : List AC) : rx_X6_putOn (n + 1) 4 L st M = am_j (rx_X6_putOn n) ((tIc 0 1) 4 L st M) := rfl
theorem rs_X6_putOn_5 (n : Nat) (L : AL) (st : List AV) (M : List AC) : rx_X6_putOn (n + 1) 5 L st M = am_j (rx_X6_putOn n) ((tIst 3 1) 5 L st M) := rfl
theorem rs_X6_putOn_6 (n : Nat) (L : AL) (st : List AV) (M : List AC) : rx_X6_putOn (n + 1) 6 L st M = am_j (rx_X6_putOn n) ((tIld 3 1) 6 L st M) := rfl
theorem rs_X6_putOn_7 (n : Nat) (L : AL) (st : List AV) (M : List AC) : rx_X6_putOn (n + 1) 7 L st M = am_j (rx_X6_putOn n) ((tIc 4 1) 7 L st M) := rfl
theorem rs_X6_putOn_8 (n : Nat) (L : AL) (st : List AV) (M : List AC) : rx_X6_putOn (n + 1) 8 L st M = am_j (rx_X6_putOn n) ((tCmge 24) 8 L st M) := rfl
theorem rs_X6_putOn_11 (n : Nat) (L : AL) (st : List AV) (M : List AC) : rx_X6_putOn (n + 1) 11 L st M = am_j (rx_X6_putOn n) ((tAld 0 1) 11 L st M) := rfl
theorem rs_X6_putOn_12 (n : Nat) (L : AL) (st : List AV) (M : List AC) : rx_X6_putOn (n + 1) 12 L st M = am_j (rx_X6_putOn n) ((tGf 6 8) 12 L st M) := rfl
theorem rs_X6_putOn_15 (n : Nat) (L : AL) (st : List AV) (M : List AC) : rx_X6_putOn (n + 1) 15 L st M = am_j (rx_X6_putOn n) ((tIld 3 1) 15 L st M) := rfl
theorem rs_X6_putOn_16 (n : Nat) (L : AL) (st : List AV) (M : List AC) : rx_X6_putOn (n + 1) 16 L st M = am_j (rx_X6_putOn n) ((tIc 0 1) 16 L st M) := rfl
theorem rs_X6_putOn_17 (n : Nat) (L : AL) (st : List AV) (M : List AC) : rx_X6_putOn (n + 1) 17 L st M = am_j (rx_X6_putOn n) (tIas 17 L st M) := rfl
theorem rs_X6_putOn_18 (n : Nat) (L : AL) (st : List AV) (M : List AC) : rx_X6_putOn (n + 1) 18 L st M = am_j (rx_X6_putOn n) ((tIinc 3 1) 18 L st M) := rfl
theorem rs_X6_putOn_21 (n : Nat) (L : AL) (st : List AV) (M : List AC) : rx_X6_putOn (n + 1) 21 L st M = am_j (rx_X6_putOn n) ((tGo 6) 21 L st M) := rfl
theorem rs_X6_putOn_24 (n : Nat) (L : AL) (st : List AV) (M : List AC) : rx_X6_putOn (n + 1) 24 L st M = am_j (rx_X6_putOn n) ((tIc 0 1) 24 L st M) := rfl
theorem rs_X6_putOn_25 (n : Nat) (L : AL) (st : List AV) (M : List AC) : rx_X6_putOn (n + 1) 25 L st M = am_j (rx_X6_putOn n) ((tIst 3 1) 25 L st M) := rfl
theorem rs_X6_putOn_26 (n : Nat) (L : AL) (st : List AV) (M : List AC) : rx_X6_putOn (n + 1) 26 L st M = am_j (rx_X6_putOn n) ((tIld 3 1) 26 L st M) := rfl
theorem rs_X6_putOn_27 (n : Nat) (L : AL) (st : List AV) (M : List AC) : rx_X6_putOn (n + 1) 27 L st M = am_j (rx_X6_putOn n) ((tIc 4 1) 27 L st M) := rfl
theorem rs_X6_putOn_28 (n : Nat) (L : AL) (st : List AV) (M : List AC) : rx_X6_putOn (n + 1) 28 L st M = am_j (rx_X6_putOn n) ((tCmge 68) 28 L st M) := rfl
theorem rs_X6_putOn_31 (n : Nat) (L : AL) (st : List AV) (M : List AC) : rx_X6_putOn (n + 1) 31 L st M = am_j (rx_X6_putOn n) ((tIld 2 1) 31 L st M) := rfl
theorem rs_X6_putOn_32 (n : Nat) (L : AL) (st : List AV) (M : List AC) : rx_X6_putOn (n + 1) 32 L st M = am_j (rx_X6_putOn n) ((tIld 3 1) 32 L st M) := rfl
theorem rs_X6_putOn_33 (n : Nat) (L : AL) (st : List AV) (M : List AC) : rx_X6_putOn (n + 1) 33 L st M = am_j (rx_X6_putOn n) ((tCs 2 fn_X6_ordered) 33 L st M) := rfl
theorem rs_X6_putOn_36 (n : Nat) (L : AL) (st : List AV) (M : List AC) : rx_X6_putOn (n + 1) 36 L st M = am_j (rx_X6_putOn n) ((tIst 4 2) 36 L st M) := rfl
theorem rs_X6_putOn_38 (n : Nat) (L : AL) (st : List AV) (M : List AC) : rx_X6_putOn (n + 1) 38 L st M = am_j (rx_X6_putOn n) ((tAld 0 1) 38 L st M) := rfl
theorem rs_X6_putOn_39 (n : Nat) (L : AL) (st : List AV) (M : List AC) : rx_X6_putOn (n + 1) 39 L st M = am_j (rx_X6_putOn n) ((tGf 6 8) 39 L st M) := rfl
theorem rs_X6_putOn_42 (n : Nat) (L : AL) (st : List AV) (M : List AC) : rx_X6_putOn (n + 1) 42 L st M = am_j (rx_X6_putOn n) ((tIld 4 2) 42 L st M) := rfl
theorem rs_X6_putOn_44 (n : Nat) (L : AL) (st : List AV) (M : List AC) : rx_X6_putOn (n + 1) 44 L st M = am_j (rx_X6_putOn n) ((tIld 1 1) 44 L st M) := rfl
theorem rs_X6_putOn_45 (n : Nat) (L : AL) (st : List AV) (M : List AC) : rx_X6_putOn (n + 1) 45 L st M = am_j (rx_X6_putOn n) ((tIc 3 1) 45 L st M) := rfl
theorem rs_X6_putOn_46 (n : Nat) (L : AL) (st : List AV) (M : List AC) : rx_X6_putOn (n + 1) 46 L st M = am_j (rx_X6_putOn n) ((tIld 4 2) 46 L st M) := rfl
theorem rs_X6_putOn_48 (n : Nat) (L : AL) (st : List AV) (M : List AC) : rx_X6_putOn (n + 1) 48 L st M = am_j (rx_X6_putOn n) ((tI2 (fun a b => a - b)) 48 L st M) := rfl
theorem rs_X6_putOn_49 (n : Nat) (L : AL) (st : List AV) (M : List AC) : rx_X6_putOn (n + 1) 49 L st M = am_j (rx_X6_putOn n) ((tCs 1 fn_X6_tenTo) 49 L st M) := rfl
theorem rs_X6_putOn_52 (n : Nat) (L : AL) (st : List AV) (M : List AC) : rx_X6_putOn (n + 1) 52 L st M = am_j (rx_X6_putOn n) ((tDv Int.tdiv) 52 L st M) := rfl
theorem rs_X6_putOn_53 (n : Nat) (L : AL) (st : List AV) (M : List AC) : rx_X6_putOn (n + 1) 53 L st M = am_j (rx_X6_putOn n) ((tIc 10 2) 53 L st M) := rfl
theorem rs_X6_putOn_55 (n : Nat) (L : AL) (st : List AV) (M : List AC) : rx_X6_putOn (n + 1) 55 L st M = am_j (rx_X6_putOn n) ((tDv Int.tmod) 55 L st M) := rfl
theorem rs_X6_putOn_56 (n : Nat) (L : AL) (st : List AV) (M : List AC) : rx_X6_putOn (n + 1) 56 L st M = am_j (rx_X6_putOn n) (tIas 56 L st M) := rfl
theorem rs_X6_putOn_57 (n : Nat) (L : AL) (st : List AV) (M : List AC) : rx_X6_putOn (n + 1) 57 L st M = am_j (rx_X6_putOn n) ((tAld 0 1) 57 L st M) := rfl
theorem rs_X6_putOn_58 (n : Nat) (L : AL) (st : List AV) (M : List AC) : rx_X6_putOn (n + 1) 58 L st M = am_j (rx_X6_putOn n) ((tCv 6 0 fn_X6_slips) 58 L st M) := rfl
theorem rs_X6_putOn_61 (n : Nat) (L : AL) (st : List AV) (M : List AC) : rx_X6_putOn (n + 1) 61 L st M = am_j (rx_X6_putOn n) (tPop 61 L st M) := rfl
theorem rs_X6_putOn_62 (n : Nat) (L : AL) (st : List AV) (M : List AC) : rx_X6_putOn (n + 1) 62 L st M = am_j (rx_X6_putOn n) ((tIinc 3 1) 62 L st M) := rfl
theorem rs_X6_putOn_65 (n : Nat) (L : AL) (st : List AV) (M : List AC) : rx_X6_putOn (n + 1) 65 L st M = am_j (rx_X6_putOn n) ((tGo 26) 65 L st M) := rfl
theorem rs_X6_putOn_68 (n : Nat) (L : AL) (st : List AV) (M : List AC) : rx_X6_putOn (n + 1) 68 L st M = am_j (rx_X6_putOn n) ((tAld 0 1) 68 L st M) := rfl
theorem rs_X6_putOn_69 (n : Nat) (L : AL) (st : List AV) (M : List AC) : rx_X6_putOn (n + 1) 69 L st M = am_j (rx_X6_putOn n) ((tCv 6 0 fn_X6_told) 69 L st M) := rfl
theorem rs_X6_putOn_72 (n : Nat) (L : AL) (st : List AV) (M : List AC) : rx_X6_putOn (n + 1) 72 L st M = am_e rI st M := rfl
theorem ri_X6_putOn (c : Prop) [Decidable c] (p q n : Nat) (L : AL) (st : List AV) (M : List AC) : rx_X6_putOn n (if c then p else q) L st M = if c then rx_X6_putOn n p L st M else rx_X6_putOn n q L st M := by split <;> rfl
theorem rm_X6_putOn {n k pc : Nat} {L : AL} {st : List AV} {M : List AC} {x : Option AV × List AC} (h : rx_X6_putOn n pc L st M = some x) (hk : n ≤ k) : rx_X6_putOn k pc L st M = some x := am_r_mono n k h hk
def fn_X6_putOn : Fn := am_fn rx_X6_putOn 5
theorem fok_X6_putOn : Fok mi_X6_putOn fn_X6_putOn := fun _ _ _ _ h => am_fok ok_X6_putOn rk_X6_putOn rfl h
theorem lp_X6_putOn {st lk len ac nx rf lr en lm x o : Int} {sd : Int64} {g s b : F4} (hst : 1 ≤ st ∧ st ≤ 3) (hg : i4 1 9 g) (hs9 : i4 0 9 s) (hb : i4 0 3 b) (hx : 0 ≤ x ∧ x < 10000) (hx6 : i4 0 6 (uf x)) (ho : 0 ≤ o ∧ o < 256) (hso : os o = 15) : ∀ (n : Nat) (k : Int) (d : F4) (M : List AC) (x4 : Option AV), i4 0 6 d → M[26]? = some (mo st lk len ac nx rf lr en lm sd) → M[27]? = some (aI (l4 g)) → M[32]? = some (aI (l4 d)) → M[33]? = some (aI (l4 b)) → M[34]? = some (aI (l4 s)) → k + n = 4 → 0 ≤ k →
    Ru rx_X6_putOn (60 * n + 20) 26 [some (vR 26), some (vI x), some (vI o), some (vI k), x4] [] M (some (vI (fg (pon st g s b x (c6 o) n k d))), M.set 32 (aI (l4 (pon st g s b x (c6 o) n k d))))
  | 0, k, d, M, x4, hd, h0, h27, h32, h33, h34, hk, hk0 => by
    have e : k = 4 := by omega
    subst e
    have q := sp_X6_told h0 h32
    refine ⟨19 + 1, by omega, ?_⟩
    rw [rs_X6_putOn_26]
    simp only [pon]
    rw [set_same h32]
    simp [↓ri_X6_putOn, rs_X6_putOn_0, rs_X6_putOn_1, rs_X6_putOn_4, rs_X6_putOn_5, rs_X6_putOn_6, rs_X6_putOn_7, rs_X6_putOn_8, rs_X6_putOn_11, rs_X6_putOn_12, rs_X6_putOn_15, rs_X6_putOn_16, rs_X6_putOn_17, rs_X6_putOn_18, rs_X6_putOn_21, rs_X6_putOn_24, rs_X6_putOn_25, rs_X6_putOn_27, rs_X6_putOn_28, rs_X6_putOn_31, rs_X6_putOn_32, rs_X6_putOn_33, rs_X6_putOn_36, rs_X6_putOn_38, rs_X6_putOn_39, rs_X6_putOn_42, rs_X6_putOn_44, rs_X6_putOn_45, rs_X6_putOn_46, rs_X6_putOn_48, rs_X6_putOn_49, rs_X6_putOn_52, rs_X6_putOn_53, rs_X6_putOn_55, rs_X6_putOn_56, rs_X6_putOn_57, rs_X6_putOn_58, rs_X6_putOn_61, rs_X6_putOn_62, rs_X6_putOn_65, rs_X6_putOn_68, rs_X6_putOn_69, rs_X6_putOn_72, -List.getElem?_eq_getElem, am_js, am_e, am_in, am_sl, rI, rZ, rV, rJ, rA, rC, kI, kJ, kR, am_one, am_nl, am_w8, tIc, tLc, tNul, tIld, tLld, tAld, tIst, tLst, tAst, tIinc, tI2, tDv, tL2, tLrem, tLs, tLcmp, tI2l, tL2i, tI2c, tDup, tDup2, tPop, tGo, tIfeq, tIfne, tIflt, tIfge, tIfgt, tIfle, tCmeq, tCmne, tCmlt, tCmge, tCmgt, tCmle, tNu, tTs, tGf, tPf, tGs, tIal, tIas, tBal, tBas, tAln, tSv, tSc, tSb, tSl, tSk, tCv, tCs, tCt, tMx, tMn, wr_10000, wr_100000, wr_1000000, wr_10000000, wr_100000000, wr_2400, wr_9999, wr_0, wr_1, wr_2, wr_3, wr_4, wr_5, wr_6, wr_7, wr_8, wr_9, wr_10, wr_11, wr_12, wr_13, wr_14, wr_15, wr_16, wr_17, wr_18, wr_19, wr_20, wr_21, wr_22, wr_23, wr_24, wr_25, wr_26, wr_27, wr_28, wr_29, wr_30, wr_31, wr_32, wr_33, wr_34, wr_35, wr_36, wr_37, wr_38, wr_39, wr_40, wr_41, wr_42, wr_43, wr_44, wr_45, wr_46, wr_47, wr_48, wr_49, wr_50, wr_51, wr_52, wr_53, wr_54, wr_55, wr_56, wr_57, wr_58, wr_59, wr_60, wr_61, wr_62, wr_63, wr_99, wr_100, wr_192, wr_255, wr_256, wr_343, wr_999, wr_1000, wr_2401, wr_2147483647, wr_65535, wr_m1, wr_m2, wr_m3, wr_m4, wr_m9, ak_1000, ak_1001, ak_1002, ak_0, ak_1, ak_2, ak_3, ak_4, ak_5, ak_6, ak_7, ak_8, ak_9, ak_10, ak_11, ak_12, ak_13, ak_14, ak_15, ak_16, ak_17, ak_18, ak_19, ak_20, ak_21, ak_22, ak_23, ak_24, ak_25, ak_26, ak_27, ak_28, ak_29, ak_30, ak_31, ak_32, ak_33, ak_34, ak_35, ak_36, ak_37, ak_38, ak_39, ak_40, ak_41, ak_42, ak_43, ak_44, ak_45, ak_46, ak_47, h0, mo, q]
  | n + 1, k, d, M, x4, hd, h0, h27, h32, h33, h34, hk, hk0 => by
    have wk : wr k = k := wr_id (by omega) (by omega)
    have wx : wr x = x := wr_id (by omega) (by omega)
    have nk : ¬ 4 ≤ k := by omega
    have q1 := sp_X6_ordered o k ⟨hk0, by omega⟩ M
    rw [if_pos hso] at q1
    change fn_X6_ordered [vI o, vI k] M = some (some (vI (c6 o k)), M) at q1
    obtain ⟨hc, -⟩ := c6_e ho hso (k := k) ⟨hk0, by omega⟩
    rw [pon]
    generalize c6 o k = c at q1 hc ⊢
    have hf := i4_g hx6 c.toNat
    have hd' : i4 0 6 (s4 d c.toNat (g4 (uf x) c.toNat)) := i4_s hd _ hf.1 hf.2
    have hS : HD (M.set 32 (aI (l4 (s4 d c.toNat (g4 (uf x) c.toNat))))) st g s (s4 d c.toNat (g4 (uf x) c.toNat)) b := ⟨⟨lk, len, ac, nx, rf, lr, en, lm, sd, (by simp [-List.getElem?_eq_getElem, h0, gs h0])⟩, (by simp [-List.getElem?_eq_getElem, h27, gs h27]), (by simp [-List.getElem?_eq_getElem, h32, gs h32]), (by simp [-List.getElem?_eq_getElem, h33, gs h33]), (by simp [-List.getElem?_eq_getElem, h34, gs h34])⟩
    have q3 := sp_X6_slips hS ⟨hst, hg, hs9, hd', hb⟩
    have hd2 := sl_i4 st g s b 4 _ 0 hd'
    rw [List.set_set] at q3
    have ih := lp_X6_putOn (lk := lk) (len := len) (ac := ac) (nx := nx) (rf := rf) (lr := lr) (en := en) (lm := lm) (sd := sd) hst hg hs9 hb hx hx6 ho hso n (k + 1) (po1 st g s b x d c.toNat) (M.set 32 (aI (l4 (po1 st g s b x d c.toNat)))) (some (vI c)) hd2 (by simp [-List.getElem?_eq_getElem, h0, gs h0]) (by simp [-List.getElem?_eq_getElem, h27, gs h27]) (by simp [-List.getElem?_eq_getElem, h32, gs h32]) (by simp [-List.getElem?_eq_getElem, h33, gs h33]) (by simp [-List.getElem?_eq_getElem, h34, gs h34]) (by omega) (by omega)
    rw [List.set_set] at ih
    clear hd2 hS hd' hf
    unfold po1 at ih ⊢
    generalize sl st g s b 4 (s4 d c.toNat (g4 (uf x) c.toNat)) 0 = q at q3 ih ⊢
    generalize pon st g s b x (c6 o) n (k + 1) q.1 = R at ih ⊢
    obtain ⟨m, hm, h⟩ := ih
    refine ⟨m + 59 + 1, by omega, ?_⟩
    rw [rs_X6_putOn_26]
    obtain ⟨p0, p1, p2, p3, -⟩ := sp_X6_tenTo M
    have e0 : x.tdiv 1000 = x / 1000 := Int.tdiv_eq_ediv_of_nonneg hx.1
    have e1 : x.tdiv 100 = x / 100 := Int.tdiv_eq_ediv_of_nonneg hx.1
    have e2 : x.tdiv 10 = x / 10 := Int.tdiv_eq_ediv_of_nonneg hx.1
    have w0 : wr (x / 1000) = x / 1000 := wr_id (by omega) (by omega)
    have w1 : wr (x / 100) = x / 100 := wr_id (by omega) (by omega)
    have w2 : wr (x / 10) = x / 10 := wr_id (by omega) (by omega)
    have f0 : (x / 1000).tmod 10 = x / 1000 % 10 := Int.tmod_eq_emod_of_nonneg (by omega)
    have f1 : (x / 100).tmod 10 = x / 100 % 10 := Int.tmod_eq_emod_of_nonneg (by omega)
    have f2 : (x / 10).tmod 10 = x / 10 % 10 := Int.tmod_eq_emod_of_nonneg (by omega)
    have f3 : x.tmod 10 = x % 10 := Int.tmod_eq_emod_of_nonneg hx.1
    rcases c4 hc with rfl | rfl | rfl | rfl <;> simp [g4, s4, uf] at q3 <;>
    simp [↓ri_X6_putOn, rs_X6_putOn_0, rs_X6_putOn_1, rs_X6_putOn_4, rs_X6_putOn_5, rs_X6_putOn_6, rs_X6_putOn_7, rs_X6_putOn_8, rs_X6_putOn_11, rs_X6_putOn_12, rs_X6_putOn_15, rs_X6_putOn_16, rs_X6_putOn_17, rs_X6_putOn_18, rs_X6_putOn_21, rs_X6_putOn_24, rs_X6_putOn_25, rs_X6_putOn_27, rs_X6_putOn_28, rs_X6_putOn_31, rs_X6_putOn_32, rs_X6_putOn_33, rs_X6_putOn_36, rs_X6_putOn_38, rs_X6_putOn_39, rs_X6_putOn_42, rs_X6_putOn_44, rs_X6_putOn_45, rs_X6_putOn_46, rs_X6_putOn_48, rs_X6_putOn_49, rs_X6_putOn_52, rs_X6_putOn_53, rs_X6_putOn_55, rs_X6_putOn_56, rs_X6_putOn_57, rs_X6_putOn_58, rs_X6_putOn_61, rs_X6_putOn_62, rs_X6_putOn_65, rs_X6_putOn_68, rs_X6_putOn_69, rs_X6_putOn_72, -List.getElem?_eq_getElem, am_js, am_e, am_in, am_sl, rI, rZ, rV, rJ, rA, rC, kI, kJ, kR, am_one, am_nl, am_w8, tIc, tLc, tNul, tIld, tLld, tAld, tIst, tLst, tAst, tIinc, tI2, tDv, tL2, tLrem, tLs, tLcmp, tI2l, tL2i, tI2c, tDup, tDup2, tPop, tGo, tIfeq, tIfne, tIflt, tIfge, tIfgt, tIfle, tCmeq, tCmne, tCmlt, tCmge, tCmgt, tCmle, tNu, tTs, tGf, tPf, tGs, tIal, tIas, tBal, tBas, tAln, tSv, tSc, tSb, tSl, tSk, tCv, tCs, tCt, tMx, tMn, wr_10000, wr_100000, wr_1000000, wr_10000000, wr_100000000, wr_2400, wr_9999, wr_0, wr_1, wr_2, wr_3, wr_4, wr_5, wr_6, wr_7, wr_8, wr_9, wr_10, wr_11, wr_12, wr_13, wr_14, wr_15, wr_16, wr_17, wr_18, wr_19, wr_20, wr_21, wr_22, wr_23, wr_24, wr_25, wr_26, wr_27, wr_28, wr_29, wr_30, wr_31, wr_32, wr_33, wr_34, wr_35, wr_36, wr_37, wr_38, wr_39, wr_40, wr_41, wr_42, wr_43, wr_44, wr_45, wr_46, wr_47, wr_48, wr_49, wr_50, wr_51, wr_52, wr_53, wr_54, wr_55, wr_56, wr_57, wr_58, wr_59, wr_60, wr_61, wr_62, wr_63, wr_99, wr_100, wr_192, wr_255, wr_256, wr_343, wr_999, wr_1000, wr_2401, wr_2147483647, wr_65535, wr_m1, wr_m2, wr_m3, wr_m4, wr_m9, ak_1000, ak_1001, ak_1002, ak_0, ak_1, ak_2, ak_3, ak_4, ak_5, ak_6, ak_7, ak_8, ak_9, ak_10, ak_11, ak_12, ak_13, ak_14, ak_15, ak_16, ak_17, ak_18, ak_19, ak_20, ak_21, ak_22, ak_23, ak_24, ak_25, ak_26, ak_27, ak_28, ak_29, ak_30, ak_31, ak_32, ak_33, ak_34, ak_35, ak_36, ak_37, ak_38, ak_39, ak_40, ak_41, ak_42, ak_43, ak_44, ak_45, ak_46, ak_47, h0, mo, h32, gs h32, wk, nk, wx, q1, q3, p0, p1, p2, p3, e0, e1, e2, w0, w1, w2, f0, f1, f2, f3] <;>
    exact rm_X6_putOn h (by omega)
theorem sp_X6_putOn {M : List AC} {st lk len ac nx rf lr en lm : Int} {sd : Int64} (h0 : M[26]? = some (mo st lk len ac nx rf lr en lm sd)) {g d b s d' b' s' : F4} (h27 : M[27]? = some (aI (l4 g))) (h28 : M[28]? = some (aI (nw d b s))) (h32 : M[32]? = some (aI (l4 d'))) (h33 : M[33]? = some (aI (l4 b'))) (h34 : M[34]? = some (aI (l4 s'))) (hr : SR st g s d b) (x o : Int) (hx : 0 ≤ x ∧ x < 10000) (hx6 : i4 0 6 (uf x)) (ho : 0 ≤ o ∧ o < 256) (hso : os o = 15) : fn_X6_putOn [vR 26, vI x, vI o] M = some (some (vI (fg (pon st g s b x (c6 o) 4 0 (0, 0, 0, 0)))), ((M.set 32 (aI (l4 (pon st g s b x (c6 o) 4 0 (0, 0, 0, 0))))).set 33 (aI (l4 b))).set 34 (aI (l4 s))) := by
  have q1 := sp_X6_layNow h0 h28 h32 h33 h34
  obtain ⟨k, hk, h⟩ := lp_X6_putOn (lk := lk) (len := len) (ac := ac) (nx := nx) (rf := rf) (lr := lr) (en := en) (lm := lm) (sd := sd) hr.1 hr.2.1 hr.2.2.1 hr.2.2.2.2 hx hx6 ho hso 4 0 (0, 0, 0, 0) (((M.set 32 (aI (l4 (0, 0, 0, 0)))).set 33 (aI (l4 b))).set 34 (aI (l4 s))) none ⟨⟨by decide, by decide⟩, ⟨by decide, by decide⟩, ⟨by decide, by decide⟩, by decide, by decide⟩ (by simp [-List.getElem?_eq_getElem, h0, gs h0]) (by simp [-List.getElem?_eq_getElem, h27, gs h27]) (by simp [-List.getElem?_eq_getElem, h32, gs h32]) (by simp [-List.getElem?_eq_getElem, h33, gs h33]) (by simp [-List.getElem?_eq_getElem, h34, gs h34]) (by omega) (by omega)
  generalize pon st g s b x (c6 o) 4 0 (0, 0, 0, 0) = R at h ⊢
  simp [mo, ss (i := 32) (j := 33) (by decide), ss (i := 32) (j := 34) (by decide), ss (i := 33) (j := 34) (by decide)] at h q1 ⊢
  (refine am_fnR (tb := tb_X6_putOn) (N := 2000) (Nat.le_of_ble_eq_true rfl) (Nat.le_of_ble_eq_true rfl) ?_; show Ru rx_X6_putOn 2000 0 _ _ _ _)
  refine ⟨k + 80, by omega, ?_⟩
  simp [↓ri_X6_putOn, rs_X6_putOn_0, rs_X6_putOn_1, rs_X6_putOn_4, rs_X6_putOn_5, rs_X6_putOn_6, rs_X6_putOn_7, rs_X6_putOn_8, rs_X6_putOn_11, rs_X6_putOn_12, rs_X6_putOn_15, rs_X6_putOn_16, rs_X6_putOn_17, rs_X6_putOn_18, rs_X6_putOn_21, rs_X6_putOn_24, rs_X6_putOn_25, rs_X6_putOn_27, rs_X6_putOn_28, rs_X6_putOn_31, rs_X6_putOn_32, rs_X6_putOn_33, rs_X6_putOn_36, rs_X6_putOn_38, rs_X6_putOn_39, rs_X6_putOn_42, rs_X6_putOn_44, rs_X6_putOn_45, rs_X6_putOn_46, rs_X6_putOn_48, rs_X6_putOn_49, rs_X6_putOn_52, rs_X6_putOn_53, rs_X6_putOn_55, rs_X6_putOn_56, rs_X6_putOn_57, rs_X6_putOn_58, rs_X6_putOn_61, rs_X6_putOn_62, rs_X6_putOn_65, rs_X6_putOn_68, rs_X6_putOn_69, rs_X6_putOn_72, -List.getElem?_eq_getElem, am_js, am_e, am_in, am_sl, rI, rZ, rV, rJ, rA, rC, kI, kJ, kR, am_one, am_nl, am_w8, tIc, tLc, tNul, tIld, tLld, tAld, tIst, tLst, tAst, tIinc, tI2, tDv, tL2, tLrem, tLs, tLcmp, tI2l, tL2i, tI2c, tDup, tDup2, tPop, tGo, tIfeq, tIfne, tIflt, tIfge, tIfgt, tIfle, tCmeq, tCmne, tCmlt, tCmge, tCmgt, tCmle, tNu, tTs, tGf, tPf, tGs, tIal, tIas, tBal, tBas, tAln, tSv, tSc, tSb, tSl, tSk, tCv, tCs, tCt, tMx, tMn, wr_10000, wr_100000, wr_1000000, wr_10000000, wr_100000000, wr_2400, wr_9999, wr_0, wr_1, wr_2, wr_3, wr_4, wr_5, wr_6, wr_7, wr_8, wr_9, wr_10, wr_11, wr_12, wr_13, wr_14, wr_15, wr_16, wr_17, wr_18, wr_19, wr_20, wr_21, wr_22, wr_23, wr_24, wr_25, wr_26, wr_27, wr_28, wr_29, wr_30, wr_31, wr_32, wr_33, wr_34, wr_35, wr_36, wr_37, wr_38, wr_39, wr_40, wr_41, wr_42, wr_43, wr_44, wr_45, wr_46, wr_47, wr_48, wr_49, wr_50, wr_51, wr_52, wr_53, wr_54, wr_55, wr_56, wr_57, wr_58, wr_59, wr_60, wr_61, wr_62, wr_63, wr_99, wr_100, wr_192, wr_255, wr_256, wr_343, wr_999, wr_1000, wr_2401, wr_2147483647, wr_65535, wr_m1, wr_m2, wr_m3, wr_m4, wr_m9, ak_1000, ak_1001, ak_1002, ak_0, ak_1, ak_2, ak_3, ak_4, ak_5, ak_6, ak_7, ak_8, ak_9, ak_10, ak_11, ak_12, ak_13, ak_14, ak_15, ak_16, ak_17, ak_18, ak_19, ak_20, ak_21, ak_22, ak_23, ak_24, ak_25, ak_26, ak_27, ak_28, ak_29, ak_30, ak_31, ak_32, ak_33, ak_34, ak_35, ak_36, ak_37, ak_38, ak_39, ak_40, ak_41, ak_42, ak_43, ak_44, ak_45, ak_46, ak_47, h0, mo, h32, gs h32, q1, ss (i := 32) (j := 33) (by decide), ss (i := 32) (j := 34) (by decide), ss (i := 33) (j := 34) (by decide)]
  exact rm_X6_putOn h (by omega)
theorem fg_rng {d : F4} {X : Int} (h : i4 0 X d) (hX : X ≤ 9) : 0 ≤ fg d ∧ fg d < 10000 := by
  obtain ⟨a, b, c, e⟩ := h
  unfold fg
  omega
theorem pon_i4 (st : Int) (g s b : F4) (x : Int) (hx6 : i4 0 6 (uf x)) (cf : Int → Int) : ∀ (n : Nat) (k : Int) (d : F4), i4 0 6 d → i4 0 6 (pon st g s b x cf n k d)
  | 0, _, _, h => h
  | n + 1, k, d, h => by
    rw [pon]
    have hf := i4_g hx6 (cf k).toNat
    exact pon_i4 st g s b x hx6 cf n (k + 1) _ (sl_i4 st g s b 4 _ 0 (i4_s h _ hf.1 hf.2))
/-- of n orders from the code o on: how many end at e, and the first of them -/
def ot6 (st : Int) (g s b : F4) (x e : Int) : Nat → Int → Int × Int → Int × Int
  | 0, _, q => q
  | n + 1, o, q => if os o = 15 ∧ fg (pon st g s b x (c6 o) 4 0 (0, 0, 0, 0)) = e then ot6 st g s b x e n (o + 1) (q.1 + 1, if q.1 = 0 then to4 o else q.2) else ot6 st g s b x e n (o + 1) q
abbrev mi_X6_ordersTo : Mi := (yX6_ordersTo, cX6_ordersTo, 7, some .int, 8)
theorem mf_X6_ordersTo : am_mf mi_X6_ordersTo 3 := ⟨w_co_X6_ordersTo, w_in_X6, ⟨by decide +kernel, by decide +kernel⟩, by decide +kernel, by decide⟩
def tb_X6_ordersTo : List (Nat × Tr) := [(0, tIc 0 1), (1, tIst 4 2), (3, tIc (-9) 2), (5, tIst 5 2), (7, tIc 0 1), (8, tIst 6 2), (10, tIld 6 2), (12, tIc 256 3), (15, tCmge 66), (18, tIld 6 2), (20, tIc 0 1), (21, tCs 2 fn_X6_ordered), (24, tIc (-9) 2), (26, tCmeq 60), (29, tAld 0 1), (30, tIld 1 1), (31, tIld 6 2), (33, tCv 6 2 fn_X6_putOn), (36, tIld 2 1), (37, tCmne 60), (40, tIld 4 2), (42, tIfne 53), (45, tIld 6 2), (47, tCs 1 fn_X6_toldOrder), (50, tGo 55), (53, tIld 5 2), (55, tIst 5 2), (57, tIinc 4 1), (60, tIinc 6 1), (63, tGo 10), (66, tIld 3 1), (67, tIfeq 75), (70, tIld 5 2), (72, tGo 77), (75, tIld 4 2)]
theorem ok_X6_ordersTo : Tok mi_X6_ordersTo tb_X6_ordersTo :=
  Tc (sd_iconst rfl dX6_ordersTo_0) <|
  Tc (sd_istore dX6_ordersTo_1) <|
  Tc (sd_bipush (by decide +kernel) dX6_ordersTo_3) <|
  Tc (sd_istore dX6_ordersTo_5) <|
  Tc (sd_iconst rfl dX6_ordersTo_7) <|
  Tc (sd_istore dX6_ordersTo_8) <|
  Tc (sd_iload dX6_ordersTo_10) <|
  Tc (sd_sipush (by decide +kernel) dX6_ordersTo_12) <|
  Tc (sd_cm_ge (by decide) dX6_ordersTo_15) <|
  Tc (sd_iload dX6_ordersTo_18) <|
  Tc (sd_iconst rfl dX6_ordersTo_20) <|
  Tc (sd_cs fok_X6_ordered mf_X6_ordered w_ml_X6_197 w_st_X6_ordered (by decide) dX6_ordersTo_21) <|
  Tc (sd_bipush (by decide +kernel) dX6_ordersTo_24) <|
  Tc (sd_cm_eq (by decide) dX6_ordersTo_26) <|
  Tc (sd_aload_n dX6_ordersTo_29) <|
  Tc (sd_iload_n dX6_ordersTo_30) <|
  Tc (sd_iload dX6_ordersTo_31) <|
  Tc (sd_cv (T := TX6) fok_X6_putOn mf_X6_putOn rfl w_ml_X6_201 w_im_X6_putOn w_se_X6_putOn (by decide) dX6_ordersTo_33) <|
  Tc (sd_iload_n dX6_ordersTo_36) <|
  Tc (sd_cm_ne (by decide) dX6_ordersTo_37) <|
  Tc (sd_iload dX6_ordersTo_40) <|
  Tc (sd_if_ne (by decide) dX6_ordersTo_42) <|
  Tc (sd_iload dX6_ordersTo_45) <|
  Tc (sd_cs fok_X6_toldOrder mf_X6_toldOrder w_ml_X6_204 w_st_X6_toldOrder (by decide) dX6_ordersTo_47) <|
  Tc (sd_goto (by decide) dX6_ordersTo_50) <|
  Tc (sd_iload dX6_ordersTo_53) <|
  Tc (sd_istore dX6_ordersTo_55) <|
  Tc (sd_iinc dX6_ordersTo_57) <|
  Tc (sd_iinc dX6_ordersTo_60) <|
  Tc (sd_goto (by decide) dX6_ordersTo_63) <|
  Tc (sd_iload_n dX6_ordersTo_66) <|
  Tc (sd_if_eq (by decide) dX6_ordersTo_67) <|
  Tc (sd_iload dX6_ordersTo_70) <|
  Tc (sd_goto (by decide) dX6_ordersTo_72) <|
  Tc (sd_iload dX6_ordersTo_75) <|
  Tn
theorem rk_X6_ordersTo : Rok mi_X6_ordersTo rI [77] := rk_i dX6_ordersTo_77 <| rk_n
def rx_X6_ordersTo : Nat → Nat → AL → List AV → List AC → Option (Option AV × List AC) := am_r tb_X6_ordersTo rI [77]
theorem rs_X6_ordersTo_0 (n : Nat) (L : AL) (st : List AV) (M : List AC) : rx_X6_ordersTo (n + 1) 0 L st M = am_j (rx_X6_ordersTo n) ((tIc 0 1) 0 L st M) := rfl
theorem rs_X6_ordersTo_1 (n : Nat) (L : AL) (st : List AV) (M : List AC) : rx_X6_ordersTo (n + 1) 1 L st M = am_j (rx_X6_ordersTo n) ((tIst 4 2) 1 L st M) := rfl
theorem rs_X6_ordersTo_3 (n : Nat) (L : AL) (st : List AV) (M : List AC) : rx_X6_ordersTo (n + 1) 3 L st M = am_j (rx_X6_ordersTo n) ((tIc (-9) 2) 3 L st M) := rfl
theorem rs_X6_ordersTo_5 (n : Nat) (L : AL) (st : List AV) (M : List AC) : rx_X6_ordersTo (n + 1) 5 L st M = am_j (rx_X6_ordersTo n) ((tIst 5 2) 5 L st M) := rfl
theorem rs_X6_ordersTo_7 (n : Nat) (L : AL) (st : List AV) (M : List AC) : rx_X6_ordersTo (n + 1) 7 L st M = am_j (rx_X6_ordersTo n) ((tIc 0 1) 7 L st M) := rfl
theorem rs_X6_ordersTo_8 (n : Nat) (L : AL) (st : List AV) (M : List AC) : rx_X6_ordersTo (n + 1) 8 L st M = am_j (rx_X6_ordersTo n) ((tIst 6 2) 8 L st M) := rfl
theorem rs_X6_ordersTo_10 (n : Nat) (L : AL) (st : List AV) (M : List AC) : rx_X6_ordersTo (n + 1) 10 L st M = am_j (rx_X6_ordersTo n) ((tIld 6 2) 10 L st M) := rfl
theorem rs_X6_ordersTo_12 (n : Nat) (L : AL) (st : List AV) (M : List AC) : rx_X6_ordersTo (n + 1) 12 L st M = am_j (rx_X6_ordersTo n) ((tIc 256 3) 12 L st M) := rfl
theorem rs_X6_ordersTo_15 (n : Nat) (L : AL) (st : List AV) (M : List AC) : rx_X6_ordersTo (n + 1) 15 L st M = am_j (rx_X6_ordersTo n) ((tCmge 66) 15 L st M) := rfl
theorem rs_X6_ordersTo_18 (n : Nat) (L : AL) (st : List AV) (M : List AC) : rx_X6_ordersTo (n + 1) 18 L st M = am_j (rx_X6_ordersTo n) ((tIld 6 2) 18 L st M) := rfl
theorem rs_X6_ordersTo_20 (n : Nat) (L : AL) (st : List AV) (M : List AC) : rx_X6_ordersTo (n + 1) 20 L st M = am_j (rx_X6_ordersTo n) ((tIc 0 1) 20 L st M) := rfl
theorem rs_X6_ordersTo_21 (n : Nat) (L : AL) (st : List AV) (M : List AC) : rx_X6_ordersTo (n + 1) 21 L st M = am_j (rx_X6_ordersTo n) ((tCs 2 fn_X6_ordered) 21 L st M) := rfl
theorem rs_X6_ordersTo_24 (n : Nat) (L : AL) (st : List AV) (M : List AC) : rx_X6_ordersTo (n + 1) 24 L st M = am_j (rx_X6_ordersTo n) ((tIc (-9) 2) 24 L st M) := rfl
theorem rs_X6_ordersTo_26 (n : Nat) (L : AL) (st : List AV) (M : List AC) : rx_X6_ordersTo (n + 1) 26 L st M = am_j (rx_X6_ordersTo n) ((tCmeq 60) 26 L st M) := rfl
theorem rs_X6_ordersTo_29 (n : Nat) (L : AL) (st : List AV) (M : List AC) : rx_X6_ordersTo (n + 1) 29 L st M = am_j (rx_X6_ordersTo n) ((tAld 0 1) 29 L st M) := rfl
theorem rs_X6_ordersTo_30 (n : Nat) (L : AL) (st : List AV) (M : List AC) : rx_X6_ordersTo (n + 1) 30 L st M = am_j (rx_X6_ordersTo n) ((tIld 1 1) 30 L st M) := rfl
theorem rs_X6_ordersTo_31 (n : Nat) (L : AL) (st : List AV) (M : List AC) : rx_X6_ordersTo (n + 1) 31 L st M = am_j (rx_X6_ordersTo n) ((tIld 6 2) 31 L st M) := rfl
theorem rs_X6_ordersTo_33 (n : Nat) (L : AL) (st : List AV) (M : List AC) : rx_X6_ordersTo (n + 1) 33 L st M = am_j (rx_X6_ordersTo n) ((tCv 6 2 fn_X6_putOn) 33 L st M) := rfl
theorem rs_X6_ordersTo_36 (n : Nat) (L : AL) (st : List AV) (M : List AC) : rx_X6_ordersTo (n + 1) 36 L st M = am_j (rx_X6_ordersTo n) ((tIld 2 1) 36 L st M) := rfl
theorem rs_X6_ordersTo_37 (n : Nat) (L : AL) (st : List AV) (M : List AC) : rx_X6_ordersTo (n + 1) 37 L st M = am_j (rx_X6_ordersTo n) ((tCmne 60) 37 L st M) := rfl
theorem rs_X6_ordersTo_40 (n : Nat) (L : AL) (st : List AV) (M : List AC) : rx_X6_ordersTo (n + 1) 40 L st M = am_j (rx_X6_ordersTo n) ((tIld 4 2) 40 L st M) := rfl
theorem rs_X6_ordersTo_42 (n : Nat) (L : AL) (st : List AV) (M : List AC) : rx_X6_ordersTo (n + 1) 42 L st M = am_j (rx_X6_ordersTo n) ((tIfne 53) 42 L st M) := rfl
theorem rs_X6_ordersTo_45 (n : Nat) (L : AL) (st : List AV) (M : List AC) : rx_X6_ordersTo (n + 1) 45 L st M = am_j (rx_X6_ordersTo n) ((tIld 6 2) 45 L st M) := rfl
theorem rs_X6_ordersTo_47 (n : Nat) (L : AL) (st : List AV) (M : List AC) : rx_X6_ordersTo (n + 1) 47 L st M = am_j (rx_X6_ordersTo n) ((tCs 1 fn_X6_toldOrder) 47 L st M) := rfl
theorem rs_X6_ordersTo_50 (n : Nat) (L : AL) (st : List AV) (M : List AC) : rx_X6_ordersTo (n + 1) 50 L st M = am_j (rx_X6_ordersTo n) ((tGo 55) 50 L st M) := rfl
theorem rs_X6_ordersTo_53 (n : Nat) (L : AL) (st : List AV) (M : List AC) : rx_X6_ordersTo (n + 1) 53 L st M = am_j (rx_X6_ordersTo n) ((tIld 5 2) 53 L st M) := rfl
theorem rs_X6_ordersTo_55 (n : Nat) (L : AL) (st : List AV) (M : List AC) : rx_X6_ordersTo (n + 1) 55 L st M = am_j (rx_X6_ordersTo n) ((tIst 5 2) 55 L st M) := rfl
theorem rs_X6_ordersTo_57 (n : Nat) (L : AL) (st : List AV) (M : List AC) : rx_X6_ordersTo (n + 1) 57 L st M = am_j (rx_X6_ordersTo n) ((tIinc 4 1) 57 L st M) := rfl
theorem rs_X6_ordersTo_60 (n : Nat) (L : AL) (st : List AV) (M : List AC) : rx_X6_ordersTo (n + 1) 60 L st M = am_j (rx_X6_ordersTo n) ((tIinc 6 1) 60 L st M) := rfl
theorem rs_X6_ordersTo_63 (n : Nat) (L : AL) (st : List AV) (M : List AC) : rx_X6_ordersTo (n + 1) 63 L st M = am_j (rx_X6_ordersTo n) ((tGo 10) 63 L st M) := rfl
theorem rs_X6_ordersTo_66 (n : Nat) (L : AL) (st : List AV) (M : List AC) : rx_X6_ordersTo (n + 1) 66 L st M = am_j (rx_X6_ordersTo n) ((tIld 3 1) 66 L st M) := rfl
theorem rs_X6_ordersTo_67 (n : Nat) (L : AL) (st : List AV) (M : List AC) : rx_X6_ordersTo (n + 1) 67 L st M = am_j (rx_X6_ordersTo n) ((tIfeq 75) 67 L st M) := rfl
theorem rs_X6_ordersTo_70 (n : Nat) (L : AL) (st : List AV) (M : List AC) : rx_X6_ordersTo (n + 1) 70 L st M = am_j (rx_X6_ordersTo n) ((tIld 5 2) 70 L st M) := rfl
theorem rs_X6_ordersTo_72 (n : Nat) (L : AL) (st : List AV) (M : List AC) : rx_X6_ordersTo (n + 1) 72 L st M = am_j (rx_X6_ordersTo n) ((tGo 77) 72 L st M) := rfl
theorem rs_X6_ordersTo_75 (n : Nat) (L : AL) (st : List AV) (M : List AC) : rx_X6_ordersTo (n + 1) 75 L st M = am_j (rx_X6_ordersTo n) ((tIld 4 2) 75 L st M) := rfl
theorem rs_X6_ordersTo_77 (n : Nat) (L : AL) (st : List AV) (M : List AC) : rx_X6_ordersTo (n + 1) 77 L st M = am_e rI st M := rfl
theorem ri_X6_ordersTo (c : Prop) [Decidable c] (p q n : Nat) (L : AL) (st : List AV) (M : List AC) : rx_X6_ordersTo n (if c then p else q) L st M = if c then rx_X6_ordersTo n p L st M else rx_X6_ordersTo n q L st M := by split <;> rfl
theorem rm_X6_ordersTo {n k pc : Nat} {L : AL} {st : List AV} {M : List AC} {x : Option AV × List AC} (h : rx_X6_ordersTo n pc L st M = some x) (hk : n ≤ k) : rx_X6_ordersTo k pc L st M = some x := am_r_mono n k h hk
def fn_X6_ordersTo : Fn := am_fn rx_X6_ordersTo 7
theorem fok_X6_ordersTo : Fok mi_X6_ordersTo fn_X6_ordersTo := fun _ _ _ _ h => am_fok ok_X6_ordersTo rk_X6_ordersTo rfl h
theorem lp_X6_ordersTo {st lk len ac nx rf lr en lm x e fl : Int} {sd : Int64} {g d b s : F4} (hr : SR st g s d b) (hx : 0 ≤ x ∧ x < 10000) (hx6 : i4 0 6 (uf x)) (he : -10000 ≤ e ∧ e ≤ 10000) (hfl : fl = 0 ∨ fl = 1) : ∀ (n : Nat) (o c f : Int) (d' b' s' : F4) (M : List AC), M[26]? = some (mo st lk len ac nx rf lr en lm sd) → M[27]? = some (aI (l4 g)) → M[28]? = some (aI (nw d b s)) → M[32]? = some (aI (l4 d')) → M[33]? = some (aI (l4 b')) → M[34]? = some (aI (l4 s')) → o + n = 256 → 0 ≤ o → 0 ≤ c ∧ c ≤ o →
    ∃ (d1 b1 s1 : F4), Ru rx_X6_ordersTo (60 * n + 20) 10 [some (vR 26), some (vI x), some (vI e), some (vI fl), some (vI c), some (vI f), some (vI o)] [] M (some (vI (if fl = 1 then (ot6 st g s b x e n o (c, f)).2 else (ot6 st g s b x e n o (c, f)).1)), ((M.set 32 (aI (l4 d1))).set 33 (aI (l4 b1))).set 34 (aI (l4 s1)))
  | 0, o, c, f, d', b', s', M, h0, h27, h28, h32, h33, h34, ho, ho0, hc => by
    have e1 : o = 256 := by omega
    subst e1
    refine ⟨d', b', s', 19 + 1, by omega, ?_⟩
    rw [rs_X6_ordersTo_10, set_same h32, set_same h33, set_same h34]
    simp only [ot6]
    rcases hfl with rfl | rfl <;>
    simp [↓ri_X6_ordersTo, rs_X6_ordersTo_0, rs_X6_ordersTo_1, rs_X6_ordersTo_3, rs_X6_ordersTo_5, rs_X6_ordersTo_7, rs_X6_ordersTo_8, rs_X6_ordersTo_12, rs_X6_ordersTo_15, rs_X6_ordersTo_18, rs_X6_ordersTo_20, rs_X6_ordersTo_21, rs_X6_ordersTo_24, rs_X6_ordersTo_26, rs_X6_ordersTo_29, rs_X6_ordersTo_30, rs_X6_ordersTo_31, rs_X6_ordersTo_33, rs_X6_ordersTo_36, rs_X6_ordersTo_37, rs_X6_ordersTo_40, rs_X6_ordersTo_42, rs_X6_ordersTo_45, rs_X6_ordersTo_47, rs_X6_ordersTo_50, rs_X6_ordersTo_53, rs_X6_ordersTo_55, rs_X6_ordersTo_57, rs_X6_ordersTo_60, rs_X6_ordersTo_63, rs_X6_ordersTo_66, rs_X6_ordersTo_67, rs_X6_ordersTo_70, rs_X6_ordersTo_72, rs_X6_ordersTo_75, rs_X6_ordersTo_77, -List.getElem?_eq_getElem, am_js, am_e, am_in, am_sl, rI, rZ, rV, rJ, rA, rC, kI, kJ, kR, am_one, am_nl, am_w8, tIc, tLc, tNul, tIld, tLld, tAld, tIst, tLst, tAst, tIinc, tI2, tDv, tL2, tLrem, tLs, tLcmp, tI2l, tL2i, tI2c, tDup, tDup2, tPop, tGo, tIfeq, tIfne, tIflt, tIfge, tIfgt, tIfle, tCmeq, tCmne, tCmlt, tCmge, tCmgt, tCmle, tNu, tTs, tGf, tPf, tGs, tIal, tIas, tBal, tBas, tAln, tSv, tSc, tSb, tSl, tSk, tCv, tCs, tCt, tMx, tMn, wr_10000, wr_100000, wr_1000000, wr_10000000, wr_100000000, wr_2400, wr_9999, wr_0, wr_1, wr_2, wr_3, wr_4, wr_5, wr_6, wr_7, wr_8, wr_9, wr_10, wr_11, wr_12, wr_13, wr_14, wr_15, wr_16, wr_17, wr_18, wr_19, wr_20, wr_21, wr_22, wr_23, wr_24, wr_25, wr_26, wr_27, wr_28, wr_29, wr_30, wr_31, wr_32, wr_33, wr_34, wr_35, wr_36, wr_37, wr_38, wr_39, wr_40, wr_41, wr_42, wr_43, wr_44, wr_45, wr_46, wr_47, wr_48, wr_49, wr_50, wr_51, wr_52, wr_53, wr_54, wr_55, wr_56, wr_57, wr_58, wr_59, wr_60, wr_61, wr_62, wr_63, wr_99, wr_100, wr_192, wr_255, wr_256, wr_343, wr_999, wr_1000, wr_2401, wr_2147483647, wr_65535, wr_m1, wr_m2, wr_m3, wr_m4, wr_m9, ak_1000, ak_1001, ak_1002, ak_0, ak_1, ak_2, ak_3, ak_4, ak_5, ak_6, ak_7, ak_8, ak_9, ak_10, ak_11, ak_12, ak_13, ak_14, ak_15, ak_16, ak_17, ak_18, ak_19, ak_20, ak_21, ak_22, ak_23, ak_24, ak_25, ak_26, ak_27, ak_28, ak_29, ak_30, ak_31, ak_32, ak_33, ak_34, ak_35, ak_36, ak_37, ak_38, ak_39, ak_40, ak_41, ak_42, ak_43, ak_44, ak_45, ak_46, ak_47]
  | n + 1, o, c, f, d', b', s', M, h0, h27, h28, h32, h33, h34, ho, ho0, hc => by
    have wo : wr o = o := wr_id (by omega) (by omega)
    have wc : wr c = c := wr_id (by omega) (by omega)
    have we : wr e = e := wr_id (by omega) (by omega)
    have no : ¬ 256 ≤ o := by omega
    have q1 := sp_X6_ordered o 0 (by omega) M
    rw [ot6]
    by_cases hso : os o = 15
    · rw [if_pos hso] at q1
      change fn_X6_ordered [vI o, vI 0] M = some (some (vI (c6 o 0)), M) at q1
      obtain ⟨hc6, -⟩ := c6_e ⟨ho0, by omega⟩ hso (k := 0) (by omega)
      generalize c6 o 0 = c0 at q1 hc6
      have wc0 : wr c0 = c0 := wr_id (by omega) (by omega)
      have nc0 : ¬ c0 = -9 := by omega
      have q2 := sp_X6_putOn h0 h27 h28 h32 h33 h34 hr x o hx hx6 ⟨ho0, by omega⟩ hso
      have hR := fg_rng (pon_i4 st g s b x hx6 (c6 o) 4 0 (0, 0, 0, 0) ⟨⟨by decide, by decide⟩, ⟨by decide, by decide⟩, ⟨by decide, by decide⟩, by decide, by decide⟩) (by decide)
      generalize pon st g s b x (c6 o) 4 0 (0, 0, 0, 0) = R at q2 hR ⊢
      have wR : wr (fg R) = fg R := wr_id (by omega) (by omega)
      have qt := sp_X6_toldOrder o
      by_cases h1 : fg R = e
      · rw [if_pos (show os o = 15 ∧ fg R = e from ⟨hso, h1⟩)]
        obtain ⟨d1, b1, s1, k, hk, h⟩ := lp_X6_ordersTo (lk := lk) (len := len) (ac := ac) (nx := nx) (rf := rf) (lr := lr) (en := en) (lm := lm) (sd := sd) hr hx hx6 he hfl n (o + 1) (c + 1) (if c = 0 then to4 o else f) R b s (((M.set 32 (aI (l4 R))).set 33 (aI (l4 b))).set 34 (aI (l4 s))) (by simp [-List.getElem?_eq_getElem, h0, gs h0]) (by simp [-List.getElem?_eq_getElem, h27, gs h27]) (by simp [-List.getElem?_eq_getElem, h28, gs h28]) (by simp [-List.getElem?_eq_getElem, h32, gs h32]) (by simp [-List.getElem?_eq_getElem, h33, gs h33]) (by simp [-List.getElem?_eq_getElem, h34, gs h34]) (by omega) (by omega) (by omega)
        generalize ot6 st g s b x e n (o + 1) (c + 1, if c = 0 then to4 o else f) = T at h ⊢
        refine ⟨d1, b1, s1, k + 59 + 1, by omega, ?_⟩
        rw [rs_X6_ordersTo_10]
        simp [ss (i := 32) (j := 33) (by decide), ss (i := 32) (j := 34) (by decide), ss (i := 33) (j := 34) (by decide)] at h q2 ⊢
        by_cases hc0 : c = 0
        · simp [hc0] at h
          simp [↓ri_X6_ordersTo, rs_X6_ordersTo_0, rs_X6_ordersTo_1, rs_X6_ordersTo_3, rs_X6_ordersTo_5, rs_X6_ordersTo_7, rs_X6_ordersTo_8, rs_X6_ordersTo_12, rs_X6_ordersTo_15, rs_X6_ordersTo_18, rs_X6_ordersTo_20, rs_X6_ordersTo_21, rs_X6_ordersTo_24, rs_X6_ordersTo_26, rs_X6_ordersTo_29, rs_X6_ordersTo_30, rs_X6_ordersTo_31, rs_X6_ordersTo_33, rs_X6_ordersTo_36, rs_X6_ordersTo_37, rs_X6_ordersTo_40, rs_X6_ordersTo_42, rs_X6_ordersTo_45, rs_X6_ordersTo_47, rs_X6_ordersTo_50, rs_X6_ordersTo_53, rs_X6_ordersTo_55, rs_X6_ordersTo_57, rs_X6_ordersTo_60, rs_X6_ordersTo_63, rs_X6_ordersTo_66, rs_X6_ordersTo_67, rs_X6_ordersTo_70, rs_X6_ordersTo_72, rs_X6_ordersTo_75, rs_X6_ordersTo_77, -List.getElem?_eq_getElem, am_js, am_e, am_in, am_sl, rI, rZ, rV, rJ, rA, rC, kI, kJ, kR, am_one, am_nl, am_w8, tIc, tLc, tNul, tIld, tLld, tAld, tIst, tLst, tAst, tIinc, tI2, tDv, tL2, tLrem, tLs, tLcmp, tI2l, tL2i, tI2c, tDup, tDup2, tPop, tGo, tIfeq, tIfne, tIflt, tIfge, tIfgt, tIfle, tCmeq, tCmne, tCmlt, tCmge, tCmgt, tCmle, tNu, tTs, tGf, tPf, tGs, tIal, tIas, tBal, tBas, tAln, tSv, tSc, tSb, tSl, tSk, tCv, tCs, tCt, tMx, tMn, wr_10000, wr_100000, wr_1000000, wr_10000000, wr_100000000, wr_2400, wr_9999, wr_0, wr_1, wr_2, wr_3, wr_4, wr_5, wr_6, wr_7, wr_8, wr_9, wr_10, wr_11, wr_12, wr_13, wr_14, wr_15, wr_16, wr_17, wr_18, wr_19, wr_20, wr_21, wr_22, wr_23, wr_24, wr_25, wr_26, wr_27, wr_28, wr_29, wr_30, wr_31, wr_32, wr_33, wr_34, wr_35, wr_36, wr_37, wr_38, wr_39, wr_40, wr_41, wr_42, wr_43, wr_44, wr_45, wr_46, wr_47, wr_48, wr_49, wr_50, wr_51, wr_52, wr_53, wr_54, wr_55, wr_56, wr_57, wr_58, wr_59, wr_60, wr_61, wr_62, wr_63, wr_99, wr_100, wr_192, wr_255, wr_256, wr_343, wr_999, wr_1000, wr_2401, wr_2147483647, wr_65535, wr_m1, wr_m2, wr_m3, wr_m4, wr_m9, ak_1000, ak_1001, ak_1002, ak_0, ak_1, ak_2, ak_3, ak_4, ak_5, ak_6, ak_7, ak_8, ak_9, ak_10, ak_11, ak_12, ak_13, ak_14, ak_15, ak_16, ak_17, ak_18, ak_19, ak_20, ak_21, ak_22, ak_23, ak_24, ak_25, ak_26, ak_27, ak_28, ak_29, ak_30, ak_31, ak_32, ak_33, ak_34, ak_35, ak_36, ak_37, ak_38, ak_39, ak_40, ak_41, ak_42, ak_43, ak_44, ak_45, ak_46, ak_47, h0, mo, wo, wc, we, no, q1, wc0, nc0, q2, wR, h1, qt, hc0]
          exact rm_X6_ordersTo h (by omega)
        · simp [hc0] at h
          simp [↓ri_X6_ordersTo, rs_X6_ordersTo_0, rs_X6_ordersTo_1, rs_X6_ordersTo_3, rs_X6_ordersTo_5, rs_X6_ordersTo_7, rs_X6_ordersTo_8, rs_X6_ordersTo_12, rs_X6_ordersTo_15, rs_X6_ordersTo_18, rs_X6_ordersTo_20, rs_X6_ordersTo_21, rs_X6_ordersTo_24, rs_X6_ordersTo_26, rs_X6_ordersTo_29, rs_X6_ordersTo_30, rs_X6_ordersTo_31, rs_X6_ordersTo_33, rs_X6_ordersTo_36, rs_X6_ordersTo_37, rs_X6_ordersTo_40, rs_X6_ordersTo_42, rs_X6_ordersTo_45, rs_X6_ordersTo_47, rs_X6_ordersTo_50, rs_X6_ordersTo_53, rs_X6_ordersTo_55, rs_X6_ordersTo_57, rs_X6_ordersTo_60, rs_X6_ordersTo_63, rs_X6_ordersTo_66, rs_X6_ordersTo_67, rs_X6_ordersTo_70, rs_X6_ordersTo_72, rs_X6_ordersTo_75, rs_X6_ordersTo_77, -List.getElem?_eq_getElem, am_js, am_e, am_in, am_sl, rI, rZ, rV, rJ, rA, rC, kI, kJ, kR, am_one, am_nl, am_w8, tIc, tLc, tNul, tIld, tLld, tAld, tIst, tLst, tAst, tIinc, tI2, tDv, tL2, tLrem, tLs, tLcmp, tI2l, tL2i, tI2c, tDup, tDup2, tPop, tGo, tIfeq, tIfne, tIflt, tIfge, tIfgt, tIfle, tCmeq, tCmne, tCmlt, tCmge, tCmgt, tCmle, tNu, tTs, tGf, tPf, tGs, tIal, tIas, tBal, tBas, tAln, tSv, tSc, tSb, tSl, tSk, tCv, tCs, tCt, tMx, tMn, wr_10000, wr_100000, wr_1000000, wr_10000000, wr_100000000, wr_2400, wr_9999, wr_0, wr_1, wr_2, wr_3, wr_4, wr_5, wr_6, wr_7, wr_8, wr_9, wr_10, wr_11, wr_12, wr_13, wr_14, wr_15, wr_16, wr_17, wr_18, wr_19, wr_20, wr_21, wr_22, wr_23, wr_24, wr_25, wr_26, wr_27, wr_28, wr_29, wr_30, wr_31, wr_32, wr_33, wr_34, wr_35, wr_36, wr_37, wr_38, wr_39, wr_40, wr_41, wr_42, wr_43, wr_44, wr_45, wr_46, wr_47, wr_48, wr_49, wr_50, wr_51, wr_52, wr_53, wr_54, wr_55, wr_56, wr_57, wr_58, wr_59, wr_60, wr_61, wr_62, wr_63, wr_99, wr_100, wr_192, wr_255, wr_256, wr_343, wr_999, wr_1000, wr_2401, wr_2147483647, wr_65535, wr_m1, wr_m2, wr_m3, wr_m4, wr_m9, ak_1000, ak_1001, ak_1002, ak_0, ak_1, ak_2, ak_3, ak_4, ak_5, ak_6, ak_7, ak_8, ak_9, ak_10, ak_11, ak_12, ak_13, ak_14, ak_15, ak_16, ak_17, ak_18, ak_19, ak_20, ak_21, ak_22, ak_23, ak_24, ak_25, ak_26, ak_27, ak_28, ak_29, ak_30, ak_31, ak_32, ak_33, ak_34, ak_35, ak_36, ak_37, ak_38, ak_39, ak_40, ak_41, ak_42, ak_43, ak_44, ak_45, ak_46, ak_47, h0, mo, wo, wc, we, no, q1, wc0, nc0, q2, wR, h1, qt, hc0]
          exact rm_X6_ordersTo h (by omega)
      · rw [if_neg (show ¬ (os o = 15 ∧ fg R = e) from fun z => h1 z.2)]
        obtain ⟨d1, b1, s1, k, hk, h⟩ := lp_X6_ordersTo (lk := lk) (len := len) (ac := ac) (nx := nx) (rf := rf) (lr := lr) (en := en) (lm := lm) (sd := sd) hr hx hx6 he hfl n (o + 1) c f R b s (((M.set 32 (aI (l4 R))).set 33 (aI (l4 b))).set 34 (aI (l4 s))) (by simp [-List.getElem?_eq_getElem, h0, gs h0]) (by simp [-List.getElem?_eq_getElem, h27, gs h27]) (by simp [-List.getElem?_eq_getElem, h28, gs h28]) (by simp [-List.getElem?_eq_getElem, h32, gs h32]) (by simp [-List.getElem?_eq_getElem, h33, gs h33]) (by simp [-List.getElem?_eq_getElem, h34, gs h34]) (by omega) (by omega) (by omega)
        generalize ot6 st g s b x e n (o + 1) (c, f) = T at h ⊢
        refine ⟨d1, b1, s1, k + 59 + 1, by omega, ?_⟩
        rw [rs_X6_ordersTo_10]
        simp [ss (i := 32) (j := 33) (by decide), ss (i := 32) (j := 34) (by decide), ss (i := 33) (j := 34) (by decide)] at h q2 ⊢
        simp [↓ri_X6_ordersTo, rs_X6_ordersTo_0, rs_X6_ordersTo_1, rs_X6_ordersTo_3, rs_X6_ordersTo_5, rs_X6_ordersTo_7, rs_X6_ordersTo_8, rs_X6_ordersTo_12, rs_X6_ordersTo_15, rs_X6_ordersTo_18, rs_X6_ordersTo_20, rs_X6_ordersTo_21, rs_X6_ordersTo_24, rs_X6_ordersTo_26, rs_X6_ordersTo_29, rs_X6_ordersTo_30, rs_X6_ordersTo_31, rs_X6_ordersTo_33, rs_X6_ordersTo_36, rs_X6_ordersTo_37, rs_X6_ordersTo_40, rs_X6_ordersTo_42, rs_X6_ordersTo_45, rs_X6_ordersTo_47, rs_X6_ordersTo_50, rs_X6_ordersTo_53, rs_X6_ordersTo_55, rs_X6_ordersTo_57, rs_X6_ordersTo_60, rs_X6_ordersTo_63, rs_X6_ordersTo_66, rs_X6_ordersTo_67, rs_X6_ordersTo_70, rs_X6_ordersTo_72, rs_X6_ordersTo_75, rs_X6_ordersTo_77, -List.getElem?_eq_getElem, am_js, am_e, am_in, am_sl, rI, rZ, rV, rJ, rA, rC, kI, kJ, kR, am_one, am_nl, am_w8, tIc, tLc, tNul, tIld, tLld, tAld, tIst, tLst, tAst, tIinc, tI2, tDv, tL2, tLrem, tLs, tLcmp, tI2l, tL2i, tI2c, tDup, tDup2, tPop, tGo, tIfeq, tIfne, tIflt, tIfge, tIfgt, tIfle, tCmeq, tCmne, tCmlt, tCmge, tCmgt, tCmle, tNu, tTs, tGf, tPf, tGs, tIal, tIas, tBal, tBas, tAln, tSv, tSc, tSb, tSl, tSk, tCv, tCs, tCt, tMx, tMn, wr_10000, wr_100000, wr_1000000, wr_10000000, wr_100000000, wr_2400, wr_9999, wr_0, wr_1, wr_2, wr_3, wr_4, wr_5, wr_6, wr_7, wr_8, wr_9, wr_10, wr_11, wr_12, wr_13, wr_14, wr_15, wr_16, wr_17, wr_18, wr_19, wr_20, wr_21, wr_22, wr_23, wr_24, wr_25, wr_26, wr_27, wr_28, wr_29, wr_30, wr_31, wr_32, wr_33, wr_34, wr_35, wr_36, wr_37, wr_38, wr_39, wr_40, wr_41, wr_42, wr_43, wr_44, wr_45, wr_46, wr_47, wr_48, wr_49, wr_50, wr_51, wr_52, wr_53, wr_54, wr_55, wr_56, wr_57, wr_58, wr_59, wr_60, wr_61, wr_62, wr_63, wr_99, wr_100, wr_192, wr_255, wr_256, wr_343, wr_999, wr_1000, wr_2401, wr_2147483647, wr_65535, wr_m1, wr_m2, wr_m3, wr_m4, wr_m9, ak_1000, ak_1001, ak_1002, ak_0, ak_1, ak_2, ak_3, ak_4, ak_5, ak_6, ak_7, ak_8, ak_9, ak_10, ak_11, ak_12, ak_13, ak_14, ak_15, ak_16, ak_17, ak_18, ak_19, ak_20, ak_21, ak_22, ak_23, ak_24, ak_25, ak_26, ak_27, ak_28, ak_29, ak_30, ak_31, ak_32, ak_33, ak_34, ak_35, ak_36, ak_37, ak_38, ak_39, ak_40, ak_41, ak_42, ak_43, ak_44, ak_45, ak_46, ak_47, h0, mo, wo, wc, we, no, q1, wc0, nc0, q2, wR, h1]
        exact rm_X6_ordersTo h (by omega)
    · rw [if_neg hso] at q1
      rw [if_neg (show ¬ (os o = 15 ∧ fg (pon st g s b x (c6 o) 4 0 (0, 0, 0, 0)) = e) from fun z => hso z.1)]
      obtain ⟨d1, b1, s1, k, hk, h⟩ := lp_X6_ordersTo (lk := lk) (len := len) (ac := ac) (nx := nx) (rf := rf) (lr := lr) (en := en) (lm := lm) (sd := sd) hr hx hx6 he hfl n (o + 1) c f d' b' s' M h0 h27 h28 h32 h33 h34 (by omega) (by omega) (by omega)
      generalize ot6 st g s b x e n (o + 1) (c, f) = T at h ⊢
      refine ⟨d1, b1, s1, k + 59 + 1, by omega, ?_⟩
      rw [rs_X6_ordersTo_10]
      simp [↓ri_X6_ordersTo, rs_X6_ordersTo_0, rs_X6_ordersTo_1, rs_X6_ordersTo_3, rs_X6_ordersTo_5, rs_X6_ordersTo_7, rs_X6_ordersTo_8, rs_X6_ordersTo_12, rs_X6_ordersTo_15, rs_X6_ordersTo_18, rs_X6_ordersTo_20, rs_X6_ordersTo_21, rs_X6_ordersTo_24, rs_X6_ordersTo_26, rs_X6_ordersTo_29, rs_X6_ordersTo_30, rs_X6_ordersTo_31, rs_X6_ordersTo_33, rs_X6_ordersTo_36, rs_X6_ordersTo_37, rs_X6_ordersTo_40, rs_X6_ordersTo_42, rs_X6_ordersTo_45, rs_X6_ordersTo_47, rs_X6_ordersTo_50, rs_X6_ordersTo_53, rs_X6_ordersTo_55, rs_X6_ordersTo_57, rs_X6_ordersTo_60, rs_X6_ordersTo_63, rs_X6_ordersTo_66, rs_X6_ordersTo_67, rs_X6_ordersTo_70, rs_X6_ordersTo_72, rs_X6_ordersTo_75, rs_X6_ordersTo_77, -List.getElem?_eq_getElem, am_js, am_e, am_in, am_sl, rI, rZ, rV, rJ, rA, rC, kI, kJ, kR, am_one, am_nl, am_w8, tIc, tLc, tNul, tIld, tLld, tAld, tIst, tLst, tAst, tIinc, tI2, tDv, tL2, tLrem, tLs, tLcmp, tI2l, tL2i, tI2c, tDup, tDup2, tPop, tGo, tIfeq, tIfne, tIflt, tIfge, tIfgt, tIfle, tCmeq, tCmne, tCmlt, tCmge, tCmgt, tCmle, tNu, tTs, tGf, tPf, tGs, tIal, tIas, tBal, tBas, tAln, tSv, tSc, tSb, tSl, tSk, tCv, tCs, tCt, tMx, tMn, wr_10000, wr_100000, wr_1000000, wr_10000000, wr_100000000, wr_2400, wr_9999, wr_0, wr_1, wr_2, wr_3, wr_4, wr_5, wr_6, wr_7, wr_8, wr_9, wr_10, wr_11, wr_12, wr_13, wr_14, wr_15, wr_16, wr_17, wr_18, wr_19, wr_20, wr_21, wr_22, wr_23, wr_24, wr_25, wr_26, wr_27, wr_28, wr_29, wr_30, wr_31, wr_32, wr_33, wr_34, wr_35, wr_36, wr_37, wr_38, wr_39, wr_40, wr_41, wr_42, wr_43, wr_44, wr_45, wr_46, wr_47, wr_48, wr_49, wr_50, wr_51, wr_52, wr_53, wr_54, wr_55, wr_56, wr_57, wr_58, wr_59, wr_60, wr_61, wr_62, wr_63, wr_99, wr_100, wr_192, wr_255, wr_256, wr_343, wr_999, wr_1000, wr_2401, wr_2147483647, wr_65535, wr_m1, wr_m2, wr_m3, wr_m4, wr_m9, ak_1000, ak_1001, ak_1002, ak_0, ak_1, ak_2, ak_3, ak_4, ak_5, ak_6, ak_7, ak_8, ak_9, ak_10, ak_11, ak_12, ak_13, ak_14, ak_15, ak_16, ak_17, ak_18, ak_19, ak_20, ak_21, ak_22, ak_23, ak_24, ak_25, ak_26, ak_27, ak_28, ak_29, ak_30, ak_31, ak_32, ak_33, ak_34, ak_35, ak_36, ak_37, ak_38, ak_39, ak_40, ak_41, ak_42, ak_43, ak_44, ak_45, ak_46, ak_47, wo, no, q1]
      exact rm_X6_ordersTo h (by omega)
theorem sp_X6_ordersTo {M : List AC} {st lk len ac nx rf lr en lm : Int} {sd : Int64} (h0 : M[26]? = some (mo st lk len ac nx rf lr en lm sd)) {g d b s d' b' s' : F4} (h27 : M[27]? = some (aI (l4 g))) (h28 : M[28]? = some (aI (nw d b s))) (h32 : M[32]? = some (aI (l4 d'))) (h33 : M[33]? = some (aI (l4 b'))) (h34 : M[34]? = some (aI (l4 s'))) (hr : SR st g s d b) (x e fl : Int) (hx : 0 ≤ x ∧ x < 10000) (hx6 : i4 0 6 (uf x)) (he : -10000 ≤ e ∧ e ≤ 10000) (hfl : fl = 0 ∨ fl = 1) : ∃ (d1 b1 s1 : F4), fn_X6_ordersTo [vR 26, vI x, vI e, vI fl] M = some (some (vI (if fl = 1 then (ot6 st g s b x e 256 0 (0, -9)).2 else (ot6 st g s b x e 256 0 (0, -9)).1)), ((M.set 32 (aI (l4 d1))).set 33 (aI (l4 b1))).set 34 (aI (l4 s1))) := by
  obtain ⟨d1, b1, s1, k, hk, h⟩ := lp_X6_ordersTo (lk := lk) (len := len) (ac := ac) (nx := nx) (rf := rf) (lr := lr) (en := en) (lm := lm) (sd := sd) hr hx hx6 he hfl 256 0 0 (-9) d' b' s' M h0 h27 h28 h32 h33 h34 (by omega) (by omega) (by omega)
  generalize ot6 st g s b x e 256 0 (0, -9) = T at h ⊢
  refine ⟨d1, b1, s1, ?_⟩
  (refine am_fnR (tb := tb_X6_ordersTo) (N := 50000) (Nat.le_of_ble_eq_true rfl) (Nat.le_of_ble_eq_true rfl) ?_; show Ru rx_X6_ordersTo 50000 0 _ _ _ _)
  refine ⟨k + 10, by omega, ?_⟩
  simp [↓ri_X6_ordersTo, rs_X6_ordersTo_0, rs_X6_ordersTo_1, rs_X6_ordersTo_3, rs_X6_ordersTo_5, rs_X6_ordersTo_7, rs_X6_ordersTo_8, rs_X6_ordersTo_12, rs_X6_ordersTo_15, rs_X6_ordersTo_18, rs_X6_ordersTo_20, rs_X6_ordersTo_21, rs_X6_ordersTo_24, rs_X6_ordersTo_26, rs_X6_ordersTo_29, rs_X6_ordersTo_30, rs_X6_ordersTo_31, rs_X6_ordersTo_33, rs_X6_ordersTo_36, rs_X6_ordersTo_37, rs_X6_ordersTo_40, rs_X6_ordersTo_42, rs_X6_ordersTo_45, rs_X6_ordersTo_47, rs_X6_ordersTo_50, rs_X6_ordersTo_53, rs_X6_ordersTo_55, rs_X6_ordersTo_57, rs_X6_ordersTo_60, rs_X6_ordersTo_63, rs_X6_ordersTo_66, rs_X6_ordersTo_67, rs_X6_ordersTo_70, rs_X6_ordersTo_72, rs_X6_ordersTo_75, rs_X6_ordersTo_77, -List.getElem?_eq_getElem, am_js, am_e, am_in, am_sl, rI, rZ, rV, rJ, rA, rC, kI, kJ, kR, am_one, am_nl, am_w8, tIc, tLc, tNul, tIld, tLld, tAld, tIst, tLst, tAst, tIinc, tI2, tDv, tL2, tLrem, tLs, tLcmp, tI2l, tL2i, tI2c, tDup, tDup2, tPop, tGo, tIfeq, tIfne, tIflt, tIfge, tIfgt, tIfle, tCmeq, tCmne, tCmlt, tCmge, tCmgt, tCmle, tNu, tTs, tGf, tPf, tGs, tIal, tIas, tBal, tBas, tAln, tSv, tSc, tSb, tSl, tSk, tCv, tCs, tCt, tMx, tMn, wr_10000, wr_100000, wr_1000000, wr_10000000, wr_100000000, wr_2400, wr_9999, wr_0, wr_1, wr_2, wr_3, wr_4, wr_5, wr_6, wr_7, wr_8, wr_9, wr_10, wr_11, wr_12, wr_13, wr_14, wr_15, wr_16, wr_17, wr_18, wr_19, wr_20, wr_21, wr_22, wr_23, wr_24, wr_25, wr_26, wr_27, wr_28, wr_29, wr_30, wr_31, wr_32, wr_33, wr_34, wr_35, wr_36, wr_37, wr_38, wr_39, wr_40, wr_41, wr_42, wr_43, wr_44, wr_45, wr_46, wr_47, wr_48, wr_49, wr_50, wr_51, wr_52, wr_53, wr_54, wr_55, wr_56, wr_57, wr_58, wr_59, wr_60, wr_61, wr_62, wr_63, wr_99, wr_100, wr_192, wr_255, wr_256, wr_343, wr_999, wr_1000, wr_2401, wr_2147483647, wr_65535, wr_m1, wr_m2, wr_m3, wr_m4, wr_m9, ak_1000, ak_1001, ak_1002, ak_0, ak_1, ak_2, ak_3, ak_4, ak_5, ak_6, ak_7, ak_8, ak_9, ak_10, ak_11, ak_12, ak_13, ak_14, ak_15, ak_16, ak_17, ak_18, ak_19, ak_20, ak_21, ak_22, ak_23, ak_24, ak_25, ak_26, ak_27, ak_28, ak_29, ak_30, ak_31, ak_32, ak_33, ak_34, ak_35, ak_36, ak_37, ak_38, ak_39, ak_40, ak_41, ak_42, ak_43, ak_44, ak_45, ak_46, ak_47]
  exact rm_X6_ordersTo h (by omega)
abbrev mi_X6_orders : Mi := (yX6_orders, cX6_orders, 3, some .int, 9)
theorem mf_X6_orders : am_mf mi_X6_orders 2 := ⟨w_co_X6_orders, w_in_X6, ⟨by decide +kernel, by decide +kernel⟩, by decide +kernel, by decide⟩
def tb_X6_orders : List (Nat × Tr) := [(0, tIld 1 1), (1, tIc 1 1), (2, tCs 2 fn_X6_isRow), (5, tIfeq 18), (8, tIld 2 1), (9, tI2l), (10, tLc 0 1), (11, tLc 1 1), (12, tCs 3 fn_X6_in), (15, tIfne 21), (18, tIc (-2) 2), (21, tAld 0 1), (22, tIld 1 1), (23, tIld 1 1), (24, tIld 2 1), (25, tIc 1 1), (26, tCmne 33), (29, tIc 1 1), (30, tGo 34), (33, tIc 0 1), (34, tCv 6 3 fn_X6_ordersTo)]
theorem ok_X6_orders : Tok mi_X6_orders tb_X6_orders :=
  Tc (sd_iload_n dX6_orders_0) <|
  Tc (sd_iconst rfl dX6_orders_1) <|
  Tc (sd_cs fok_X6_isRow mf_X6_isRow w_ml_X6_125 w_st_X6_isRow (by decide) dX6_orders_2) <|
  Tc (sd_if_eq (by decide) dX6_orders_5) <|
  Tc (sd_iload_n dX6_orders_8) <|
  Tc (sd_i2l dX6_orders_9) <|
  Tc (sd_lconst rfl dX6_orders_10) <|
  Tc (sd_lconst rfl dX6_orders_11) <|
  Tc (sd_cs fok_X6_in mf_X6_in w_ml_X6_65 w_st_X6_in (by decide) dX6_orders_12) <|
  Tc (sd_if_ne (by decide) dX6_orders_15) <|
  Tc (sd_bipush (by decide +kernel) dX6_orders_18) <|
  Tc (sd_aload_n dX6_orders_21) <|
  Tc (sd_iload_n dX6_orders_22) <|
  Tc (sd_iload_n dX6_orders_23) <|
  Tc (sd_iload_n dX6_orders_24) <|
  Tc (sd_iconst rfl dX6_orders_25) <|
  Tc (sd_cm_ne (by decide) dX6_orders_26) <|
  Tc (sd_iconst rfl dX6_orders_29) <|
  Tc (sd_goto (by decide) dX6_orders_30) <|
  Tc (sd_iconst rfl dX6_orders_33) <|
  Tc (sd_cv (T := TX6) fok_X6_ordersTo mf_X6_ordersTo rfl w_ml_X6_207 w_im_X6_ordersTo w_se_X6_ordersTo (by decide) dX6_orders_34) <|
  Tn
theorem rk_X6_orders : Rok mi_X6_orders rI [20, 37] := rk_i dX6_orders_20 <| rk_i dX6_orders_37 <| rk_n
def rx_X6_orders : Nat → Nat → AL → List AV → List AC → Option (Option AV × List AC) := am_r tb_X6_orders rI [20, 37]
theorem rs_X6_orders_0 (n : Nat) (L : AL) (st : List AV) (M : List AC) : rx_X6_orders (n + 1) 0 L st M = am_j (rx_X6_orders n) ((tIld 1 1) 0 L st M) := rfl
theorem rs_X6_orders_1 (n : Nat) (L : AL) (st : List AV) (M : List AC) : rx_X6_orders (n + 1) 1 L st M = am_j (rx_X6_orders n) ((tIc 1 1) 1 L st M) := rfl
theorem rs_X6_orders_2 (n : Nat) (L : AL) (st : List AV) (M : List AC) : rx_X6_orders (n + 1) 2 L st M = am_j (rx_X6_orders n) ((tCs 2 fn_X6_isRow) 2 L st M) := rfl
theorem rs_X6_orders_5 (n : Nat) (L : AL) (st : List AV) (M : List AC) : rx_X6_orders (n + 1) 5 L st M = am_j (rx_X6_orders n) ((tIfeq 18) 5 L st M) := rfl
theorem rs_X6_orders_8 (n : Nat) (L : AL) (st : List AV) (M : List AC) : rx_X6_orders (n + 1) 8 L st M = am_j (rx_X6_orders n) ((tIld 2 1) 8 L st M) := rfl
theorem rs_X6_orders_9 (n : Nat) (L : AL) (st : List AV) (M : List AC) : rx_X6_orders (n + 1) 9 L st M = am_j (rx_X6_orders n) (tI2l 9 L st M) := rfl
theorem rs_X6_orders_10 (n : Nat) (L : AL) (st : List AV) (M : List AC) : rx_X6_orders (n + 1) 10 L st M = am_j (rx_X6_orders n) ((tLc 0 1) 10 L st M) := rfl
theorem rs_X6_orders_11 (n : Nat) (L : AL) (st : List AV) (M : List AC) : rx_X6_orders (n + 1) 11 L st M = am_j (rx_X6_orders n) ((tLc 1 1) 11 L st M) := rfl
theorem rs_X6_orders_12 (n : Nat) (L : AL) (st : List AV) (M : List AC) : rx_X6_orders (n + 1) 12 L st M = am_j (rx_X6_orders n) ((tCs 3 fn_X6_in) 12 L st M) := rfl
theorem rs_X6_orders_15 (n : Nat) (L : AL) (st : List AV) (M : List AC) : rx_X6_orders (n + 1) 15 L st M = am_j (rx_X6_orders n) ((tIfne 21) 15 L st M) := rfl
theorem rs_X6_orders_18 (n : Nat) (L : AL) (st : List AV) (M : List AC) : rx_X6_orders (n + 1) 18 L st M = am_j (rx_X6_orders n) ((tIc (-2) 2) 18 L st M) := rfl
theorem rs_X6_orders_21 (n : Nat) (L : AL) (st : List AV) (M : List AC) : rx_X6_orders (n + 1) 21 L st M = am_j (rx_X6_orders n) ((tAld 0 1) 21 L st M) := rfl
theorem rs_X6_orders_22 (n : Nat) (L : AL) (st : List AV) (M : List AC) : rx_X6_orders (n + 1) 22 L st M = am_j (rx_X6_orders n) ((tIld 1 1) 22 L st M) := rfl
theorem rs_X6_orders_23 (n : Nat) (L : AL) (st : List AV) (M : List AC) : rx_X6_orders (n + 1) 23 L st M = am_j (rx_X6_orders n) ((tIld 1 1) 23 L st M) := rfl
theorem rs_X6_orders_24 (n : Nat) (L : AL) (st : List AV) (M : List AC) : rx_X6_orders (n + 1) 24 L st M = am_j (rx_X6_orders n) ((tIld 2 1) 24 L st M) := rfl
theorem rs_X6_orders_25 (n : Nat) (L : AL) (st : List AV) (M : List AC) : rx_X6_orders (n + 1) 25 L st M = am_j (rx_X6_orders n) ((tIc 1 1) 25 L st M) := rfl
theorem rs_X6_orders_26 (n : Nat) (L : AL) (st : List AV) (M : List AC) : rx_X6_orders (n + 1) 26 L st M = am_j (rx_X6_orders n) ((tCmne 33) 26 L st M) := rfl
theorem rs_X6_orders_29 (n : Nat) (L : AL) (st : List AV) (M : List AC) : rx_X6_orders (n + 1) 29 L st M = am_j (rx_X6_orders n) ((tIc 1 1) 29 L st M) := rfl
theorem rs_X6_orders_30 (n : Nat) (L : AL) (st : List AV) (M : List AC) : rx_X6_orders (n + 1) 30 L st M = am_j (rx_X6_orders n) ((tGo 34) 30 L st M) := rfl
theorem rs_X6_orders_33 (n : Nat) (L : AL) (st : List AV) (M : List AC) : rx_X6_orders (n + 1) 33 L st M = am_j (rx_X6_orders n) ((tIc 0 1) 33 L st M) := rfl
theorem rs_X6_orders_34 (n : Nat) (L : AL) (st : List AV) (M : List AC) : rx_X6_orders (n + 1) 34 L st M = am_j (rx_X6_orders n) ((tCv 6 3 fn_X6_ordersTo) 34 L st M) := rfl
theorem rs_X6_orders_20 (n : Nat) (L : AL) (st : List AV) (M : List AC) : rx_X6_orders (n + 1) 20 L st M = am_e rI st M := rfl
theorem rs_X6_orders_37 (n : Nat) (L : AL) (st : List AV) (M : List AC) : rx_X6_orders (n + 1) 37 L st M = am_e rI st M := rfl
theorem ri_X6_orders (c : Prop) [Decidable c] (p q n : Nat) (L : AL) (st : List AV) (M : List AC) : rx_X6_orders n (if c then p else q) L st M = if c then rx_X6_orders n p L st M else rx_X6_orders n q L st M := by split <;> rfl
theorem rm_X6_orders {n k pc : Nat} {L : AL} {st : List AV} {M : List AC} {x : Option AV × List AC} (h : rx_X6_orders n pc L st M = some x) (hk : n ≤ k) : rx_X6_orders k pc L st M = some x := am_r_mono n k h hk
def fn_X6_orders : Fn := am_fn rx_X6_orders 3
theorem fok_X6_orders : Fok mi_X6_orders fn_X6_orders := fun _ _ _ _ h => am_fok ok_X6_orders rk_X6_orders rfl h
theorem sp_X6_orders {M : List AC} {st lk len ac nx rf lr en lm : Int} {sd : Int64} (h0 : M[26]? = some (mo st lk len ac nx rf lr en lm sd)) {g d b s d' b' s' : F4} (h27 : M[27]? = some (aI (l4 g))) (h28 : M[28]? = some (aI (nw d b s))) (h32 : M[32]? = some (aI (l4 d'))) (h33 : M[33]? = some (aI (l4 b'))) (h34 : M[34]? = some (aI (l4 s'))) (hr : SR st g s d b) (x w : Int) (hx : -2147483648 ≤ x ∧ x < 2147483648) (hw : -2147483648 ≤ w ∧ w < 2147483648) : ∃ (d1 b1 s1 : F4), fn_X6_orders [vR 26, vI x, vI w] M = some (some (vI (if (0 ≤ x ∧ x < 10000 ∧ i4 1 6 (uf x)) ∧ (0 ≤ w ∧ w ≤ 1) then (if w = 1 then (ot6 st g s b x x 256 0 (0, -9)).2 else (ot6 st g s b x x 256 0 (0, -9)).1) else -2)), ((M.set 32 (aI (l4 d1))).set 33 (aI (l4 b1))).set 34 (aI (l4 s1))) := by
  have ww : wr w = w := wr_id (by omega) (by omega)
  have q1 := sp_X6_isRow x 1 M hx (Or.inr rfl)
  by_cases h1 : 0 ≤ x ∧ x < 10000 ∧ i4 1 6 (uf x)
  · rw [if_pos h1] at q1
    by_cases h2 : 0 ≤ w ∧ w ≤ 1
    · rw [if_pos ⟨h1, h2⟩]
      have hx6 : i4 0 6 (uf x) := by
        obtain ⟨-, -, a, b, c, d⟩ := h1
        exact ⟨⟨by omega, a.2⟩, ⟨by omega, b.2⟩, ⟨by omega, c.2⟩, by omega, d.2⟩
      by_cases hw1 : w = 1
      · obtain ⟨d1, b1, s1, q2⟩ := sp_X6_ordersTo h0 h27 h28 h32 h33 h34 hr x x 1 ⟨h1.1, h1.2.1⟩ hx6 (by omega) (Or.inr rfl)
        refine ⟨d1, b1, s1, ?_⟩
        rw [if_pos rfl] at q2
        rw [if_pos hw1]
        generalize ot6 st g s b x x 256 0 (0, -9) = T at q2 ⊢
        clear h1 hx6
        (refine am_fnI (tb := tb_X6_orders) (n := 60) (Nat.le_of_ble_eq_true rfl) (Nat.le_of_ble_eq_true rfl) ?_; show rx_X6_orders 60 0 _ _ _ = _)
        simp [↓ri_X6_orders, rs_X6_orders_0, rs_X6_orders_1, rs_X6_orders_2, rs_X6_orders_5, rs_X6_orders_8, rs_X6_orders_9, rs_X6_orders_10, rs_X6_orders_11, rs_X6_orders_12, rs_X6_orders_15, rs_X6_orders_18, rs_X6_orders_21, rs_X6_orders_22, rs_X6_orders_23, rs_X6_orders_24, rs_X6_orders_25, rs_X6_orders_26, rs_X6_orders_29, rs_X6_orders_30, rs_X6_orders_33, rs_X6_orders_34, rs_X6_orders_20, rs_X6_orders_37, -List.getElem?_eq_getElem, am_js, am_e, am_in, am_sl, rI, rZ, rV, rJ, rA, rC, kI, kJ, kR, am_one, am_nl, am_w8, tIc, tLc, tNul, tIld, tLld, tAld, tIst, tLst, tAst, tIinc, tI2, tDv, tL2, tLrem, tLs, tLcmp, tI2l, tL2i, tI2c, tDup, tDup2, tPop, tGo, tIfeq, tIfne, tIflt, tIfge, tIfgt, tIfle, tCmeq, tCmne, tCmlt, tCmge, tCmgt, tCmle, tNu, tTs, tGf, tPf, tGs, tIal, tIas, tBal, tBas, tAln, tSv, tSc, tSb, tSl, tSk, tCv, tCs, tCt, tMx, tMn, wr_10000, wr_100000, wr_1000000, wr_10000000, wr_100000000, wr_2400, wr_9999, wr_0, wr_1, wr_2, wr_3, wr_4, wr_5, wr_6, wr_7, wr_8, wr_9, wr_10, wr_11, wr_12, wr_13, wr_14, wr_15, wr_16, wr_17, wr_18, wr_19, wr_20, wr_21, wr_22, wr_23, wr_24, wr_25, wr_26, wr_27, wr_28, wr_29, wr_30, wr_31, wr_32, wr_33, wr_34, wr_35, wr_36, wr_37, wr_38, wr_39, wr_40, wr_41, wr_42, wr_43, wr_44, wr_45, wr_46, wr_47, wr_48, wr_49, wr_50, wr_51, wr_52, wr_53, wr_54, wr_55, wr_56, wr_57, wr_58, wr_59, wr_60, wr_61, wr_62, wr_63, wr_99, wr_100, wr_192, wr_255, wr_256, wr_343, wr_999, wr_1000, wr_2401, wr_2147483647, wr_65535, wr_m1, wr_m2, wr_m3, wr_m4, wr_m9, ak_1000, ak_1001, ak_1002, ak_0, ak_1, ak_2, ak_3, ak_4, ak_5, ak_6, ak_7, ak_8, ak_9, ak_10, ak_11, ak_12, ak_13, ak_14, ak_15, ak_16, ak_17, ak_18, ak_19, ak_20, ak_21, ak_22, ak_23, ak_24, ak_25, ak_26, ak_27, ak_28, ak_29, ak_30, ak_31, ak_32, ak_33, ak_34, ak_35, ak_36, ak_37, ak_38, ak_39, ak_40, ak_41, ak_42, ak_43, ak_44, ak_45, ak_46, ak_47, sp_X6_in, -Int32.toInt_ofInt, -not_and, wr_eq, jt_0, jt_1, jt_2, jt_3, jt_4, jt_5, jt_6, jt_8, jt_12, jt_30, jt_48, jt_49, jt_51, jt_57, jt_255, jt_9999, q1, h0, mo, ww, h2, hw1, q2]
      · obtain ⟨d1, b1, s1, q2⟩ := sp_X6_ordersTo h0 h27 h28 h32 h33 h34 hr x x 0 ⟨h1.1, h1.2.1⟩ hx6 (by omega) (Or.inl rfl)
        refine ⟨d1, b1, s1, ?_⟩
        rw [if_neg (by decide)] at q2
        rw [if_neg hw1]
        generalize ot6 st g s b x x 256 0 (0, -9) = T at q2 ⊢
        clear h1 hx6
        (refine am_fnI (tb := tb_X6_orders) (n := 60) (Nat.le_of_ble_eq_true rfl) (Nat.le_of_ble_eq_true rfl) ?_; show rx_X6_orders 60 0 _ _ _ = _)
        simp [↓ri_X6_orders, rs_X6_orders_0, rs_X6_orders_1, rs_X6_orders_2, rs_X6_orders_5, rs_X6_orders_8, rs_X6_orders_9, rs_X6_orders_10, rs_X6_orders_11, rs_X6_orders_12, rs_X6_orders_15, rs_X6_orders_18, rs_X6_orders_21, rs_X6_orders_22, rs_X6_orders_23, rs_X6_orders_24, rs_X6_orders_25, rs_X6_orders_26, rs_X6_orders_29, rs_X6_orders_30, rs_X6_orders_33, rs_X6_orders_34, rs_X6_orders_20, rs_X6_orders_37, -List.getElem?_eq_getElem, am_js, am_e, am_in, am_sl, rI, rZ, rV, rJ, rA, rC, kI, kJ, kR, am_one, am_nl, am_w8, tIc, tLc, tNul, tIld, tLld, tAld, tIst, tLst, tAst, tIinc, tI2, tDv, tL2, tLrem, tLs, tLcmp, tI2l, tL2i, tI2c, tDup, tDup2, tPop, tGo, tIfeq, tIfne, tIflt, tIfge, tIfgt, tIfle, tCmeq, tCmne, tCmlt, tCmge, tCmgt, tCmle, tNu, tTs, tGf, tPf, tGs, tIal, tIas, tBal, tBas, tAln, tSv, tSc, tSb, tSl, tSk, tCv, tCs, tCt, tMx, tMn, wr_10000, wr_100000, wr_1000000, wr_10000000, wr_100000000, wr_2400, wr_9999, wr_0, wr_1, wr_2, wr_3, wr_4, wr_5, wr_6, wr_7, wr_8, wr_9, wr_10, wr_11, wr_12, wr_13, wr_14, wr_15, wr_16, wr_17, wr_18, wr_19, wr_20, wr_21, wr_22, wr_23, wr_24, wr_25, wr_26, wr_27, wr_28, wr_29, wr_30, wr_31, wr_32, wr_33, wr_34, wr_35, wr_36, wr_37, wr_38, wr_39, wr_40, wr_41, wr_42, wr_43, wr_44, wr_45, wr_46, wr_47, wr_48, wr_49, wr_50, wr_51, wr_52, wr_53, wr_54, wr_55, wr_56, wr_57, wr_58, wr_59, wr_60, wr_61, wr_62, wr_63, wr_99, wr_100, wr_192, wr_255, wr_256, wr_343, wr_999, wr_1000, wr_2401, wr_2147483647, wr_65535, wr_m1, wr_m2, wr_m3, wr_m4, wr_m9, ak_1000, ak_1001, ak_1002, ak_0, ak_1, ak_2, ak_3, ak_4, ak_5, ak_6, ak_7, ak_8, ak_9, ak_10, ak_11, ak_12, ak_13, ak_14, ak_15, ak_16, ak_17, ak_18, ak_19, ak_20, ak_21, ak_22, ak_23, ak_24, ak_25, ak_26, ak_27, ak_28, ak_29, ak_30, ak_31, ak_32, ak_33, ak_34, ak_35, ak_36, ak_37, ak_38, ak_39, ak_40, ak_41, ak_42, ak_43, ak_44, ak_45, ak_46, ak_47, sp_X6_in, -Int32.toInt_ofInt, -not_and, wr_eq, jt_0, jt_1, jt_2, jt_3, jt_4, jt_5, jt_6, jt_8, jt_12, jt_30, jt_48, jt_49, jt_51, jt_57, jt_255, jt_9999, q1, h0, mo, ww, h2, hw1, q2]
    · rw [if_neg (fun z => h2 z.2)]
      refine ⟨d', b', s', ?_⟩
      rw [set_same h32, set_same h33, set_same h34]
      clear h1
      (refine am_fnI (tb := tb_X6_orders) (n := 60) (Nat.le_of_ble_eq_true rfl) (Nat.le_of_ble_eq_true rfl) ?_; show rx_X6_orders 60 0 _ _ _ = _)
      simp [↓ri_X6_orders, rs_X6_orders_0, rs_X6_orders_1, rs_X6_orders_2, rs_X6_orders_5, rs_X6_orders_8, rs_X6_orders_9, rs_X6_orders_10, rs_X6_orders_11, rs_X6_orders_12, rs_X6_orders_15, rs_X6_orders_18, rs_X6_orders_21, rs_X6_orders_22, rs_X6_orders_23, rs_X6_orders_24, rs_X6_orders_25, rs_X6_orders_26, rs_X6_orders_29, rs_X6_orders_30, rs_X6_orders_33, rs_X6_orders_34, rs_X6_orders_20, rs_X6_orders_37, -List.getElem?_eq_getElem, am_js, am_e, am_in, am_sl, rI, rZ, rV, rJ, rA, rC, kI, kJ, kR, am_one, am_nl, am_w8, tIc, tLc, tNul, tIld, tLld, tAld, tIst, tLst, tAst, tIinc, tI2, tDv, tL2, tLrem, tLs, tLcmp, tI2l, tL2i, tI2c, tDup, tDup2, tPop, tGo, tIfeq, tIfne, tIflt, tIfge, tIfgt, tIfle, tCmeq, tCmne, tCmlt, tCmge, tCmgt, tCmle, tNu, tTs, tGf, tPf, tGs, tIal, tIas, tBal, tBas, tAln, tSv, tSc, tSb, tSl, tSk, tCv, tCs, tCt, tMx, tMn, wr_10000, wr_100000, wr_1000000, wr_10000000, wr_100000000, wr_2400, wr_9999, wr_0, wr_1, wr_2, wr_3, wr_4, wr_5, wr_6, wr_7, wr_8, wr_9, wr_10, wr_11, wr_12, wr_13, wr_14, wr_15, wr_16, wr_17, wr_18, wr_19, wr_20, wr_21, wr_22, wr_23, wr_24, wr_25, wr_26, wr_27, wr_28, wr_29, wr_30, wr_31, wr_32, wr_33, wr_34, wr_35, wr_36, wr_37, wr_38, wr_39, wr_40, wr_41, wr_42, wr_43, wr_44, wr_45, wr_46, wr_47, wr_48, wr_49, wr_50, wr_51, wr_52, wr_53, wr_54, wr_55, wr_56, wr_57, wr_58, wr_59, wr_60, wr_61, wr_62, wr_63, wr_99, wr_100, wr_192, wr_255, wr_256, wr_343, wr_999, wr_1000, wr_2401, wr_2147483647, wr_65535, wr_m1, wr_m2, wr_m3, wr_m4, wr_m9, ak_1000, ak_1001, ak_1002, ak_0, ak_1, ak_2, ak_3, ak_4, ak_5, ak_6, ak_7, ak_8, ak_9, ak_10, ak_11, ak_12, ak_13, ak_14, ak_15, ak_16, ak_17, ak_18, ak_19, ak_20, ak_21, ak_22, ak_23, ak_24, ak_25, ak_26, ak_27, ak_28, ak_29, ak_30, ak_31, ak_32, ak_33, ak_34, ak_35, ak_36, ak_37, ak_38, ak_39, ak_40, ak_41, ak_42, ak_43, ak_44, ak_45, ak_46, ak_47, sp_X6_in, -Int32.toInt_ofInt, -not_and, wr_eq, jt_0, jt_1, jt_2, jt_3, jt_4, jt_5, jt_6, jt_8, jt_12, jt_30, jt_48, jt_49, jt_51, jt_57, jt_255, jt_9999, q1, ww, h2]
  · rw [if_neg h1] at q1
    rw [if_neg (fun z => h1 z.1)]
    refine ⟨d', b', s', ?_⟩
    rw [set_same h32, set_same h33, set_same h34]
    clear h1
    (refine am_fnI (tb := tb_X6_orders) (n := 60) (Nat.le_of_ble_eq_true rfl) (Nat.le_of_ble_eq_true rfl) ?_; show rx_X6_orders 60 0 _ _ _ = _)
    simp [↓ri_X6_orders, rs_X6_orders_0, rs_X6_orders_1, rs_X6_orders_2, rs_X6_orders_5, rs_X6_orders_8, rs_X6_orders_9, rs_X6_orders_10, rs_X6_orders_11, rs_X6_orders_12, rs_X6_orders_15, rs_X6_orders_18, rs_X6_orders_21, rs_X6_orders_22, rs_X6_orders_23, rs_X6_orders_24, rs_X6_orders_25, rs_X6_orders_26, rs_X6_orders_29, rs_X6_orders_30, rs_X6_orders_33, rs_X6_orders_34, rs_X6_orders_20, rs_X6_orders_37, -List.getElem?_eq_getElem, am_js, am_e, am_in, am_sl, rI, rZ, rV, rJ, rA, rC, kI, kJ, kR, am_one, am_nl, am_w8, tIc, tLc, tNul, tIld, tLld, tAld, tIst, tLst, tAst, tIinc, tI2, tDv, tL2, tLrem, tLs, tLcmp, tI2l, tL2i, tI2c, tDup, tDup2, tPop, tGo, tIfeq, tIfne, tIflt, tIfge, tIfgt, tIfle, tCmeq, tCmne, tCmlt, tCmge, tCmgt, tCmle, tNu, tTs, tGf, tPf, tGs, tIal, tIas, tBal, tBas, tAln, tSv, tSc, tSb, tSl, tSk, tCv, tCs, tCt, tMx, tMn, wr_10000, wr_100000, wr_1000000, wr_10000000, wr_100000000, wr_2400, wr_9999, wr_0, wr_1, wr_2, wr_3, wr_4, wr_5, wr_6, wr_7, wr_8, wr_9, wr_10, wr_11, wr_12, wr_13, wr_14, wr_15, wr_16, wr_17, wr_18, wr_19, wr_20, wr_21, wr_22, wr_23, wr_24, wr_25, wr_26, wr_27, wr_28, wr_29, wr_30, wr_31, wr_32, wr_33, wr_34, wr_35, wr_36, wr_37, wr_38, wr_39, wr_40, wr_41, wr_42, wr_43, wr_44, wr_45, wr_46, wr_47, wr_48, wr_49, wr_50, wr_51, wr_52, wr_53, wr_54, wr_55, wr_56, wr_57, wr_58, wr_59, wr_60, wr_61, wr_62, wr_63, wr_99, wr_100, wr_192, wr_255, wr_256, wr_343, wr_999, wr_1000, wr_2401, wr_2147483647, wr_65535, wr_m1, wr_m2, wr_m3, wr_m4, wr_m9, ak_1000, ak_1001, ak_1002, ak_0, ak_1, ak_2, ak_3, ak_4, ak_5, ak_6, ak_7, ak_8, ak_9, ak_10, ak_11, ak_12, ak_13, ak_14, ak_15, ak_16, ak_17, ak_18, ak_19, ak_20, ak_21, ak_22, ak_23, ak_24, ak_25, ak_26, ak_27, ak_28, ak_29, ak_30, ak_31, ak_32, ak_33, ak_34, ak_35, ak_36, ak_37, ak_38, ak_39, ak_40, ak_41, ak_42, ak_43, ak_44, ak_45, ak_46, ak_47, q1]
abbrev mi_X6_creases : Mi := (yX6_creases, cX6_creases, 2, some .int, 9)
theorem mf_X6_creases : am_mf mi_X6_creases 1 := ⟨w_co_X6_creases, w_in_X6, ⟨by decide +kernel, by decide +kernel⟩, by decide +kernel, by decide⟩
def tb_X6_creases : List (Nat × Tr) := [(0, tIld 1 1), (1, tIc 1 1), (2, tCs 2 fn_X6_isRow), (5, tIfeq 21), (8, tAld 0 1), (9, tIld 1 1), (10, tAld 0 1), (11, tCv 6 0 fn_X6_toldNow), (14, tIc 0 1), (15, tCv 6 3 fn_X6_ordersTo), (18, tGo 23), (21, tIc (-2) 2)]
theorem ok_X6_creases : Tok mi_X6_creases tb_X6_creases :=
  Tc (sd_iload_n dX6_creases_0) <|
  Tc (sd_iconst rfl dX6_creases_1) <|
  Tc (sd_cs fok_X6_isRow mf_X6_isRow w_ml_X6_125 w_st_X6_isRow (by decide) dX6_creases_2) <|
  Tc (sd_if_eq (by decide) dX6_creases_5) <|
  Tc (sd_aload_n dX6_creases_8) <|
  Tc (sd_iload_n dX6_creases_9) <|
  Tc (sd_aload_n dX6_creases_10) <|
  Tc (sd_cv (T := TX6) fok_X6_toldNow mf_X6_toldNow rfl w_ml_X6_211 w_im_X6_toldNow w_se_X6_toldNow (by decide) dX6_creases_11) <|
  Tc (sd_iconst rfl dX6_creases_14) <|
  Tc (sd_cv (T := TX6) fok_X6_ordersTo mf_X6_ordersTo rfl w_ml_X6_207 w_im_X6_ordersTo w_se_X6_ordersTo (by decide) dX6_creases_15) <|
  Tc (sd_goto (by decide) dX6_creases_18) <|
  Tc (sd_bipush (by decide +kernel) dX6_creases_21) <|
  Tn
theorem rk_X6_creases : Rok mi_X6_creases rI [23] := rk_i dX6_creases_23 <| rk_n
def rx_X6_creases : Nat → Nat → AL → List AV → List AC → Option (Option AV × List AC) := am_r tb_X6_creases rI [23]
theorem rs_X6_creases_0 (n : Nat) (L : AL) (st : List AV) (M : List AC) : rx_X6_creases (n + 1) 0 L st M = am_j (rx_X6_creases n) ((tIld 1 1) 0 L st M) := rfl
theorem rs_X6_creases_1 (n : Nat) (L : AL) (st : List AV) (M : List AC) : rx_X6_creases (n + 1) 1 L st M = am_j (rx_X6_creases n) ((tIc 1 1) 1 L st M) := rfl
theorem rs_X6_creases_2 (n : Nat) (L : AL) (st : List AV) (M : List AC) : rx_X6_creases (n + 1) 2 L st M = am_j (rx_X6_creases n) ((tCs 2 fn_X6_isRow) 2 L st M) := rfl
theorem rs_X6_creases_5 (n : Nat) (L : AL) (st : List AV) (M : List AC) : rx_X6_creases (n + 1) 5 L st M = am_j (rx_X6_creases n) ((tIfeq 21) 5 L st M) := rfl
theorem rs_X6_creases_8 (n : Nat) (L : AL) (st : List AV) (M : List AC) : rx_X6_creases (n + 1) 8 L st M = am_j (rx_X6_creases n) ((tAld 0 1) 8 L st M) := rfl
theorem rs_X6_creases_9 (n : Nat) (L : AL) (st : List AV) (M : List AC) : rx_X6_creases (n + 1) 9 L st M = am_j (rx_X6_creases n) ((tIld 1 1) 9 L st M) := rfl
theorem rs_X6_creases_10 (n : Nat) (L : AL) (st : List AV) (M : List AC) : rx_X6_creases (n + 1) 10 L st M = am_j (rx_X6_creases n) ((tAld 0 1) 10 L st M) := rfl
theorem rs_X6_creases_11 (n : Nat) (L : AL) (st : List AV) (M : List AC) : rx_X6_creases (n + 1) 11 L st M = am_j (rx_X6_creases n) ((tCv 6 0 fn_X6_toldNow) 11 L st M) := rfl
theorem rs_X6_creases_14 (n : Nat) (L : AL) (st : List AV) (M : List AC) : rx_X6_creases (n + 1) 14 L st M = am_j (rx_X6_creases n) ((tIc 0 1) 14 L st M) := rfl
theorem rs_X6_creases_15 (n : Nat) (L : AL) (st : List AV) (M : List AC) : rx_X6_creases (n + 1) 15 L st M = am_j (rx_X6_creases n) ((tCv 6 3 fn_X6_ordersTo) 15 L st M) := rfl
theorem rs_X6_creases_18 (n : Nat) (L : AL) (st : List AV) (M : List AC) : rx_X6_creases (n + 1) 18 L st M = am_j (rx_X6_creases n) ((tGo 23) 18 L st M) := rfl
theorem rs_X6_creases_21 (n : Nat) (L : AL) (st : List AV) (M : List AC) : rx_X6_creases (n + 1) 21 L st M = am_j (rx_X6_creases n) ((tIc (-2) 2) 21 L st M) := rfl
theorem rs_X6_creases_23 (n : Nat) (L : AL) (st : List AV) (M : List AC) : rx_X6_creases (n + 1) 23 L st M = am_e rI st M := rfl
theorem ri_X6_creases (c : Prop) [Decidable c] (p q n : Nat) (L : AL) (st : List AV) (M : List AC) : rx_X6_creases n (if c then p else q) L st M = if c then rx_X6_creases n p L st M else rx_X6_creases n q L st M := by split <;> rfl
theorem rm_X6_creases {n k pc : Nat} {L : AL} {st : List AV} {M : List AC} {x : Option AV × List AC} (h : rx_X6_creases n pc L st M = some x) (hk : n ≤ k) : rx_X6_creases k pc L st M = some x := am_r_mono n k h hk
def fn_X6_creases : Fn := am_fn rx_X6_creases 2
theorem fok_X6_creases : Fok mi_X6_creases fn_X6_creases := fun _ _ _ _ h => am_fok ok_X6_creases rk_X6_creases rfl h
theorem sp_X6_creases {M : List AC} {st lk len ac nx rf lr en lm : Int} {sd : Int64} (h0 : M[26]? = some (mo st lk len ac nx rf lr en lm sd)) {g d b s d' b' s' : F4} (h27 : M[27]? = some (aI (l4 g))) (h28 : M[28]? = some (aI (nw d b s))) (h32 : M[32]? = some (aI (l4 d'))) (h33 : M[33]? = some (aI (l4 b'))) (h34 : M[34]? = some (aI (l4 s'))) (hr : SR st g s d b) (x : Int) (hx : -2147483648 ≤ x ∧ x < 2147483648) : ∃ (d1 b1 s1 : F4), fn_X6_creases [vR 26, vI x] M = some (some (vI (if 0 ≤ x ∧ x < 10000 ∧ i4 1 6 (uf x) then (ot6 st g s b x (fg d) 256 0 (0, -9)).1 else -2)), ((M.set 32 (aI (l4 d1))).set 33 (aI (l4 b1))).set 34 (aI (l4 s1))) := by
  have q1 := sp_X6_isRow x 1 M hx (Or.inr rfl)
  have q3 := sp_X6_toldNow h0 h28
  have hfd := fg_rng hr.2.2.2.1 (by decide)
  by_cases h1 : 0 ≤ x ∧ x < 10000 ∧ i4 1 6 (uf x)
  · rw [if_pos h1] at q1
    rw [if_pos h1]
    have hx6 : i4 0 6 (uf x) := by
      obtain ⟨-, -, a, b, c, d⟩ := h1
      exact ⟨⟨by omega, a.2⟩, ⟨by omega, b.2⟩, ⟨by omega, c.2⟩, by omega, d.2⟩
    obtain ⟨d1, b1, s1, q2⟩ := sp_X6_ordersTo h0 h27 h28 h32 h33 h34 hr x (fg d) 0 ⟨h1.1, h1.2.1⟩ hx6 (by omega) (Or.inl rfl)
    refine ⟨d1, b1, s1, ?_⟩
    rw [if_neg (by decide)] at q2
    generalize ot6 st g s b x (fg d) 256 0 (0, -9) = T at q2 ⊢
    clear h1 hx6
    (refine am_fnI (tb := tb_X6_creases) (n := 60) (Nat.le_of_ble_eq_true rfl) (Nat.le_of_ble_eq_true rfl) ?_; show rx_X6_creases 60 0 _ _ _ = _)
    simp [↓ri_X6_creases, rs_X6_creases_0, rs_X6_creases_1, rs_X6_creases_2, rs_X6_creases_5, rs_X6_creases_8, rs_X6_creases_9, rs_X6_creases_10, rs_X6_creases_11, rs_X6_creases_14, rs_X6_creases_15, rs_X6_creases_18, rs_X6_creases_21, rs_X6_creases_23, -List.getElem?_eq_getElem, am_js, am_e, am_in, am_sl, rI, rZ, rV, rJ, rA, rC, kI, kJ, kR, am_one, am_nl, am_w8, tIc, tLc, tNul, tIld, tLld, tAld, tIst, tLst, tAst, tIinc, tI2, tDv, tL2, tLrem, tLs, tLcmp, tI2l, tL2i, tI2c, tDup, tDup2, tPop, tGo, tIfeq, tIfne, tIflt, tIfge, tIfgt, tIfle, tCmeq, tCmne, tCmlt, tCmge, tCmgt, tCmle, tNu, tTs, tGf, tPf, tGs, tIal, tIas, tBal, tBas, tAln, tSv, tSc, tSb, tSl, tSk, tCv, tCs, tCt, tMx, tMn, wr_10000, wr_100000, wr_1000000, wr_10000000, wr_100000000, wr_2400, wr_9999, wr_0, wr_1, wr_2, wr_3, wr_4, wr_5, wr_6, wr_7, wr_8, wr_9, wr_10, wr_11, wr_12, wr_13, wr_14, wr_15, wr_16, wr_17, wr_18, wr_19, wr_20, wr_21, wr_22, wr_23, wr_24, wr_25, wr_26, wr_27, wr_28, wr_29, wr_30, wr_31, wr_32, wr_33, wr_34, wr_35, wr_36, wr_37, wr_38, wr_39, wr_40, wr_41, wr_42, wr_43, wr_44, wr_45, wr_46, wr_47, wr_48, wr_49, wr_50, wr_51, wr_52, wr_53, wr_54, wr_55, wr_56, wr_57, wr_58, wr_59, wr_60, wr_61, wr_62, wr_63, wr_99, wr_100, wr_192, wr_255, wr_256, wr_343, wr_999, wr_1000, wr_2401, wr_2147483647, wr_65535, wr_m1, wr_m2, wr_m3, wr_m4, wr_m9, ak_1000, ak_1001, ak_1002, ak_0, ak_1, ak_2, ak_3, ak_4, ak_5, ak_6, ak_7, ak_8, ak_9, ak_10, ak_11, ak_12, ak_13, ak_14, ak_15, ak_16, ak_17, ak_18, ak_19, ak_20, ak_21, ak_22, ak_23, ak_24, ak_25, ak_26, ak_27, ak_28, ak_29, ak_30, ak_31, ak_32, ak_33, ak_34, ak_35, ak_36, ak_37, ak_38, ak_39, ak_40, ak_41, ak_42, ak_43, ak_44, ak_45, ak_46, ak_47, q1, q3, h0, mo, q2]
  · rw [if_neg h1] at q1
    rw [if_neg h1]
    refine ⟨d', b', s', ?_⟩
    rw [set_same h32, set_same h33, set_same h34]
    clear h1
    (refine am_fnI (tb := tb_X6_creases) (n := 60) (Nat.le_of_ble_eq_true rfl) (Nat.le_of_ble_eq_true rfl) ?_; show rx_X6_creases 60 0 _ _ _ = _)
    simp [↓ri_X6_creases, rs_X6_creases_0, rs_X6_creases_1, rs_X6_creases_2, rs_X6_creases_5, rs_X6_creases_8, rs_X6_creases_9, rs_X6_creases_10, rs_X6_creases_11, rs_X6_creases_14, rs_X6_creases_15, rs_X6_creases_18, rs_X6_creases_21, rs_X6_creases_23, -List.getElem?_eq_getElem, am_js, am_e, am_in, am_sl, rI, rZ, rV, rJ, rA, rC, kI, kJ, kR, am_one, am_nl, am_w8, tIc, tLc, tNul, tIld, tLld, tAld, tIst, tLst, tAst, tIinc, tI2, tDv, tL2, tLrem, tLs, tLcmp, tI2l, tL2i, tI2c, tDup, tDup2, tPop, tGo, tIfeq, tIfne, tIflt, tIfge, tIfgt, tIfle, tCmeq, tCmne, tCmlt, tCmge, tCmgt, tCmle, tNu, tTs, tGf, tPf, tGs, tIal, tIas, tBal, tBas, tAln, tSv, tSc, tSb, tSl, tSk, tCv, tCs, tCt, tMx, tMn, wr_10000, wr_100000, wr_1000000, wr_10000000, wr_100000000, wr_2400, wr_9999, wr_0, wr_1, wr_2, wr_3, wr_4, wr_5, wr_6, wr_7, wr_8, wr_9, wr_10, wr_11, wr_12, wr_13, wr_14, wr_15, wr_16, wr_17, wr_18, wr_19, wr_20, wr_21, wr_22, wr_23, wr_24, wr_25, wr_26, wr_27, wr_28, wr_29, wr_30, wr_31, wr_32, wr_33, wr_34, wr_35, wr_36, wr_37, wr_38, wr_39, wr_40, wr_41, wr_42, wr_43, wr_44, wr_45, wr_46, wr_47, wr_48, wr_49, wr_50, wr_51, wr_52, wr_53, wr_54, wr_55, wr_56, wr_57, wr_58, wr_59, wr_60, wr_61, wr_62, wr_63, wr_99, wr_100, wr_192, wr_255, wr_256, wr_343, wr_999, wr_1000, wr_2401, wr_2147483647, wr_65535, wr_m1, wr_m2, wr_m3, wr_m4, wr_m9, ak_1000, ak_1001, ak_1002, ak_0, ak_1, ak_2, ak_3, ak_4, ak_5, ak_6, ak_7, ak_8, ak_9, ak_10, ak_11, ak_12, ak_13, ak_14, ak_15, ak_16, ak_17, ak_18, ak_19, ak_20, ak_21, ak_22, ak_23, ak_24, ak_25, ak_26, ak_27, ak_28, ak_29, ak_30, ak_31, ak_32, ak_33, ak_34, ak_35, ak_36, ak_37, ak_38, ak_39, ak_40, ak_41, ak_42, ak_43, ak_44, ak_45, ak_46, ak_47, q1]
end
