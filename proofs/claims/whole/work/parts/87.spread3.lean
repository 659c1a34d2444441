noncomputable section
def sv (a : Int) : Int := am_sevens.getD a.toNat 0
def bt (a b : Int) : Int := oShl 1 (4 * a + b)
def ad3 (S : S3) (t v : Int) : S3 := if S.2.2.1.getD t.toNat 0 = 0 ∧ S.2.1 < 2401 then (S.1.set S.2.1.toNat t, S.2.1 + 1, S.2.2.1.set t.toNat v, S.2.2.2) else S
def I3 (S : S3) : Prop := (S.1.length = 2401 ∧ S.2.2.1.length = 2401 ∧ S.2.2.2.length = 2401) ∧ (∀ i : Nat, 0 ≤ S.2.2.1.getD i 0 ∧ S.2.2.1.getD i 0 ≤ 240100) ∧ (1 ≤ S.2.1 ∧ S.2.1 ≤ 2401) ∧ (∀ i : Nat, (i : Int) < S.2.1 → 0 ≤ S.1.getD i 0 ∧ S.1.getD i 0 < 2401)
theorem I3.ad {S : S3} (h : I3 S) {t v : Int} (ht : 0 ≤ t ∧ t < 2401) (hv : 0 ≤ v ∧ v ≤ 240100) : I3 (ad3 S t v) := by
  unfold ad3
  split
  · next e =>
    obtain ⟨Q, z, T, P⟩ := S
    obtain ⟨⟨l1, l2, l3⟩, h2, h3, h4⟩ := h
    dsimp only at *
    have htl : t.toNat < T.length := by rw [l2]; omega
    have hzl : z.toNat < Q.length := by rw [l1]; omega
    refine ⟨⟨?_, ?_, l3⟩, ?_, ?_, ?_⟩
    · rw [List.length_set]; exact l1
    · rw [List.length_set]; exact l2
    · intro i
      dsimp only
      by_cases hi : t.toNat = i
      · subst hi
        rw [gd_self htl]
        exact hv
      · rw [gd_ne hi]
        exact h2 i
    · dsimp only; omega
    · intro i hi
      dsimp only at hi ⊢
      by_cases him : z.toNat = i
      · subst him
        rw [gd_self hzl]
        exact ht
      · rw [gd_ne him]
        exact h4 i (by omega)
  · exact h
def tgs (st : Int) (g s bb : F4) (r a b p q : Int) : Int := so (sl st g s bb 4 (su (r + p * sv a + q * sv b)) 0).1
def sq3 (st : Int) (g s bb : F4) (x r a b p : Int) : Nat → Int → S3 → S3
  | 0, _, S => S
  | n + 1, q, S => sq3 st g s bb x r a b p n (q + 1) (ad3 S (tgs st g s bb r a b p q) (100 * x + 10 * a + p + 1))
def sp3 (st : Int) (g s bb : F4) (x r a b : Int) : Nat → Int → S3 → S3
  | 0, _, S => S
  | n + 1, p, S => sp3 st g s bb x r a b n (p + 1) (sq3 st g s bb x r a b p (if a = b then 1 else 7) 0 S)
def rst (x a b : Int) : Int := so (s4 (su (so (s4 (su x) a.toNat 0))) b.toNat 0)
def spr (st : Int) (g s bb : F4) (x a b : Int) (S : S3) : S3 := if oAnd (S.2.2.2.getD (rst x a b).toNat 0) (bt a b) = 0 then sp3 st g s bb x (rst x a b) a b 7 0 (S.1, S.2.1, S.2.2.1, S.2.2.2.set (rst x a b).toNat (oOr (S.2.2.2.getD (rst x a b).toNat 0) (bt a b))) else S
/-- the depths a and b may be laid beside r -/
def RO (r a b : Int) : Prop := ∀ p q : Int, 0 ≤ p → p ≤ 6 → 0 ≤ q → q ≤ (if a = b then 0 else 6) → 0 ≤ r + p * sv a + q * sv b ∧ r + p * sv a + q * sv b < 2401
theorem sv_4 : sv 0 = 343 ∧ sv 1 = 49 ∧ sv 2 = 7 ∧ sv 3 = 1 := ⟨rfl, rfl, rfl, rfl⟩
theorem ab_10 {a b : Int} (h : 0 ≤ a ∧ a ≤ b ∧ b < 4) : (a = 0 ∧ b = 0) ∨ (a = 1 ∧ b = 1) ∨ (a = 2 ∧ b = 2) ∨ (a = 3 ∧ b = 3) ∨ (a = 0 ∧ b = 1) ∨ (a = 0 ∧ b = 2) ∨ (a = 0 ∧ b = 3) ∨ (a = 1 ∧ b = 2) ∨ (a = 1 ∧ b = 3) ∨ (a = 2 ∧ b = 3) := by omega
theorem rst_rng {x a b : Int} (hx : 0 ≤ x ∧ x < 2401) : 0 ≤ rst x a b ∧ rst x a b < 2401 := so_rng (i4_s (su_rng (so_rng (i4_s (su_rng hx) _ (by decide) (by decide)))) _ (by decide) (by decide))
theorem su_so {d : F4} (h : i4 0 6 d) : su (so d) = d := by
  obtain ⟨a, b, c, e⟩ := d
  obtain ⟨h1, h2, h3, h4⟩ := h
  dsimp only at *
  unfold su so
  dsimp only
  have e1 : (343 * a + 49 * b + 7 * c + e) / 343 = a := by omega
  have e2 : (343 * a + 49 * b + 7 * c + e) / 49 % 7 = b := by omega
  have e3 : (343 * a + 49 * b + 7 * c + e) / 7 % 7 = c := by omega
  have e4 : (343 * a + 49 * b + 7 * c + e) % 7 = e := by omega
  rw [e1, e2, e3, e4]
theorem rst_eq {x a b : Int} (hx : 0 ≤ x ∧ x < 2401) : rst x a b = so (s4 (s4 (su x) a.toNat 0) b.toNat 0) := by
  unfold rst
  rw [su_so (i4_s (su_rng hx) _ (by decide) (by decide))]
theorem RO_ok {x a b : Int} (hx : 0 ≤ x ∧ x < 2401) (hab : 0 ≤ a ∧ a ≤ b ∧ b < 4) : RO (rst x a b) a b := by
  intro p q p0 p6 q0 q6
  rw [rst_eq hx]
  have hu := su_rng hx
  obtain ⟨s0, s1, s2, s3⟩ := sv_4
  generalize su x = u at hu ⊢
  obtain ⟨u1, u2, u3, u4⟩ := u
  obtain ⟨h1, h2, h3, h4⟩ := hu
  dsimp only at h1 h2 h3 h4
  rcases ab_10 hab with ⟨rfl, rfl⟩ | ⟨rfl, rfl⟩ | ⟨rfl, rfl⟩ | ⟨rfl, rfl⟩ | ⟨rfl, rfl⟩ | ⟨rfl, rfl⟩ | ⟨rfl, rfl⟩ | ⟨rfl, rfl⟩ | ⟨rfl, rfl⟩ | ⟨rfl, rfl⟩ <;>
  simp only [s0, s1, s2, s3, so, s4, Int.toNat_zero, Int.toNat_one, show Int.toNat 2 = 2 from rfl, show Int.toNat 3 = 3 from rfl] <;> simp at q6 <;> omega
theorem tgs_rng (st : Int) (g s bb : F4) {r a b p q : Int} (h : 0 ≤ r + p * sv a + q * sv b ∧ r + p * sv a + q * sv b < 2401) : 0 ≤ tgs st g s bb r a b p q ∧ tgs st g s bb r a b p q < 2401 := so_rng (sl_i4 st g s bb 4 _ 0 (su_rng h))
theorem sq3_I (st : Int) (g s bb : F4) {x r a b p : Int} (hx : 0 ≤ x ∧ x < 2401) (ha : 0 ≤ a ∧ a < 4) (hp : 0 ≤ p ∧ p ≤ 6) (hR : RO r a b) : ∀ (n : Nat) (q : Int) (S : S3), 0 ≤ q → q + n ≤ (if a = b then 1 else 7) → I3 S → I3 (sq3 st g s bb x r a b p n q S)
  | 0, _, _, _, _, h => h
  | n + 1, q, S, hq, hn, h => by
    rw [sq3]
    refine sq3_I st g s bb hx ha hp hR n (q + 1) _ (by omega) (by omega) (h.ad (tgs_rng st g s bb (hR p q hp.1 hp.2 hq ?_)) (by omega))
    split at hn
    · next e => rw [if_pos e]; omega
    · next e => rw [if_neg e]; omega
theorem sp3_I (st : Int) (g s bb : F4) {x r a b : Int} (hx : 0 ≤ x ∧ x < 2401) (ha : 0 ≤ a ∧ a < 4) (hR : RO r a b) : ∀ (n : Nat) (p : Int) (S : S3), 0 ≤ p → p + n = 7 → I3 S → I3 (sp3 st g s bb x r a b n p S)
  | 0, _, _, _, _, h => h
  | n + 1, p, S, hp, hn, h => by
    rw [sp3]
    exact sp3_I st g s bb hx ha hR n (p + 1) _ (by omega) (by omega) (sq3_I st g s bb hx ha ⟨hp, by omega⟩ hR _ 0 S (by omega) (by split <;> omega) h)
theorem I3.sp {S : S3} (h : I3 S) (i : Nat) (v : Int) : I3 (S.1, S.2.1, S.2.2.1, S.2.2.2.set i v) := ⟨⟨h.1.1, h.1.2.1, by dsimp only; rw [List.length_set]; exact h.1.2.2⟩, h.2⟩
theorem spr_I (st : Int) (g s bb : F4) {x a b : Int} (hx : 0 ≤ x ∧ x < 2401) (hab : 0 ≤ a ∧ a ≤ b ∧ b < 4) {S : S3} (h : I3 S) : I3 (spr st g s bb x a b S) := by
  unfold spr
  split
  · exact sp3_I st g s bb hx ⟨hab.1, by omega⟩ (RO_ok hx hab) 7 0 _ (by omega) (by omega) (h.sp _ _)
  · exact h
theorem svs_len : am_sevens.length = 4 := rfl
theorem sv_rng (a : Int) : 0 ≤ sv a ∧ sv a ≤ 343 := by
  unfold sv
  have key : ∀ n : Nat, n < 4 → 0 ≤ am_sevens.getD n 0 ∧ am_sevens.getD n 0 ≤ 343 := by decide
  by_cases h : a.toNat < 4
  · exact key _ h
  · have e : am_sevens.getD a.toNat 0 = 0 := by
      rw [List.getD_eq_getElem?_getD, List.getElem?_eq_none (by rw [svs_len]; omega)]
      rfl
    rw [e]
    exact ⟨by decide, by decide⟩
abbrev mi_X3_spread : Mi := (yX3_spread, cX3_spread, 10, none, 5)
theorem mf_X3_spread : am_mf mi_X3_spread 3 := ⟨w_co_X3_spread, w_in_X3, ⟨by decide +kernel, by decide +kernel⟩, by decide +kernel, by decide⟩
def tb_X3_spread : List (Nat × Tr) := [(0, tIld 1 1), (1, tIld 2 1), (2, tCs 2 fn_X3_without), (5, tIld 3 1), (6, tCs 2 fn_X3_without), (9, tIst 4 2), (11, tIc 1 1), (12, tIc 4 1), (13, tIld 2 1), (14, tI2 (fun a b => a * b)), (15, tIld 3 1), (16, tI2 (fun a b => a + b)), (17, tI2 oShl), (18, tIst 5 2), (20, tAld 0 1), (21, tGf 3 4), (24, tIld 4 2), (26, tIal), (27, tIld 5 2), (29, tI2 oAnd), (30, tIfeq 34), (34, tAld 0 1), (35, tGf 3 4), (38, tIld 4 2), (40, tDup2), (41, tIal), (42, tIld 5 2), (44, tI2 oOr), (45, tIas), (46, tIld 2 1), (47, tIld 3 1), (48, tCmne 55), (51, tIc 0 1), (52, tGo 57), (55, tIc 6 2), (57, tIst 6 2), (59, tIc 0 1), (60, tIst 7 2), (62, tIld 7 2), (64, tIc 6 2), (66, tCmgt 191), (69, tIc 0 1), (70, tIst 8 2), (72, tIld 8 2), (74, tIld 6 2), (76, tCmgt 185), (79, tAld 0 1), (80, tIld 4 2), (82, tIld 7 2), (84, tGs (vR 1001)), (87, tIld 2 1), (88, tIal), (89, tI2 (fun a b => a * b)), (90, tI2 (fun a b => a + b)), (91, tIld 8 2), (93, tGs (vR 1001)), (96, tIld 3 1), (97, tIal), (98, tI2 (fun a b => a * b)), (99, tI2 (fun a b => a + b)), (100, tCv 3 1 fn_X3_lay), (103, tAld 0 1), (104, tGf 3 0), (107, tCv 4 0 fn_X4_settle), (110, tPop), (111, tAld 0 1), (112, tCv 3 0 fn_X3_state), (115, tIst 9 2), (117, tAld 0 1), (118, tGf 3 3), (121, tIld 9 2), (123, tIal), (124, tIfne 179), (127, tAld 0 1), (128, tGf 3 2), (131, tIc 2401 3), (134, tCmge 179), (137, tAld 0 1), (138, tGf 3 3), (141, tIld 9 2), (143, tIc 100 2), (145, tIld 1 1), (146, tI2 (fun a b => a * b)), (147, tIc 10 2), (149, tIld 2 1), (150, tI2 (fun a b => a * b)), (151, tI2 (fun a b => a + b)), (152, tIld 7 2), (154, tI2 (fun a b => a + b)), (155, tIc 1 1), (156, tI2 (fun a b => a + b)), (157, tIas), (158, tAld 0 1), (159, tGf 3 1), (162, tAld 0 1), (163, tGf 3 2), (166, tIld 9 2), (168, tIas), (169, tAld 0 1), (170, tDup), (171, tGf 3 2), (174, tIc 1 1), (175, tI2 (fun a b => a + b)), (176, tPf kI 3 2), (179, tIinc 8 1), (182, tGo 72), (185, tIinc 7 1), (188, tGo 62)]
theorem ok_X3_spread : Tok mi_X3_spread tb_X3_spread :=
  Tc (sd_iload_n dX3_spread_0) <|
  Tc (sd_iload_n dX3_spread_1) <|
  Tc (sd_cs fok_X3_without mf_X3_without w_ml_X3_50 w_st_X3_without (by decide) dX3_spread_2) <|
  Tc (sd_iload_n dX3_spread_5) <|
  Tc (sd_cs fok_X3_without mf_X3_without w_ml_X3_50 w_st_X3_without (by decide) dX3_spread_6) <|
  Tc (sd_istore dX3_spread_9) <|
  Tc (sd_iconst rfl dX3_spread_11) <|
  Tc (sd_iconst rfl dX3_spread_12) <|
  Tc (sd_iload_n dX3_spread_13) <|
  Tc (sd_imul dX3_spread_14) <|
  Tc (sd_iload_n dX3_spread_15) <|
  Tc (sd_iadd dX3_spread_16) <|
  Tc (sd_ishl dX3_spread_17) <|
  Tc (sd_istore dX3_spread_18) <|
  Tc (sd_aload_n dX3_spread_20) <|
  Tc (sd_getf (T := TX3) rfl giX3 (by decide) w_fl_X3_22 dX3_spread_21) <|
  Tc (sd_iload dX3_spread_24) <|
  Tc (sd_ial dX3_spread_26) <|
  Tc (sd_iload dX3_spread_27) <|
  Tc (sd_iand dX3_spread_29) <|
  Tc (sd_if_eq (by decide) dX3_spread_30) <|
  Tc (sd_aload_n dX3_spread_34) <|
  Tc (sd_getf (T := TX3) rfl giX3 (by decide) w_fl_X3_22 dX3_spread_35) <|
  Tc (sd_iload dX3_spread_38) <|
  Tc (sd_dup2 dX3_spread_40) <|
  Tc (sd_ial dX3_spread_41) <|
  Tc (sd_iload dX3_spread_42) <|
  Tc (sd_ior dX3_spread_44) <|
  Tc (sd_ias dX3_spread_45) <|
  Tc (sd_iload_n dX3_spread_46) <|
  Tc (sd_iload_n dX3_spread_47) <|
  Tc (sd_cm_ne (by decide) dX3_spread_48) <|
  Tc (sd_iconst rfl dX3_spread_51) <|
  Tc (sd_goto (by decide) dX3_spread_52) <|
  Tc (sd_bipush (by decide +kernel) dX3_spread_55) <|
  Tc (sd_istore dX3_spread_57) <|
  Tc (sd_iconst rfl dX3_spread_59) <|
  Tc (sd_istore dX3_spread_60) <|
  Tc (sd_iload dX3_spread_62) <|
  Tc (sd_bipush (by decide +kernel) dX3_spread_64) <|
  Tc (sd_cm_gt (by decide) dX3_spread_66) <|
  Tc (sd_iconst rfl dX3_spread_69) <|
  Tc (sd_istore dX3_spread_70) <|
  Tc (sd_iload dX3_spread_72) <|
  Tc (sd_iload dX3_spread_74) <|
  Tc (sd_cm_gt (by decide) dX3_spread_76) <|
  Tc (sd_aload_n dX3_spread_79) <|
  Tc (sd_iload dX3_spread_80) <|
  Tc (sd_iload dX3_spread_82) <|
  Tc (sd_gsSevensN (List.mem_of_getElem? (i := 7) rfl) dX3_spread_84) <|
  Tc (sd_iload_n dX3_spread_87) <|
  Tc (sd_ial dX3_spread_88) <|
  Tc (sd_imul dX3_spread_89) <|
  Tc (sd_iadd dX3_spread_90) <|
  Tc (sd_iload dX3_spread_91) <|
  Tc (sd_gsSevensN (List.mem_of_getElem? (i := 7) rfl) dX3_spread_93) <|
  Tc (sd_iload_n dX3_spread_96) <|
  Tc (sd_ial dX3_spread_97) <|
  Tc (sd_imul dX3_spread_98) <|
  Tc (sd_iadd dX3_spread_99) <|
  Tc (sd_cv (T := TX3) fok_X3_lay mf_X3_lay rfl w_ml_X3_57 w_im_X3_lay w_se_X3_lay (by decide) dX3_spread_100) <|
  Tc (sd_aload_n dX3_spread_103) <|
  Tc (sd_getf (T := TX3) rfl giX3 (by decide) w_fl_X3_28 dX3_spread_104) <|
  Tc (sd_cv (T := TX4) fok_X4_settle mf_X4_settle rfl w_ml_X3_61 w_im_X4_settle w_se_X4_settle (by decide) dX3_spread_107) <|
  Tc (sd_pop dX3_spread_110) <|
  Tc (sd_aload_n dX3_spread_111) <|
  Tc (sd_cv (T := TX3) fok_X3_state mf_X3_state rfl w_ml_X3_38 w_im_X3_state w_se_X3_state (by decide) dX3_spread_112) <|
  Tc (sd_istore dX3_spread_115) <|
  Tc (sd_aload_n dX3_spread_117) <|
  Tc (sd_getf (T := TX3) rfl giX3 (by decide) w_fl_X3_19 dX3_spread_118) <|
  Tc (sd_iload dX3_spread_121) <|
  Tc (sd_ial dX3_spread_123) <|
  Tc (sd_if_ne (by decide) dX3_spread_124) <|
  Tc (sd_aload_n dX3_spread_127) <|
  Tc (sd_getf (T := TX3) rfl giX3 (by decide) w_fl_X3_15 dX3_spread_128) <|
  Tc (sd_sipush (by decide +kernel) dX3_spread_131) <|
  Tc (sd_cm_ge (by decide) dX3_spread_134) <|
  Tc (sd_aload_n dX3_spread_137) <|
  Tc (sd_getf (T := TX3) rfl giX3 (by decide) w_fl_X3_19 dX3_spread_138) <|
  Tc (sd_iload dX3_spread_141) <|
  Tc (sd_bipush (by decide +kernel) dX3_spread_143) <|
  Tc (sd_iload_n dX3_spread_145) <|
  Tc (sd_imul dX3_spread_146) <|
  Tc (sd_bipush (by decide +kernel) dX3_spread_147) <|
  Tc (sd_iload_n dX3_spread_149) <|
  Tc (sd_imul dX3_spread_150) <|
  Tc (sd_iadd dX3_spread_151) <|
  Tc (sd_iload dX3_spread_152) <|
  Tc (sd_iadd dX3_spread_154) <|
  Tc (sd_iconst rfl dX3_spread_155) <|
  Tc (sd_iadd dX3_spread_156) <|
  Tc (sd_ias dX3_spread_157) <|
  Tc (sd_aload_n dX3_spread_158) <|
  Tc (sd_getf (T := TX3) rfl giX3 (by decide) w_fl_X3_9 dX3_spread_159) <|
  Tc (sd_aload_n dX3_spread_162) <|
  Tc (sd_getf (T := TX3) rfl giX3 (by decide) w_fl_X3_15 dX3_spread_163) <|
  Tc (sd_iload dX3_spread_166) <|
  Tc (sd_ias dX3_spread_168) <|
  Tc (sd_aload_n dX3_spread_169) <|
  Tc (sd_dup dX3_spread_170) <|
  Tc (sd_getf (T := TX3) rfl giX3 (by decide) w_fl_X3_15 dX3_spread_171) <|
  Tc (sd_iconst rfl dX3_spread_174) <|
  Tc (sd_iadd dX3_spread_175) <|
  Tc (sd_putf (T := TX3) rfl giX3 (by decide) w_fl_X3_15 tyX3 tyX3_ok nmX3 (kI_ok) rfl dX3_spread_176) <|
  Tc (sd_iinc dX3_spread_179) <|
  Tc (sd_goto (by decide) dX3_spread_182) <|
  Tc (sd_iinc dX3_spread_185) <|
  Tc (sd_goto (by decide) dX3_spread_188) <|
  Tn
theorem rk_X3_spread : Rok mi_X3_spread rV [33, 191] := rk_v dX3_spread_33 <| rk_v dX3_spread_191 <| rk_n
def rx_X3_spread : Nat → Nat → AL → List AV → List AC → Option (Option AV × List AC) := am_r tb_X3_spread rV [33, 191]
theorem rs_X3_spread_0 (n : Nat) (L : AL) (st : List AV) (M : List AC) : rx_X3_spread (n + 1) 0 L st M = am_j (rx_X3_spread n) ((tIld 1 1) 0 L st M) := rfl
theorem rs_X3_spread_1 (n : Nat) (L : AL) (st : List AV) (M : List AC) : rx_X3_spread (n + 1) 1 L st M = am_j (rx_X3_spread n) ((tIld 2 1) 1 L st M) := rfl
theorem rs_X3_spread_2 (n : Nat) (L : AL) (st : List AV) (M : List AC) : rx_X3_spread (n + 1) 2 L st M = am_j (rx_X3_spread n) ((tCs 2 fn_X3_without) 2 L st M) := rfl
theorem rs_X3_spread_5 (n : Nat) (L : AL) (st : List AV) (M : List AC) : rx_X3_spread (n + 1) 5 L st M = am_j (rx_X3_spread n) ((tIld 3 1) 5 L st M) := rfl
theorem rs_X3_spread_6 (n : Nat) (L : AL) (st : List AV) (M : List AC) : rx_X3_spread (n + 1) 6 L st M = am_j (rx_X3_spread n) ((tCs 2 fn_X3_without) 6 L st M) := rfl
theorem rs_X3_spread_9 (n : Nat) (L : AL) (st : List AV) (M : List AC) : rx_X3_spread (n + 1) 9 L st M = am_j (rx_X3_spread n) ((tIst 4 2) 9 L st M) := rfl
theorem rs_X3_spread_11 (n : Nat) (L : AL) (st : List AV) (M : List AC) : rx_X3_spread (n + 1) 11 L st M = am_j (rx_X3_spread n) ((tIc 1 1) 11 L st M) := rfl
theorem rs_X3_spread_12 (n : Nat) (L : AL) (st : List AV) (M : List AC) : rx_X3_spread (n + 1) 12 L st M = am_j (rx_X3_spread n) ((tIc 4 1) 12 L st M) := rfl
theorem rs_X3_spread_13 (n : Nat) (L : AL) (st : List AV) (M : List AC) : rx_X3_spread (n + 1) 13 L st M = am_j (rx_X3_spread n) ((tIld 2 1) 13 L st M) := rfl
theorem rs_X3_spread_14 (n : Nat) (L : AL) (st : List AV) (M : List AC) : rx_X3_spread (n + 1) 14 L st M = am_j (rx_X3_spread n) ((tI2 (fun a b => a * b)) 14 L st M) := rfl
theorem rs_X3_spread_15 (n : Nat) (L : AL) (st : List AV) (M : List AC) : rx_X3_spread (n + 1) 15 L st M = am_j (rx_X3_spread n) ((tIld 3 1) 15 L st M) := rfl
theorem rs_X3_spread_16 (n : Nat) (L : AL) (st : List AV) (M : List AC) : rx_X3_spread (n + 1) 16 L st M = am_j (rx_X3_spread n) ((tI2 (fun a b => a + b)) 16 L st M) := rfl
theorem rs_X3_spread_17 (n : Nat) (L : AL) (st : List AV) (M : List AC) : rx_X3_spread (n + 1) 17 L st M = am_j (rx_X3_spread n) ((tI2 oShl) 17 L st M) := rfl
theorem rs_X3_spread_18 (n : Nat) (L : AL) (st : List AV) (M : List AC) : rx_X3_spread (n + 1) 18 L st M = am_j (rx_X3_spread n) ((tIst 5 2) 18 L st M) := rfl
theorem rs_X3_spread_20 (n : Nat) (L : AL) (st : List AV) (M : List AC) : rx_X3_spread (n + 1) 20 L st M = am_j (rx_X3_spread n) ((tAld 0 1) 20 L st M) := rfl
theorem rs_X3_spread_21 (n : Nat) (L : AL) (st : List AV) (M : List AC) : rx_X3_spread (n + 1) 21 L st M = am_j (rx_X3_spread n) ((tGf 3 4) 21 L st M) := rfl
theorem rs_X3_spread_24 (n : Nat) (L : AL) (st : List AV) (M : List AC) : rx_X3_spread (n + 1) 24 L st M = am_j (rx_X3_spread n) ((tIld 4 2) 24 L st M) := rfl
theorem rs_X3_spread_26 (n : Nat) (L : AL) (st : List AV) (M : List AC) : rx_X3_spread (n + 1) 26 L st M = am_j (rx_X3_spread n) (tIal 26 L st M) := rfl
theorem rs_X3_spread_27 (n : Nat) (L : AL) (st : List AV) (M : List AC) : rx_X3_spread (n + 1) 27 L st M = am_j (rx_X3_spread n) ((tIld 5 2) 27 L st M) := rfl
theorem rs_X3_spread_29 (n : Nat) (L : AL) (st : List AV) (M : List AC) : rx_X3_spread (n + 1) 29 L st M = am_j (rx_X3_spread n) ((tI2 oAnd) 29 L st M) := rfl
theorem rs_X3_spread_30 (n : Nat) (L : AL) (st : List AV) (M : List AC) : rx_X3_spread (n + 1) 30 L st M = am_j (rx_X3_spread n) ((tIfeq 34) 30 L st M) := rfl
theorem rs_X3_spread_34 (n : Nat) (L : AL) (st : List AV) (M : List AC) : rx_X3_spread (n + 1) 34 L st M = am_j (rx_X3_spread n) ((tAld 0 1) 34 L st M) := rfl
theorem rs_X3_spread_35 (n : Nat) (L : AL) (st : List AV) (M : List AC) : rx_X3_spread (n + 1) 35 L st M = am_j (rx_X3_spread n) ((tGf 3 4) 35 L st M) := rfl
theorem rs_X3_spread_38 (n : Nat) (L : AL) (st : List AV) (M : List AC) : rx_X3_spread (n + 1) 38 L st M = am_j (rx_X3_spread n) ((tIld 4 2) 38 L st M) := rfl
theorem rs_X3_spread_40 (n : Nat) (L : AL) (st : List AV) (M : List AC) : rx_X3_spread (n + 1) 40 L st M = am_j (rx_X3_spread n) (tDup2 40 L st M) := rfl
theorem rs_X3_spread_41 (n : Nat) (L : AL) (st : List AV) (M : List AC) : rx_X3_spread (n + 1) 41 L st M = am_j (rx_X3_spread n) (tIal 41 L st M) := rfl
theorem rs_X3_spread_42 (n : Nat) (L : AL) (st : List AV) (M : List AC) : rx_X3_spread (n + 1) 42 L st M = am_j (rx_X3_spread n) ((tIld 5 2) 42 L st M) := rfl
theorem rs_X3_spread_44 (n : Nat) (L : AL) (st : List AV) (M : List AC) : rx_X3_spread (n + 1) 44 L st M = am_j (rx_X3_spread n) ((tI2 oOr) 44 L st M) := rfl
theorem rs_X3_spread_45 (n : Nat) (L : AL) (st : List AV) (M : List AC) : rx_X3_spread (n + 1) 45 L st M = am_j (rx_X3_spread n) (tIas 45 L st M) := rfl
theorem rs_X3_spread_46 (n : Nat) (L : AL) (st : List AV) (M : List AC) : rx_X3_spread (n + 1) 46 L st M = am_j (rx_X3_spread n) ((tIld 2 1) 46 L st M) := rfl
theorem rs_X3_spread_47 (n : Nat) (L : AL) (st : List AV) (M : List AC) : rx_X3_spread (n + 1) 47 L st M = am_j (rx_X3_spread n) ((tIld 3 1) 47 L st M) := rfl
theorem rs_X3_spread_48 (n : Nat) (L : AL) (st : List AV) (M : List AC) : rx_X3_spread (n + 1) 48 L st M = am_j (rx_X3_spread n) ((tCmne 55) 48 L st M) := rfl
theorem rs_X3_spread_51 (n : Nat) (L : AL) (st : List AV) (M : List AC) : rx_X3_spread (n + 1) 51 L st M = am_j (rx_X3_spread n) ((tIc 0 1) 51 L st M) := rfl
theorem rs_X3_spread_52 (n : Nat) (L : AL) (st : List AV) (M : List AC) : rx_X3_spread (n + 1) 52 L st M = am_j (rx_X3_spread n) ((tGo 57) 52 L st M) := rfl
theorem rs_X3_spread_55 (n : Nat) (L : AL) (st : List AV) (M : List AC) : rx_X3_spread (n + 1) 55 L st M = am_j (rx_X3_spread n) ((tIc 6 2) 55 L st M) := rfl
theorem rs_X3_spread_57 (n : Nat) (L : AL) (st : List AV) (M : List AC) : rx_X3_spread (n + 1) 57 L st M = am_j (rx_X3_spread n) ((tIst 6 2) 57 L st M) := rfl
theorem rs_X3_spread_59 (n : Nat) (L : AL) (st : List AV) (M : List AC) : rx_X3_spread (n + 1) 59 L st M = am_j (rx_X3_spread n) ((tIc 0 1) 59 L st M) := rfl
theorem rs_X3_spread_60 (n : Nat) (L : AL) (st : List AV) (M : List AC) : rx_X3_spread (n + 1) 60 L st M = am_j (rx_X3_spread n) ((tIst 7 2) 60 L st M) := rfl
theorem rs_X3_spread_62 (n : Nat) (L : AL) (st : List AV) (M : List AC) : rx_X3_spread (n + 1) 62 L st M = am_j (rx_X3_spread n) ((tIld 7 2) 62 L st M) := rfl
theorem rs_X3_spread_64 (n : Nat) (L : AL) (st : List AV) (M : List AC) : rx_X3_spread (n + 1) 64 L st M = am_j (rx_X3_spread n) ((tIc 6 2) 64 L st M) := rfl
theorem rs_X3_spread_66 (n : Nat) (L : AL) (st : List AV) (M : List AC) : rx_X3_spread (n + 1) 66 L st M = am_j (rx_X3_spread n) ((tCmgt 191) 66 L st M) := rfl
theorem rs_X3_spread_69 (n : Nat) (L : AL) (st : List AV) (M : List AC) : rx_X3_spread (n + 1) 69 L st M = am_j (rx_X3_spread n) ((tIc 0 1) 69 L st M) := rfl
theorem rs_X3_spread_70 (n : Nat) (L : AL) (st : List AV) (M : List AC) : rx_X3_spread (n + 1) 70 L st M = am_j (rx_X3_spread n) ((tIst 8 2) 70 L st M) := rfl
theorem rs_X3_spread_72 (n : Nat) (L : AL) (st : List AV) (M : List AC) : rx_X3_spread (n + 1) 72 L st M = am_j (rx_X3_spread n) ((tIld 8 2) 72 L st M) := rfl
theorem rs_X3_spread_74 (n : Nat) (L : AL) (st : List AV) (M : List AC) : rx_X3_spread (n + 1) 74 L st M = am_j (rx_X3_spread n) ((tIld 6 2) 74 L st M) := rfl
theorem rs_X3_spread_76 (n : Nat) (L : AL) (st : List AV) (M : List AC) : rx_X3_spread (n + 1) 76 L st M = am_j (rx_X3_spread n) ((tCmgt 185) 76 L st M) := rfl
theorem rs_X3_spread_79 (n : Nat) (L : AL) (st : List AV) (M : List AC) : rx_X3_spread (n + 1) 79 L st M = am_j (rx_X3_spread n) ((tAld 0 1) 79 L st M) := rfl
theorem rs_X3_spread_80 (n : Nat) (L : AL) (st : List AV) (M : List AC) : rx_X3_spread (n + 1) 80 L st M = am_j (rx_X3_spread n) ((tIld 4 2) 80 L st M) := rfl
theorem rs_X3_spread_82 (n : Nat) (L : AL) (st : List AV) (M : List AC) : rx_X3_spread (n + 1) 82 L st M = am_j (rx_X3_spread n) ((tIld 7 2) 82 L st M) := rfl
theorem rs_X3_spread_84 (n : Nat) (L : AL) (st : List AV) (M : List AC) : rx_X3_spread (n + 1) 84 L st M = am_j (rx_X3_spread n) ((tGs (vR 1001)) 84 L st M) := rfl
theorem rs_X3_spread_87 (n : Nat) (L : AL) (st : List AV) (M : List AC) : rx_X3_spread (n + 1) 87 L st M = am_j (rx_X3_spread n) ((tIld 2 1) 87 L st M) := rfl
theorem rs_X3_spread_88 (n : Nat) (L : AL) (st : List AV) (M : List AC) : rx_X3_spread (n + 1) 88 L st M = am_j (rx_X3_spread n) (tIal 88 L st M) := rfl
theorem rs_X3_spread_89 (n : Nat) (L : AL) (st : List AV) (M : List AC) : rx_X3_spread (n + 1) 89 L st M = am_j (rx_X3_spread n) ((tI2 (fun a b => a * b)) 89 L st M) := rfl
theorem rs_X3_spread_90 (n : Nat) (L : AL) (st : List AV) (M : List AC) : rx_X3_spread (n + 1) 90 L st M = am_j (rx_X3_spread n) ((tI2 (fun a b => a + b)) 90 L st M) := rfl
theorem rs_X3_spread_91 (n : Nat) (L : AL) (st : List AV) (M : List AC) : rx_X3_spread (n + 1) 91 L st M = am_j (rx_X3_spread n) ((tIld 8 2) 91 L st M) := rfl
theorem rs_X3_spread_93 (n : Nat) (L : AL) (st : List AV) (M : List AC) : rx_X3_spread (n + 1) 93 L st M = am_j (rx_X3_spread n) ((tGs (vR 1001)) 93 L st M) := rfl
theorem rs_X3_spread_96 (n : Nat) (L : AL) (st : List AV) (M : List AC) : rx_X3_spread (n + 1) 96 L st M = am_j (rx_X3_spread n) ((tIld 3 1) 96 L st M) := rfl
theorem rs_X3_spread_97 (n : Nat) (L : AL) (st : List AV) (M : List AC) : rx_X3_spread (n + 1) 97 L st M = am_j (rx_X3_spread n) (tIal 97 L st M) := rfl
theorem rs_X3_spread_98 (n : Nat) (L : AL) (st : List AV) (M : List AC) : rx_X3_spread (n + 1) 98 L st M = am_j (rx_X3_spread n) ((tI2 (fun a b => a * b)) 98 L st M) := rfl
theorem rs_X3_spread_99 (n : Nat) (L : AL) (st : List AV) (M : List AC) : rx_X3_spread (n + 1) 99 L st M = am_j (rx_X3_spread n) ((tI2 (fun a b => a + b)) 99 L st M) := rfl
theorem rs_X3_spread_100 (n : Nat) (L : AL) (st : List AV) (M : List AC) : rx_X3_spread (n + 1) 100 L st M = am_j (rx_X3_spread n) ((tCv 3 1 fn_X3_lay) 100 L st M) := rfl
theorem rs_X3_spread_103 (n : Nat) (L : AL) (st : List AV) (M : List AC) : rx_X3_spread (n + 1) 103 L st M = am_j (rx_X3_spread n) ((tAld 0 1) 103 L st M) := rfl
theorem rs_X3_spread_104 (n : Nat) (L : AL) (st : List AV) (M : List AC) : rx_X3_spread (n + 1) 104 L st M = am_j (rx_X3_spread n) ((tGf 3 0) 104 L st M) := rfl
theorem rs_X3_spread_107 (n : Nat) (L : AL) (st : List AV) (M : List AC) : rx_X3_spread (n + 1) 107 L st M = am_j (rx_X3_spread n) ((tCv 4 0 fn_X4_settle) 107 L st M) := rfl
theorem rs_X3_spread_110 (n : Nat) (L : AL) (st : List AV) (M : List AC) : rx_X3_spread (n + 1) 110 L st M = am_j (rx_X3_spread n) (tPop 110 L st M) := rfl
theorem rs_X3_spread_111 (n : Nat) (L : AL) (st : List AV) (M : List AC) : rx_X3_spread (n + 1) 111 L st M = am_j (rx_X3_spread n) ((tAld 0 1) 111 L st M) := rfl
theorem rs_X3_spread_112 (n : Nat) (L : AL) (st : List AV) (M : List AC) : rx_X3_spread (n + 1) 112 L st M = am_j (rx_X3_spread n) ((tCv 3 0 fn_X3_state) 112 L st M) := rfl
theorem rs_X3_spread_115 (n : Nat) (L : AL) (st : List AV) (M : List AC) : rx_X3_spread (n + 1) 115 L st M = am_j (rx_X3_spread n) ((tIst 9 2) 115 L st M) := rfl
theorem rs_X3_spread_117 (n : Nat) (L : AL) (st : List AV) (M : List AC) : rx_X3_spread (n + 1) 117 L st M = am_j (rx_X3_spread n) ((tAld 0 1) 117 L st M) := rfl
theorem rs_X3_spread_118 (n : Nat) (L : AL) (st : List AV) (M : List AC) : rx_X3_spread (n + 1) 118 L st M = am_j (rx_X3_spread n) ((tGf 3 3) 118 L st M) := rfl
theorem rs_X3_spread_121 (n : Nat) (L : AL) (st : List AV) (M : List AC) : rx_X3_spread (n + 1) 121 L st M = am_j (rx_X3_spread n) ((tIld 9 2) 121 L st M) := rfl
theorem rs_X3_spread_123 (n : Nat) (L : AL) (st : List AV) (M : List AC) : rx_X3_spread (n + 1) 123 L st M = am_j (rx_X3_spread n) (tIal 123 L st M) := rfl
theorem rs_X3_spread_124 (n : Nat) (L : AL) (st : List AV) (M : List AC) : rx_X3_spread (n + 1) 124 L st M = am_j (rx_X3_spread n) ((tIfne 179) 124 L st M) := rfl
theorem rs_X3_spread_127 (n : Nat) (L : AL) (st : List AV) (M : List AC) : rx_X3_spread (n + 1) 127 L st M = am_j (rx_X3_spread n) ((tAld 0 1) 127 L st M) := rfl
theorem rs_X3_spread_128 (n : Nat) (L : AL) (st : List AV) (M : List AC) : rx_X3_spread (n + 1) 128 L st M = am_j (rx_X3_spread n) ((tGf 3 2) 128 L st M) := rfl
theorem rs_X3_spread_131 (n : Nat) (L : AL) (st : List AV) (M : List AC) : rx_X3_spread (n + 1) 131 L st M = am_j (rx_X3_spread n) ((tIc 2401 3) 131 L st M) := rfl
theorem rs_X3_spread_134 (n : Nat) (L : AL) (st : List AV) (M : List AC) : rx_X3_spread (n + 1) 134 L st M = am_j (rx_X3_spread n) ((tCmge 179) 134 L st M) := rfl
theorem rs_X3_spread_137 (n : Nat) (L : AL) (st : List AV) (M : List AC) : rx_X3_spread (n + 1) 137 L st M = am_j (rx_X3_spread n) ((tAld 0 1) 137 L st M) := rfl
theorem rs_X3_spread_138 (n : Nat) (L : AL) (st : List AV) (M : List AC) : rx_X3_spread (n + 1) 138 L st M = am_j (rx_X3_spread n) ((tGf 3 3) 138 L st M) := rfl
theorem rs_X3_spread_141 (n : Nat) (L : AL) (st : List AV) (M : List AC) : rx_X3_spread (n + 1) 141 L st M = am_j (rx_X3_spread n) ((tIld 9 2) 141 L st M) := rfl
theorem rs_X3_spread_143 (n : Nat) (L : AL) (st : List AV) (M : List AC) : rx_X3_spread (n + 1) 143 L st M = am_j (rx_X3_spread n) ((tIc 100 2) 143 L st M) := rfl
theorem rs_X3_spread_145 (n : Nat) (L : AL) (st : List AV) (M : List AC) : rx_X3_spread (n + 1) 145 L st M = am_j (rx_X3_spread n) ((tIld 1 1) 145 L st M) := rfl
theorem rs_X3_spread_146 (n : Nat) (L : AL) (st : List AV) (M : List AC) : rx_X3_spread (n + 1) 146 L st M = am_j (rx_X3_spread n) ((tI2 (fun a b => a * b)) 146 L st M) := rfl
theorem rs_X3_spread_147 (n : Nat) (L : AL) (st : List AV) (M : List AC) : rx_X3_spread (n + 1) 147 L st M = am_j (rx_X3_spread n) ((tIc 10 2) 147 L st M) := rfl
theorem rs_X3_spread_149 (n : Nat) (L : AL) (st : List AV) (M : List AC) : rx_X3_spread (n + 1) 149 L st M = am_j (rx_X3_spread n) ((tIld 2 1) 149 L st M) := rfl
theorem rs_X3_spread_150 (n : Nat) (L : AL) (st : List AV) (M : List AC) : rx_X3_spread (n + 1) 150 L st M = am_j (rx_X3_spread n) ((tI2 (fun a b => a * b)) 150 L st M) := rfl
theorem rs_X3_spread_151 (n : Nat) (L : AL) (st : List AV) (M : List AC) : rx_X3_spread (n + 1) 151 L st M = am_j (rx_X3_spread n) ((tI2 (fun a b => a + b)) 151 L st M) := rfl
theorem rs_X3_spread_152 (n : Nat) (L : AL) (st : List AV) (M : List AC) : rx_X3_spread (n + 1) 152 L st M = am_j (rx_X3_spread n) ((tIld 7 2) 152 L st M) := rfl
theorem rs_X3_spread_154 (n : Nat) (L : AL) (st : List AV) (M : List AC) : rx_X3_spread (n + 1) 154 L st M = am_j (rx_X3_spread n) ((tI2 (fun a b => a + b)) 154 L st M) := rfl
theorem rs_X3_spread_155 (n : Nat) (L : AL) (st : List AV) (M : List AC) : rx_X3_spread (n + 1) 155 L st M = am_j (rx_X3_spread n) ((tIc 1 1) 155 L st M) := rfl
theorem rs_X3_spread_156 (n : Nat) (L : AL) (st : List AV) (M : List AC) : rx_X3_spread (n + 1) 156 L st M = am_j (rx_X3_spread n) ((tI2 (fun a b => a + b)) 156 L st M) := rfl
theorem rs_X3_spread_157 (n : Nat) (L : AL) (st : List AV) (M : List AC) : rx_X3_spread (n + 1) 157 L st M = am_j (rx_X3_spread n) (tIas 157 L st M) := rfl
theorem rs_X3_spread_158 (n : Nat) (L : AL) (st : List AV) (M : List AC) : rx_X3_spread (n + 1) 158 L st M = am_j (rx_X3_spread n) ((tAld 0 1) 158 L st M) := rfl
theorem rs_X3_spread_159 (n : Nat) (L : AL) (st : List AV) (M : List AC) : rx_X3_spread (n + 1) 159 L st M = am_j (rx_X3_spread n) ((tGf 3 1) 159 L st M) := rfl
theorem rs_X3_spread_162 (n : Nat) (L : AL) (st : List AV) (M : List AC) : rx_X3_spread (n + 1) 162 L st M = am_j (rx_X3_spread n) ((tAld 0 1) 162 L st M) := rfl
theorem rs_X3_spread_163 (n : Nat) (L : AL) (st : List AV) (M : List AC) : rx_X3_spread (n + 1) 163 L st M = am_j (rx_X3_spread n) ((tGf 3 2) 163 L st M) := rfl
theorem rs_X3_spread_166 (n : Nat) (L : AL) (st : List AV) (M : List AC) : rx_X3_spread (n + 1) 166 L st M = am_j (rx_X3_spread n) ((tIld 9 2) 166 L st M) := rfl
theorem rs_X3_spread_168 (n : Nat) (L : AL) (st : List AV) (M : List AC) : rx_X3_spread (n + 1) 168 L st M = am_j (rx_X3_spread n) (tIas 168 L st M) := rfl
theorem rs_X3_spread_169 (n : Nat) (L : AL) (st : List AV) (M : List AC) : rx_X3_spread (n + 1) 169 L st M = am_j (rx_X3_spread n) ((tAld 0 1) 169 L st M) := rfl
theorem rs_X3_spread_170 (n : Nat) (L : AL) (st : List AV) (M : List AC) : rx_X3_spread (n + 1) 170 L st M = am_j (rx_X3_spread n) (tDup 170 L st M) := rfl
theorem rs_X3_spread_171 (n : Nat) (L : AL) (st : List AV) (M : List AC) : rx_X3_spread (n + 1) 171 L st M = am_j (rx_X3_spread n) ((tGf 3 2) 171 L st M) := rfl
theorem rs_X3_spread_174 (n : Nat) (L : AL) (st : List AV) (M : List AC) : rx_X3_spread (n + 1) 174 L st M = am_j (rx_X3_spread n) ((tIc 1 1) 174 L st M) := rfl
theorem rs_X3_spread_175 (n : Nat) (L : AL) (st : List AV) (M : List AC) : rx_X3_spread (n + 1) 175 L st M = am_j (rx_X3_spread n) ((tI2 (fun a b => a + b)) 175 L st M) := rfl
theorem rs_X3_spread_176 (n : Nat) (L : AL) (st : List AV) (M : List AC) : rx_X3_spread (n + 1) 176 L st M = am_j (rx_X3_spread n) ((tPf kI 3 2) 176 L st M) := rfl
theorem rs_X3_spread_179 (n : Nat) (L : AL) (st : List AV) (M : List AC) : rx_X3_spread (n + 1) 179 L st M = am_j (rx_X3_spread n) ((tIinc 8 1) 179 L st M) := rfl
theorem rs_X3_spread_182 (n : Nat) (L : AL) (st : List AV) (M : List AC) : rx_X3_spread (n + 1) 182 L st M = am_j (rx_X3_spread n) ((tGo 72) 182 L st M) := rfl
theorem rs_X3_spread_185 (n : Nat) (L : AL) (st : List AV) (M : List AC) : rx_X3_spread (n + 1) 185 L st M = am_j (rx_X3_spread n) ((tIinc 7 1) 185 L st M) := rfl
theorem rs_X3_spread_188 (n : Nat) (L : AL) (st : List AV) (M : List AC) : rx_X3_spread (n + 1) 188 L st M = am_j (rx_X3_spread n) ((tGo 62) 188 L st M) := rfl
theorem rs_X3_spread_33 (n : Nat) (L : AL) (st : List AV) (M : List AC) : rx_X3_spread (n + 1) 33 L st M = am_e rV st M := rfl
theorem rs_X3_spread_191 (n : Nat) (L : AL) (st : List AV) (M : List AC) : rx_X3_spread (n + 1) 191 L st M = am_e rV st M := rfl
theorem ri_X3_spread (c : Prop) [Decidable c] (p q n : Nat) (L : AL) (st : List AV) (M : List AC) : rx_X3_spread n (if c then p else q) L st M = if c then rx_X3_spread n p L st M else rx_X3_spread n q L st M := by split <;> rfl
theorem rm_X3_spread {n k pc : Nat} {L : AL} {st : List AV} {M : List AC} {x : Option AV × List AC} (h : rx_X3_spread n pc L st M = some x) (hk : n ≤ k) : rx_X3_spread k pc L st M = some x := am_r_mono n k h hk
def fn_X3_spread : Fn := am_fn rx_X3_spread 10
theorem fok_X3_spread : Fok mi_X3_spread fn_X3_spread := fun _ _ _ _ h => am_fok ok_X3_spread rk_X3_spread rfl h
theorem l1_X3_spread {M : List AC} {st : Int} {g s bb : F4} (hM : H3 M st g s bb) (hst : 1 ≤ st ∧ st ≤ 3) (hg : i4 1 9 g) (hs9 : i4 0 9 s) (hb : i4 0 3 bb) {gl x a b r bit : Int} (hx : 0 ≤ x ∧ x < 2401) (ha : 0 ≤ a ∧ a < 4) (hb4 : 0 ≤ b ∧ b < 4) (hr : 0 ≤ r ∧ r < 2401) (hR : RO r a b) {p : Int} (hp : 0 ≤ p ∧ p ≤ 6) {db : Int} (hdb : db = if a = b then 0 else 6) : ∀ (n : Nat) (q : Int) (d : F4) (S : S3) (x9 : Option AV), q + n = db + 1 → 0 ≤ q → I3 S →
    ∃ (d' : F4) (x9' : Option AV), ∀ (y : Option AV × List AC) (N : Nat), Ru rx_X3_spread N 185 [some (vR 43), some (vI x), some (vI a), some (vI b), some (vI r), some (vI bit), some (vI db), some (vI p), some (vI (db + 1)), x9'] [] (U3 M gl d' (sq3 st g s bb x r a b p n q S)) y → Ru rx_X3_spread (N + 80 * n + 10) 72 [some (vR 43), some (vI x), some (vI a), some (vI b), some (vI r), some (vI bit), some (vI db), some (vI p), some (vI q), x9] [] (U3 M gl d S) y
  | 0, q, d, S, x9, hq, hq0, hI => by
    have e : q = db + 1 := by omega
    subst e
    have hd6 : 0 ≤ db ∧ db ≤ 6 := by rw [hdb]; split <;> omega
    have wd : wr db = db := wr_id (by omega) (by omega)
    have wd1 : wr (db + 1) = db + 1 := wr_id (by omega) (by omega)
    have gd : db < db + 1 := by omega
    refine ⟨d, x9, fun y N kk => ?_⟩
    rw [sq3] at kk
    obtain ⟨m, hm, h⟩ := kk
    refine ⟨m + 9 + 1, by omega, ?_⟩
    rw [rs_X3_spread_72]
    simp [↓ri_X3_spread, rs_X3_spread_0, rs_X3_spread_1, rs_X3_spread_2, rs_X3_spread_5, rs_X3_spread_6, rs_X3_spread_9, rs_X3_spread_11, rs_X3_spread_12, rs_X3_spread_13, rs_X3_spread_14, rs_X3_spread_15, rs_X3_spread_16, rs_X3_spread_17, rs_X3_spread_18, rs_X3_spread_20, rs_X3_spread_21, rs_X3_spread_24, rs_X3_spread_26, rs_X3_spread_27, rs_X3_spread_29, rs_X3_spread_30, rs_X3_spread_34, rs_X3_spread_35, rs_X3_spread_38, rs_X3_spread_40, rs_X3_spread_41, rs_X3_spread_42, rs_X3_spread_44, rs_X3_spread_45, rs_X3_spread_46, rs_X3_spread_47, rs_X3_spread_48, rs_X3_spread_51, rs_X3_spread_52, rs_X3_spread_55, rs_X3_spread_57, rs_X3_spread_59, rs_X3_spread_60, rs_X3_spread_62, rs_X3_spread_64, rs_X3_spread_66, rs_X3_spread_69, rs_X3_spread_70, rs_X3_spread_74, rs_X3_spread_76, rs_X3_spread_79, rs_X3_spread_80, rs_X3_spread_82, rs_X3_spread_84, rs_X3_spread_87, rs_X3_spread_88, rs_X3_spread_89, rs_X3_spread_90, rs_X3_spread_91, rs_X3_spread_93, rs_X3_spread_96, rs_X3_spread_97, rs_X3_spread_98, rs_X3_spread_99, rs_X3_spread_100, rs_X3_spread_103, rs_X3_spread_104, rs_X3_spread_107, rs_X3_spread_110, rs_X3_spread_111, rs_X3_spread_112, rs_X3_spread_115, rs_X3_spread_117, rs_X3_spread_118, rs_X3_spread_121, rs_X3_spread_123, rs_X3_spread_124, rs_X3_spread_127, rs_X3_spread_128, rs_X3_spread_131, rs_X3_spread_134, rs_X3_spread_137, rs_X3_spread_138, rs_X3_spread_141, rs_X3_spread_143, rs_X3_spread_145, rs_X3_spread_146, rs_X3_spread_147, rs_X3_spread_149, rs_X3_spread_150, rs_X3_spread_151, rs_X3_spread_152, rs_X3_spread_154, rs_X3_spread_155, rs_X3_spread_156, rs_X3_spread_157, rs_X3_spread_158, rs_X3_spread_159, rs_X3_spread_162, rs_X3_spread_163, rs_X3_spread_166, rs_X3_spread_168, rs_X3_spread_169, rs_X3_spread_170, rs_X3_spread_171, rs_X3_spread_174, rs_X3_spread_175, rs_X3_spread_176, rs_X3_spread_179, rs_X3_spread_182, rs_X3_spread_188, rs_X3_spread_33, rs_X3_spread_191, -List.getElem?_eq_getElem, am_js, am_e, am_in, am_sl, rI, rZ, rV, rJ, rA, rC, kI, kJ, kR, am_one, am_nl, am_w8, tIc, tLc, tNul, tIld, tLld, tAld, tIst, tLst, tAst, tIinc, tI2, tDv, tL2, tLrem, tLs, tLcmp, tI2l, tL2i, tI2c, tDup, tDup2, tPop, tGo, tIfeq, tIfne, tIflt, tIfge, tIfgt, tIfle, tCmeq, tCmne, tCmlt, tCmge, tCmgt, tCmle, tNu, tTs, tGf, tPf, tGs, tIal, tIas, tBal, tBas, tAln, tSv, tSc, tSb, tSl, tSk, tCv, tCs, tCt, tMx, tMn, wr_10000, wr_100000, wr_1000000, wr_10000000, wr_100000000, wr_2400, wr_9999, wr_0, wr_1, wr_2, wr_3, wr_4, wr_5, wr_6, wr_7, wr_8, wr_9, wr_10, wr_11, wr_12, wr_13, wr_14, wr_15, wr_16, wr_17, wr_18, wr_19, wr_20, wr_21, wr_22, wr_23, wr_24, wr_25, wr_26, wr_27, wr_28, wr_29, wr_30, wr_31, wr_32, wr_33, wr_34, wr_35, wr_36, wr_37, wr_38, wr_39, wr_40, wr_41, wr_42, wr_43, wr_44, wr_45, wr_46, wr_47, wr_48, wr_49, wr_50, wr_51, wr_52, wr_53, wr_54, wr_55, wr_56, wr_57, wr_58, wr_59, wr_60, wr_61, wr_62, wr_63, wr_99, wr_100, wr_192, wr_255, wr_256, wr_343, wr_999, wr_1000, wr_2401, wr_2147483647, wr_65535, wr_m1, wr_m2, wr_m3, wr_m4, wr_m9, ak_1000, ak_1001, ak_1002, ak_0, ak_1, ak_2, ak_3, ak_4, ak_5, ak_6, ak_7, ak_8, ak_9, ak_10, ak_11, ak_12, ak_13, ak_14, ak_15, ak_16, ak_17, ak_18, ak_19, ak_20, ak_21, ak_22, ak_23, ak_24, ak_25, ak_26, ak_27, ak_28, ak_29, ak_30, ak_31, ak_32, ak_33, ak_34, ak_35, ak_36, ak_37, ak_38, ak_39, ak_40, ak_41, ak_42, ak_43, ak_44, ak_45, ak_46, ak_47, wd, wd1, gd]
    exact rm_X3_spread h (by omega)
  | n + 1, q, d, S, x9, hq, hq0, hI => by
    have hd6 : 0 ≤ db ∧ db ≤ 6 := by rw [hdb]; split <;> omega
    have wd : wr db = db := wr_id (by omega) (by omega)
    have wq : wr q = q := wr_id (by omega) (by omega)
    have nq : ¬ db < q := by omega
    have wa' : wr a = a := wr_id (by omega) (by omega)
    have wb' : wr b = b := wr_id (by omega) (by omega)
    have hpos := hR p q hp.1 hp.2 hq0 (by rw [← hdb]; omega)
    obtain ⟨hV, v43, v44, v45, v46⟩ := U3_at hM gl d S
    have q1 := sp_X3_lay hV v43 (r + p * sv a + q * sv b) hpos
    rw [U3_10] at q1
    have htg := tgs_rng st g s bb hpos
    have hI2 := hI.ad (v := 100 * x + 10 * a + p + 1) htg (by omega)
    obtain ⟨d', x9', ih⟩ := l1_X3_spread hM hst hg hs9 hb (gl := gl) (bit := bit) hx ha hb4 hr hR hp hdb n (q + 1) (sl st g s bb 4 (su (r + p * sv a + q * sv b)) 0).1 (ad3 S (tgs st g s bb r a b p q) (100 * x + 10 * a + p + 1)) (some (vI (tgs st g s bb r a b p q))) (by omega) (by omega) hI2
    refine ⟨d', x9', fun y N kk => ?_⟩
    rw [sq3] at kk
    obtain ⟨m, hm, h⟩ := ih y N kk
    clear kk ih hI2
    unfold tgs at h htg
    have hsu := su_rng hpos
    generalize hX : r + p * sv a + q * sv b = X at q1 h htg hpos hsu
    obtain ⟨hW, w43, w44, w45, w46⟩ := U3_at hM gl (su X) S
    have q2 := sp_X4_settle hW ⟨hst, hg, hs9, hsu, hb⟩
    simp only [Nat.reduceAdd] at q2
    rw [U3_10] at q2
    generalize sl st g s bb 4 (su X) 0 = R at q2 h htg
    obtain ⟨hY, y43, y44, y45, y46⟩ := U3_at hM gl R.1 S
    have q3 := sp_X3_state hY y43
    generalize so R.1 = t at q3 h htg
    have wt : wr t = t := by clear hX; exact wr_id (by omega) (by omega)
    obtain ⟨⟨l1, l2, l3⟩, i2, i3, i4'⟩ := hI
    have wz' : wr S.2.1 = S.2.1 := by clear hX; exact wr_id (by omega) (by omega)
    have wT : wr (S.2.2.1.getD t.toNat 0) = S.2.2.1.getD t.toNat 0 := by
      have := i2 t.toNat
      generalize S.2.2.1.getD t.toNat 0 = z at this ⊢
      clear hX
      exact wr_id (by omega) (by omega)
    refine ⟨m + 79 + 1, by clear hX; omega, ?_⟩
    rw [rs_X3_spread_72]
    have ea : am_sevens.getD a.toNat 0 = sv a := rfl
    have eb : am_sevens.getD b.toNat 0 = sv b := rfl
    have w7 := hW.seven.1
    unfold ad3 at h
    by_cases hz : S.2.2.1.getD t.toNat 0 = 0 ∧ S.2.1 < 2401
    · rw [if_pos hz] at h
      obtain ⟨hz1, hz2⟩ := hz
      have nz2 : ¬ 2401 ≤ S.2.1 := by clear hX hz1; omega
      have z0 : 0 ≤ S.2.1 := by clear hX hz1; omega
      have fin : U3 M gl R.1 (S.1.set S.2.1.toNat t, S.2.1 + 1, S.2.2.1.set t.toNat (100 * x + 10 * a + p + 1), S.2.2.2) = (((U3 M gl R.1 S).set 43 (se (S.2.1 + 1) gl)).set 44 (aI (S.1.set S.2.1.toNat t))).set 45 (aI (S.2.2.1.set t.toNat (100 * x + 10 * a + p + 1))) := by
        unfold U3
        dsimp only
        simp only [ss (i := 10) (j := 43) (by decide), ss (i := 10) (j := 44) (by decide), ss (i := 10) (j := 45) (by decide), ss (i := 10) (j := 46) (by decide), ss (i := 43) (j := 44) (by decide), ss (i := 43) (j := 45) (by decide), ss (i := 43) (j := 46) (by decide), ss (i := 44) (j := 45) (by decide), ss (i := 44) (j := 46) (by decide), ss (i := 45) (j := 46) (by decide), List.set_set]
      rw [fin] at h
      clear fin
      generalize U3 M gl R.1 S = V2 at q2 q3 h y43 y44 y45
      generalize U3 M gl (su X) S = V1 at q1 q2 w43 w7
      generalize U3 M gl d S = V at q1 v43 ⊢
      simp only [se] at h v43 w43 y43
      rw [hz1] at wT
      clear hR hdb i2 i4'
      simp [↓ri_X3_spread, rs_X3_spread_0, rs_X3_spread_1, rs_X3_spread_2, rs_X3_spread_5, rs_X3_spread_6, rs_X3_spread_9, rs_X3_spread_11, rs_X3_spread_12, rs_X3_spread_13, rs_X3_spread_14, rs_X3_spread_15, rs_X3_spread_16, rs_X3_spread_17, rs_X3_spread_18, rs_X3_spread_20, rs_X3_spread_21, rs_X3_spread_24, rs_X3_spread_26, rs_X3_spread_27, rs_X3_spread_29, rs_X3_spread_30, rs_X3_spread_34, rs_X3_spread_35, rs_X3_spread_38, rs_X3_spread_40, rs_X3_spread_41, rs_X3_spread_42, rs_X3_spread_44, rs_X3_spread_45, rs_X3_spread_46, rs_X3_spread_47, rs_X3_spread_48, rs_X3_spread_51, rs_X3_spread_52, rs_X3_spread_55, rs_X3_spread_57, rs_X3_spread_59, rs_X3_spread_60, rs_X3_spread_62, rs_X3_spread_64, rs_X3_spread_66, rs_X3_spread_69, rs_X3_spread_70, rs_X3_spread_74, rs_X3_spread_76, rs_X3_spread_79, rs_X3_spread_80, rs_X3_spread_82, rs_X3_spread_84, rs_X3_spread_87, rs_X3_spread_88, rs_X3_spread_89, rs_X3_spread_90, rs_X3_spread_91, rs_X3_spread_93, rs_X3_spread_96, rs_X3_spread_97, rs_X3_spread_98, rs_X3_spread_99, rs_X3_spread_100, rs_X3_spread_103, rs_X3_spread_104, rs_X3_spread_107, rs_X3_spread_110, rs_X3_spread_111, rs_X3_spread_112, rs_X3_spread_115, rs_X3_spread_117, rs_X3_spread_118, rs_X3_spread_121, rs_X3_spread_123, rs_X3_spread_124, rs_X3_spread_127, rs_X3_spread_128, rs_X3_spread_131, rs_X3_spread_134, rs_X3_spread_137, rs_X3_spread_138, rs_X3_spread_141, rs_X3_spread_143, rs_X3_spread_145, rs_X3_spread_146, rs_X3_spread_147, rs_X3_spread_149, rs_X3_spread_150, rs_X3_spread_151, rs_X3_spread_152, rs_X3_spread_154, rs_X3_spread_155, rs_X3_spread_156, rs_X3_spread_157, rs_X3_spread_158, rs_X3_spread_159, rs_X3_spread_162, rs_X3_spread_163, rs_X3_spread_166, rs_X3_spread_168, rs_X3_spread_169, rs_X3_spread_170, rs_X3_spread_171, rs_X3_spread_174, rs_X3_spread_175, rs_X3_spread_176, rs_X3_spread_179, rs_X3_spread_182, rs_X3_spread_185, rs_X3_spread_188, rs_X3_spread_33, rs_X3_spread_191, -List.getElem?_eq_getElem, am_js, am_e, am_in, am_sl, rI, rZ, rV, rJ, rA, rC, kI, kJ, kR, am_one, am_nl, am_w8, tIc, tLc, tNul, tIld, tLld, tAld, tIst, tLst, tAst, tIinc, tI2, tDv, tL2, tLrem, tLs, tLcmp, tI2l, tL2i, tI2c, tDup, tDup2, tPop, tGo, tIfeq, tIfne, tIflt, tIfge, tIfgt, tIfle, tCmeq, tCmne, tCmlt, tCmge, tCmgt, tCmle, tNu, tTs, tGf, tPf, tGs, tIal, tIas, tBal, tBas, tAln, tSv, tSc, tSb, tSl, tSk, tCv, tCs, tCt, tMx, tMn, wr_10000, wr_100000, wr_1000000, wr_10000000, wr_100000000, wr_2400, wr_9999, wr_0, wr_1, wr_2, wr_3, wr_4, wr_5, wr_6, wr_7, wr_8, wr_9, wr_10, wr_11, wr_12, wr_13, wr_14, wr_15, wr_16, wr_17, wr_18, wr_19, wr_20, wr_21, wr_22, wr_23, wr_24, wr_25, wr_26, wr_27, wr_28, wr_29, wr_30, wr_31, wr_32, wr_33, wr_34, wr_35, wr_36, wr_37, wr_38, wr_39, wr_40, wr_41, wr_42, wr_43, wr_44, wr_45, wr_46, wr_47, wr_48, wr_49, wr_50, wr_51, wr_52, wr_53, wr_54, wr_55, wr_56, wr_57, wr_58, wr_59, wr_60, wr_61, wr_62, wr_63, wr_99, wr_100, wr_192, wr_255, wr_256, wr_343, wr_999, wr_1000, wr_2401, wr_2147483647, wr_65535, wr_m1, wr_m2, wr_m3, wr_m4, wr_m9, ak_1000, ak_1001, ak_1002, ak_0, ak_1, ak_2, ak_3, ak_4, ak_5, ak_6, ak_7, ak_8, ak_9, ak_10, ak_11, ak_12, ak_13, ak_14, ak_15, ak_16, ak_17, ak_18, ak_19, ak_20, ak_21, ak_22, ak_23, ak_24, ak_25, ak_26, ak_27, ak_28, ak_29, ak_30, ak_31, ak_32, ak_33, ak_34, ak_35, ak_36, ak_37, ak_38, ak_39, ak_40, ak_41, ak_42, ak_43, ak_44, ak_45, ak_46, ak_47, -List.getD_eq_getElem?_getD, wd, wq, nq, v43, wa', wb', ha, hb4, svs_len, ea, eb, hX, q1, w43, w7, q2, q3, y43, y44, y45, gs y43, gs y44, gs y45, wt, l1, l2, htg, hz1, wT, wz', nz2, z0, hz2, ss (i := 43) (j := 44) (by decide), ss (i := 43) (j := 45) (by decide), ss (i := 44) (j := 45) (by decide)]
      exact rm_X3_spread h (Nat.le_add_right _ _)
    · rw [if_neg hz] at h
      generalize U3 M gl R.1 S = V2 at q2 q3 h y43 y44 y45
      generalize U3 M gl (su X) S = V1 at q1 q2 w43 w7
      generalize U3 M gl d S = V at q1 v43 ⊢
      simp only [se] at v43 w43 y43
      clear hR hdb i2 i4'
      by_cases hz1 : S.2.2.1.getD t.toNat 0 = 0
      · have hz2 : 2401 ≤ S.2.1 := by
          rcases Int.lt_or_le S.2.1 2401 with e | e
          · exact absurd ⟨hz1, e⟩ hz
          · exact e
        rw [hz1] at wT
        clear hz
        simp [↓ri_X3_spread, rs_X3_spread_0, rs_X3_spread_1, rs_X3_spread_2, rs_X3_spread_5, rs_X3_spread_6, rs_X3_spread_9, rs_X3_spread_11, rs_X3_spread_12, rs_X3_spread_13, rs_X3_spread_14, rs_X3_spread_15, rs_X3_spread_16, rs_X3_spread_17, rs_X3_spread_18, rs_X3_spread_20, rs_X3_spread_21, rs_X3_spread_24, rs_X3_spread_26, rs_X3_spread_27, rs_X3_spread_29, rs_X3_spread_30, rs_X3_spread_34, rs_X3_spread_35, rs_X3_spread_38, rs_X3_spread_40, rs_X3_spread_41, rs_X3_spread_42, rs_X3_spread_44, rs_X3_spread_45, rs_X3_spread_46, rs_X3_spread_47, rs_X3_spread_48, rs_X3_spread_51, rs_X3_spread_52, rs_X3_spread_55, rs_X3_spread_57, rs_X3_spread_59, rs_X3_spread_60, rs_X3_spread_62, rs_X3_spread_64, rs_X3_spread_66, rs_X3_spread_69, rs_X3_spread_70, rs_X3_spread_74, rs_X3_spread_76, rs_X3_spread_79, rs_X3_spread_80, rs_X3_spread_82, rs_X3_spread_84, rs_X3_spread_87, rs_X3_spread_88, rs_X3_spread_89, rs_X3_spread_90, rs_X3_spread_91, rs_X3_spread_93, rs_X3_spread_96, rs_X3_spread_97, rs_X3_spread_98, rs_X3_spread_99, rs_X3_spread_100, rs_X3_spread_103, rs_X3_spread_104, rs_X3_spread_107, rs_X3_spread_110, rs_X3_spread_111, rs_X3_spread_112, rs_X3_spread_115, rs_X3_spread_117, rs_X3_spread_118, rs_X3_spread_121, rs_X3_spread_123, rs_X3_spread_124, rs_X3_spread_127, rs_X3_spread_128, rs_X3_spread_131, rs_X3_spread_134, rs_X3_spread_137, rs_X3_spread_138, rs_X3_spread_141, rs_X3_spread_143, rs_X3_spread_145, rs_X3_spread_146, rs_X3_spread_147, rs_X3_spread_149, rs_X3_spread_150, rs_X3_spread_151, rs_X3_spread_152, rs_X3_spread_154, rs_X3_spread_155, rs_X3_spread_156, rs_X3_spread_157, rs_X3_spread_158, rs_X3_spread_159, rs_X3_spread_162, rs_X3_spread_163, rs_X3_spread_166, rs_X3_spread_168, rs_X3_spread_169, rs_X3_spread_170, rs_X3_spread_171, rs_X3_spread_174, rs_X3_spread_175, rs_X3_spread_176, rs_X3_spread_179, rs_X3_spread_182, rs_X3_spread_185, rs_X3_spread_188, rs_X3_spread_33, rs_X3_spread_191, -List.getElem?_eq_getElem, am_js, am_e, am_in, am_sl, rI, rZ, rV, rJ, rA, rC, kI, kJ, kR, am_one, am_nl, am_w8, tIc, tLc, tNul, tIld, tLld, tAld, tIst, tLst, tAst, tIinc, tI2, tDv, tL2, tLrem, tLs, tLcmp, tI2l, tL2i, tI2c, tDup, tDup2, tPop, tGo, tIfeq, tIfne, tIflt, tIfge, tIfgt, tIfle, tCmeq, tCmne, tCmlt, tCmge, tCmgt, tCmle, tNu, tTs, tGf, tPf, tGs, tIal, tIas, tBal, tBas, tAln, tSv, tSc, tSb, tSl, tSk, tCv, tCs, tCt, tMx, tMn, wr_10000, wr_100000, wr_1000000, wr_10000000, wr_100000000, wr_2400, wr_9999, wr_0, wr_1, wr_2, wr_3, wr_4, wr_5, wr_6, wr_7, wr_8, wr_9, wr_10, wr_11, wr_12, wr_13, wr_14, wr_15, wr_16, wr_17, wr_18, wr_19, wr_20, wr_21, wr_22, wr_23, wr_24, wr_25, wr_26, wr_27, wr_28, wr_29, wr_30, wr_31, wr_32, wr_33, wr_34, wr_35, wr_36, wr_37, wr_38, wr_39, wr_40, wr_41, wr_42, wr_43, wr_44, wr_45, wr_46, wr_47, wr_48, wr_49, wr_50, wr_51, wr_52, wr_53, wr_54, wr_55, wr_56, wr_57, wr_58, wr_59, wr_60, wr_61, wr_62, wr_63, wr_99, wr_100, wr_192, wr_255, wr_256, wr_343, wr_999, wr_1000, wr_2401, wr_2147483647, wr_65535, wr_m1, wr_m2, wr_m3, wr_m4, wr_m9, ak_1000, ak_1001, ak_1002, ak_0, ak_1, ak_2, ak_3, ak_4, ak_5, ak_6, ak_7, ak_8, ak_9, ak_10, ak_11, ak_12, ak_13, ak_14, ak_15, ak_16, ak_17, ak_18, ak_19, ak_20, ak_21, ak_22, ak_23, ak_24, ak_25, ak_26, ak_27, ak_28, ak_29, ak_30, ak_31, ak_32, ak_33, ak_34, ak_35, ak_36, ak_37, ak_38, ak_39, ak_40, ak_41, ak_42, ak_43, ak_44, ak_45, ak_46, ak_47, -List.getD_eq_getElem?_getD, wd, wq, nq, v43, wa', wb', ha, hb4, svs_len, ea, eb, hX, q1, w43, w7, q2, q3, y43, y45, wt, l2, htg, hz1, wz', hz2]
        exact rm_X3_spread h (Nat.le_add_right _ _)
      · clear hz
        simp [↓ri_X3_spread, rs_X3_spread_0, rs_X3_spread_1, rs_X3_spread_2, rs_X3_spread_5, rs_X3_spread_6, rs_X3_spread_9, rs_X3_spread_11, rs_X3_spread_12, rs_X3_spread_13, rs_X3_spread_14, rs_X3_spread_15, rs_X3_spread_16, rs_X3_spread_17, rs_X3_spread_18, rs_X3_spread_20, rs_X3_spread_21, rs_X3_spread_24, rs_X3_spread_26, rs_X3_spread_27, rs_X3_spread_29, rs_X3_spread_30, rs_X3_spread_34, rs_X3_spread_35, rs_X3_spread_38, rs_X3_spread_40, rs_X3_spread_41, rs_X3_spread_42, rs_X3_spread_44, rs_X3_spread_45, rs_X3_spread_46, rs_X3_spread_47, rs_X3_spread_48, rs_X3_spread_51, rs_X3_spread_52, rs_X3_spread_55, rs_X3_spread_57, rs_X3_spread_59, rs_X3_spread_60, rs_X3_spread_62, rs_X3_spread_64, rs_X3_spread_66, rs_X3_spread_69, rs_X3_spread_70, rs_X3_spread_74, rs_X3_spread_76, rs_X3_spread_79, rs_X3_spread_80, rs_X3_spread_82, rs_X3_spread_84, rs_X3_spread_87, rs_X3_spread_88, rs_X3_spread_89, rs_X3_spread_90, rs_X3_spread_91, rs_X3_spread_93, rs_X3_spread_96, rs_X3_spread_97, rs_X3_spread_98, rs_X3_spread_99, rs_X3_spread_100, rs_X3_spread_103, rs_X3_spread_104, rs_X3_spread_107, rs_X3_spread_110, rs_X3_spread_111, rs_X3_spread_112, rs_X3_spread_115, rs_X3_spread_117, rs_X3_spread_118, rs_X3_spread_121, rs_X3_spread_123, rs_X3_spread_124, rs_X3_spread_127, rs_X3_spread_128, rs_X3_spread_131, rs_X3_spread_134, rs_X3_spread_137, rs_X3_spread_138, rs_X3_spread_141, rs_X3_spread_143, rs_X3_spread_145, rs_X3_spread_146, rs_X3_spread_147, rs_X3_spread_149, rs_X3_spread_150, rs_X3_spread_151, rs_X3_spread_152, rs_X3_spread_154, rs_X3_spread_155, rs_X3_spread_156, rs_X3_spread_157, rs_X3_spread_158, rs_X3_spread_159, rs_X3_spread_162, rs_X3_spread_163, rs_X3_spread_166, rs_X3_spread_168, rs_X3_spread_169, rs_X3_spread_170, rs_X3_spread_171, rs_X3_spread_174, rs_X3_spread_175, rs_X3_spread_176, rs_X3_spread_179, rs_X3_spread_182, rs_X3_spread_185, rs_X3_spread_188, rs_X3_spread_33, rs_X3_spread_191, -List.getElem?_eq_getElem, am_js, am_e, am_in, am_sl, rI, rZ, rV, rJ, rA, rC, kI, kJ, kR, am_one, am_nl, am_w8, tIc, tLc, tNul, tIld, tLld, tAld, tIst, tLst, tAst, tIinc, tI2, tDv, tL2, tLrem, tLs, tLcmp, tI2l, tL2i, tI2c, tDup, tDup2, tPop, tGo, tIfeq, tIfne, tIflt, tIfge, tIfgt, tIfle, tCmeq, tCmne, tCmlt, tCmge, tCmgt, tCmle, tNu, tTs, tGf, tPf, tGs, tIal, tIas, tBal, tBas, tAln, tSv, tSc, tSb, tSl, tSk, tCv, tCs, tCt, tMx, tMn, wr_10000, wr_100000, wr_1000000, wr_10000000, wr_100000000, wr_2400, wr_9999, wr_0, wr_1, wr_2, wr_3, wr_4, wr_5, wr_6, wr_7, wr_8, wr_9, wr_10, wr_11, wr_12, wr_13, wr_14, wr_15, wr_16, wr_17, wr_18, wr_19, wr_20, wr_21, wr_22, wr_23, wr_24, wr_25, wr_26, wr_27, wr_28, wr_29, wr_30, wr_31, wr_32, wr_33, wr_34, wr_35, wr_36, wr_37, wr_38, wr_39, wr_40, wr_41, wr_42, wr_43, wr_44, wr_45, wr_46, wr_47, wr_48, wr_49, wr_50, wr_51, wr_52, wr_53, wr_54, wr_55, wr_56, wr_57, wr_58, wr_59, wr_60, wr_61, wr_62, wr_63, wr_99, wr_100, wr_192, wr_255, wr_256, wr_343, wr_999, wr_1000, wr_2401, wr_2147483647, wr_65535, wr_m1, wr_m2, wr_m3, wr_m4, wr_m9, ak_1000, ak_1001, ak_1002, ak_0, ak_1, ak_2, ak_3, ak_4, ak_5, ak_6, ak_7, ak_8, ak_9, ak_10, ak_11, ak_12, ak_13, ak_14, ak_15, ak_16, ak_17, ak_18, ak_19, ak_20, ak_21, ak_22, ak_23, ak_24, ak_25, ak_26, ak_27, ak_28, ak_29, ak_30, ak_31, ak_32, ak_33, ak_34, ak_35, ak_36, ak_37, ak_38, ak_39, ak_40, ak_41, ak_42, ak_43, ak_44, ak_45, ak_46, ak_47, -List.getD_eq_getElem?_getD, wd, wq, nq, v43, wa', wb', ha, hb4, svs_len, ea, eb, hX, q1, w43, w7, q2, q3, y43, y45, wt, l2, htg, hz1, wT]
        exact rm_X3_spread h (Nat.le_add_right _ _)
theorem l0_X3_spread {M : List AC} {st : Int} {g s bb : F4} (hM : H3 M st g s bb) (hst : 1 ≤ st ∧ st ≤ 3) (hg : i4 1 9 g) (hs9 : i4 0 9 s) (hb : i4 0 3 bb) {gl x a b r bit : Int} (hx : 0 ≤ x ∧ x < 2401) (ha : 0 ≤ a ∧ a < 4) (hb4 : 0 ≤ b ∧ b < 4) (hr : 0 ≤ r ∧ r < 2401) (hR : RO r a b) {db : Int} (hdb : db = if a = b then 0 else 6) : ∀ (n : Nat) (p : Int) (d : F4) (S : S3) (x8 x9 : Option AV), p + n = 7 → 0 ≤ p → I3 S →
    ∃ d' : F4, Ru rx_X3_spread (620 * n + 10) 62 [some (vR 43), some (vI x), some (vI a), some (vI b), some (vI r), some (vI bit), some (vI db), some (vI p), x8, x9] [] (U3 M gl d S) (none, U3 M gl d' (sp3 st g s bb x r a b n p S))
  | 0, p, d, S, x8, x9, hp, hp0, hI => by
    have e : p = 7 := by omega
    subst e
    refine ⟨d, 9 + 1, by omega, ?_⟩
    rw [rs_X3_spread_62, sp3]
    simp [↓ri_X3_spread, rs_X3_spread_0, rs_X3_spread_1, rs_X3_spread_2, rs_X3_spread_5, rs_X3_spread_6, rs_X3_spread_9, rs_X3_spread_11, rs_X3_spread_12, rs_X3_spread_13, rs_X3_spread_14, rs_X3_spread_15, rs_X3_spread_16, rs_X3_spread_17, rs_X3_spread_18, rs_X3_spread_20, rs_X3_spread_21, rs_X3_spread_24, rs_X3_spread_26, rs_X3_spread_27, rs_X3_spread_29, rs_X3_spread_30, rs_X3_spread_34, rs_X3_spread_35, rs_X3_spread_38, rs_X3_spread_40, rs_X3_spread_41, rs_X3_spread_42, rs_X3_spread_44, rs_X3_spread_45, rs_X3_spread_46, rs_X3_spread_47, rs_X3_spread_48, rs_X3_spread_51, rs_X3_spread_52, rs_X3_spread_55, rs_X3_spread_57, rs_X3_spread_59, rs_X3_spread_60, rs_X3_spread_64, rs_X3_spread_66, rs_X3_spread_69, rs_X3_spread_70, rs_X3_spread_72, rs_X3_spread_74, rs_X3_spread_76, rs_X3_spread_79, rs_X3_spread_80, rs_X3_spread_82, rs_X3_spread_84, rs_X3_spread_87, rs_X3_spread_88, rs_X3_spread_89, rs_X3_spread_90, rs_X3_spread_91, rs_X3_spread_93, rs_X3_spread_96, rs_X3_spread_97, rs_X3_spread_98, rs_X3_spread_99, rs_X3_spread_100, rs_X3_spread_103, rs_X3_spread_104, rs_X3_spread_107, rs_X3_spread_110, rs_X3_spread_111, rs_X3_spread_112, rs_X3_spread_115, rs_X3_spread_117, rs_X3_spread_118, rs_X3_spread_121, rs_X3_spread_123, rs_X3_spread_124, rs_X3_spread_127, rs_X3_spread_128, rs_X3_spread_131, rs_X3_spread_134, rs_X3_spread_137, rs_X3_spread_138, rs_X3_spread_141, rs_X3_spread_143, rs_X3_spread_145, rs_X3_spread_146, rs_X3_spread_147, rs_X3_spread_149, rs_X3_spread_150, rs_X3_spread_151, rs_X3_spread_152, rs_X3_spread_154, rs_X3_spread_155, rs_X3_spread_156, rs_X3_spread_157, rs_X3_spread_158, rs_X3_spread_159, rs_X3_spread_162, rs_X3_spread_163, rs_X3_spread_166, rs_X3_spread_168, rs_X3_spread_169, rs_X3_spread_170, rs_X3_spread_171, rs_X3_spread_174, rs_X3_spread_175, rs_X3_spread_176, rs_X3_spread_179, rs_X3_spread_182, rs_X3_spread_185, rs_X3_spread_188, rs_X3_spread_33, rs_X3_spread_191, -List.getElem?_eq_getElem, am_js, am_e, am_in, am_sl, rI, rZ, rV, rJ, rA, rC, kI, kJ, kR, am_one, am_nl, am_w8, tIc, tLc, tNul, tIld, tLld, tAld, tIst, tLst, tAst, tIinc, tI2, tDv, tL2, tLrem, tLs, tLcmp, tI2l, tL2i, tI2c, tDup, tDup2, tPop, tGo, tIfeq, tIfne, tIflt, tIfge, tIfgt, tIfle, tCmeq, tCmne, tCmlt, tCmge, tCmgt, tCmle, tNu, tTs, tGf, tPf, tGs, tIal, tIas, tBal, tBas, tAln, tSv, tSc, tSb, tSl, tSk, tCv, tCs, tCt, tMx, tMn, wr_10000, wr_100000, wr_1000000, wr_10000000, wr_100000000, wr_2400, wr_9999, wr_0, wr_1, wr_2, wr_3, wr_4, wr_5, wr_6, wr_7, wr_8, wr_9, wr_10, wr_11, wr_12, wr_13, wr_14, wr_15, wr_16, wr_17, wr_18, wr_19, wr_20, wr_21, wr_22, wr_23, wr_24, wr_25, wr_26, wr_27, wr_28, wr_29, wr_30, wr_31, wr_32, wr_33, wr_34, wr_35, wr_36, wr_37, wr_38, wr_39, wr_40, wr_41, wr_42, wr_43, wr_44, wr_45, wr_46, wr_47, wr_48, wr_49, wr_50, wr_51, wr_52, wr_53, wr_54, wr_55, wr_56, wr_57, wr_58, wr_59, wr_60, wr_61, wr_62, wr_63, wr_99, wr_100, wr_192, wr_255, wr_256, wr_343, wr_999, wr_1000, wr_2401, wr_2147483647, wr_65535, wr_m1, wr_m2, wr_m3, wr_m4, wr_m9, ak_1000, ak_1001, ak_1002, ak_0, ak_1, ak_2, ak_3, ak_4, ak_5, ak_6, ak_7, ak_8, ak_9, ak_10, ak_11, ak_12, ak_13, ak_14, ak_15, ak_16, ak_17, ak_18, ak_19, ak_20, ak_21, ak_22, ak_23, ak_24, ak_25, ak_26, ak_27, ak_28, ak_29, ak_30, ak_31, ak_32, ak_33, ak_34, ak_35, ak_36, ak_37, ak_38, ak_39, ak_40, ak_41, ak_42, ak_43, ak_44, ak_45, ak_46, ak_47]
  | n + 1, p, d, S, x8, x9, hp, hp0, hI => by
    have wp : wr p = p := wr_id (by omega) (by omega)
    have np : ¬ 6 < p := by omega
    have en : ((if a = b then 1 else 7 : Nat) : Int) = db + 1 := by rw [hdb]; split <;> rfl
    obtain ⟨d1, y9, h1⟩ := l1_X3_spread hM hst hg hs9 hb (gl := gl) (bit := bit) hx ha hb4 hr hR (p := p) ⟨hp0, by omega⟩ hdb (if a = b then 1 else 7) 0 d S x9 (by omega) (by omega) hI
    have hI2 := sq3_I st g s bb hx ha (p := p) ⟨hp0, by omega⟩ hR (if a = b then 1 else 7) 0 S (by omega) (by split <;> omega) hI
    obtain ⟨d2, k, hk, h2⟩ := l0_X3_spread hM hst hg hs9 hb (gl := gl) (bit := bit) hx ha hb4 hr hR hdb n (p + 1) d1 (sq3 st g s bb x r a b p (if a = b then 1 else 7) 0 S) (some (vI (db + 1))) y9 (by omega) (by omega) hI2
    rw [sp3]
    generalize sp3 st g s bb x r a b n (p + 1) (sq3 st g s bb x r a b p (if a = b then 1 else 7) 0 S) = W at h2 ⊢
    obtain ⟨m, hm, h3⟩ := h1 (none, U3 M gl d2 W) (k + 10) (by
      refine ⟨k + 9 + 1, by omega, ?_⟩
      rw [rs_X3_spread_185]
      simp [↓ri_X3_spread, rs_X3_spread_0, rs_X3_spread_1, rs_X3_spread_2, rs_X3_spread_5, rs_X3_spread_6, rs_X3_spread_9, rs_X3_spread_11, rs_X3_spread_12, rs_X3_spread_13, rs_X3_spread_14, rs_X3_spread_15, rs_X3_spread_16, rs_X3_spread_17, rs_X3_spread_18, rs_X3_spread_20, rs_X3_spread_21, rs_X3_spread_24, rs_X3_spread_26, rs_X3_spread_27, rs_X3_spread_29, rs_X3_spread_30, rs_X3_spread_34, rs_X3_spread_35, rs_X3_spread_38, rs_X3_spread_40, rs_X3_spread_41, rs_X3_spread_42, rs_X3_spread_44, rs_X3_spread_45, rs_X3_spread_46, rs_X3_spread_47, rs_X3_spread_48, rs_X3_spread_51, rs_X3_spread_52, rs_X3_spread_55, rs_X3_spread_57, rs_X3_spread_59, rs_X3_spread_60, rs_X3_spread_64, rs_X3_spread_66, rs_X3_spread_69, rs_X3_spread_70, rs_X3_spread_72, rs_X3_spread_74, rs_X3_spread_76, rs_X3_spread_79, rs_X3_spread_80, rs_X3_spread_82, rs_X3_spread_84, rs_X3_spread_87, rs_X3_spread_88, rs_X3_spread_89, rs_X3_spread_90, rs_X3_spread_91, rs_X3_spread_93, rs_X3_spread_96, rs_X3_spread_97, rs_X3_spread_98, rs_X3_spread_99, rs_X3_spread_100, rs_X3_spread_103, rs_X3_spread_104, rs_X3_spread_107, rs_X3_spread_110, rs_X3_spread_111, rs_X3_spread_112, rs_X3_spread_115, rs_X3_spread_117, rs_X3_spread_118, rs_X3_spread_121, rs_X3_spread_123, rs_X3_spread_124, rs_X3_spread_127, rs_X3_spread_128, rs_X3_spread_131, rs_X3_spread_134, rs_X3_spread_137, rs_X3_spread_138, rs_X3_spread_141, rs_X3_spread_143, rs_X3_spread_145, rs_X3_spread_146, rs_X3_spread_147, rs_X3_spread_149, rs_X3_spread_150, rs_X3_spread_151, rs_X3_spread_152, rs_X3_spread_154, rs_X3_spread_155, rs_X3_spread_156, rs_X3_spread_157, rs_X3_spread_158, rs_X3_spread_159, rs_X3_spread_162, rs_X3_spread_163, rs_X3_spread_166, rs_X3_spread_168, rs_X3_spread_169, rs_X3_spread_170, rs_X3_spread_171, rs_X3_spread_174, rs_X3_spread_175, rs_X3_spread_176, rs_X3_spread_179, rs_X3_spread_182, rs_X3_spread_188, rs_X3_spread_33, rs_X3_spread_191, -List.getElem?_eq_getElem, am_js, am_e, am_in, am_sl, rI, rZ, rV, rJ, rA, rC, kI, kJ, kR, am_one, am_nl, am_w8, tIc, tLc, tNul, tIld, tLld, tAld, tIst, tLst, tAst, tIinc, tI2, tDv, tL2, tLrem, tLs, tLcmp, tI2l, tL2i, tI2c, tDup, tDup2, tPop, tGo, tIfeq, tIfne, tIflt, tIfge, tIfgt, tIfle, tCmeq, tCmne, tCmlt, tCmge, tCmgt, tCmle, tNu, tTs, tGf, tPf, tGs, tIal, tIas, tBal, tBas, tAln, tSv, tSc, tSb, tSl, tSk, tCv, tCs, tCt, tMx, tMn, wr_10000, wr_100000, wr_1000000, wr_10000000, wr_100000000, wr_2400, wr_9999, wr_0, wr_1, wr_2, wr_3, wr_4, wr_5, wr_6, wr_7, wr_8, wr_9, wr_10, wr_11, wr_12, wr_13, wr_14, wr_15, wr_16, wr_17, wr_18, wr_19, wr_20, wr_21, wr_22, wr_23, wr_24, wr_25, wr_26, wr_27, wr_28, wr_29, wr_30, wr_31, wr_32, wr_33, wr_34, wr_35, wr_36, wr_37, wr_38, wr_39, wr_40, wr_41, wr_42, wr_43, wr_44, wr_45, wr_46, wr_47, wr_48, wr_49, wr_50, wr_51, wr_52, wr_53, wr_54, wr_55, wr_56, wr_57, wr_58, wr_59, wr_60, wr_61, wr_62, wr_63, wr_99, wr_100, wr_192, wr_255, wr_256, wr_343, wr_999, wr_1000, wr_2401, wr_2147483647, wr_65535, wr_m1, wr_m2, wr_m3, wr_m4, wr_m9, ak_1000, ak_1001, ak_1002, ak_0, ak_1, ak_2, ak_3, ak_4, ak_5, ak_6, ak_7, ak_8, ak_9, ak_10, ak_11, ak_12, ak_13, ak_14, ak_15, ak_16, ak_17, ak_18, ak_19, ak_20, ak_21, ak_22, ak_23, ak_24, ak_25, ak_26, ak_27, ak_28, ak_29, ak_30, ak_31, ak_32, ak_33, ak_34, ak_35, ak_36, ak_37, ak_38, ak_39, ak_40, ak_41, ak_42, ak_43, ak_44, ak_45, ak_46, ak_47]
      exact rm_X3_spread h2 (by omega))
    have h7 : (if a = b then 1 else 7 : Nat) ≤ 7 := by split <;> omega
    refine ⟨d2, m + 9 + 1, by omega, ?_⟩
    rw [rs_X3_spread_62]
    simp [↓ri_X3_spread, rs_X3_spread_0, rs_X3_spread_1, rs_X3_spread_2, rs_X3_spread_5, rs_X3_spread_6, rs_X3_spread_9, rs_X3_spread_11, rs_X3_spread_12, rs_X3_spread_13, rs_X3_spread_14, rs_X3_spread_15, rs_X3_spread_16, rs_X3_spread_17, rs_X3_spread_18, rs_X3_spread_20, rs_X3_spread_21, rs_X3_spread_24, rs_X3_spread_26, rs_X3_spread_27, rs_X3_spread_29, rs_X3_spread_30, rs_X3_spread_34, rs_X3_spread_35, rs_X3_spread_38, rs_X3_spread_40, rs_X3_spread_41, rs_X3_spread_42, rs_X3_spread_44, rs_X3_spread_45, rs_X3_spread_46, rs_X3_spread_47, rs_X3_spread_48, rs_X3_spread_51, rs_X3_spread_52, rs_X3_spread_55, rs_X3_spread_57, rs_X3_spread_59, rs_X3_spread_60, rs_X3_spread_64, rs_X3_spread_66, rs_X3_spread_69, rs_X3_spread_70, rs_X3_spread_74, rs_X3_spread_76, rs_X3_spread_79, rs_X3_spread_80, rs_X3_spread_82, rs_X3_spread_84, rs_X3_spread_87, rs_X3_spread_88, rs_X3_spread_89, rs_X3_spread_90, rs_X3_spread_91, rs_X3_spread_93, rs_X3_spread_96, rs_X3_spread_97, rs_X3_spread_98, rs_X3_spread_99, rs_X3_spread_100, rs_X3_spread_103, rs_X3_spread_104, rs_X3_spread_107, rs_X3_spread_110, rs_X3_spread_111, rs_X3_spread_112, rs_X3_spread_115, rs_X3_spread_117, rs_X3_spread_118, rs_X3_spread_121, rs_X3_spread_123, rs_X3_spread_124, rs_X3_spread_127, rs_X3_spread_128, rs_X3_spread_131, rs_X3_spread_134, rs_X3_spread_137, rs_X3_spread_138, rs_X3_spread_141, rs_X3_spread_143, rs_X3_spread_145, rs_X3_spread_146, rs_X3_spread_147, rs_X3_spread_149, rs_X3_spread_150, rs_X3_spread_151, rs_X3_spread_152, rs_X3_spread_154, rs_X3_spread_155, rs_X3_spread_156, rs_X3_spread_157, rs_X3_spread_158, rs_X3_spread_159, rs_X3_spread_162, rs_X3_spread_163, rs_X3_spread_166, rs_X3_spread_168, rs_X3_spread_169, rs_X3_spread_170, rs_X3_spread_171, rs_X3_spread_174, rs_X3_spread_175, rs_X3_spread_176, rs_X3_spread_179, rs_X3_spread_182, rs_X3_spread_185, rs_X3_spread_188, rs_X3_spread_33, rs_X3_spread_191, -List.getElem?_eq_getElem, am_js, am_e, am_in, am_sl, rI, rZ, rV, rJ, rA, rC, kI, kJ, kR, am_one, am_nl, am_w8, tIc, tLc, tNul, tIld, tLld, tAld, tIst, tLst, tAst, tIinc, tI2, tDv, tL2, tLrem, tLs, tLcmp, tI2l, tL2i, tI2c, tDup, tDup2, tPop, tGo, tIfeq, tIfne, tIflt, tIfge, tIfgt, tIfle, tCmeq, tCmne, tCmlt, tCmge, tCmgt, tCmle, tNu, tTs, tGf, tPf, tGs, tIal, tIas, tBal, tBas, tAln, tSv, tSc, tSb, tSl, tSk, tCv, tCs, tCt, tMx, tMn, wr_10000, wr_100000, wr_1000000, wr_10000000, wr_100000000, wr_2400, wr_9999, wr_0, wr_1, wr_2, wr_3, wr_4, wr_5, wr_6, wr_7, wr_8, wr_9, wr_10, wr_11, wr_12, wr_13, wr_14, wr_15, wr_16, wr_17, wr_18, wr_19, wr_20, wr_21, wr_22, wr_23, wr_24, wr_25, wr_26, wr_27, wr_28, wr_29, wr_30, wr_31, wr_32, wr_33, wr_34, wr_35, wr_36, wr_37, wr_38, wr_39, wr_40, wr_41, wr_42, wr_43, wr_44, wr_45, wr_46, wr_47, wr_48, wr_49, wr_50, wr_51, wr_52, wr_53, wr_54, wr_55, wr_56, wr_57, wr_58, wr_59, wr_60, wr_61, wr_62, wr_63, wr_99, wr_100, wr_192, wr_255, wr_256, wr_343, wr_999, wr_1000, wr_2401, wr_2147483647, wr_65535, wr_m1, wr_m2, wr_m3, wr_m4, wr_m9, ak_1000, ak_1001, ak_1002, ak_0, ak_1, ak_2, ak_3, ak_4, ak_5, ak_6, ak_7, ak_8, ak_9, ak_10, ak_11, ak_12, ak_13, ak_14, ak_15, ak_16, ak_17, ak_18, ak_19, ak_20, ak_21, ak_22, ak_23, ak_24, ak_25, ak_26, ak_27, ak_28, ak_29, ak_30, ak_31, ak_32, ak_33, ak_34, ak_35, ak_36, ak_37, ak_38, ak_39, ak_40, ak_41, ak_42, ak_43, ak_44, ak_45, ak_46, ak_47, wp, np]
    exact rm_X3_spread h3 (by omega)
theorem bt_wr (a b : Int) : wr (bt a b) = bt a b := wr_toInt _
theorem oAnd_wr (a b : Int) : wr (oAnd a b) = oAnd a b := wr_toInt _
end
