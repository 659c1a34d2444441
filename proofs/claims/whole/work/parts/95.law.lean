noncomputable section
/-! the law's table -/
def aScr (a : Am) (b Ln : Nat) (xs : Nat → Int32) : Prop := match a with
  | (_, _, _, _, s, _, _, _, _, _, _, _, A, _) => va_X b Ln xs s s.heap ∧ b < s.heap.size ∧ ¬ A b
def tSx (Ln : Nat) (xs : Nat → Int32) : TrA := fun pc L st M => match st with
  | .inl i :: .inr (.inr (some q)) :: r => if q = 1030 ∧ 0 ≤ wr i ∧ wr i < Ln then some ((pc + 1, L, .inl (xs (wr i).toNat).toInt :: r, M), 0, 0) else none
  | _ => none
def tSn (Ln : Nat) : TrA := fun pc L st M => match st with
  | .inr (.inr (some q)) :: r => if q = 1030 then some ((pc + 1, L, .inl (Ln : Int) :: r, M), 0, 0) else none
  | _ => none
theorem sd_sx {a : Am} {b Ln : Nat} {xs : Nat → Int32} (hS0 : aScr a b Ln xs) {y : MethodName} {cc : ByteArray} {nL : Nat} {ret : Option FieldType} {lev pc : Nat} (h : decode cc pc = .ok (.iaload, 1)) : SdG a (y, cc, nL, ret, lev) (fun ad => ad 1030 = b) pc (tSx Ln xs) := by
  intro ad cells slots L st M pc' L' st' M' dc ds hX hG ht hc hs k
  have hX0 := hX
  obtain ⟨p, l, e, R, s, m, args, below, meth, c, D, K, A, Q⟩ := a
  obtain ⟨hx, hb, hml, hr, hlk, hown, hts, hK, hA, hSt, hfr, hlo, hnm⟩ := hX
  obtain ⟨hXs, hbl, hbA⟩ := hS0
  intro H locs ls hc0 hs0 hP hD hS hL
  unfold tSx at ht
  split at ht
  · next i q r =>
    split at ht
    · next hq =>
      obtain ⟨rfl, hi⟩ := hq
      cases ht
      have w := k ad (fun _ _ => rfl) hX0 H locs ls hc hs hP hD hS hL
      have e1 : (Sum.inl i :: Sum.inr (Sum.inr (some 1030)) :: r).map (am_v ad) = .int (Int32.ofInt i) :: .ref b :: r.map (am_v ad) := by
        show Value.int (Int32.ofInt i) :: Value.ref (ad 1030) :: r.map (am_v ad) = _
        rw [show ad 1030 = b from hG]
      have e2 : (Sum.inl (xs (wr i).toNat).toInt :: r : List AV).map (am_v ad) = .int (xs (Int32.ofInt i).toNatClampNeg) :: r.map (am_v ad) := by
        show Value.int (Int32.ofInt (xs (wr i).toNat).toInt) :: r.map (am_v ad) = _
        rw [Int32.ofInt_toInt, of_nat]
      rw [e2] at w
      rw [e1]
      exact va_sld hx hb hXs hbl hbA hS ((of_in i Ln).mpr hi) h w
    · cases ht
  · cases ht
theorem sd_sn {a : Am} {b Ln : Nat} {xs : Nat → Int32} (hS0 : aScr a b Ln xs) {y : MethodName} {cc : ByteArray} {nL : Nat} {ret : Option FieldType} {lev pc : Nat} (h : decode cc pc = .ok (.arraylength, 1)) : SdG a (y, cc, nL, ret, lev) (fun ad => ad 1030 = b) pc (tSn Ln) := by
  intro ad cells slots L st M pc' L' st' M' dc ds hX hG ht hc hs k
  have hX0 := hX
  obtain ⟨p, l, e, R, s, m, args, below, meth, c, D, K, A, Q⟩ := a
  obtain ⟨hx, hb, hml, hr, hlk, hown, hts, hK, hA, hSt, hfr, hlo, hnm⟩ := hX
  obtain ⟨hXs, hbl, hbA⟩ := hS0
  intro H locs ls hc0 hs0 hP hD hS hL
  unfold tSn at ht
  split at ht
  · next q r =>
    split at ht
    · next hq =>
      subst hq
      cases ht
      have w := k ad (fun _ _ => rfl) hX0 H locs ls hc hs hP hD hS hL
      have e1 : (Sum.inr (Sum.inr (some 1030)) :: r : List AV).map (am_v ad) = .ref b :: r.map (am_v ad) := by
        show Value.ref (ad 1030) :: r.map (am_v ad) = _
        rw [show ad 1030 = b from hG]
      rw [e1]
      exact va_slen hx hb hXs hbl hbA hS h w
    · cases ht
  · cases ht
abbrev mi_L_law (nm : String) : Mi := (⟨RL, nm, "([I)Z"⟩, cL_law, 4, some .boolean, 11)
def tb_L_law_6 (Ln : Nat) (xs : Nat → Int32) : List (Nat × TrA) := (986, tL (tL2 (fun a b => a ||| b))) :: (987, tL (tCv 6 1 fn_X6_seed)) :: (990, tL tLcmp) :: (991, tL (tIfeq 1088)) :: (994, tL (tIc 0 1)) :: (996, tL (tAld 1 1)) :: (997, tL (tAld 0 1)) :: (998, tL (tIld 3 1)) :: (999, tL (tIc 1 1)) :: (1000, tL (tI2 (fun a b => a + b))) :: (1001, tSx Ln xs) :: (1002, tL (tCv 5 1 fn_X5_ward)) :: (1005, tL (tAld 2 1)) :: (1006, tL (tAld 0 1)) :: (1007, tL (tIld 3 1)) :: (1008, tL (tIc 1 1)) :: (1009, tL (tI2 (fun a b => a + b))) :: (1010, tSx Ln xs) :: (1011, tL (tCv 6 1 fn_X6_ward)) :: (1014, tL (tCmeq 1088)) :: (1017, tL (tIc 0 1)) :: (1019, tL (tAld 1 1)) :: (1020, tL (tAld 0 1)) :: (1021, tL (tIld 3 1)) :: (1022, tL (tIc 1 1)) :: (1023, tL (tI2 (fun a b => a + b))) :: (1024, tSx Ln xs) :: (1025, tL (tCv 5 1 fn_X5_keep)) :: (1028, tL (tAld 2 1)) :: (1029, tL (tAld 0 1)) :: (1030, tL (tIld 3 1)) :: (1031, tL (tIc 1 1)) :: (1032, tL (tI2 (fun a b => a + b))) :: (1033, tSx Ln xs) :: (1034, tL (tCv 6 1 fn_X6_keep)) :: (1037, tL (tCmeq 1088)) :: (1040, tL (tIc 0 1)) :: (1042, tL (tAld 1 1)) :: (1043, tL (tAld 0 1)) :: (1044, tL (tIld 3 1)) :: (1045, tL (tIc 1 1)) :: (1046, tL (tI2 (fun a b => a + b))) :: (1047, tSx Ln xs) :: (1048, tL (tCv 5 1 fn_X5_again)) :: (1051, tL (tAld 2 1)) :: (1052, tL (tAld 0 1)) :: (1053, tL (tIld 3 1)) :: (1054, tL (tIc 1 1)) :: (1055, tL (tI2 (fun a b => a + b))) :: (1056, tSx Ln xs) :: (1057, tL (tCv 6 1 fn_X6_again)) :: (1060, tL (tCmeq 1088)) :: (1063, tL (tIc 0 1)) :: (1065, tL (tAld 1 1)) :: (1066, tL (tAld 0 1)) :: (1067, tL (tIld 3 1)) :: (1068, tL (tIc 1 1)) :: (1069, tL (tI2 (fun a b => a + b))) :: (1070, tSx Ln xs) :: (1071, tL (tCv 5 1 fn_X5_count)) :: (1074, tL (tAld 2 1)) :: (1075, tL (tAld 0 1)) :: (1076, tL (tIld 3 1)) :: (1077, tL (tIc 1 1)) :: (1078, tL (tI2 (fun a b => a + b))) :: (1079, tSx Ln xs) :: (1080, tL (tCv 6 1 fn_X6_count)) :: (1083, tL (tCmeq 1088)) :: (1086, tL (tIc 0 1)) :: (1088, tL (tIinc 3 4)) :: (1091, tL (tGo 18)) :: (1094, tL (tIc 1 1)) :: []
theorem ok_L_law_6 {a : Am} {b Ln : Nat} {xs : Nat → Int32} (hS : aScr a b Ln xs) (nm : String) : TokG a (mi_L_law nm) (fun ad => ad 1030 = b) (tb_L_law_6 Ln xs) :=
  TcG (sd_L (sd_lor dL_law_986)) <|
  TcG (sd_L (sd_cv (T := TX6) fok_X6_seed mf_X6_seed rfl w_ml_L_138 w_im_X6_seed w_se_X6_seed (by decide) dL_law_987)) <|
  TcG (sd_L (sd_lcmp dL_law_990)) <|
  TcG (sd_L (sd_if_eq (by decide) dL_law_991)) <|
  TcG (sd_L (sd_iconst rfl dL_law_994)) <|
  TcG (sd_L (sd_aload_n dL_law_996)) <|
  TcG (sd_L (sd_aload_n dL_law_997)) <|
  TcG (sd_L (sd_iload_n dL_law_998)) <|
  TcG (sd_L (sd_iconst rfl dL_law_999)) <|
  TcG (sd_L (sd_iadd dL_law_1000)) <|
  TcG (sd_sx hS dL_law_1001) <|
  TcG (sd_L (sd_cv (T := TX5) fok_X5_ward mf_X5_ward rfl w_ml_L_139 w_im_X5_ward w_se_X5_ward (by decide) dL_law_1002)) <|
  TcG (sd_L (sd_aload_n dL_law_1005)) <|
  TcG (sd_L (sd_aload_n dL_law_1006)) <|
  TcG (sd_L (sd_iload_n dL_law_1007)) <|
  TcG (sd_L (sd_iconst rfl dL_law_1008)) <|
  TcG (sd_L (sd_iadd dL_law_1009)) <|
  TcG (sd_sx hS dL_law_1010) <|
  TcG (sd_L (sd_cv (T := TX6) fok_X6_ward mf_X6_ward rfl w_ml_L_142 w_im_X6_ward w_se_X6_ward (by decide) dL_law_1011)) <|
  TcG (sd_L (sd_cm_eq (by decide) dL_law_1014)) <|
  TcG (sd_L (sd_iconst rfl dL_law_1017)) <|
  TcG (sd_L (sd_aload_n dL_law_1019)) <|
  TcG (sd_L (sd_aload_n dL_law_1020)) <|
  TcG (sd_L (sd_iload_n dL_law_1021)) <|
  TcG (sd_L (sd_iconst rfl dL_law_1022)) <|
  TcG (sd_L (sd_iadd dL_law_1023)) <|
  TcG (sd_sx hS dL_law_1024) <|
  TcG (sd_L (sd_cv (T := TX5) fok_X5_keep mf_X5_keep rfl w_ml_L_143 w_im_X5_keep w_se_X5_keep (by decide) dL_law_1025)) <|
  TcG (sd_L (sd_aload_n dL_law_1028)) <|
  TcG (sd_L (sd_aload_n dL_law_1029)) <|
  TcG (sd_L (sd_iload_n dL_law_1030)) <|
  TcG (sd_L (sd_iconst rfl dL_law_1031)) <|
  TcG (sd_L (sd_iadd dL_law_1032)) <|
  TcG (sd_sx hS dL_law_1033) <|
  TcG (sd_L (sd_cv (T := TX6) fok_X6_keep mf_X6_keep rfl w_ml_L_146 w_im_X6_keep w_se_X6_keep (by decide) dL_law_1034)) <|
  TcG (sd_L (sd_cm_eq (by decide) dL_law_1037)) <|
  TcG (sd_L (sd_iconst rfl dL_law_1040)) <|
  TcG (sd_L (sd_aload_n dL_law_1042)) <|
  TcG (sd_L (sd_aload_n dL_law_1043)) <|
  TcG (sd_L (sd_iload_n dL_law_1044)) <|
  TcG (sd_L (sd_iconst rfl dL_law_1045)) <|
  TcG (sd_L (sd_iadd dL_law_1046)) <|
  TcG (sd_sx hS dL_law_1047) <|
  TcG (sd_L (sd_cv (T := TX5) fok_X5_again mf_X5_again rfl w_ml_L_147 w_im_X5_again w_se_X5_again (by decide) dL_law_1048)) <|
  TcG (sd_L (sd_aload_n dL_law_1051)) <|
  TcG (sd_L (sd_aload_n dL_law_1052)) <|
  TcG (sd_L (sd_iload_n dL_law_1053)) <|
  TcG (sd_L (sd_iconst rfl dL_law_1054)) <|
  TcG (sd_L (sd_iadd dL_law_1055)) <|
  TcG (sd_sx hS dL_law_1056) <|
  TcG (sd_L (sd_cv (T := TX6) fok_X6_again mf_X6_again rfl w_ml_L_150 w_im_X6_again w_se_X6_again (by decide) dL_law_1057)) <|
  TcG (sd_L (sd_cm_eq (by decide) dL_law_1060)) <|
  TcG (sd_L (sd_iconst rfl dL_law_1063)) <|
  TcG (sd_L (sd_aload_n dL_law_1065)) <|
  TcG (sd_L (sd_aload_n dL_law_1066)) <|
  TcG (sd_L (sd_iload_n dL_law_1067)) <|
  TcG (sd_L (sd_iconst rfl dL_law_1068)) <|
  TcG (sd_L (sd_iadd dL_law_1069)) <|
  TcG (sd_sx hS dL_law_1070) <|
  TcG (sd_L (sd_cv (T := TX5) fok_X5_count mf_X5_count rfl w_ml_L_151 w_im_X5_count w_se_X5_count (by decide) dL_law_1071)) <|
  TcG (sd_L (sd_aload_n dL_law_1074)) <|
  TcG (sd_L (sd_aload_n dL_law_1075)) <|
  TcG (sd_L (sd_iload_n dL_law_1076)) <|
  TcG (sd_L (sd_iconst rfl dL_law_1077)) <|
  TcG (sd_L (sd_iadd dL_law_1078)) <|
  TcG (sd_sx hS dL_law_1079) <|
  TcG (sd_L (sd_cv (T := TX6) fok_X6_count mf_X6_count rfl w_ml_L_154 w_im_X6_count w_se_X6_count (by decide) dL_law_1080)) <|
  TcG (sd_L (sd_cm_eq (by decide) dL_law_1083)) <|
  TcG (sd_L (sd_iconst rfl dL_law_1086)) <|
  TcG (sd_L (sd_iinc dL_law_1088)) <|
  TcG (sd_L (sd_goto (by decide) dL_law_1091)) <|
  TcG (sd_L (sd_iconst rfl dL_law_1094)) <|
  TnG
def tb_L_law_5 (Ln : Nat) (xs : Nat → Int32) : List (Nat × TrA) := (856, tL (tAld 0 1)) :: (857, tL (tIld 3 1)) :: (858, tL (tIc 2 1)) :: (859, tL (tI2 (fun a b => a + b))) :: (860, tSx Ln xs) :: (861, tL (tCv 5 2 fn_X5_cross)) :: (864, tL (tAld 2 1)) :: (865, tL (tAld 0 1)) :: (866, tL (tIld 3 1)) :: (867, tL (tIc 1 1)) :: (868, tL (tI2 (fun a b => a + b))) :: (869, tSx Ln xs) :: (870, tL (tAld 0 1)) :: (871, tL (tIld 3 1)) :: (872, tL (tIc 2 1)) :: (873, tL (tI2 (fun a b => a + b))) :: (874, tSx Ln xs) :: (875, tL (tCv 6 2 fn_X6_cross)) :: (878, tL (tCmeq 1088)) :: (881, tL (tIc 0 1)) :: (883, tL (tAld 1 1)) :: (884, tL (tAld 0 1)) :: (885, tL (tIld 3 1)) :: (886, tL (tIc 1 1)) :: (887, tL (tI2 (fun a b => a + b))) :: (888, tSx Ln xs) :: (889, tL (tAld 0 1)) :: (890, tL (tIld 3 1)) :: (891, tL (tIc 2 1)) :: (892, tL (tI2 (fun a b => a + b))) :: (893, tSx Ln xs) :: (894, tL (tAld 0 1)) :: (895, tL (tIld 3 1)) :: (896, tL (tIc 3 1)) :: (897, tL (tI2 (fun a b => a + b))) :: (898, tSx Ln xs) :: (899, tL (tIfeq 906)) :: (902, tL (tIc 1 1)) :: (903, tL (tGo 907)) :: (906, tL (tIc 0 1)) :: (907, tL (tCv 5 3 fn_X5_drawer)) :: (910, tL (tAld 2 1)) :: (911, tL (tAld 0 1)) :: (912, tL (tIld 3 1)) :: (913, tL (tIc 1 1)) :: (914, tL (tI2 (fun a b => a + b))) :: (915, tSx Ln xs) :: (916, tL (tAld 0 1)) :: (917, tL (tIld 3 1)) :: (918, tL (tIc 2 1)) :: (919, tL (tI2 (fun a b => a + b))) :: (920, tSx Ln xs) :: (921, tL (tAld 0 1)) :: (922, tL (tIld 3 1)) :: (923, tL (tIc 3 1)) :: (924, tL (tI2 (fun a b => a + b))) :: (925, tSx Ln xs) :: (926, tL (tIfeq 933)) :: (929, tL (tIc 1 1)) :: (930, tL (tGo 934)) :: (933, tL (tIc 0 1)) :: (934, tL (tCv 6 3 fn_X6_drawer)) :: (937, tL (tCmeq 1088)) :: (940, tL (tIc 0 1)) :: (942, tL (tAld 1 1)) :: (943, tL (tAld 0 1)) :: (944, tL (tIld 3 1)) :: (945, tL (tIc 1 1)) :: (946, tL (tI2 (fun a b => a + b))) :: (947, tSx Ln xs) :: (948, tL tI2l) :: (949, tL (tIc 32 2)) :: (951, tL (tLs oLshl)) :: (952, tL (tAld 0 1)) :: (953, tL (tIld 3 1)) :: (954, tL (tIc 2 1)) :: (955, tL (tI2 (fun a b => a + b))) :: (956, tSx Ln xs) :: (957, tL tI2l) :: (958, tL (tLc 4294967295 3)) :: (961, tL (tL2 (fun a b => a &&& b))) :: (962, tL (tL2 (fun a b => a ||| b))) :: (963, tL (tCv 5 1 fn_X5_seed)) :: (966, tL (tAld 2 1)) :: (967, tL (tAld 0 1)) :: (968, tL (tIld 3 1)) :: (969, tL (tIc 1 1)) :: (970, tL (tI2 (fun a b => a + b))) :: (971, tSx Ln xs) :: (972, tL tI2l) :: (973, tL (tIc 32 2)) :: (975, tL (tLs oLshl)) :: (976, tL (tAld 0 1)) :: (977, tL (tIld 3 1)) :: (978, tL (tIc 2 1)) :: (979, tL (tI2 (fun a b => a + b))) :: (980, tSx Ln xs) :: (981, tL tI2l) :: (982, tL (tLc 4294967295 3)) :: (985, tL (tL2 (fun a b => a &&& b))) :: tb_L_law_6 Ln xs
theorem ok_L_law_5 {a : Am} {b Ln : Nat} {xs : Nat → Int32} (hS : aScr a b Ln xs) (nm : String) : TokG a (mi_L_law nm) (fun ad => ad 1030 = b) (tb_L_law_5 Ln xs) :=
  TcG (sd_L (sd_aload_n dL_law_856)) <|
  TcG (sd_L (sd_iload_n dL_law_857)) <|
  TcG (sd_L (sd_iconst rfl dL_law_858)) <|
  TcG (sd_L (sd_iadd dL_law_859)) <|
  TcG (sd_sx hS dL_law_860) <|
  TcG (sd_L (sd_cv (T := TX5) fok_X5_cross mf_X5_cross rfl w_ml_L_123 w_im_X5_cross w_se_X5_cross (by decide) dL_law_861)) <|
  TcG (sd_L (sd_aload_n dL_law_864)) <|
  TcG (sd_L (sd_aload_n dL_law_865)) <|
  TcG (sd_L (sd_iload_n dL_law_866)) <|
  TcG (sd_L (sd_iconst rfl dL_law_867)) <|
  TcG (sd_L (sd_iadd dL_law_868)) <|
  TcG (sd_sx hS dL_law_869) <|
  TcG (sd_L (sd_aload_n dL_law_870)) <|
  TcG (sd_L (sd_iload_n dL_law_871)) <|
  TcG (sd_L (sd_iconst rfl dL_law_872)) <|
  TcG (sd_L (sd_iadd dL_law_873)) <|
  TcG (sd_sx hS dL_law_874) <|
  TcG (sd_L (sd_cv (T := TX6) fok_X6_cross mf_X6_cross rfl w_ml_L_126 w_im_X6_cross w_se_X6_cross (by decide) dL_law_875)) <|
  TcG (sd_L (sd_cm_eq (by decide) dL_law_878)) <|
  TcG (sd_L (sd_iconst rfl dL_law_881)) <|
  TcG (sd_L (sd_aload_n dL_law_883)) <|
  TcG (sd_L (sd_aload_n dL_law_884)) <|
  TcG (sd_L (sd_iload_n dL_law_885)) <|
  TcG (sd_L (sd_iconst rfl dL_law_886)) <|
  TcG (sd_L (sd_iadd dL_law_887)) <|
  TcG (sd_sx hS dL_law_888) <|
  TcG (sd_L (sd_aload_n dL_law_889)) <|
  TcG (sd_L (sd_iload_n dL_law_890)) <|
  TcG (sd_L (sd_iconst rfl dL_law_891)) <|
  TcG (sd_L (sd_iadd dL_law_892)) <|
  TcG (sd_sx hS dL_law_893) <|
  TcG (sd_L (sd_aload_n dL_law_894)) <|
  TcG (sd_L (sd_iload_n dL_law_895)) <|
  TcG (sd_L (sd_iconst rfl dL_law_896)) <|
  TcG (sd_L (sd_iadd dL_law_897)) <|
  TcG (sd_sx hS dL_law_898) <|
  TcG (sd_L (sd_if_eq (by decide) dL_law_899)) <|
  TcG (sd_L (sd_iconst rfl dL_law_902)) <|
  TcG (sd_L (sd_goto (by decide) dL_law_903)) <|
  TcG (sd_L (sd_iconst rfl dL_law_906)) <|
  TcG (sd_L (sd_cv (T := TX5) fok_X5_drawer mf_X5_drawer rfl w_ml_L_127 w_im_X5_drawer w_se_X5_drawer (by decide) dL_law_907)) <|
  TcG (sd_L (sd_aload_n dL_law_910)) <|
  TcG (sd_L (sd_aload_n dL_law_911)) <|
  TcG (sd_L (sd_iload_n dL_law_912)) <|
  TcG (sd_L (sd_iconst rfl dL_law_913)) <|
  TcG (sd_L (sd_iadd dL_law_914)) <|
  TcG (sd_sx hS dL_law_915) <|
  TcG (sd_L (sd_aload_n dL_law_916)) <|
  TcG (sd_L (sd_iload_n dL_law_917)) <|
  TcG (sd_L (sd_iconst rfl dL_law_918)) <|
  TcG (sd_L (sd_iadd dL_law_919)) <|
  TcG (sd_sx hS dL_law_920) <|
  TcG (sd_L (sd_aload_n dL_law_921)) <|
  TcG (sd_L (sd_iload_n dL_law_922)) <|
  TcG (sd_L (sd_iconst rfl dL_law_923)) <|
  TcG (sd_L (sd_iadd dL_law_924)) <|
  TcG (sd_sx hS dL_law_925) <|
  TcG (sd_L (sd_if_eq (by decide) dL_law_926)) <|
  TcG (sd_L (sd_iconst rfl dL_law_929)) <|
  TcG (sd_L (sd_goto (by decide) dL_law_930)) <|
  TcG (sd_L (sd_iconst rfl dL_law_933)) <|
  TcG (sd_L (sd_cv (T := TX6) fok_X6_drawer mf_X6_drawer rfl w_ml_L_131 w_im_X6_drawer w_se_X6_drawer (by decide) dL_law_934)) <|
  TcG (sd_L (sd_cm_eq (by decide) dL_law_937)) <|
  TcG (sd_L (sd_iconst rfl dL_law_940)) <|
  TcG (sd_L (sd_aload_n dL_law_942)) <|
  TcG (sd_L (sd_aload_n dL_law_943)) <|
  TcG (sd_L (sd_iload_n dL_law_944)) <|
  TcG (sd_L (sd_iconst rfl dL_law_945)) <|
  TcG (sd_L (sd_iadd dL_law_946)) <|
  TcG (sd_sx hS dL_law_947) <|
  TcG (sd_L (sd_i2l dL_law_948)) <|
  TcG (sd_L (sd_bipush (by decide +kernel) dL_law_949)) <|
  TcG (sd_L (sd_lshl dL_law_951)) <|
  TcG (sd_L (sd_aload_n dL_law_952)) <|
  TcG (sd_L (sd_iload_n dL_law_953)) <|
  TcG (sd_L (sd_iconst rfl dL_law_954)) <|
  TcG (sd_L (sd_iadd dL_law_955)) <|
  TcG (sd_sx hS dL_law_956) <|
  TcG (sd_L (sd_i2l dL_law_957)) <|
  TcG (sd_L (sd_ldc2 w_cl_L_132 dL_law_958)) <|
  TcG (sd_L (sd_land dL_law_961)) <|
  TcG (sd_L (sd_lor dL_law_962)) <|
  TcG (sd_L (sd_cv (T := TX5) fok_X5_seed mf_X5_seed rfl w_ml_L_134 w_im_X5_seed w_se_X5_seed (by decide) dL_law_963)) <|
  TcG (sd_L (sd_aload_n dL_law_966)) <|
  TcG (sd_L (sd_aload_n dL_law_967)) <|
  TcG (sd_L (sd_iload_n dL_law_968)) <|
  TcG (sd_L (sd_iconst rfl dL_law_969)) <|
  TcG (sd_L (sd_iadd dL_law_970)) <|
  TcG (sd_sx hS dL_law_971) <|
  TcG (sd_L (sd_i2l dL_law_972)) <|
  TcG (sd_L (sd_bipush (by decide +kernel) dL_law_973)) <|
  TcG (sd_L (sd_lshl dL_law_975)) <|
  TcG (sd_L (sd_aload_n dL_law_976)) <|
  TcG (sd_L (sd_iload_n dL_law_977)) <|
  TcG (sd_L (sd_iconst rfl dL_law_978)) <|
  TcG (sd_L (sd_iadd dL_law_979)) <|
  TcG (sd_sx hS dL_law_980) <|
  TcG (sd_L (sd_i2l dL_law_981)) <|
  TcG (sd_L (sd_ldc2 w_cl_L_132 dL_law_982)) <|
  TcG (sd_L (sd_land dL_law_985)) <|
  ok_L_law_6 hS nm
def tb_L_law_4 (Ln : Nat) (xs : Nat → Int32) : List (Nat × TrA) := (719, tL (tAld 1 1)) :: (720, tL (tAld 0 1)) :: (721, tL (tIld 3 1)) :: (722, tL (tIc 1 1)) :: (723, tL (tI2 (fun a b => a + b))) :: (724, tSx Ln xs) :: (725, tL (tAld 0 1)) :: (726, tL (tIld 3 1)) :: (727, tL (tIc 2 1)) :: (728, tL (tI2 (fun a b => a + b))) :: (729, tSx Ln xs) :: (730, tL (tIfeq 737)) :: (733, tL (tIc 1 1)) :: (734, tL (tGo 738)) :: (737, tL (tIc 0 1)) :: (738, tL (tCv 5 2 fn_X5_likely)) :: (741, tL (tAld 2 1)) :: (742, tL (tAld 0 1)) :: (743, tL (tIld 3 1)) :: (744, tL (tIc 1 1)) :: (745, tL (tI2 (fun a b => a + b))) :: (746, tSx Ln xs) :: (747, tL (tAld 0 1)) :: (748, tL (tIld 3 1)) :: (749, tL (tIc 2 1)) :: (750, tL (tI2 (fun a b => a + b))) :: (751, tSx Ln xs) :: (752, tL (tIfeq 759)) :: (755, tL (tIc 1 1)) :: (756, tL (tGo 760)) :: (759, tL (tIc 0 1)) :: (760, tL (tCv 6 2 fn_X6_likely)) :: (763, tL (tCmeq 1088)) :: (766, tL (tIc 0 1)) :: (768, tL (tAld 1 1)) :: (769, tL (tAld 0 1)) :: (770, tL (tIld 3 1)) :: (771, tL (tIc 1 1)) :: (772, tL (tI2 (fun a b => a + b))) :: (773, tSx Ln xs) :: (774, tL (tIfeq 781)) :: (777, tL (tIc 1 1)) :: (778, tL (tGo 782)) :: (781, tL (tIc 0 1)) :: (782, tL (tCv 5 1 fn_X5_tries)) :: (785, tL (tAld 2 1)) :: (786, tL (tAld 0 1)) :: (787, tL (tIld 3 1)) :: (788, tL (tIc 1 1)) :: (789, tL (tI2 (fun a b => a + b))) :: (790, tSx Ln xs) :: (791, tL (tIfeq 798)) :: (794, tL (tIc 1 1)) :: (795, tL (tGo 799)) :: (798, tL (tIc 0 1)) :: (799, tL (tCv 6 1 fn_X6_tries)) :: (802, tL (tCmeq 1088)) :: (805, tL (tIc 0 1)) :: (807, tL (tAld 1 1)) :: (808, tL (tAld 0 1)) :: (809, tL (tIld 3 1)) :: (810, tL (tIc 1 1)) :: (811, tL (tI2 (fun a b => a + b))) :: (812, tSx Ln xs) :: (813, tL (tAld 0 1)) :: (814, tL (tIld 3 1)) :: (815, tL (tIc 2 1)) :: (816, tL (tI2 (fun a b => a + b))) :: (817, tSx Ln xs) :: (818, tL (tAld 0 1)) :: (819, tL (tIld 3 1)) :: (820, tL (tIc 3 1)) :: (821, tL (tI2 (fun a b => a + b))) :: (822, tSx Ln xs) :: (823, tL (tCv 5 3 fn_X5_drum)) :: (826, tL (tAld 2 1)) :: (827, tL (tAld 0 1)) :: (828, tL (tIld 3 1)) :: (829, tL (tIc 1 1)) :: (830, tL (tI2 (fun a b => a + b))) :: (831, tSx Ln xs) :: (832, tL (tAld 0 1)) :: (833, tL (tIld 3 1)) :: (834, tL (tIc 2 1)) :: (835, tL (tI2 (fun a b => a + b))) :: (836, tSx Ln xs) :: (837, tL (tAld 0 1)) :: (838, tL (tIld 3 1)) :: (839, tL (tIc 3 1)) :: (840, tL (tI2 (fun a b => a + b))) :: (841, tSx Ln xs) :: (842, tL (tCv 6 3 fn_X6_drum)) :: (845, tL (tCmeq 1088)) :: (848, tL (tIc 0 1)) :: (850, tL (tAld 1 1)) :: (851, tL (tAld 0 1)) :: (852, tL (tIld 3 1)) :: (853, tL (tIc 1 1)) :: (854, tL (tI2 (fun a b => a + b))) :: (855, tSx Ln xs) :: tb_L_law_5 Ln xs
theorem ok_L_law_4 {a : Am} {b Ln : Nat} {xs : Nat → Int32} (hS : aScr a b Ln xs) (nm : String) : TokG a (mi_L_law nm) (fun ad => ad 1030 = b) (tb_L_law_4 Ln xs) :=
  TcG (sd_L (sd_aload_n dL_law_719)) <|
  TcG (sd_L (sd_aload_n dL_law_720)) <|
  TcG (sd_L (sd_iload_n dL_law_721)) <|
  TcG (sd_L (sd_iconst rfl dL_law_722)) <|
  TcG (sd_L (sd_iadd dL_law_723)) <|
  TcG (sd_sx hS dL_law_724) <|
  TcG (sd_L (sd_aload_n dL_law_725)) <|
  TcG (sd_L (sd_iload_n dL_law_726)) <|
  TcG (sd_L (sd_iconst rfl dL_law_727)) <|
  TcG (sd_L (sd_iadd dL_law_728)) <|
  TcG (sd_sx hS dL_law_729) <|
  TcG (sd_L (sd_if_eq (by decide) dL_law_730)) <|
  TcG (sd_L (sd_iconst rfl dL_law_733)) <|
  TcG (sd_L (sd_goto (by decide) dL_law_734)) <|
  TcG (sd_L (sd_iconst rfl dL_law_737)) <|
  TcG (sd_L (sd_cv (T := TX5) fok_X5_likely mf_X5_likely rfl w_ml_L_108 w_im_X5_likely w_se_X5_likely (by decide) dL_law_738)) <|
  TcG (sd_L (sd_aload_n dL_law_741)) <|
  TcG (sd_L (sd_aload_n dL_law_742)) <|
  TcG (sd_L (sd_iload_n dL_law_743)) <|
  TcG (sd_L (sd_iconst rfl dL_law_744)) <|
  TcG (sd_L (sd_iadd dL_law_745)) <|
  TcG (sd_sx hS dL_law_746) <|
  TcG (sd_L (sd_aload_n dL_law_747)) <|
  TcG (sd_L (sd_iload_n dL_law_748)) <|
  TcG (sd_L (sd_iconst rfl dL_law_749)) <|
  TcG (sd_L (sd_iadd dL_law_750)) <|
  TcG (sd_sx hS dL_law_751) <|
  TcG (sd_L (sd_if_eq (by decide) dL_law_752)) <|
  TcG (sd_L (sd_iconst rfl dL_law_755)) <|
  TcG (sd_L (sd_goto (by decide) dL_law_756)) <|
  TcG (sd_L (sd_iconst rfl dL_law_759)) <|
  TcG (sd_L (sd_cv (T := TX6) fok_X6_likely mf_X6_likely rfl w_ml_L_112 w_im_X6_likely w_se_X6_likely (by decide) dL_law_760)) <|
  TcG (sd_L (sd_cm_eq (by decide) dL_law_763)) <|
  TcG (sd_L (sd_iconst rfl dL_law_766)) <|
  TcG (sd_L (sd_aload_n dL_law_768)) <|
  TcG (sd_L (sd_aload_n dL_law_769)) <|
  TcG (sd_L (sd_iload_n dL_law_770)) <|
  TcG (sd_L (sd_iconst rfl dL_law_771)) <|
  TcG (sd_L (sd_iadd dL_law_772)) <|
  TcG (sd_sx hS dL_law_773) <|
  TcG (sd_L (sd_if_eq (by decide) dL_law_774)) <|
  TcG (sd_L (sd_iconst rfl dL_law_777)) <|
  TcG (sd_L (sd_goto (by decide) dL_law_778)) <|
  TcG (sd_L (sd_iconst rfl dL_law_781)) <|
  TcG (sd_L (sd_cv (T := TX5) fok_X5_tries mf_X5_tries rfl w_ml_L_113 w_im_X5_tries w_se_X5_tries (by decide) dL_law_782)) <|
  TcG (sd_L (sd_aload_n dL_law_785)) <|
  TcG (sd_L (sd_aload_n dL_law_786)) <|
  TcG (sd_L (sd_iload_n dL_law_787)) <|
  TcG (sd_L (sd_iconst rfl dL_law_788)) <|
  TcG (sd_L (sd_iadd dL_law_789)) <|
  TcG (sd_sx hS dL_law_790) <|
  TcG (sd_L (sd_if_eq (by decide) dL_law_791)) <|
  TcG (sd_L (sd_iconst rfl dL_law_794)) <|
  TcG (sd_L (sd_goto (by decide) dL_law_795)) <|
  TcG (sd_L (sd_iconst rfl dL_law_798)) <|
  TcG (sd_L (sd_cv (T := TX6) fok_X6_tries mf_X6_tries rfl w_ml_L_117 w_im_X6_tries w_se_X6_tries (by decide) dL_law_799)) <|
  TcG (sd_L (sd_cm_eq (by decide) dL_law_802)) <|
  TcG (sd_L (sd_iconst rfl dL_law_805)) <|
  TcG (sd_L (sd_aload_n dL_law_807)) <|
  TcG (sd_L (sd_aload_n dL_law_808)) <|
  TcG (sd_L (sd_iload_n dL_law_809)) <|
  TcG (sd_L (sd_iconst rfl dL_law_810)) <|
  TcG (sd_L (sd_iadd dL_law_811)) <|
  TcG (sd_sx hS dL_law_812) <|
  TcG (sd_L (sd_aload_n dL_law_813)) <|
  TcG (sd_L (sd_iload_n dL_law_814)) <|
  TcG (sd_L (sd_iconst rfl dL_law_815)) <|
  TcG (sd_L (sd_iadd dL_law_816)) <|
  TcG (sd_sx hS dL_law_817) <|
  TcG (sd_L (sd_aload_n dL_law_818)) <|
  TcG (sd_L (sd_iload_n dL_law_819)) <|
  TcG (sd_L (sd_iconst rfl dL_law_820)) <|
  TcG (sd_L (sd_iadd dL_law_821)) <|
  TcG (sd_sx hS dL_law_822) <|
  TcG (sd_L (sd_cv (T := TX5) fok_X5_drum mf_X5_drum rfl w_ml_L_118 w_im_X5_drum w_se_X5_drum (by decide) dL_law_823)) <|
  TcG (sd_L (sd_aload_n dL_law_826)) <|
  TcG (sd_L (sd_aload_n dL_law_827)) <|
  TcG (sd_L (sd_iload_n dL_law_828)) <|
  TcG (sd_L (sd_iconst rfl dL_law_829)) <|
  TcG (sd_L (sd_iadd dL_law_830)) <|
  TcG (sd_sx hS dL_law_831) <|
  TcG (sd_L (sd_aload_n dL_law_832)) <|
  TcG (sd_L (sd_iload_n dL_law_833)) <|
  TcG (sd_L (sd_iconst rfl dL_law_834)) <|
  TcG (sd_L (sd_iadd dL_law_835)) <|
  TcG (sd_sx hS dL_law_836) <|
  TcG (sd_L (sd_aload_n dL_law_837)) <|
  TcG (sd_L (sd_iload_n dL_law_838)) <|
  TcG (sd_L (sd_iconst rfl dL_law_839)) <|
  TcG (sd_L (sd_iadd dL_law_840)) <|
  TcG (sd_sx hS dL_law_841) <|
  TcG (sd_L (sd_cv (T := TX6) fok_X6_drum mf_X6_drum rfl w_ml_L_122 w_im_X6_drum w_se_X6_drum (by decide) dL_law_842)) <|
  TcG (sd_L (sd_cm_eq (by decide) dL_law_845)) <|
  TcG (sd_L (sd_iconst rfl dL_law_848)) <|
  TcG (sd_L (sd_aload_n dL_law_850)) <|
  TcG (sd_L (sd_aload_n dL_law_851)) <|
  TcG (sd_L (sd_iload_n dL_law_852)) <|
  TcG (sd_L (sd_iconst rfl dL_law_853)) <|
  TcG (sd_L (sd_iadd dL_law_854)) <|
  TcG (sd_sx hS dL_law_855) <|
  ok_L_law_5 hS nm
def tb_L_law_3 (Ln : Nat) (xs : Nat → Int32) : List (Nat × TrA) := (579, tL (tI2 (fun a b => a + b))) :: (580, tSx Ln xs) :: (581, tL (tAld 0 1)) :: (582, tL (tIld 3 1)) :: (583, tL (tIc 2 1)) :: (584, tL (tI2 (fun a b => a + b))) :: (585, tSx Ln xs) :: (586, tL (tCv 6 2 fn_X6_fewestAt)) :: (589, tL (tCmeq 1088)) :: (592, tL (tIc 0 1)) :: (594, tL (tAld 1 1)) :: (595, tL (tAld 0 1)) :: (596, tL (tIld 3 1)) :: (597, tL (tIc 1 1)) :: (598, tL (tI2 (fun a b => a + b))) :: (599, tSx Ln xs) :: (600, tCva 5 1 fn_X5_byTwo) :: (603, tL (tAld 2 1)) :: (604, tL (tAld 0 1)) :: (605, tL (tIld 3 1)) :: (606, tL (tIc 1 1)) :: (607, tL (tI2 (fun a b => a + b))) :: (608, tSx Ln xs) :: (609, tL (tCv 6 1 fn_X6_byTwo)) :: (612, tL (tCmeq 1088)) :: (615, tL (tIc 0 1)) :: (617, tL (tAld 1 1)) :: (618, tL (tAld 0 1)) :: (619, tL (tIld 3 1)) :: (620, tL (tIc 1 1)) :: (621, tL (tI2 (fun a b => a + b))) :: (622, tSx Ln xs) :: (623, tL (tAld 0 1)) :: (624, tL (tIld 3 1)) :: (625, tL (tIc 2 1)) :: (626, tL (tI2 (fun a b => a + b))) :: (627, tSx Ln xs) :: (628, tL (tCv 5 2 fn_X5_orders)) :: (631, tL (tAld 2 1)) :: (632, tL (tAld 0 1)) :: (633, tL (tIld 3 1)) :: (634, tL (tIc 1 1)) :: (635, tL (tI2 (fun a b => a + b))) :: (636, tSx Ln xs) :: (637, tL (tAld 0 1)) :: (638, tL (tIld 3 1)) :: (639, tL (tIc 2 1)) :: (640, tL (tI2 (fun a b => a + b))) :: (641, tSx Ln xs) :: (642, tL (tCv 6 2 fn_X6_orders)) :: (645, tL (tCmeq 1088)) :: (648, tL (tIc 0 1)) :: (650, tL (tAld 1 1)) :: (651, tL (tAld 0 1)) :: (652, tL (tIld 3 1)) :: (653, tL (tIc 1 1)) :: (654, tL (tI2 (fun a b => a + b))) :: (655, tSx Ln xs) :: (656, tL (tCv 5 1 fn_X5_creases)) :: (659, tL (tAld 2 1)) :: (660, tL (tAld 0 1)) :: (661, tL (tIld 3 1)) :: (662, tL (tIc 1 1)) :: (663, tL (tI2 (fun a b => a + b))) :: (664, tSx Ln xs) :: (665, tL (tCv 6 1 fn_X6_creases)) :: (668, tL (tCmeq 1088)) :: (671, tL (tIc 0 1)) :: (673, tL (tAld 1 1)) :: (674, tL (tAld 0 1)) :: (675, tL (tIld 3 1)) :: (676, tL (tIc 1 1)) :: (677, tL (tI2 (fun a b => a + b))) :: (678, tSx Ln xs) :: (679, tL (tCv 5 1 fn_X5_bending)) :: (682, tL (tAld 2 1)) :: (683, tL (tAld 0 1)) :: (684, tL (tIld 3 1)) :: (685, tL (tIc 1 1)) :: (686, tL (tI2 (fun a b => a + b))) :: (687, tSx Ln xs) :: (688, tL (tCv 6 1 fn_X6_bending)) :: (691, tL (tCmeq 1088)) :: (694, tL (tIc 0 1)) :: (696, tL (tAld 1 1)) :: (697, tL (tAld 0 1)) :: (698, tL (tIld 3 1)) :: (699, tL (tIc 1 1)) :: (700, tL (tI2 (fun a b => a + b))) :: (701, tSx Ln xs) :: (702, tL (tCv 5 1 fn_X5_washes)) :: (705, tL (tAld 2 1)) :: (706, tL (tAld 0 1)) :: (707, tL (tIld 3 1)) :: (708, tL (tIc 1 1)) :: (709, tL (tI2 (fun a b => a + b))) :: (710, tSx Ln xs) :: (711, tL (tCv 6 1 fn_X6_washes)) :: (714, tL (tCmeq 1088)) :: (717, tL (tIc 0 1)) :: tb_L_law_4 Ln xs
theorem ok_L_law_3 {a : Am} {b Ln : Nat} {xs : Nat → Int32} (hS : aScr a b Ln xs) (nm : String) : TokG a (mi_L_law nm) (fun ad => ad 1030 = b) (tb_L_law_3 Ln xs) :=
  TcG (sd_L (sd_iadd dL_law_579)) <|
  TcG (sd_sx hS dL_law_580) <|
  TcG (sd_L (sd_aload_n dL_law_581)) <|
  TcG (sd_L (sd_iload_n dL_law_582)) <|
  TcG (sd_L (sd_iconst rfl dL_law_583)) <|
  TcG (sd_L (sd_iadd dL_law_584)) <|
  TcG (sd_sx hS dL_law_585) <|
  TcG (sd_L (sd_cv (T := TX6) fok_X6_fewestAt mf_X6_fewestAt rfl w_ml_L_87 w_im_X6_fewestAt w_se_X6_fewestAt (by decide) dL_law_586)) <|
  TcG (sd_L (sd_cm_eq (by decide) dL_law_589)) <|
  TcG (sd_L (sd_iconst rfl dL_law_592)) <|
  TcG (sd_L (sd_aload_n dL_law_594)) <|
  TcG (sd_L (sd_aload_n dL_law_595)) <|
  TcG (sd_L (sd_iload_n dL_law_596)) <|
  TcG (sd_L (sd_iconst rfl dL_law_597)) <|
  TcG (sd_L (sd_iadd dL_law_598)) <|
  TcG (sd_sx hS dL_law_599) <|
  TcG (sd_cva (T := TX5) fok_X5_byTwo mf_X5_byTwo rfl w_ml_L_88 w_im_X5_byTwo w_se_X5_byTwo (by decide) dL_law_600) <|
  TcG (sd_L (sd_aload_n dL_law_603)) <|
  TcG (sd_L (sd_aload_n dL_law_604)) <|
  TcG (sd_L (sd_iload_n dL_law_605)) <|
  TcG (sd_L (sd_iconst rfl dL_law_606)) <|
  TcG (sd_L (sd_iadd dL_law_607)) <|
  TcG (sd_sx hS dL_law_608) <|
  TcG (sd_L (sd_cv (T := TX6) fok_X6_byTwo mf_X6_byTwo rfl w_ml_L_91 w_im_X6_byTwo w_se_X6_byTwo (by decide) dL_law_609)) <|
  TcG (sd_L (sd_cm_eq (by decide) dL_law_612)) <|
  TcG (sd_L (sd_iconst rfl dL_law_615)) <|
  TcG (sd_L (sd_aload_n dL_law_617)) <|
  TcG (sd_L (sd_aload_n dL_law_618)) <|
  TcG (sd_L (sd_iload_n dL_law_619)) <|
  TcG (sd_L (sd_iconst rfl dL_law_620)) <|
  TcG (sd_L (sd_iadd dL_law_621)) <|
  TcG (sd_sx hS dL_law_622) <|
  TcG (sd_L (sd_aload_n dL_law_623)) <|
  TcG (sd_L (sd_iload_n dL_law_624)) <|
  TcG (sd_L (sd_iconst rfl dL_law_625)) <|
  TcG (sd_L (sd_iadd dL_law_626)) <|
  TcG (sd_sx hS dL_law_627) <|
  TcG (sd_L (sd_cv (T := TX5) fok_X5_orders mf_X5_orders rfl w_ml_L_92 w_im_X5_orders w_se_X5_orders (by decide) dL_law_628)) <|
  TcG (sd_L (sd_aload_n dL_law_631)) <|
  TcG (sd_L (sd_aload_n dL_law_632)) <|
  TcG (sd_L (sd_iload_n dL_law_633)) <|
  TcG (sd_L (sd_iconst rfl dL_law_634)) <|
  TcG (sd_L (sd_iadd dL_law_635)) <|
  TcG (sd_sx hS dL_law_636) <|
  TcG (sd_L (sd_aload_n dL_law_637)) <|
  TcG (sd_L (sd_iload_n dL_law_638)) <|
  TcG (sd_L (sd_iconst rfl dL_law_639)) <|
  TcG (sd_L (sd_iadd dL_law_640)) <|
  TcG (sd_sx hS dL_law_641) <|
  TcG (sd_L (sd_cv (T := TX6) fok_X6_orders mf_X6_orders rfl w_ml_L_95 w_im_X6_orders w_se_X6_orders (by decide) dL_law_642)) <|
  TcG (sd_L (sd_cm_eq (by decide) dL_law_645)) <|
  TcG (sd_L (sd_iconst rfl dL_law_648)) <|
  TcG (sd_L (sd_aload_n dL_law_650)) <|
  TcG (sd_L (sd_aload_n dL_law_651)) <|
  TcG (sd_L (sd_iload_n dL_law_652)) <|
  TcG (sd_L (sd_iconst rfl dL_law_653)) <|
  TcG (sd_L (sd_iadd dL_law_654)) <|
  TcG (sd_sx hS dL_law_655) <|
  TcG (sd_L (sd_cv (T := TX5) fok_X5_creases mf_X5_creases rfl w_ml_L_96 w_im_X5_creases w_se_X5_creases (by decide) dL_law_656)) <|
  TcG (sd_L (sd_aload_n dL_law_659)) <|
  TcG (sd_L (sd_aload_n dL_law_660)) <|
  TcG (sd_L (sd_iload_n dL_law_661)) <|
  TcG (sd_L (sd_iconst rfl dL_law_662)) <|
  TcG (sd_L (sd_iadd dL_law_663)) <|
  TcG (sd_sx hS dL_law_664) <|
  TcG (sd_L (sd_cv (T := TX6) fok_X6_creases mf_X6_creases rfl w_ml_L_99 w_im_X6_creases w_se_X6_creases (by decide) dL_law_665)) <|
  TcG (sd_L (sd_cm_eq (by decide) dL_law_668)) <|
  TcG (sd_L (sd_iconst rfl dL_law_671)) <|
  TcG (sd_L (sd_aload_n dL_law_673)) <|
  TcG (sd_L (sd_aload_n dL_law_674)) <|
  TcG (sd_L (sd_iload_n dL_law_675)) <|
  TcG (sd_L (sd_iconst rfl dL_law_676)) <|
  TcG (sd_L (sd_iadd dL_law_677)) <|
  TcG (sd_sx hS dL_law_678) <|
  TcG (sd_L (sd_cv (T := TX5) fok_X5_bending mf_X5_bending rfl w_ml_L_100 w_im_X5_bending w_se_X5_bending (by decide) dL_law_679)) <|
  TcG (sd_L (sd_aload_n dL_law_682)) <|
  TcG (sd_L (sd_aload_n dL_law_683)) <|
  TcG (sd_L (sd_iload_n dL_law_684)) <|
  TcG (sd_L (sd_iconst rfl dL_law_685)) <|
  TcG (sd_L (sd_iadd dL_law_686)) <|
  TcG (sd_sx hS dL_law_687) <|
  TcG (sd_L (sd_cv (T := TX6) fok_X6_bending mf_X6_bending rfl w_ml_L_103 w_im_X6_bending w_se_X6_bending (by decide) dL_law_688)) <|
  TcG (sd_L (sd_cm_eq (by decide) dL_law_691)) <|
  TcG (sd_L (sd_iconst rfl dL_law_694)) <|
  TcG (sd_L (sd_aload_n dL_law_696)) <|
  TcG (sd_L (sd_aload_n dL_law_697)) <|
  TcG (sd_L (sd_iload_n dL_law_698)) <|
  TcG (sd_L (sd_iconst rfl dL_law_699)) <|
  TcG (sd_L (sd_iadd dL_law_700)) <|
  TcG (sd_sx hS dL_law_701) <|
  TcG (sd_L (sd_cv (T := TX5) fok_X5_washes mf_X5_washes rfl w_ml_L_104 w_im_X5_washes w_se_X5_washes (by decide) dL_law_702)) <|
  TcG (sd_L (sd_aload_n dL_law_705)) <|
  TcG (sd_L (sd_aload_n dL_law_706)) <|
  TcG (sd_L (sd_iload_n dL_law_707)) <|
  TcG (sd_L (sd_iconst rfl dL_law_708)) <|
  TcG (sd_L (sd_iadd dL_law_709)) <|
  TcG (sd_sx hS dL_law_710) <|
  TcG (sd_L (sd_cv (T := TX6) fok_X6_washes mf_X6_washes rfl w_ml_L_107 w_im_X6_washes w_se_X6_washes (by decide) dL_law_711)) <|
  TcG (sd_L (sd_cm_eq (by decide) dL_law_714)) <|
  TcG (sd_L (sd_iconst rfl dL_law_717)) <|
  ok_L_law_4 hS nm
def tb_L_law_2 (Ln : Nat) (xs : Nat → Int32) : List (Nat × TrA) := (437, tL (tAld 2 1)) :: (438, tL (tCv 6 0 fn_X6_undo)) :: (441, tL (tCmeq 1088)) :: (444, tL (tIc 0 1)) :: (446, tL (tAld 1 1)) :: (447, tL (tAld 0 1)) :: (448, tL (tIld 3 1)) :: (449, tL (tIc 1 1)) :: (450, tL (tI2 (fun a b => a + b))) :: (451, tSx Ln xs) :: (452, tL (tAld 0 1)) :: (453, tL (tIld 3 1)) :: (454, tL (tIc 2 1)) :: (455, tL (tI2 (fun a b => a + b))) :: (456, tSx Ln xs) :: (457, tL (tCv 5 2 fn_X5_judge)) :: (460, tL (tAld 2 1)) :: (461, tL (tAld 0 1)) :: (462, tL (tIld 3 1)) :: (463, tL (tIc 1 1)) :: (464, tL (tI2 (fun a b => a + b))) :: (465, tSx Ln xs) :: (466, tL (tAld 0 1)) :: (467, tL (tIld 3 1)) :: (468, tL (tIc 2 1)) :: (469, tL (tI2 (fun a b => a + b))) :: (470, tSx Ln xs) :: (471, tL (tCv 6 2 fn_X6_judge)) :: (474, tL (tCmeq 1088)) :: (477, tL (tIc 0 1)) :: (479, tL (tAld 1 1)) :: (480, tL (tAld 0 1)) :: (481, tL (tIld 3 1)) :: (482, tL (tIc 1 1)) :: (483, tL (tI2 (fun a b => a + b))) :: (484, tSx Ln xs) :: (485, tL (tCv 5 1 fn_X5_rows)) :: (488, tL (tAld 2 1)) :: (489, tL (tAld 0 1)) :: (490, tL (tIld 3 1)) :: (491, tL (tIc 1 1)) :: (492, tL (tI2 (fun a b => a + b))) :: (493, tSx Ln xs) :: (494, tL (tCv 6 1 fn_X6_rows)) :: (497, tL (tCmeq 1088)) :: (500, tL (tIc 0 1)) :: (502, tL (tAld 1 1)) :: (503, tL (tAld 0 1)) :: (504, tL (tIld 3 1)) :: (505, tL (tIc 1 1)) :: (506, tL (tI2 (fun a b => a + b))) :: (507, tSx Ln xs) :: (508, tL (tCv 5 1 fn_X5_rowOf)) :: (511, tL (tAld 2 1)) :: (512, tL (tAld 0 1)) :: (513, tL (tIld 3 1)) :: (514, tL (tIc 1 1)) :: (515, tL (tI2 (fun a b => a + b))) :: (516, tSx Ln xs) :: (517, tL (tCv 6 1 fn_X6_rowOf)) :: (520, tL (tCmeq 1088)) :: (523, tL (tIc 0 1)) :: (525, tL (tAld 1 1)) :: (526, tL (tCv 5 0 fn_X5_deepest)) :: (529, tL (tAld 2 1)) :: (530, tL (tCv 6 0 fn_X6_deepest)) :: (533, tL (tCmeq 1088)) :: (536, tL (tIc 0 1)) :: (538, tL (tAld 1 1)) :: (539, tL (tAld 0 1)) :: (540, tL (tIld 3 1)) :: (541, tL (tIc 1 1)) :: (542, tL (tI2 (fun a b => a + b))) :: (543, tSx Ln xs) :: (544, tCva 5 1 fn_X5_fewest) :: (547, tL (tAld 2 1)) :: (548, tL (tAld 0 1)) :: (549, tL (tIld 3 1)) :: (550, tL (tIc 1 1)) :: (551, tL (tI2 (fun a b => a + b))) :: (552, tSx Ln xs) :: (553, tL (tCv 6 1 fn_X6_fewest)) :: (556, tL (tCmeq 1088)) :: (559, tL (tIc 0 1)) :: (561, tL (tAld 1 1)) :: (562, tL (tAld 0 1)) :: (563, tL (tIld 3 1)) :: (564, tL (tIc 1 1)) :: (565, tL (tI2 (fun a b => a + b))) :: (566, tSx Ln xs) :: (567, tL (tAld 0 1)) :: (568, tL (tIld 3 1)) :: (569, tL (tIc 2 1)) :: (570, tL (tI2 (fun a b => a + b))) :: (571, tSx Ln xs) :: (572, tCva 5 2 fn_X5_fewestAt) :: (575, tL (tAld 2 1)) :: (576, tL (tAld 0 1)) :: (577, tL (tIld 3 1)) :: (578, tL (tIc 1 1)) :: tb_L_law_3 Ln xs
theorem ok_L_law_2 {a : Am} {b Ln : Nat} {xs : Nat → Int32} (hS : aScr a b Ln xs) (nm : String) : TokG a (mi_L_law nm) (fun ad => ad 1030 = b) (tb_L_law_2 Ln xs) :=
  TcG (sd_L (sd_aload_n dL_law_437)) <|
  TcG (sd_L (sd_cv (T := TX6) fok_X6_undo mf_X6_undo rfl w_ml_L_63 w_im_X6_undo w_se_X6_undo (by decide) dL_law_438)) <|
  TcG (sd_L (sd_cm_eq (by decide) dL_law_441)) <|
  TcG (sd_L (sd_iconst rfl dL_law_444)) <|
  TcG (sd_L (sd_aload_n dL_law_446)) <|
  TcG (sd_L (sd_aload_n dL_law_447)) <|
  TcG (sd_L (sd_iload_n dL_law_448)) <|
  TcG (sd_L (sd_iconst rfl dL_law_449)) <|
  TcG (sd_L (sd_iadd dL_law_450)) <|
  TcG (sd_sx hS dL_law_451) <|
  TcG (sd_L (sd_aload_n dL_law_452)) <|
  TcG (sd_L (sd_iload_n dL_law_453)) <|
  TcG (sd_L (sd_iconst rfl dL_law_454)) <|
  TcG (sd_L (sd_iadd dL_law_455)) <|
  TcG (sd_sx hS dL_law_456) <|
  TcG (sd_L (sd_cv (T := TX5) fok_X5_judge mf_X5_judge rfl w_ml_L_64 w_im_X5_judge w_se_X5_judge (by decide) dL_law_457)) <|
  TcG (sd_L (sd_aload_n dL_law_460)) <|
  TcG (sd_L (sd_aload_n dL_law_461)) <|
  TcG (sd_L (sd_iload_n dL_law_462)) <|
  TcG (sd_L (sd_iconst rfl dL_law_463)) <|
  TcG (sd_L (sd_iadd dL_law_464)) <|
  TcG (sd_sx hS dL_law_465) <|
  TcG (sd_L (sd_aload_n dL_law_466)) <|
  TcG (sd_L (sd_iload_n dL_law_467)) <|
  TcG (sd_L (sd_iconst rfl dL_law_468)) <|
  TcG (sd_L (sd_iadd dL_law_469)) <|
  TcG (sd_sx hS dL_law_470) <|
  TcG (sd_L (sd_cv (T := TX6) fok_X6_judge mf_X6_judge rfl w_ml_L_67 w_im_X6_judge w_se_X6_judge (by decide) dL_law_471)) <|
  TcG (sd_L (sd_cm_eq (by decide) dL_law_474)) <|
  TcG (sd_L (sd_iconst rfl dL_law_477)) <|
  TcG (sd_L (sd_aload_n dL_law_479)) <|
  TcG (sd_L (sd_aload_n dL_law_480)) <|
  TcG (sd_L (sd_iload_n dL_law_481)) <|
  TcG (sd_L (sd_iconst rfl dL_law_482)) <|
  TcG (sd_L (sd_iadd dL_law_483)) <|
  TcG (sd_sx hS dL_law_484) <|
  TcG (sd_L (sd_cv (T := TX5) fok_X5_rows mf_X5_rows rfl w_ml_L_68 w_im_X5_rows w_se_X5_rows (by decide) dL_law_485)) <|
  TcG (sd_L (sd_aload_n dL_law_488)) <|
  TcG (sd_L (sd_aload_n dL_law_489)) <|
  TcG (sd_L (sd_iload_n dL_law_490)) <|
  TcG (sd_L (sd_iconst rfl dL_law_491)) <|
  TcG (sd_L (sd_iadd dL_law_492)) <|
  TcG (sd_sx hS dL_law_493) <|
  TcG (sd_L (sd_cv (T := TX6) fok_X6_rows mf_X6_rows rfl w_ml_L_71 w_im_X6_rows w_se_X6_rows (by decide) dL_law_494)) <|
  TcG (sd_L (sd_cm_eq (by decide) dL_law_497)) <|
  TcG (sd_L (sd_iconst rfl dL_law_500)) <|
  TcG (sd_L (sd_aload_n dL_law_502)) <|
  TcG (sd_L (sd_aload_n dL_law_503)) <|
  TcG (sd_L (sd_iload_n dL_law_504)) <|
  TcG (sd_L (sd_iconst rfl dL_law_505)) <|
  TcG (sd_L (sd_iadd dL_law_506)) <|
  TcG (sd_sx hS dL_law_507) <|
  TcG (sd_L (sd_cv (T := TX5) fok_X5_rowOf mf_X5_rowOf rfl w_ml_L_72 w_im_X5_rowOf w_se_X5_rowOf (by decide) dL_law_508)) <|
  TcG (sd_L (sd_aload_n dL_law_511)) <|
  TcG (sd_L (sd_aload_n dL_law_512)) <|
  TcG (sd_L (sd_iload_n dL_law_513)) <|
  TcG (sd_L (sd_iconst rfl dL_law_514)) <|
  TcG (sd_L (sd_iadd dL_law_515)) <|
  TcG (sd_sx hS dL_law_516) <|
  TcG (sd_L (sd_cv (T := TX6) fok_X6_rowOf mf_X6_rowOf rfl w_ml_L_75 w_im_X6_rowOf w_se_X6_rowOf (by decide) dL_law_517)) <|
  TcG (sd_L (sd_cm_eq (by decide) dL_law_520)) <|
  TcG (sd_L (sd_iconst rfl dL_law_523)) <|
  TcG (sd_L (sd_aload_n dL_law_525)) <|
  TcG (sd_L (sd_cv (T := TX5) fok_X5_deepest mf_X5_deepest rfl w_ml_L_76 w_im_X5_deepest w_se_X5_deepest (by decide) dL_law_526)) <|
  TcG (sd_L (sd_aload_n dL_law_529)) <|
  TcG (sd_L (sd_cv (T := TX6) fok_X6_deepest mf_X6_deepest rfl w_ml_L_79 w_im_X6_deepest w_se_X6_deepest (by decide) dL_law_530)) <|
  TcG (sd_L (sd_cm_eq (by decide) dL_law_533)) <|
  TcG (sd_L (sd_iconst rfl dL_law_536)) <|
  TcG (sd_L (sd_aload_n dL_law_538)) <|
  TcG (sd_L (sd_aload_n dL_law_539)) <|
  TcG (sd_L (sd_iload_n dL_law_540)) <|
  TcG (sd_L (sd_iconst rfl dL_law_541)) <|
  TcG (sd_L (sd_iadd dL_law_542)) <|
  TcG (sd_sx hS dL_law_543) <|
  TcG (sd_cva (T := TX5) fok_X5_fewest mf_X5_fewest rfl w_ml_L_80 w_im_X5_fewest w_se_X5_fewest (by decide) dL_law_544) <|
  TcG (sd_L (sd_aload_n dL_law_547)) <|
  TcG (sd_L (sd_aload_n dL_law_548)) <|
  TcG (sd_L (sd_iload_n dL_law_549)) <|
  TcG (sd_L (sd_iconst rfl dL_law_550)) <|
  TcG (sd_L (sd_iadd dL_law_551)) <|
  TcG (sd_sx hS dL_law_552) <|
  TcG (sd_L (sd_cv (T := TX6) fok_X6_fewest mf_X6_fewest rfl w_ml_L_83 w_im_X6_fewest w_se_X6_fewest (by decide) dL_law_553)) <|
  TcG (sd_L (sd_cm_eq (by decide) dL_law_556)) <|
  TcG (sd_L (sd_iconst rfl dL_law_559)) <|
  TcG (sd_L (sd_aload_n dL_law_561)) <|
  TcG (sd_L (sd_aload_n dL_law_562)) <|
  TcG (sd_L (sd_iload_n dL_law_563)) <|
  TcG (sd_L (sd_iconst rfl dL_law_564)) <|
  TcG (sd_L (sd_iadd dL_law_565)) <|
  TcG (sd_sx hS dL_law_566) <|
  TcG (sd_L (sd_aload_n dL_law_567)) <|
  TcG (sd_L (sd_iload_n dL_law_568)) <|
  TcG (sd_L (sd_iconst rfl dL_law_569)) <|
  TcG (sd_L (sd_iadd dL_law_570)) <|
  TcG (sd_sx hS dL_law_571) <|
  TcG (sd_cva (T := TX5) fok_X5_fewestAt mf_X5_fewestAt rfl w_ml_L_84 w_im_X5_fewestAt w_se_X5_fewestAt (by decide) dL_law_572) <|
  TcG (sd_L (sd_aload_n dL_law_575)) <|
  TcG (sd_L (sd_aload_n dL_law_576)) <|
  TcG (sd_L (sd_iload_n dL_law_577)) <|
  TcG (sd_L (sd_iconst rfl dL_law_578)) <|
  ok_L_law_3 hS nm
def tb_L_law_1 (Ln : Nat) (xs : Nat → Int32) : List (Nat × TrA) := (295, tL (tAld 0 1)) :: (296, tL (tIld 3 1)) :: (297, tL (tIc 2 1)) :: (298, tL (tI2 (fun a b => a + b))) :: (299, tSx Ln xs) :: (300, tL (tCv 6 2 fn_X6_edge)) :: (303, tL (tCmeq 1088)) :: (306, tL (tIc 0 1)) :: (308, tL (tAld 1 1)) :: (309, tL (tAld 0 1)) :: (310, tL (tIld 3 1)) :: (311, tL (tIc 1 1)) :: (312, tL (tI2 (fun a b => a + b))) :: (313, tSx Ln xs) :: (314, tL (tAld 0 1)) :: (315, tL (tIld 3 1)) :: (316, tL (tIc 2 1)) :: (317, tL (tI2 (fun a b => a + b))) :: (318, tSx Ln xs) :: (319, tL (tCv 5 2 fn_X5_would)) :: (322, tL (tAld 2 1)) :: (323, tL (tAld 0 1)) :: (324, tL (tIld 3 1)) :: (325, tL (tIc 1 1)) :: (326, tL (tI2 (fun a b => a + b))) :: (327, tSx Ln xs) :: (328, tL (tAld 0 1)) :: (329, tL (tIld 3 1)) :: (330, tL (tIc 2 1)) :: (331, tL (tI2 (fun a b => a + b))) :: (332, tSx Ln xs) :: (333, tL (tCv 6 2 fn_X6_would)) :: (336, tL (tCmeq 1088)) :: (339, tL (tIc 0 1)) :: (341, tL (tAld 1 1)) :: (342, tL (tAld 0 1)) :: (343, tL (tIld 3 1)) :: (344, tL (tIc 1 1)) :: (345, tL (tI2 (fun a b => a + b))) :: (346, tSx Ln xs) :: (347, tL (tAld 0 1)) :: (348, tL (tIld 3 1)) :: (349, tL (tIc 2 1)) :: (350, tL (tI2 (fun a b => a + b))) :: (351, tSx Ln xs) :: (352, tL (tCv 5 2 fn_X5_set)) :: (355, tL (tAld 2 1)) :: (356, tL (tAld 0 1)) :: (357, tL (tIld 3 1)) :: (358, tL (tIc 1 1)) :: (359, tL (tI2 (fun a b => a + b))) :: (360, tSx Ln xs) :: (361, tL (tAld 0 1)) :: (362, tL (tIld 3 1)) :: (363, tL (tIc 2 1)) :: (364, tL (tI2 (fun a b => a + b))) :: (365, tSx Ln xs) :: (366, tL (tCv 6 2 fn_X6_set)) :: (369, tL (tCmeq 1088)) :: (372, tL (tIc 0 1)) :: (374, tL (tAld 1 1)) :: (375, tL (tAld 0 1)) :: (376, tL (tIld 3 1)) :: (377, tL (tIc 1 1)) :: (378, tL (tI2 (fun a b => a + b))) :: (379, tSx Ln xs) :: (380, tL (tAld 0 1)) :: (381, tL (tIld 3 1)) :: (382, tL (tIc 2 1)) :: (383, tL (tI2 (fun a b => a + b))) :: (384, tSx Ln xs) :: (385, tL (tCv 5 2 fn_X5_bend)) :: (388, tL (tAld 2 1)) :: (389, tL (tAld 0 1)) :: (390, tL (tIld 3 1)) :: (391, tL (tIc 1 1)) :: (392, tL (tI2 (fun a b => a + b))) :: (393, tSx Ln xs) :: (394, tL (tAld 0 1)) :: (395, tL (tIld 3 1)) :: (396, tL (tIc 2 1)) :: (397, tL (tI2 (fun a b => a + b))) :: (398, tSx Ln xs) :: (399, tL (tCv 6 2 fn_X6_bend)) :: (402, tL (tCmeq 1088)) :: (405, tL (tIc 0 1)) :: (407, tL (tAld 1 1)) :: (408, tL (tCv 5 0 fn_X5_wash)) :: (411, tL (tAld 2 1)) :: (412, tL (tCv 6 0 fn_X6_wash)) :: (415, tL (tCmeq 1088)) :: (418, tL (tIc 0 1)) :: (420, tL (tAld 1 1)) :: (421, tL (tCv 5 0 fn_X5_turn)) :: (424, tL (tAld 2 1)) :: (425, tL (tCv 6 0 fn_X6_turn)) :: (428, tL (tCmeq 1088)) :: (431, tL (tIc 0 1)) :: (433, tL (tAld 1 1)) :: (434, tL (tCv 5 0 fn_X5_undo)) :: tb_L_law_2 Ln xs
theorem ok_L_law_1 {a : Am} {b Ln : Nat} {xs : Nat → Int32} (hS : aScr a b Ln xs) (nm : String) : TokG a (mi_L_law nm) (fun ad => ad 1030 = b) (tb_L_law_1 Ln xs) :=
  TcG (sd_L (sd_aload_n dL_law_295)) <|
  TcG (sd_L (sd_iload_n dL_law_296)) <|
  TcG (sd_L (sd_iconst rfl dL_law_297)) <|
  TcG (sd_L (sd_iadd dL_law_298)) <|
  TcG (sd_sx hS dL_law_299) <|
  TcG (sd_L (sd_cv (T := TX6) fok_X6_edge mf_X6_edge rfl w_ml_L_39 w_im_X6_edge w_se_X6_edge (by decide) dL_law_300)) <|
  TcG (sd_L (sd_cm_eq (by decide) dL_law_303)) <|
  TcG (sd_L (sd_iconst rfl dL_law_306)) <|
  TcG (sd_L (sd_aload_n dL_law_308)) <|
  TcG (sd_L (sd_aload_n dL_law_309)) <|
  TcG (sd_L (sd_iload_n dL_law_310)) <|
  TcG (sd_L (sd_iconst rfl dL_law_311)) <|
  TcG (sd_L (sd_iadd dL_law_312)) <|
  TcG (sd_sx hS dL_law_313) <|
  TcG (sd_L (sd_aload_n dL_law_314)) <|
  TcG (sd_L (sd_iload_n dL_law_315)) <|
  TcG (sd_L (sd_iconst rfl dL_law_316)) <|
  TcG (sd_L (sd_iadd dL_law_317)) <|
  TcG (sd_sx hS dL_law_318) <|
  TcG (sd_L (sd_cv (T := TX5) fok_X5_would mf_X5_would rfl w_ml_L_40 w_im_X5_would w_se_X5_would (by decide) dL_law_319)) <|
  TcG (sd_L (sd_aload_n dL_law_322)) <|
  TcG (sd_L (sd_aload_n dL_law_323)) <|
  TcG (sd_L (sd_iload_n dL_law_324)) <|
  TcG (sd_L (sd_iconst rfl dL_law_325)) <|
  TcG (sd_L (sd_iadd dL_law_326)) <|
  TcG (sd_sx hS dL_law_327) <|
  TcG (sd_L (sd_aload_n dL_law_328)) <|
  TcG (sd_L (sd_iload_n dL_law_329)) <|
  TcG (sd_L (sd_iconst rfl dL_law_330)) <|
  TcG (sd_L (sd_iadd dL_law_331)) <|
  TcG (sd_sx hS dL_law_332) <|
  TcG (sd_L (sd_cv (T := TX6) fok_X6_would mf_X6_would rfl w_ml_L_43 w_im_X6_would w_se_X6_would (by decide) dL_law_333)) <|
  TcG (sd_L (sd_cm_eq (by decide) dL_law_336)) <|
  TcG (sd_L (sd_iconst rfl dL_law_339)) <|
  TcG (sd_L (sd_aload_n dL_law_341)) <|
  TcG (sd_L (sd_aload_n dL_law_342)) <|
  TcG (sd_L (sd_iload_n dL_law_343)) <|
  TcG (sd_L (sd_iconst rfl dL_law_344)) <|
  TcG (sd_L (sd_iadd dL_law_345)) <|
  TcG (sd_sx hS dL_law_346) <|
  TcG (sd_L (sd_aload_n dL_law_347)) <|
  TcG (sd_L (sd_iload_n dL_law_348)) <|
  TcG (sd_L (sd_iconst rfl dL_law_349)) <|
  TcG (sd_L (sd_iadd dL_law_350)) <|
  TcG (sd_sx hS dL_law_351) <|
  TcG (sd_L (sd_cv (T := TX5) fok_X5_set mf_X5_set rfl w_ml_L_44 w_im_X5_set w_se_X5_set (by decide) dL_law_352)) <|
  TcG (sd_L (sd_aload_n dL_law_355)) <|
  TcG (sd_L (sd_aload_n dL_law_356)) <|
  TcG (sd_L (sd_iload_n dL_law_357)) <|
  TcG (sd_L (sd_iconst rfl dL_law_358)) <|
  TcG (sd_L (sd_iadd dL_law_359)) <|
  TcG (sd_sx hS dL_law_360) <|
  TcG (sd_L (sd_aload_n dL_law_361)) <|
  TcG (sd_L (sd_iload_n dL_law_362)) <|
  TcG (sd_L (sd_iconst rfl dL_law_363)) <|
  TcG (sd_L (sd_iadd dL_law_364)) <|
  TcG (sd_sx hS dL_law_365) <|
  TcG (sd_L (sd_cv (T := TX6) fok_X6_set mf_X6_set rfl w_ml_L_47 w_im_X6_set w_se_X6_set (by decide) dL_law_366)) <|
  TcG (sd_L (sd_cm_eq (by decide) dL_law_369)) <|
  TcG (sd_L (sd_iconst rfl dL_law_372)) <|
  TcG (sd_L (sd_aload_n dL_law_374)) <|
  TcG (sd_L (sd_aload_n dL_law_375)) <|
  TcG (sd_L (sd_iload_n dL_law_376)) <|
  TcG (sd_L (sd_iconst rfl dL_law_377)) <|
  TcG (sd_L (sd_iadd dL_law_378)) <|
  TcG (sd_sx hS dL_law_379) <|
  TcG (sd_L (sd_aload_n dL_law_380)) <|
  TcG (sd_L (sd_iload_n dL_law_381)) <|
  TcG (sd_L (sd_iconst rfl dL_law_382)) <|
  TcG (sd_L (sd_iadd dL_law_383)) <|
  TcG (sd_sx hS dL_law_384) <|
  TcG (sd_L (sd_cv (T := TX5) fok_X5_bend mf_X5_bend rfl w_ml_L_48 w_im_X5_bend w_se_X5_bend (by decide) dL_law_385)) <|
  TcG (sd_L (sd_aload_n dL_law_388)) <|
  TcG (sd_L (sd_aload_n dL_law_389)) <|
  TcG (sd_L (sd_iload_n dL_law_390)) <|
  TcG (sd_L (sd_iconst rfl dL_law_391)) <|
  TcG (sd_L (sd_iadd dL_law_392)) <|
  TcG (sd_sx hS dL_law_393) <|
  TcG (sd_L (sd_aload_n dL_law_394)) <|
  TcG (sd_L (sd_iload_n dL_law_395)) <|
  TcG (sd_L (sd_iconst rfl dL_law_396)) <|
  TcG (sd_L (sd_iadd dL_law_397)) <|
  TcG (sd_sx hS dL_law_398) <|
  TcG (sd_L (sd_cv (T := TX6) fok_X6_bend mf_X6_bend rfl w_ml_L_51 w_im_X6_bend w_se_X6_bend (by decide) dL_law_399)) <|
  TcG (sd_L (sd_cm_eq (by decide) dL_law_402)) <|
  TcG (sd_L (sd_iconst rfl dL_law_405)) <|
  TcG (sd_L (sd_aload_n dL_law_407)) <|
  TcG (sd_L (sd_cv (T := TX5) fok_X5_wash mf_X5_wash rfl w_ml_L_52 w_im_X5_wash w_se_X5_wash (by decide) dL_law_408)) <|
  TcG (sd_L (sd_aload_n dL_law_411)) <|
  TcG (sd_L (sd_cv (T := TX6) fok_X6_wash mf_X6_wash rfl w_ml_L_55 w_im_X6_wash w_se_X6_wash (by decide) dL_law_412)) <|
  TcG (sd_L (sd_cm_eq (by decide) dL_law_415)) <|
  TcG (sd_L (sd_iconst rfl dL_law_418)) <|
  TcG (sd_L (sd_aload_n dL_law_420)) <|
  TcG (sd_L (sd_cv (T := TX5) fok_X5_turn mf_X5_turn rfl w_ml_L_56 w_im_X5_turn w_se_X5_turn (by decide) dL_law_421)) <|
  TcG (sd_L (sd_aload_n dL_law_424)) <|
  TcG (sd_L (sd_cv (T := TX6) fok_X6_turn mf_X6_turn rfl w_ml_L_59 w_im_X6_turn w_se_X6_turn (by decide) dL_law_425)) <|
  TcG (sd_L (sd_cm_eq (by decide) dL_law_428)) <|
  TcG (sd_L (sd_iconst rfl dL_law_431)) <|
  TcG (sd_L (sd_aload_n dL_law_433)) <|
  TcG (sd_L (sd_cv (T := TX5) fok_X5_undo mf_X5_undo rfl w_ml_L_60 w_im_X5_undo w_se_X5_undo (by decide) dL_law_434)) <|
  ok_L_law_2 hS nm
def tb_L_law_0 (Ln : Nat) (xs : Nat → Int32) : List (Nat × TrA) := (0, tNew 5 13 [vN, vI 0, vN, vN, vN, vN, vI 0, vI 0, vN, vN, vN, vN, vJ 0]) :: (3, tL tDup) :: (4, tCi 0 fn_X5_init) :: (7, tL (tAst 1 1)) :: (8, tNew 6 26 [vI 0, vN, vN, vI 0, vN, vN, vN, vI 0, vN, vN, vN, vI 0, vI 0, vN, vI 0, vI 0, vN, vN, vN, vN, vI 0, vI 0, vN, vJ 0, vN, vN]) :: (11, tL tDup) :: (12, tCi 0 fn_X6_init) :: (15, tL (tAst 2 1)) :: (16, tL (tIc 0 1)) :: (17, tL (tIst 3 1)) :: (18, tL (tIld 3 1)) :: (19, tL (tAld 0 1)) :: (20, tSn Ln) :: (21, tL (tIc 4 1)) :: (22, tL (tI2 (fun a b => a - b))) :: (23, tL (tCmgt 1094)) :: (26, tL (tAld 0 1)) :: (27, tL (tIld 3 1)) :: (28, tSx Ln xs) :: (29, tL (tIc 63 2)) :: (31, tL (tI2 oAnd)) :: (32, tL (tTs 0 [180, 203, 216, 229, 242, 275, 308, 341, 374, 407, 420, 433, 446, 479, 502, 525, 538, 561, 594, 617, 650, 673, 696, 719, 768, 807, 850, 883, 942, 996, 1019, 1042, 1065] 1088)) :: (180, tL (tAld 1 1)) :: (181, tL (tAld 0 1)) :: (182, tL (tIld 3 1)) :: (183, tL (tIc 1 1)) :: (184, tL (tI2 (fun a b => a + b))) :: (185, tSx Ln xs) :: (186, tL (tCv 5 1 fn_X5_write)) :: (189, tL (tAld 2 1)) :: (190, tL (tAld 0 1)) :: (191, tL (tIld 3 1)) :: (192, tL (tIc 1 1)) :: (193, tL (tI2 (fun a b => a + b))) :: (194, tSx Ln xs) :: (195, tL (tCv 6 1 fn_X6_write)) :: (198, tL (tCmeq 1088)) :: (201, tL (tIc 0 1)) :: (203, tL (tAld 1 1)) :: (204, tL (tCv 5 0 fn_X5_wipe)) :: (207, tL (tAld 2 1)) :: (208, tL (tCv 6 0 fn_X6_wipe)) :: (211, tL (tCmeq 1088)) :: (214, tL (tIc 0 1)) :: (216, tL (tAld 1 1)) :: (217, tL (tCv 5 0 fn_X5_fault)) :: (220, tL (tAld 2 1)) :: (221, tL (tCv 6 0 fn_X6_fault)) :: (224, tL (tCmeq 1088)) :: (227, tL (tIc 0 1)) :: (229, tL (tAld 1 1)) :: (230, tL (tCv 5 0 fn_X5_bed)) :: (233, tL (tAld 2 1)) :: (234, tL (tCv 6 0 fn_X6_bed)) :: (237, tL (tCmeq 1088)) :: (240, tL (tIc 0 1)) :: (242, tL (tAld 1 1)) :: (243, tL (tAld 0 1)) :: (244, tL (tIld 3 1)) :: (245, tL (tIc 1 1)) :: (246, tL (tI2 (fun a b => a + b))) :: (247, tSx Ln xs) :: (248, tL (tAld 0 1)) :: (249, tL (tIld 3 1)) :: (250, tL (tIc 2 1)) :: (251, tL (tI2 (fun a b => a + b))) :: (252, tSx Ln xs) :: (253, tL (tCv 5 2 fn_X5_corner)) :: (256, tL (tAld 2 1)) :: (257, tL (tAld 0 1)) :: (258, tL (tIld 3 1)) :: (259, tL (tIc 1 1)) :: (260, tL (tI2 (fun a b => a + b))) :: (261, tSx Ln xs) :: (262, tL (tAld 0 1)) :: (263, tL (tIld 3 1)) :: (264, tL (tIc 2 1)) :: (265, tL (tI2 (fun a b => a + b))) :: (266, tSx Ln xs) :: (267, tL (tCv 6 2 fn_X6_corner)) :: (270, tL (tCmeq 1088)) :: (273, tL (tIc 0 1)) :: (275, tL (tAld 1 1)) :: (276, tL (tAld 0 1)) :: (277, tL (tIld 3 1)) :: (278, tL (tIc 1 1)) :: (279, tL (tI2 (fun a b => a + b))) :: (280, tSx Ln xs) :: (281, tL (tAld 0 1)) :: (282, tL (tIld 3 1)) :: (283, tL (tIc 2 1)) :: (284, tL (tI2 (fun a b => a + b))) :: (285, tSx Ln xs) :: (286, tL (tCv 5 2 fn_X5_edge)) :: (289, tL (tAld 2 1)) :: (290, tL (tAld 0 1)) :: (291, tL (tIld 3 1)) :: (292, tL (tIc 1 1)) :: (293, tL (tI2 (fun a b => a + b))) :: (294, tSx Ln xs) :: tb_L_law_1 Ln xs
theorem ok_L_law_0 {a : Am} {b Ln : Nat} {xs : Nat → Int32} (hS : aScr a b Ln xs) (nm : String) : TokG a (mi_L_law nm) (fun ad => ad 1030 = b) (tb_L_law_0 Ln xs) :=
  TcG (sd_new rfl giX5 tyX5 tyX5_ok w_cs_L_7 w_is_X5 w_in_X5 [vN, vI 0, vN, vN, vN, vN, vI 0, vI 0, vN, vN, vN, vN, vJ 0] df_X5 rfl dL_law_0) <|
  TcG (sd_L (sd_dup dL_law_3)) <|
  TcG (sd_ci fok_X5_init mf_X5_init w_ml_L_9 rfl w_im_X5_init (by decide) dL_law_4) <|
  TcG (sd_L (sd_astore_n dL_law_7)) <|
  TcG (sd_new rfl giX6 tyX6 tyX6_ok w_cs_L_10 w_is_X6 w_in_X6 [vI 0, vN, vN, vI 0, vN, vN, vN, vI 0, vN, vN, vN, vI 0, vI 0, vN, vI 0, vI 0, vN, vN, vN, vN, vI 0, vI 0, vN, vJ 0, vN, vN] df_X6 rfl dL_law_8) <|
  TcG (sd_L (sd_dup dL_law_11)) <|
  TcG (sd_ci fok_X6_init mf_X6_init w_ml_L_12 rfl w_im_X6_init (by decide) dL_law_12) <|
  TcG (sd_L (sd_astore_n dL_law_15)) <|
  TcG (sd_L (sd_iconst rfl dL_law_16)) <|
  TcG (sd_L (sd_istore_n dL_law_17)) <|
  TcG (sd_L (sd_iload_n dL_law_18)) <|
  TcG (sd_L (sd_aload_n dL_law_19)) <|
  TcG (sd_sn hS dL_law_20) <|
  TcG (sd_L (sd_iconst rfl dL_law_21)) <|
  TcG (sd_L (sd_isub dL_law_22)) <|
  TcG (sd_L (sd_cm_gt (by decide) dL_law_23)) <|
  TcG (sd_L (sd_aload_n dL_law_26)) <|
  TcG (sd_L (sd_iload_n dL_law_27)) <|
  TcG (sd_sx hS dL_law_28) <|
  TcG (sd_L (sd_bipush (by decide +kernel) dL_law_29)) <|
  TcG (sd_L (sd_iand dL_law_31)) <|
  TcG (sd_L (sd_tsw (by decide) (by decide) (sw_ok _ _ _ _ (by decide)) dL_law_32)) <|
  TcG (sd_L (sd_aload_n dL_law_180)) <|
  TcG (sd_L (sd_aload_n dL_law_181)) <|
  TcG (sd_L (sd_iload_n dL_law_182)) <|
  TcG (sd_L (sd_iconst rfl dL_law_183)) <|
  TcG (sd_L (sd_iadd dL_law_184)) <|
  TcG (sd_sx hS dL_law_185) <|
  TcG (sd_L (sd_cv (T := TX5) fok_X5_write mf_X5_write rfl w_ml_L_13 w_im_X5_write w_se_X5_write (by decide) dL_law_186)) <|
  TcG (sd_L (sd_aload_n dL_law_189)) <|
  TcG (sd_L (sd_aload_n dL_law_190)) <|
  TcG (sd_L (sd_iload_n dL_law_191)) <|
  TcG (sd_L (sd_iconst rfl dL_law_192)) <|
  TcG (sd_L (sd_iadd dL_law_193)) <|
  TcG (sd_sx hS dL_law_194) <|
  TcG (sd_L (sd_cv (T := TX6) fok_X6_write mf_X6_write rfl w_ml_L_17 w_im_X6_write w_se_X6_write (by decide) dL_law_195)) <|
  TcG (sd_L (sd_cm_eq (by decide) dL_law_198)) <|
  TcG (sd_L (sd_iconst rfl dL_law_201)) <|
  TcG (sd_L (sd_aload_n dL_law_203)) <|
  TcG (sd_L (sd_cv (T := TX5) fok_X5_wipe mf_X5_wipe rfl w_ml_L_18 w_im_X5_wipe w_se_X5_wipe (by decide) dL_law_204)) <|
  TcG (sd_L (sd_aload_n dL_law_207)) <|
  TcG (sd_L (sd_cv (T := TX6) fok_X6_wipe mf_X6_wipe rfl w_ml_L_22 w_im_X6_wipe w_se_X6_wipe (by decide) dL_law_208)) <|
  TcG (sd_L (sd_cm_eq (by decide) dL_law_211)) <|
  TcG (sd_L (sd_iconst rfl dL_law_214)) <|
  TcG (sd_L (sd_aload_n dL_law_216)) <|
  TcG (sd_L (sd_cv (T := TX5) fok_X5_fault mf_X5_fault rfl w_ml_L_23 w_im_X5_fault w_se_X5_fault (by decide) dL_law_217)) <|
  TcG (sd_L (sd_aload_n dL_law_220)) <|
  TcG (sd_L (sd_cv (T := TX6) fok_X6_fault mf_X6_fault rfl w_ml_L_26 w_im_X6_fault w_se_X6_fault (by decide) dL_law_221)) <|
  TcG (sd_L (sd_cm_eq (by decide) dL_law_224)) <|
  TcG (sd_L (sd_iconst rfl dL_law_227)) <|
  TcG (sd_L (sd_aload_n dL_law_229)) <|
  TcG (sd_L (sd_cv (T := TX5) fok_X5_bed mf_X5_bed rfl w_ml_L_27 w_im_X5_bed w_se_X5_bed (by decide) dL_law_230)) <|
  TcG (sd_L (sd_aload_n dL_law_233)) <|
  TcG (sd_L (sd_cv (T := TX6) fok_X6_bed mf_X6_bed rfl w_ml_L_30 w_im_X6_bed w_se_X6_bed (by decide) dL_law_234)) <|
  TcG (sd_L (sd_cm_eq (by decide) dL_law_237)) <|
  TcG (sd_L (sd_iconst rfl dL_law_240)) <|
  TcG (sd_L (sd_aload_n dL_law_242)) <|
  TcG (sd_L (sd_aload_n dL_law_243)) <|
  TcG (sd_L (sd_iload_n dL_law_244)) <|
  TcG (sd_L (sd_iconst rfl dL_law_245)) <|
  TcG (sd_L (sd_iadd dL_law_246)) <|
  TcG (sd_sx hS dL_law_247) <|
  TcG (sd_L (sd_aload_n dL_law_248)) <|
  TcG (sd_L (sd_iload_n dL_law_249)) <|
  TcG (sd_L (sd_iconst rfl dL_law_250)) <|
  TcG (sd_L (sd_iadd dL_law_251)) <|
  TcG (sd_sx hS dL_law_252) <|
  TcG (sd_L (sd_cv (T := TX5) fok_X5_corner mf_X5_corner rfl w_ml_L_31 w_im_X5_corner w_se_X5_corner (by decide) dL_law_253)) <|
  TcG (sd_L (sd_aload_n dL_law_256)) <|
  TcG (sd_L (sd_aload_n dL_law_257)) <|
  TcG (sd_L (sd_iload_n dL_law_258)) <|
  TcG (sd_L (sd_iconst rfl dL_law_259)) <|
  TcG (sd_L (sd_iadd dL_law_260)) <|
  TcG (sd_sx hS dL_law_261) <|
  TcG (sd_L (sd_aload_n dL_law_262)) <|
  TcG (sd_L (sd_iload_n dL_law_263)) <|
  TcG (sd_L (sd_iconst rfl dL_law_264)) <|
  TcG (sd_L (sd_iadd dL_law_265)) <|
  TcG (sd_sx hS dL_law_266) <|
  TcG (sd_L (sd_cv (T := TX6) fok_X6_corner mf_X6_corner rfl w_ml_L_35 w_im_X6_corner w_se_X6_corner (by decide) dL_law_267)) <|
  TcG (sd_L (sd_cm_eq (by decide) dL_law_270)) <|
  TcG (sd_L (sd_iconst rfl dL_law_273)) <|
  TcG (sd_L (sd_aload_n dL_law_275)) <|
  TcG (sd_L (sd_aload_n dL_law_276)) <|
  TcG (sd_L (sd_iload_n dL_law_277)) <|
  TcG (sd_L (sd_iconst rfl dL_law_278)) <|
  TcG (sd_L (sd_iadd dL_law_279)) <|
  TcG (sd_sx hS dL_law_280) <|
  TcG (sd_L (sd_aload_n dL_law_281)) <|
  TcG (sd_L (sd_iload_n dL_law_282)) <|
  TcG (sd_L (sd_iconst rfl dL_law_283)) <|
  TcG (sd_L (sd_iadd dL_law_284)) <|
  TcG (sd_sx hS dL_law_285) <|
  TcG (sd_L (sd_cv (T := TX5) fok_X5_edge mf_X5_edge rfl w_ml_L_36 w_im_X5_edge w_se_X5_edge (by decide) dL_law_286)) <|
  TcG (sd_L (sd_aload_n dL_law_289)) <|
  TcG (sd_L (sd_aload_n dL_law_290)) <|
  TcG (sd_L (sd_iload_n dL_law_291)) <|
  TcG (sd_L (sd_iconst rfl dL_law_292)) <|
  TcG (sd_L (sd_iadd dL_law_293)) <|
  TcG (sd_sx hS dL_law_294) <|
  ok_L_law_1 hS nm
def rx_L_law (Ln : Nat) (xs : Nat → Int32) : Nat → Nat → AL → List AV → List AC → Nat → Nat → Option (Option AV × List AC × Nat × Nat) := am_ra 0 (tb_L_law_0 Ln xs) rZ [202, 215, 228, 241, 274, 307, 340, 373, 406, 419, 432, 445, 478, 501, 524, 537, 560, 593, 616, 649, 672, 695, 718, 767, 806, 849, 882, 941, 995, 1018, 1041, 1064, 1087, 1095]
set_option maxRecDepth 20000 in
theorem rs_L_law_0 (Ln : Nat) (xs : Nat → Int32) (n : Nat) (L : AL) (st : List AV) (M : List AC) (c s : Nat) : rx_L_law Ln xs (n + 1) 0 L st M c s = am_jC (rx_L_law Ln xs n) ((tNew 5 13 [vN, vI 0, vN, vN, vN, vN, vI 0, vI 0, vN, vN, vN, vN, vJ 0]) 0 L st M) c s := (ra_A rfl n L st M c s).trans (if_pos (Nat.zero_le _))
set_option maxRecDepth 20000 in
theorem rs_L_law_3 (Ln : Nat) (xs : Nat → Int32) (n : Nat) (L : AL) (st : List AV) (M : List AC) (c s : Nat) : rx_L_law Ln xs (n + 1) 3 L st M c s = am_jB (fun pc L st M => rx_L_law Ln xs n pc L st M c s) (tDup 3 L st M) := (ra_L rfl n L st M c s).trans (if_pos (Nat.zero_le _))
set_option maxRecDepth 20000 in
theorem rs_L_law_4 (Ln : Nat) (xs : Nat → Int32) (n : Nat) (L : AL) (st : List AV) (M : List AC) (c s : Nat) : rx_L_law Ln xs (n + 1) 4 L st M c s = am_jC (rx_L_law Ln xs n) ((tCi 0 fn_X5_init) 4 L st M) c s := (ra_A rfl n L st M c s).trans (if_pos (Nat.zero_le _))
set_option maxRecDepth 20000 in
theorem rs_L_law_7 (Ln : Nat) (xs : Nat → Int32) (n : Nat) (L : AL) (st : List AV) (M : List AC) (c s : Nat) : rx_L_law Ln xs (n + 1) 7 L st M c s = am_jB (fun pc L st M => rx_L_law Ln xs n pc L st M c s) ((tAst 1 1) 7 L st M) := (ra_L rfl n L st M c s).trans (if_pos (Nat.zero_le _))
set_option maxRecDepth 20000 in
theorem rs_L_law_8 (Ln : Nat) (xs : Nat → Int32) (n : Nat) (L : AL) (st : List AV) (M : List AC) (c s : Nat) : rx_L_law Ln xs (n + 1) 8 L st M c s = am_jC (rx_L_law Ln xs n) ((tNew 6 26 [vI 0, vN, vN, vI 0, vN, vN, vN, vI 0, vN, vN, vN, vI 0, vI 0, vN, vI 0, vI 0, vN, vN, vN, vN, vI 0, vI 0, vN, vJ 0, vN, vN]) 8 L st M) c s := (ra_A rfl n L st M c s).trans (if_pos (Nat.zero_le _))
set_option maxRecDepth 20000 in
theorem rs_L_law_11 (Ln : Nat) (xs : Nat → Int32) (n : Nat) (L : AL) (st : List AV) (M : List AC) (c s : Nat) : rx_L_law Ln xs (n + 1) 11 L st M c s = am_jB (fun pc L st M => rx_L_law Ln xs n pc L st M c s) (tDup 11 L st M) := (ra_L rfl n L st M c s).trans (if_pos (Nat.zero_le _))
set_option maxRecDepth 20000 in
theorem rs_L_law_12 (Ln : Nat) (xs : Nat → Int32) (n : Nat) (L : AL) (st : List AV) (M : List AC) (c s : Nat) : rx_L_law Ln xs (n + 1) 12 L st M c s = am_jC (rx_L_law Ln xs n) ((tCi 0 fn_X6_init) 12 L st M) c s := (ra_A rfl n L st M c s).trans (if_pos (Nat.zero_le _))
set_option maxRecDepth 20000 in
theorem rs_L_law_15 (Ln : Nat) (xs : Nat → Int32) (n : Nat) (L : AL) (st : List AV) (M : List AC) (c s : Nat) : rx_L_law Ln xs (n + 1) 15 L st M c s = am_jB (fun pc L st M => rx_L_law Ln xs n pc L st M c s) ((tAst 2 1) 15 L st M) := (ra_L rfl n L st M c s).trans (if_pos (Nat.zero_le _))
set_option maxRecDepth 20000 in
theorem rs_L_law_16 (Ln : Nat) (xs : Nat → Int32) (n : Nat) (L : AL) (st : List AV) (M : List AC) (c s : Nat) : rx_L_law Ln xs (n + 1) 16 L st M c s = am_jB (fun pc L st M => rx_L_law Ln xs n pc L st M c s) ((tIc 0 1) 16 L st M) := (ra_L rfl n L st M c s).trans (if_pos (Nat.zero_le _))
set_option maxRecDepth 20000 in
theorem rs_L_law_17 (Ln : Nat) (xs : Nat → Int32) (n : Nat) (L : AL) (st : List AV) (M : List AC) (c s : Nat) : rx_L_law Ln xs (n + 1) 17 L st M c s = am_jB (fun pc L st M => rx_L_law Ln xs n pc L st M c s) ((tIst 3 1) 17 L st M) := (ra_L rfl n L st M c s).trans (if_pos (Nat.zero_le _))
set_option maxRecDepth 20000 in
theorem rs_L_law_18 (Ln : Nat) (xs : Nat → Int32) (n : Nat) (L : AL) (st : List AV) (M : List AC) (c s : Nat) : rx_L_law Ln xs (n + 1) 18 L st M c s = am_jB (fun pc L st M => rx_L_law Ln xs n pc L st M c s) ((tIld 3 1) 18 L st M) := (ra_L rfl n L st M c s).trans (if_pos (Nat.zero_le _))
set_option maxRecDepth 20000 in
theorem rs_L_law_19 (Ln : Nat) (xs : Nat → Int32) (n : Nat) (L : AL) (st : List AV) (M : List AC) (c s : Nat) : rx_L_law Ln xs (n + 1) 19 L st M c s = am_jB (fun pc L st M => rx_L_law Ln xs n pc L st M c s) ((tAld 0 1) 19 L st M) := (ra_L rfl n L st M c s).trans (if_pos (Nat.zero_le _))
set_option maxRecDepth 20000 in
theorem rs_L_law_20 (Ln : Nat) (xs : Nat → Int32) (n : Nat) (L : AL) (st : List AV) (M : List AC) (c s : Nat) : rx_L_law Ln xs (n + 1) 20 L st M c s = am_jC (rx_L_law Ln xs n) ((tSn Ln) 20 L st M) c s := (ra_A rfl n L st M c s).trans (if_pos (Nat.zero_le _))
set_option maxRecDepth 20000 in
theorem rs_L_law_21 (Ln : Nat) (xs : Nat → Int32) (n : Nat) (L : AL) (st : List AV) (M : List AC) (c s : Nat) : rx_L_law Ln xs (n + 1) 21 L st M c s = am_jB (fun pc L st M => rx_L_law Ln xs n pc L st M c s) ((tIc 4 1) 21 L st M) := (ra_L rfl n L st M c s).trans (if_pos (Nat.zero_le _))
set_option maxRecDepth 20000 in
theorem rs_L_law_22 (Ln : Nat) (xs : Nat → Int32) (n : Nat) (L : AL) (st : List AV) (M : List AC) (c s : Nat) : rx_L_law Ln xs (n + 1) 22 L st M c s = am_jB (fun pc L st M => rx_L_law Ln xs n pc L st M c s) ((tI2 (fun a b => a - b)) 22 L st M) := (ra_L rfl n L st M c s).trans (if_pos (Nat.zero_le _))
set_option maxRecDepth 20000 in
theorem rs_L_law_23 (Ln : Nat) (xs : Nat → Int32) (n : Nat) (L : AL) (st : List AV) (M : List AC) (c s : Nat) : rx_L_law Ln xs (n + 1) 23 L st M c s = am_jB (fun pc L st M => rx_L_law Ln xs n pc L st M c s) ((tCmgt 1094) 23 L st M) := (ra_L rfl n L st M c s).trans (if_pos (Nat.zero_le _))
set_option maxRecDepth 20000 in
theorem rs_L_law_26 (Ln : Nat) (xs : Nat → Int32) (n : Nat) (L : AL) (st : List AV) (M : List AC) (c s : Nat) : rx_L_law Ln xs (n + 1) 26 L st M c s = am_jB (fun pc L st M => rx_L_law Ln xs n pc L st M c s) ((tAld 0 1) 26 L st M) := (ra_L rfl n L st M c s).trans (if_pos (Nat.zero_le _))
set_option maxRecDepth 20000 in
theorem rs_L_law_27 (Ln : Nat) (xs : Nat → Int32) (n : Nat) (L : AL) (st : List AV) (M : List AC) (c s : Nat) : rx_L_law Ln xs (n + 1) 27 L st M c s = am_jB (fun pc L st M => rx_L_law Ln xs n pc L st M c s) ((tIld 3 1) 27 L st M) := (ra_L rfl n L st M c s).trans (if_pos (Nat.zero_le _))
set_option maxRecDepth 20000 in
theorem rs_L_law_28 (Ln : Nat) (xs : Nat → Int32) (n : Nat) (L : AL) (st : List AV) (M : List AC) (c s : Nat) : rx_L_law Ln xs (n + 1) 28 L st M c s = am_jC (rx_L_law Ln xs n) ((tSx Ln xs) 28 L st M) c s := (ra_A rfl n L st M c s).trans (if_pos (Nat.zero_le _))
set_option maxRecDepth 20000 in
theorem rs_L_law_29 (Ln : Nat) (xs : Nat → Int32) (n : Nat) (L : AL) (st : List AV) (M : List AC) (c s : Nat) : rx_L_law Ln xs (n + 1) 29 L st M c s = am_jB (fun pc L st M => rx_L_law Ln xs n pc L st M c s) ((tIc 63 2) 29 L st M) := (ra_L rfl n L st M c s).trans (if_pos (Nat.zero_le _))
set_option maxRecDepth 20000 in
theorem rs_L_law_31 (Ln : Nat) (xs : Nat → Int32) (n : Nat) (L : AL) (st : List AV) (M : List AC) (c s : Nat) : rx_L_law Ln xs (n + 1) 31 L st M c s = am_jB (fun pc L st M => rx_L_law Ln xs n pc L st M c s) ((tI2 oAnd) 31 L st M) := (ra_L rfl n L st M c s).trans (if_pos (Nat.zero_le _))
set_option maxRecDepth 20000 in
theorem rs_L_law_32 (Ln : Nat) (xs : Nat → Int32) (n : Nat) (L : AL) (st : List AV) (M : List AC) (c s : Nat) : rx_L_law Ln xs (n + 1) 32 L st M c s = am_jB (fun pc L st M => rx_L_law Ln xs n pc L st M c s) ((tTs 0 [180, 203, 216, 229, 242, 275, 308, 341, 374, 407, 420, 433, 446, 479, 502, 525, 538, 561, 594, 617, 650, 673, 696, 719, 768, 807, 850, 883, 942, 996, 1019, 1042, 1065] 1088) 32 L st M) := (ra_L rfl n L st M c s).trans (if_pos (Nat.zero_le _))
set_option maxRecDepth 20000 in
theorem rs_L_law_180 (Ln : Nat) (xs : Nat → Int32) (n : Nat) (L : AL) (st : List AV) (M : List AC) (c s : Nat) : rx_L_law Ln xs (n + 1) 180 L st M c s = am_jB (fun pc L st M => rx_L_law Ln xs n pc L st M c s) ((tAld 1 1) 180 L st M) := (ra_L rfl n L st M c s).trans (if_pos (Nat.zero_le _))
set_option maxRecDepth 20000 in
theorem rs_L_law_181 (Ln : Nat) (xs : Nat → Int32) (n : Nat) (L : AL) (st : List AV) (M : List AC) (c s : Nat) : rx_L_law Ln xs (n + 1) 181 L st M c s = am_jB (fun pc L st M => rx_L_law Ln xs n pc L st M c s) ((tAld 0 1) 181 L st M) := (ra_L rfl n L st M c s).trans (if_pos (Nat.zero_le _))
set_option maxRecDepth 20000 in
theorem rs_L_law_182 (Ln : Nat) (xs : Nat → Int32) (n : Nat) (L : AL) (st : List AV) (M : List AC) (c s : Nat) : rx_L_law Ln xs (n + 1) 182 L st M c s = am_jB (fun pc L st M => rx_L_law Ln xs n pc L st M c s) ((tIld 3 1) 182 L st M) := (ra_L rfl n L st M c s).trans (if_pos (Nat.zero_le _))
set_option maxRecDepth 20000 in
theorem rs_L_law_183 (Ln : Nat) (xs : Nat → Int32) (n : Nat) (L : AL) (st : List AV) (M : List AC) (c s : Nat) : rx_L_law Ln xs (n + 1) 183 L st M c s = am_jB (fun pc L st M => rx_L_law Ln xs n pc L st M c s) ((tIc 1 1) 183 L st M) := (ra_L rfl n L st M c s).trans (if_pos (Nat.zero_le _))
set_option maxRecDepth 20000 in
theorem rs_L_law_184 (Ln : Nat) (xs : Nat → Int32) (n : Nat) (L : AL) (st : List AV) (M : List AC) (c s : Nat) : rx_L_law Ln xs (n + 1) 184 L st M c s = am_jB (fun pc L st M => rx_L_law Ln xs n pc L st M c s) ((tI2 (fun a b => a + b)) 184 L st M) := (ra_L rfl n L st M c s).trans (if_pos (Nat.zero_le _))
set_option maxRecDepth 20000 in
theorem rs_L_law_185 (Ln : Nat) (xs : Nat → Int32) (n : Nat) (L : AL) (st : List AV) (M : List AC) (c s : Nat) : rx_L_law Ln xs (n + 1) 185 L st M c s = am_jC (rx_L_law Ln xs n) ((tSx Ln xs) 185 L st M) c s := (ra_A rfl n L st M c s).trans (if_pos (Nat.zero_le _))
set_option maxRecDepth 20000 in
theorem rs_L_law_186 (Ln : Nat) (xs : Nat → Int32) (n : Nat) (L : AL) (st : List AV) (M : List AC) (c s : Nat) : rx_L_law Ln xs (n + 1) 186 L st M c s = am_jB (fun pc L st M => rx_L_law Ln xs n pc L st M c s) ((tCv 5 1 fn_X5_write) 186 L st M) := (ra_L rfl n L st M c s).trans (if_pos (Nat.zero_le _))
set_option maxRecDepth 20000 in
theorem rs_L_law_189 (Ln : Nat) (xs : Nat → Int32) (n : Nat) (L : AL) (st : List AV) (M : List AC) (c s : Nat) : rx_L_law Ln xs (n + 1) 189 L st M c s = am_jB (fun pc L st M => rx_L_law Ln xs n pc L st M c s) ((tAld 2 1) 189 L st M) := (ra_L rfl n L st M c s).trans (if_pos (Nat.zero_le _))
set_option maxRecDepth 20000 in
theorem rs_L_law_190 (Ln : Nat) (xs : Nat → Int32) (n : Nat) (L : AL) (st : List AV) (M : List AC) (c s : Nat) : rx_L_law Ln xs (n + 1) 190 L st M c s = am_jB (fun pc L st M => rx_L_law Ln xs n pc L st M c s) ((tAld 0 1) 190 L st M) := (ra_L rfl n L st M c s).trans (if_pos (Nat.zero_le _))
set_option maxRecDepth 20000 in
theorem rs_L_law_191 (Ln : Nat) (xs : Nat → Int32) (n : Nat) (L : AL) (st : List AV) (M : List AC) (c s : Nat) : rx_L_law Ln xs (n + 1) 191 L st M c s = am_jB (fun pc L st M => rx_L_law Ln xs n pc L st M c s) ((tIld 3 1) 191 L st M) := (ra_L rfl n L st M c s).trans (if_pos (Nat.zero_le _))
set_option maxRecDepth 20000 in
theorem rs_L_law_192 (Ln : Nat) (xs : Nat → Int32) (n : Nat) (L : AL) (st : List AV) (M : List AC) (c s : Nat) : rx_L_law Ln xs (n + 1) 192 L st M c s = am_jB (fun pc L st M => rx_L_law Ln xs n pc L st M c s) ((tIc 1 1) 192 L st M) := (ra_L rfl n L st M c s).trans (if_pos (Nat.zero_le _))
set_option maxRecDepth 20000 in
theorem rs_L_law_193 (Ln : Nat) (xs : Nat → Int32) (n : Nat) (L : AL) (st : List AV) (M : List AC) (c s : Nat) : rx_L_law Ln xs (n + 1) 193 L st M c s = am_jB (fun pc L st M => rx_L_law Ln xs n pc L st M c s) ((tI2 (fun a b => a + b)) 193 L st M) := (ra_L rfl n L st M c s).trans (if_pos (Nat.zero_le _))
set_option maxRecDepth 20000 in
theorem rs_L_law_194 (Ln : Nat) (xs : Nat → Int32) (n : Nat) (L : AL) (st : List AV) (M : List AC) (c s : Nat) : rx_L_law Ln xs (n + 1) 194 L st M c s = am_jC (rx_L_law Ln xs n) ((tSx Ln xs) 194 L st M) c s := (ra_A rfl n L st M c s).trans (if_pos (Nat.zero_le _))
set_option maxRecDepth 20000 in
theorem rs_L_law_195 (Ln : Nat) (xs : Nat → Int32) (n : Nat) (L : AL) (st : List AV) (M : List AC) (c s : Nat) : rx_L_law Ln xs (n + 1) 195 L st M c s = am_jB (fun pc L st M => rx_L_law Ln xs n pc L st M c s) ((tCv 6 1 fn_X6_write) 195 L st M) := (ra_L rfl n L st M c s).trans (if_pos (Nat.zero_le _))
set_option maxRecDepth 20000 in
theorem rs_L_law_198 (Ln : Nat) (xs : Nat → Int32) (n : Nat) (L : AL) (st : List AV) (M : List AC) (c s : Nat) : rx_L_law Ln xs (n + 1) 198 L st M c s = am_jB (fun pc L st M => rx_L_law Ln xs n pc L st M c s) ((tCmeq 1088) 198 L st M) := (ra_L rfl n L st M c s).trans (if_pos (Nat.zero_le _))
set_option maxRecDepth 20000 in
theorem rs_L_law_201 (Ln : Nat) (xs : Nat → Int32) (n : Nat) (L : AL) (st : List AV) (M : List AC) (c s : Nat) : rx_L_law Ln xs (n + 1) 201 L st M c s = am_jB (fun pc L st M => rx_L_law Ln xs n pc L st M c s) ((tIc 0 1) 201 L st M) := (ra_L rfl n L st M c s).trans (if_pos (Nat.zero_le _))
set_option maxRecDepth 20000 in
theorem rs_L_law_203 (Ln : Nat) (xs : Nat → Int32) (n : Nat) (L : AL) (st : List AV) (M : List AC) (c s : Nat) : rx_L_law Ln xs (n + 1) 203 L st M c s = am_jB (fun pc L st M => rx_L_law Ln xs n pc L st M c s) ((tAld 1 1) 203 L st M) := (ra_L rfl n L st M c s).trans (if_pos (Nat.zero_le _))
set_option maxRecDepth 20000 in
theorem rs_L_law_204 (Ln : Nat) (xs : Nat → Int32) (n : Nat) (L : AL) (st : List AV) (M : List AC) (c s : Nat) : rx_L_law Ln xs (n + 1) 204 L st M c s = am_jB (fun pc L st M => rx_L_law Ln xs n pc L st M c s) ((tCv 5 0 fn_X5_wipe) 204 L st M) := (ra_L rfl n L st M c s).trans (if_pos (Nat.zero_le _))
set_option maxRecDepth 20000 in
theorem rs_L_law_207 (Ln : Nat) (xs : Nat → Int32) (n : Nat) (L : AL) (st : List AV) (M : List AC) (c s : Nat) : rx_L_law Ln xs (n + 1) 207 L st M c s = am_jB (fun pc L st M => rx_L_law Ln xs n pc L st M c s) ((tAld 2 1) 207 L st M) := (ra_L rfl n L st M c s).trans (if_pos (Nat.zero_le _))
set_option maxRecDepth 20000 in
theorem rs_L_law_208 (Ln : Nat) (xs : Nat → Int32) (n : Nat) (L : AL) (st : List AV) (M : List AC) (c s : Nat) : rx_L_law Ln xs (n + 1) 208 L st M c s = am_jB (fun pc L st M => rx_L_law Ln xs n pc L st M c s) ((tCv 6 0 fn_X6_wipe) 208 L st M) := (ra_L rfl n L st M c s).trans (if_pos (Nat.zero_le _))
set_option maxRecDepth 20000 in
theorem rs_L_law_211 (Ln : Nat) (xs : Nat → Int32) (n : Nat) (L : AL) (st : List AV) (M : List AC) (c s : Nat) : rx_L_law Ln xs (n + 1) 211 L st M c s = am_jB (fun pc L st M => rx_L_law Ln xs n pc L st M c s) ((tCmeq 1088) 211 L st M) := (ra_L rfl n L st M c s).trans (if_pos (Nat.zero_le _))
set_option maxRecDepth 20000 in
theorem rs_L_law_214 (Ln : Nat) (xs : Nat → Int32) (n : Nat) (L : AL) (st : List AV) (M : List AC) (c s : Nat) : rx_L_law Ln xs (n + 1) 214 L st M c s = am_jB (fun pc L st M => rx_L_law Ln xs n pc L st M c s) ((tIc 0 1) 214 L st M) := (ra_L rfl n L st M c s).trans (if_pos (Nat.zero_le _))
set_option maxRecDepth 20000 in
theorem rs_L_law_216 (Ln : Nat) (xs : Nat → Int32) (n : Nat) (L : AL) (st : List AV) (M : List AC) (c s : Nat) : rx_L_law Ln xs (n + 1) 216 L st M c s = am_jB (fun pc L st M => rx_L_law Ln xs n pc L st M c s) ((tAld 1 1) 216 L st M) := (ra_L rfl n L st M c s).trans (if_pos (Nat.zero_le _))
set_option maxRecDepth 20000 in
theorem rs_L_law_217 (Ln : Nat) (xs : Nat → Int32) (n : Nat) (L : AL) (st : List AV) (M : List AC) (c s : Nat) : rx_L_law Ln xs (n + 1) 217 L st M c s = am_jB (fun pc L st M => rx_L_law Ln xs n pc L st M c s) ((tCv 5 0 fn_X5_fault) 217 L st M) := (ra_L rfl n L st M c s).trans (if_pos (Nat.zero_le _))
set_option maxRecDepth 20000 in
theorem rs_L_law_220 (Ln : Nat) (xs : Nat → Int32) (n : Nat) (L : AL) (st : List AV) (M : List AC) (c s : Nat) : rx_L_law Ln xs (n + 1) 220 L st M c s = am_jB (fun pc L st M => rx_L_law Ln xs n pc L st M c s) ((tAld 2 1) 220 L st M) := (ra_L rfl n L st M c s).trans (if_pos (Nat.zero_le _))
set_option maxRecDepth 20000 in
theorem rs_L_law_221 (Ln : Nat) (xs : Nat → Int32) (n : Nat) (L : AL) (st : List AV) (M : List AC) (c s : Nat) : rx_L_law Ln xs (n + 1) 221 L st M c s = am_jB (fun pc L st M => rx_L_law Ln xs n pc L st M c s) ((tCv 6 0 fn_X6_fault) 221 L st M) := (ra_L rfl n L st M c s).trans (if_pos (Nat.zero_le _))
set_option maxRecDepth 20000 in
theorem rs_L_law_224 (Ln : Nat) (xs : Nat → Int32) (n : Nat) (L : AL) (st : List AV) (M : List AC) (c s : Nat) : rx_L_law Ln xs (n + 1) 224 L st M c s = am_jB (fun pc L st M => rx_L_law Ln xs n pc L st M c s) ((tCmeq 1088) 224 L st M) := (ra_L rfl n L st M c s).trans (if_pos (Nat.zero_le _))
set_option maxRecDepth 20000 in
theorem rs_L_law_227 (Ln : Nat) (xs : Nat → Int32) (n : Nat) (L : AL) (st : List AV) (M : List AC) (c s : Nat) : rx_L_law Ln xs (n + 1) 227 L st M c s = am_jB (fun pc L st M => rx_L_law Ln xs n pc L st M c s) ((tIc 0 1) 227 L st M) := (ra_L rfl n L st M c s).trans (if_pos (Nat.zero_le _))
set_option maxRecDepth 20000 in
theorem rs_L_law_229 (Ln : Nat) (xs : Nat → Int32) (n : Nat) (L : AL) (st : List AV) (M : List AC) (c s : Nat) : rx_L_law Ln xs (n + 1) 229 L st M c s = am_jB (fun pc L st M => rx_L_law Ln xs n pc L st M c s) ((tAld 1 1) 229 L st M) := (ra_L rfl n L st M c s).trans (if_pos (Nat.zero_le _))
set_option maxRecDepth 20000 in
theorem rs_L_law_230 (Ln : Nat) (xs : Nat → Int32) (n : Nat) (L : AL) (st : List AV) (M : List AC) (c s : Nat) : rx_L_law Ln xs (n + 1) 230 L st M c s = am_jB (fun pc L st M => rx_L_law Ln xs n pc L st M c s) ((tCv 5 0 fn_X5_bed) 230 L st M) := (ra_L rfl n L st M c s).trans (if_pos (Nat.zero_le _))
set_option maxRecDepth 20000 in
theorem rs_L_law_233 (Ln : Nat) (xs : Nat → Int32) (n : Nat) (L : AL) (st : List AV) (M : List AC) (c s : Nat) : rx_L_law Ln xs (n + 1) 233 L st M c s = am_jB (fun pc L st M => rx_L_law Ln xs n pc L st M c s) ((tAld 2 1) 233 L st M) := (ra_L rfl n L st M c s).trans (if_pos (Nat.zero_le _))
set_option maxRecDepth 20000 in
theorem rs_L_law_234 (Ln : Nat) (xs : Nat → Int32) (n : Nat) (L : AL) (st : List AV) (M : List AC) (c s : Nat) : rx_L_law Ln xs (n + 1) 234 L st M c s = am_jB (fun pc L st M => rx_L_law Ln xs n pc L st M c s) ((tCv 6 0 fn_X6_bed) 234 L st M) := (ra_L rfl n L st M c s).trans (if_pos (Nat.zero_le _))
set_option maxRecDepth 20000 in
theorem rs_L_law_237 (Ln : Nat) (xs : Nat → Int32) (n : Nat) (L : AL) (st : List AV) (M : List AC) (c s : Nat) : rx_L_law Ln xs (n + 1) 237 L st M c s = am_jB (fun pc L st M => rx_L_law Ln xs n pc L st M c s) ((tCmeq 1088) 237 L st M) := (ra_L rfl n L st M c s).trans (if_pos (Nat.zero_le _))
set_option maxRecDepth 20000 in
theorem rs_L_law_240 (Ln : Nat) (xs : Nat → Int32) (n : Nat) (L : AL) (st : List AV) (M : List AC) (c s : Nat) : rx_L_law Ln xs (n + 1) 240 L st M c s = am_jB (fun pc L st M => rx_L_law Ln xs n pc L st M c s) ((tIc 0 1) 240 L st M) := (ra_L rfl n L st M c s).trans (if_pos (Nat.zero_le _))
set_option maxRecDepth 20000 in
theorem rs_L_law_242 (Ln : Nat) (xs : Nat → Int32) (n : Nat) (L : AL) (st : List AV) (M : List AC) (c s : Nat) : rx_L_law Ln xs (n + 1) 242 L st M c s = am_jB (fun pc L st M => rx_L_law Ln xs n pc L st M c s) ((tAld 1 1) 242 L st M) := (ra_L rfl n L st M c s).trans (if_pos (Nat.zero_le _))
set_option maxRecDepth 20000 in
theorem rs_L_law_243 (Ln : Nat) (xs : Nat → Int32) (n : Nat) (L : AL) (st : List AV) (M : List AC) (c s : Nat) : rx_L_law Ln xs (n + 1) 243 L st M c s = am_jB (fun pc L st M => rx_L_law Ln xs n pc L st M c s) ((tAld 0 1) 243 L st M) := (ra_L rfl n L st M c s).trans (if_pos (Nat.zero_le _))
set_option maxRecDepth 20000 in
theorem rs_L_law_244 (Ln : Nat) (xs : Nat → Int32) (n : Nat) (L : AL) (st : List AV) (M : List AC) (c s : Nat) : rx_L_law Ln xs (n + 1) 244 L st M c s = am_jB (fun pc L st M => rx_L_law Ln xs n pc L st M c s) ((tIld 3 1) 244 L st M) := (ra_L rfl n L st M c s).trans (if_pos (Nat.zero_le _))
set_option maxRecDepth 20000 in
theorem rs_L_law_245 (Ln : Nat) (xs : Nat → Int32) (n : Nat) (L : AL) (st : List AV) (M : List AC) (c s : Nat) : rx_L_law Ln xs (n + 1) 245 L st M c s = am_jB (fun pc L st M => rx_L_law Ln xs n pc L st M c s) ((tIc 1 1) 245 L st M) := (ra_L rfl n L st M c s).trans (if_pos (Nat.zero_le _))
set_option maxRecDepth 20000 in
theorem rs_L_law_246 (Ln : Nat) (xs : Nat → Int32) (n : Nat) (L : AL) (st : List AV) (M : List AC) (c s : Nat) : rx_L_law Ln xs (n + 1) 246 L st M c s = am_jB (fun pc L st M => rx_L_law Ln xs n pc L st M c s) ((tI2 (fun a b => a + b)) 246 L st M) := (ra_L rfl n L st M c s).trans (if_pos (Nat.zero_le _))
set_option maxRecDepth 20000 in
theorem rs_L_law_247 (Ln : Nat) (xs : Nat → Int32) (n : Nat) (L : AL) (st : List AV) (M : List AC) (c s : Nat) : rx_L_law Ln xs (n + 1) 247 L st M c s = am_jC (rx_L_law Ln xs n) ((tSx Ln xs) 247 L st M) c s := (ra_A rfl n L st M c s).trans (if_pos (Nat.zero_le _))
set_option maxRecDepth 20000 in
theorem rs_L_law_248 (Ln : Nat) (xs : Nat → Int32) (n : Nat) (L : AL) (st : List AV) (M : List AC) (c s : Nat) : rx_L_law Ln xs (n + 1) 248 L st M c s = am_jB (fun pc L st M => rx_L_law Ln xs n pc L st M c s) ((tAld 0 1) 248 L st M) := (ra_L rfl n L st M c s).trans (if_pos (Nat.zero_le _))
set_option maxRecDepth 20000 in
theorem rs_L_law_249 (Ln : Nat) (xs : Nat → Int32) (n : Nat) (L : AL) (st : List AV) (M : List AC) (c s : Nat) : rx_L_law Ln xs (n + 1) 249 L st M c s = am_jB (fun pc L st M => rx_L_law Ln xs n pc L st M c s) ((tIld 3 1) 249 L st M) := (ra_L rfl n L st M c s).trans (if_pos (Nat.zero_le _))
set_option maxRecDepth 20000 in
theorem rs_L_law_250 (Ln : Nat) (xs : Nat → Int32) (n : Nat) (L : AL) (st : List AV) (M : List AC) (c s : Nat) : rx_L_law Ln xs (n + 1) 250 L st M c s = am_jB (fun pc L st M => rx_L_law Ln xs n pc L st M c s) ((tIc 2 1) 250 L st M) := (ra_L rfl n L st M c s).trans (if_pos (Nat.zero_le _))
set_option maxRecDepth 20000 in
theorem rs_L_law_251 (Ln : Nat) (xs : Nat → Int32) (n : Nat) (L : AL) (st : List AV) (M : List AC) (c s : Nat) : rx_L_law Ln xs (n + 1) 251 L st M c s = am_jB (fun pc L st M => rx_L_law Ln xs n pc L st M c s) ((tI2 (fun a b => a + b)) 251 L st M) := (ra_L rfl n L st M c s).trans (if_pos (Nat.zero_le _))
set_option maxRecDepth 20000 in
theorem rs_L_law_252 (Ln : Nat) (xs : Nat → Int32) (n : Nat) (L : AL) (st : List AV) (M : List AC) (c s : Nat) : rx_L_law Ln xs (n + 1) 252 L st M c s = am_jC (rx_L_law Ln xs n) ((tSx Ln xs) 252 L st M) c s := (ra_A rfl n L st M c s).trans (if_pos (Nat.zero_le _))
set_option maxRecDepth 20000 in
theorem rs_L_law_253 (Ln : Nat) (xs : Nat → Int32) (n : Nat) (L : AL) (st : List AV) (M : List AC) (c s : Nat) : rx_L_law Ln xs (n + 1) 253 L st M c s = am_jB (fun pc L st M => rx_L_law Ln xs n pc L st M c s) ((tCv 5 2 fn_X5_corner) 253 L st M) := (ra_L rfl n L st M c s).trans (if_pos (Nat.zero_le _))
set_option maxRecDepth 20000 in
theorem rs_L_law_256 (Ln : Nat) (xs : Nat → Int32) (n : Nat) (L : AL) (st : List AV) (M : List AC) (c s : Nat) : rx_L_law Ln xs (n + 1) 256 L st M c s = am_jB (fun pc L st M => rx_L_law Ln xs n pc L st M c s) ((tAld 2 1) 256 L st M) := (ra_L rfl n L st M c s).trans (if_pos (Nat.zero_le _))
set_option maxRecDepth 20000 in
theorem rs_L_law_257 (Ln : Nat) (xs : Nat → Int32) (n : Nat) (L : AL) (st : List AV) (M : List AC) (c s : Nat) : rx_L_law Ln xs (n + 1) 257 L st M c s = am_jB (fun pc L st M => rx_L_law Ln xs n pc L st M c s) ((tAld 0 1) 257 L st M) := (ra_L rfl n L st M c s).trans (if_pos (Nat.zero_le _))
set_option maxRecDepth 20000 in
theorem rs_L_law_258 (Ln : Nat) (xs : Nat → Int32) (n : Nat) (L : AL) (st : List AV) (M : List AC) (c s : Nat) : rx_L_law Ln xs (n + 1) 258 L st M c s = am_jB (fun pc L st M => rx_L_law Ln xs n pc L st M c s) ((tIld 3 1) 258 L st M) := (ra_L rfl n L st M c s).trans (if_pos (Nat.zero_le _))
set_option maxRecDepth 20000 in
theorem rs_L_law_259 (Ln : Nat) (xs : Nat → Int32) (n : Nat) (L : AL) (st : List AV) (M : List AC) (c s : Nat) : rx_L_law Ln xs (n + 1) 259 L st M c s = am_jB (fun pc L st M => rx_L_law Ln xs n pc L st M c s) ((tIc 1 1) 259 L st M) := (ra_L rfl n L st M c s).trans (if_pos (Nat.zero_le _))
set_option maxRecDepth 20000 in
theorem rs_L_law_260 (Ln : Nat) (xs : Nat → Int32) (n : Nat) (L : AL) (st : List AV) (M : List AC) (c s : Nat) : rx_L_law Ln xs (n + 1) 260 L st M c s = am_jB (fun pc L st M => rx_L_law Ln xs n pc L st M c s) ((tI2 (fun a b => a + b)) 260 L st M) := (ra_L rfl n L st M c s).trans (if_pos (Nat.zero_le _))
set_option maxRecDepth 20000 in
theorem rs_L_law_261 (Ln : Nat) (xs : Nat → Int32) (n : Nat) (L : AL) (st : List AV) (M : List AC) (c s : Nat) : rx_L_law Ln xs (n + 1) 261 L st M c s = am_jC (rx_L_law Ln xs n) ((tSx Ln xs) 261 L st M) c s := (ra_A rfl n L st M c s).trans (if_pos (Nat.zero_le _))
set_option maxRecDepth 20000 in
theorem rs_L_law_262 (Ln : Nat) (xs : Nat → Int32) (n : Nat) (L : AL) (st : List AV) (M : List AC) (c s : Nat) : rx_L_law Ln xs (n + 1) 262 L st M c s = am_jB (fun pc L st M => rx_L_law Ln xs n pc L st M c s) ((tAld 0 1) 262 L st M) := (ra_L rfl n L st M c s).trans (if_pos (Nat.zero_le _))
set_option maxRecDepth 20000 in
theorem rs_L_law_263 (Ln : Nat) (xs : Nat → Int32) (n : Nat) (L : AL) (st : List AV) (M : List AC) (c s : Nat) : rx_L_law Ln xs (n + 1) 263 L st M c s = am_jB (fun pc L st M => rx_L_law Ln xs n pc L st M c s) ((tIld 3 1) 263 L st M) := (ra_L rfl n L st M c s).trans (if_pos (Nat.zero_le _))
set_option maxRecDepth 20000 in
theorem rs_L_law_264 (Ln : Nat) (xs : Nat → Int32) (n : Nat) (L : AL) (st : List AV) (M : List AC) (c s : Nat) : rx_L_law Ln xs (n + 1) 264 L st M c s = am_jB (fun pc L st M => rx_L_law Ln xs n pc L st M c s) ((tIc 2 1) 264 L st M) := (ra_L rfl n L st M c s).trans (if_pos (Nat.zero_le _))
set_option maxRecDepth 20000 in
theorem rs_L_law_265 (Ln : Nat) (xs : Nat → Int32) (n : Nat) (L : AL) (st : List AV) (M : List AC) (c s : Nat) : rx_L_law Ln xs (n + 1) 265 L st M c s = am_jB (fun pc L st M => rx_L_law Ln xs n pc L st M c s) ((tI2 (fun a b => a + b)) 265 L st M) := (ra_L rfl n L st M c s).trans (if_pos (Nat.zero_le _))
set_option maxRecDepth 20000 in
theorem rs_L_law_266 (Ln : Nat) (xs : Nat → Int32) (n : Nat) (L : AL) (st : List AV) (M : List AC) (c s : Nat) : rx_L_law Ln xs (n + 1) 266 L st M c s = am_jC (rx_L_law Ln xs n) ((tSx Ln xs) 266 L st M) c s := (ra_A rfl n L st M c s).trans (if_pos (Nat.zero_le _))
set_option maxRecDepth 20000 in
theorem rs_L_law_267 (Ln : Nat) (xs : Nat → Int32) (n : Nat) (L : AL) (st : List AV) (M : List AC) (c s : Nat) : rx_L_law Ln xs (n + 1) 267 L st M c s = am_jB (fun pc L st M => rx_L_law Ln xs n pc L st M c s) ((tCv 6 2 fn_X6_corner) 267 L st M) := (ra_L rfl n L st M c s).trans (if_pos (Nat.zero_le _))
set_option maxRecDepth 20000 in
theorem rs_L_law_270 (Ln : Nat) (xs : Nat → Int32) (n : Nat) (L : AL) (st : List AV) (M : List AC) (c s : Nat) : rx_L_law Ln xs (n + 1) 270 L st M c s = am_jB (fun pc L st M => rx_L_law Ln xs n pc L st M c s) ((tCmeq 1088) 270 L st M) := (ra_L rfl n L st M c s).trans (if_pos (Nat.zero_le _))
set_option maxRecDepth 20000 in
theorem rs_L_law_273 (Ln : Nat) (xs : Nat → Int32) (n : Nat) (L : AL) (st : List AV) (M : List AC) (c s : Nat) : rx_L_law Ln xs (n + 1) 273 L st M c s = am_jB (fun pc L st M => rx_L_law Ln xs n pc L st M c s) ((tIc 0 1) 273 L st M) := (ra_L rfl n L st M c s).trans (if_pos (Nat.zero_le _))
set_option maxRecDepth 20000 in
theorem rs_L_law_275 (Ln : Nat) (xs : Nat → Int32) (n : Nat) (L : AL) (st : List AV) (M : List AC) (c s : Nat) : rx_L_law Ln xs (n + 1) 275 L st M c s = am_jB (fun pc L st M => rx_L_law Ln xs n pc L st M c s) ((tAld 1 1) 275 L st M) := (ra_L rfl n L st M c s).trans (if_pos (Nat.zero_le _))
set_option maxRecDepth 20000 in
theorem rs_L_law_276 (Ln : Nat) (xs : Nat → Int32) (n : Nat) (L : AL) (st : List AV) (M : List AC) (c s : Nat) : rx_L_law Ln xs (n + 1) 276 L st M c s = am_jB (fun pc L st M => rx_L_law Ln xs n pc L st M c s) ((tAld 0 1) 276 L st M) := (ra_L rfl n L st M c s).trans (if_pos (Nat.zero_le _))
set_option maxRecDepth 20000 in
theorem rs_L_law_277 (Ln : Nat) (xs : Nat → Int32) (n : Nat) (L : AL) (st : List AV) (M : List AC) (c s : Nat) : rx_L_law Ln xs (n + 1) 277 L st M c s = am_jB (fun pc L st M => rx_L_law Ln xs n pc L st M c s) ((tIld 3 1) 277 L st M) := (ra_L rfl n L st M c s).trans (if_pos (Nat.zero_le _))
set_option maxRecDepth 20000 in
theorem rs_L_law_278 (Ln : Nat) (xs : Nat → Int32) (n : Nat) (L : AL) (st : List AV) (M : List AC) (c s : Nat) : rx_L_law Ln xs (n + 1) 278 L st M c s = am_jB (fun pc L st M => rx_L_law Ln xs n pc L st M c s) ((tIc 1 1) 278 L st M) := (ra_L rfl n L st M c s).trans (if_pos (Nat.zero_le _))
set_option maxRecDepth 20000 in
theorem rs_L_law_279 (Ln : Nat) (xs : Nat → Int32) (n : Nat) (L : AL) (st : List AV) (M : List AC) (c s : Nat) : rx_L_law Ln xs (n + 1) 279 L st M c s = am_jB (fun pc L st M => rx_L_law Ln xs n pc L st M c s) ((tI2 (fun a b => a + b)) 279 L st M) := (ra_L rfl n L st M c s).trans (if_pos (Nat.zero_le _))
set_option maxRecDepth 20000 in
theorem rs_L_law_280 (Ln : Nat) (xs : Nat → Int32) (n : Nat) (L : AL) (st : List AV) (M : List AC) (c s : Nat) : rx_L_law Ln xs (n + 1) 280 L st M c s = am_jC (rx_L_law Ln xs n) ((tSx Ln xs) 280 L st M) c s := (ra_A rfl n L st M c s).trans (if_pos (Nat.zero_le _))
set_option maxRecDepth 20000 in
theorem rs_L_law_281 (Ln : Nat) (xs : Nat → Int32) (n : Nat) (L : AL) (st : List AV) (M : List AC) (c s : Nat) : rx_L_law Ln xs (n + 1) 281 L st M c s = am_jB (fun pc L st M => rx_L_law Ln xs n pc L st M c s) ((tAld 0 1) 281 L st M) := (ra_L rfl n L st M c s).trans (if_pos (Nat.zero_le _))
set_option maxRecDepth 20000 in
theorem rs_L_law_282 (Ln : Nat) (xs : Nat → Int32) (n : Nat) (L : AL) (st : List AV) (M : List AC) (c s : Nat) : rx_L_law Ln xs (n + 1) 282 L st M c s = am_jB (fun pc L st M => rx_L_law Ln xs n pc L st M c s) ((tIld 3 1) 282 L st M) := (ra_L rfl n L st M c s).trans (if_pos (Nat.zero_le _))
set_option maxRecDepth 20000 in
theorem rs_L_law_283 (Ln : Nat) (xs : Nat → Int32) (n : Nat) (L : AL) (st : List AV) (M : List AC) (c s : Nat) : rx_L_law Ln xs (n + 1) 283 L st M c s = am_jB (fun pc L st M => rx_L_law Ln xs n pc L st M c s) ((tIc 2 1) 283 L st M) := (ra_L rfl n L st M c s).trans (if_pos (Nat.zero_le _))
set_option maxRecDepth 20000 in
theorem rs_L_law_284 (Ln : Nat) (xs : Nat → Int32) (n : Nat) (L : AL) (st : List AV) (M : List AC) (c s : Nat) : rx_L_law Ln xs (n + 1) 284 L st M c s = am_jB (fun pc L st M => rx_L_law Ln xs n pc L st M c s) ((tI2 (fun a b => a + b)) 284 L st M) := (ra_L rfl n L st M c s).trans (if_pos (Nat.zero_le _))
set_option maxRecDepth 20000 in
theorem rs_L_law_285 (Ln : Nat) (xs : Nat → Int32) (n : Nat) (L : AL) (st : List AV) (M : List AC) (c s : Nat) : rx_L_law Ln xs (n + 1) 285 L st M c s = am_jC (rx_L_law Ln xs n) ((tSx Ln xs) 285 L st M) c s := (ra_A rfl n L st M c s).trans (if_pos (Nat.zero_le _))
set_option maxRecDepth 20000 in
theorem rs_L_law_286 (Ln : Nat) (xs : Nat → Int32) (n : Nat) (L : AL) (st : List AV) (M : List AC) (c s : Nat) : rx_L_law Ln xs (n + 1) 286 L st M c s = am_jB (fun pc L st M => rx_L_law Ln xs n pc L st M c s) ((tCv 5 2 fn_X5_edge) 286 L st M) := (ra_L rfl n L st M c s).trans (if_pos (Nat.zero_le _))
set_option maxRecDepth 20000 in
theorem rs_L_law_289 (Ln : Nat) (xs : Nat → Int32) (n : Nat) (L : AL) (st : List AV) (M : List AC) (c s : Nat) : rx_L_law Ln xs (n + 1) 289 L st M c s = am_jB (fun pc L st M => rx_L_law Ln xs n pc L st M c s) ((tAld 2 1) 289 L st M) := (ra_L rfl n L st M c s).trans (if_pos (Nat.zero_le _))
set_option maxRecDepth 20000 in
theorem rs_L_law_290 (Ln : Nat) (xs : Nat → Int32) (n : Nat) (L : AL) (st : List AV) (M : List AC) (c s : Nat) : rx_L_law Ln xs (n + 1) 290 L st M c s = am_jB (fun pc L st M => rx_L_law Ln xs n pc L st M c s) ((tAld 0 1) 290 L st M) := (ra_L rfl n L st M c s).trans (if_pos (Nat.zero_le _))
set_option maxRecDepth 20000 in
theorem rs_L_law_291 (Ln : Nat) (xs : Nat → Int32) (n : Nat) (L : AL) (st : List AV) (M : List AC) (c s : Nat) : rx_L_law Ln xs (n + 1) 291 L st M c s = am_jB (fun pc L st M => rx_L_law Ln xs n pc L st M c s) ((tIld 3 1) 291 L st M) := (ra_L rfl n L st M c s).trans (if_pos (Nat.zero_le _))
set_option maxRecDepth 20000 in
theorem rs_L_law_292 (Ln : Nat) (xs : Nat → Int32) (n : Nat) (L : AL) (st : List AV) (M : List AC) (c s : Nat) : rx_L_law Ln xs (n + 1) 292 L st M c s = am_jB (fun pc L st M => rx_L_law Ln xs n pc L st M c s) ((tIc 1 1) 292 L st M) := (ra_L rfl n L st M c s).trans (if_pos (Nat.zero_le _))
set_option maxRecDepth 20000 in
theorem rs_L_law_293 (Ln : Nat) (xs : Nat → Int32) (n : Nat) (L : AL) (st : List AV) (M : List AC) (c s : Nat) : rx_L_law Ln xs (n + 1) 293 L st M c s = am_jB (fun pc L st M => rx_L_law Ln xs n pc L st M c s) ((tI2 (fun a b => a + b)) 293 L st M) := (ra_L rfl n L st M c s).trans (if_pos (Nat.zero_le _))
set_option maxRecDepth 20000 in
theorem rs_L_law_294 (Ln : Nat) (xs : Nat → Int32) (n : Nat) (L : AL) (st : List AV) (M : List AC) (c s : Nat) : rx_L_law Ln xs (n + 1) 294 L st M c s = am_jC (rx_L_law Ln xs n) ((tSx Ln xs) 294 L st M) c s := (ra_A rfl n L st M c s).trans (if_pos (Nat.zero_le _))
set_option maxRecDepth 20000 in
theorem rs_L_law_295 (Ln : Nat) (xs : Nat → Int32) (n : Nat) (L : AL) (st : List AV) (M : List AC) (c s : Nat) : rx_L_law Ln xs (n + 1) 295 L st M c s = am_jB (fun pc L st M => rx_L_law Ln xs n pc L st M c s) ((tAld 0 1) 295 L st M) := (ra_L rfl n L st M c s).trans (if_pos (Nat.zero_le _))
set_option maxRecDepth 20000 in
theorem rs_L_law_296 (Ln : Nat) (xs : Nat → Int32) (n : Nat) (L : AL) (st : List AV) (M : List AC) (c s : Nat) : rx_L_law Ln xs (n + 1) 296 L st M c s = am_jB (fun pc L st M => rx_L_law Ln xs n pc L st M c s) ((tIld 3 1) 296 L st M) := (ra_L rfl n L st M c s).trans (if_pos (Nat.zero_le _))
set_option maxRecDepth 20000 in
theorem rs_L_law_297 (Ln : Nat) (xs : Nat → Int32) (n : Nat) (L : AL) (st : List AV) (M : List AC) (c s : Nat) : rx_L_law Ln xs (n + 1) 297 L st M c s = am_jB (fun pc L st M => rx_L_law Ln xs n pc L st M c s) ((tIc 2 1) 297 L st M) := (ra_L rfl n L st M c s).trans (if_pos (Nat.zero_le _))
set_option maxRecDepth 20000 in
theorem rs_L_law_298 (Ln : Nat) (xs : Nat → Int32) (n : Nat) (L : AL) (st : List AV) (M : List AC) (c s : Nat) : rx_L_law Ln xs (n + 1) 298 L st M c s = am_jB (fun pc L st M => rx_L_law Ln xs n pc L st M c s) ((tI2 (fun a b => a + b)) 298 L st M) := (ra_L rfl n L st M c s).trans (if_pos (Nat.zero_le _))
set_option maxRecDepth 20000 in
theorem rs_L_law_299 (Ln : Nat) (xs : Nat → Int32) (n : Nat) (L : AL) (st : List AV) (M : List AC) (c s : Nat) : rx_L_law Ln xs (n + 1) 299 L st M c s = am_jC (rx_L_law Ln xs n) ((tSx Ln xs) 299 L st M) c s := (ra_A rfl n L st M c s).trans (if_pos (Nat.zero_le _))
set_option maxRecDepth 20000 in
theorem rs_L_law_300 (Ln : Nat) (xs : Nat → Int32) (n : Nat) (L : AL) (st : List AV) (M : List AC) (c s : Nat) : rx_L_law Ln xs (n + 1) 300 L st M c s = am_jB (fun pc L st M => rx_L_law Ln xs n pc L st M c s) ((tCv 6 2 fn_X6_edge) 300 L st M) := (ra_L rfl n L st M c s).trans (if_pos (Nat.zero_le _))
set_option maxRecDepth 20000 in
theorem rs_L_law_303 (Ln : Nat) (xs : Nat → Int32) (n : Nat) (L : AL) (st : List AV) (M : List AC) (c s : Nat) : rx_L_law Ln xs (n + 1) 303 L st M c s = am_jB (fun pc L st M => rx_L_law Ln xs n pc L st M c s) ((tCmeq 1088) 303 L st M) := (ra_L rfl n L st M c s).trans (if_pos (Nat.zero_le _))
set_option maxRecDepth 20000 in
theorem rs_L_law_306 (Ln : Nat) (xs : Nat → Int32) (n : Nat) (L : AL) (st : List AV) (M : List AC) (c s : Nat) : rx_L_law Ln xs (n + 1) 306 L st M c s = am_jB (fun pc L st M => rx_L_law Ln xs n pc L st M c s) ((tIc 0 1) 306 L st M) := (ra_L rfl n L st M c s).trans (if_pos (Nat.zero_le _))
set_option maxRecDepth 20000 in
theorem rs_L_law_308 (Ln : Nat) (xs : Nat → Int32) (n : Nat) (L : AL) (st : List AV) (M : List AC) (c s : Nat) : rx_L_law Ln xs (n + 1) 308 L st M c s = am_jB (fun pc L st M => rx_L_law Ln xs n pc L st M c s) ((tAld 1 1) 308 L st M) := (ra_L rfl n L st M c s).trans (if_pos (Nat.zero_le _))
set_option maxRecDepth 20000 in
theorem rs_L_law_309 (Ln : Nat) (xs : Nat → Int32) (n : Nat) (L : AL) (st : List AV) (M : List AC) (c s : Nat) : rx_L_law Ln xs (n + 1) 309 L st M c s = am_jB (fun pc L st M => rx_L_law Ln xs n pc L st M c s) ((tAld 0 1) 309 L st M) := (ra_L rfl n L st M c s).trans (if_pos (Nat.zero_le _))
set_option maxRecDepth 20000 in
theorem rs_L_law_310 (Ln : Nat) (xs : Nat → Int32) (n : Nat) (L : AL) (st : List AV) (M : List AC) (c s : Nat) : rx_L_law Ln xs (n + 1) 310 L st M c s = am_jB (fun pc L st M => rx_L_law Ln xs n pc L st M c s) ((tIld 3 1) 310 L st M) := (ra_L rfl n L st M c s).trans (if_pos (Nat.zero_le _))
set_option maxRecDepth 20000 in
theorem rs_L_law_311 (Ln : Nat) (xs : Nat → Int32) (n : Nat) (L : AL) (st : List AV) (M : List AC) (c s : Nat) : rx_L_law Ln xs (n + 1) 311 L st M c s = am_jB (fun pc L st M => rx_L_law Ln xs n pc L st M c s) ((tIc 1 1) 311 L st M) := (ra_L rfl n L st M c s).trans (if_pos (Nat.zero_le _))
set_option maxRecDepth 20000 in
theorem rs_L_law_312 (Ln : Nat) (xs : Nat → Int32) (n : Nat) (L : AL) (st : List AV) (M : List AC) (c s : Nat) : rx_L_law Ln xs (n + 1) 312 L st M c s = am_jB (fun pc L st M => rx_L_law Ln xs n pc L st M c s) ((tI2 (fun a b => a + b)) 312 L st M) := (ra_L rfl n L st M c s).trans (if_pos (Nat.zero_le _))
set_option maxRecDepth 20000 in
theorem rs_L_law_313 (Ln : Nat) (xs : Nat → Int32) (n : Nat) (L : AL) (st : List AV) (M : List AC) (c s : Nat) : rx_L_law Ln xs (n + 1) 313 L st M c s = am_jC (rx_L_law Ln xs n) ((tSx Ln xs) 313 L st M) c s := (ra_A rfl n L st M c s).trans (if_pos (Nat.zero_le _))
set_option maxRecDepth 20000 in
theorem rs_L_law_314 (Ln : Nat) (xs : Nat → Int32) (n : Nat) (L : AL) (st : List AV) (M : List AC) (c s : Nat) : rx_L_law Ln xs (n + 1) 314 L st M c s = am_jB (fun pc L st M => rx_L_law Ln xs n pc L st M c s) ((tAld 0 1) 314 L st M) := (ra_L rfl n L st M c s).trans (if_pos (Nat.zero_le _))
set_option maxRecDepth 20000 in
theorem rs_L_law_315 (Ln : Nat) (xs : Nat → Int32) (n : Nat) (L : AL) (st : List AV) (M : List AC) (c s : Nat) : rx_L_law Ln xs (n + 1) 315 L st M c s = am_jB (fun pc L st M => rx_L_law Ln xs n pc L st M c s) ((tIld 3 1) 315 L st M) := (ra_L rfl n L st M c s).trans (if_pos (Nat.zero_le _))
set_option maxRecDepth 20000 in
theorem rs_L_law_316 (Ln : Nat) (xs : Nat → Int32) (n : Nat) (L : AL) (st : List AV) (M : List AC) (c s : Nat) : rx_L_law Ln xs (n + 1) 316 L st M c s = am_jB (fun pc L st M => rx_L_law Ln xs n pc L st M c s) ((tIc 2 1) 316 L st M) := (ra_L rfl n L st M c s).trans (if_pos (Nat.zero_le _))
set_option maxRecDepth 20000 in
theorem rs_L_law_317 (Ln : Nat) (xs : Nat → Int32) (n : Nat) (L : AL) (st : List AV) (M : List AC) (c s : Nat) : rx_L_law Ln xs (n + 1) 317 L st M c s = am_jB (fun pc L st M => rx_L_law Ln xs n pc L st M c s) ((tI2 (fun a b => a + b)) 317 L st M) := (ra_L rfl n L st M c s).trans (if_pos (Nat.zero_le _))
set_option maxRecDepth 20000 in
theorem rs_L_law_318 (Ln : Nat) (xs : Nat → Int32) (n : Nat) (L : AL) (st : List AV) (M : List AC) (c s : Nat) : rx_L_law Ln xs (n + 1) 318 L st M c s = am_jC (rx_L_law Ln xs n) ((tSx Ln xs) 318 L st M) c s := (ra_A rfl n L st M c s).trans (if_pos (Nat.zero_le _))
set_option maxRecDepth 20000 in
theorem rs_L_law_319 (Ln : Nat) (xs : Nat → Int32) (n : Nat) (L : AL) (st : List AV) (M : List AC) (c s : Nat) : rx_L_law Ln xs (n + 1) 319 L st M c s = am_jB (fun pc L st M => rx_L_law Ln xs n pc L st M c s) ((tCv 5 2 fn_X5_would) 319 L st M) := (ra_L rfl n L st M c s).trans (if_pos (Nat.zero_le _))
set_option maxRecDepth 20000 in
theorem rs_L_law_322 (Ln : Nat) (xs : Nat → Int32) (n : Nat) (L : AL) (st : List AV) (M : List AC) (c s : Nat) : rx_L_law Ln xs (n + 1) 322 L st M c s = am_jB (fun pc L st M => rx_L_law Ln xs n pc L st M c s) ((tAld 2 1) 322 L st M) := (ra_L rfl n L st M c s).trans (if_pos (Nat.zero_le _))
set_option maxRecDepth 20000 in
theorem rs_L_law_323 (Ln : Nat) (xs : Nat → Int32) (n : Nat) (L : AL) (st : List AV) (M : List AC) (c s : Nat) : rx_L_law Ln xs (n + 1) 323 L st M c s = am_jB (fun pc L st M => rx_L_law Ln xs n pc L st M c s) ((tAld 0 1) 323 L st M) := (ra_L rfl n L st M c s).trans (if_pos (Nat.zero_le _))
set_option maxRecDepth 20000 in
theorem rs_L_law_324 (Ln : Nat) (xs : Nat → Int32) (n : Nat) (L : AL) (st : List AV) (M : List AC) (c s : Nat) : rx_L_law Ln xs (n + 1) 324 L st M c s = am_jB (fun pc L st M => rx_L_law Ln xs n pc L st M c s) ((tIld 3 1) 324 L st M) := (ra_L rfl n L st M c s).trans (if_pos (Nat.zero_le _))
set_option maxRecDepth 20000 in
theorem rs_L_law_325 (Ln : Nat) (xs : Nat → Int32) (n : Nat) (L : AL) (st : List AV) (M : List AC) (c s : Nat) : rx_L_law Ln xs (n + 1) 325 L st M c s = am_jB (fun pc L st M => rx_L_law Ln xs n pc L st M c s) ((tIc 1 1) 325 L st M) := (ra_L rfl n L st M c s).trans (if_pos (Nat.zero_le _))
set_option maxRecDepth 20000 in
theorem rs_L_law_326 (Ln : Nat) (xs : Nat → Int32) (n : Nat) (L : AL) (st : List AV) (M : List AC) (c s : Nat) : rx_L_law Ln xs (n + 1) 326 L st M c s = am_jB (fun pc L st M => rx_L_law Ln xs n pc L st M c s) ((tI2 (fun a b => a + b)) 326 L st M) := (ra_L rfl n L st M c s).trans (if_pos (Nat.zero_le _))
set_option maxRecDepth 20000 in
theorem rs_L_law_327 (Ln : Nat) (xs : Nat → Int32) (n : Nat) (L : AL) (st : List AV) (M : List AC) (c s : Nat) : rx_L_law Ln xs (n + 1) 327 L st M c s = am_jC (rx_L_law Ln xs n) ((tSx Ln xs) 327 L st M) c s := (ra_A rfl n L st M c s).trans (if_pos (Nat.zero_le _))
set_option maxRecDepth 20000 in
theorem rs_L_law_328 (Ln : Nat) (xs : Nat → Int32) (n : Nat) (L : AL) (st : List AV) (M : List AC) (c s : Nat) : rx_L_law Ln xs (n + 1) 328 L st M c s = am_jB (fun pc L st M => rx_L_law Ln xs n pc L st M c s) ((tAld 0 1) 328 L st M) := (ra_L rfl n L st M c s).trans (if_pos (Nat.zero_le _))
set_option maxRecDepth 20000 in
theorem rs_L_law_329 (Ln : Nat) (xs : Nat → Int32) (n : Nat) (L : AL) (st : List AV) (M : List AC) (c s : Nat) : rx_L_law Ln xs (n + 1) 329 L st M c s = am_jB (fun pc L st M => rx_L_law Ln xs n pc L st M c s) ((tIld 3 1) 329 L st M) := (ra_L rfl n L st M c s).trans (if_pos (Nat.zero_le _))
set_option maxRecDepth 20000 in
theorem rs_L_law_330 (Ln : Nat) (xs : Nat → Int32) (n : Nat) (L : AL) (st : List AV) (M : List AC) (c s : Nat) : rx_L_law Ln xs (n + 1) 330 L st M c s = am_jB (fun pc L st M => rx_L_law Ln xs n pc L st M c s) ((tIc 2 1) 330 L st M) := (ra_L rfl n L st M c s).trans (if_pos (Nat.zero_le _))
set_option maxRecDepth 20000 in
theorem rs_L_law_331 (Ln : Nat) (xs : Nat → Int32) (n : Nat) (L : AL) (st : List AV) (M : List AC) (c s : Nat) : rx_L_law Ln xs (n + 1) 331 L st M c s = am_jB (fun pc L st M => rx_L_law Ln xs n pc L st M c s) ((tI2 (fun a b => a + b)) 331 L st M) := (ra_L rfl n L st M c s).trans (if_pos (Nat.zero_le _))
set_option maxRecDepth 20000 in
theorem rs_L_law_332 (Ln : Nat) (xs : Nat → Int32) (n : Nat) (L : AL) (st : List AV) (M : List AC) (c s : Nat) : rx_L_law Ln xs (n + 1) 332 L st M c s = am_jC (rx_L_law Ln xs n) ((tSx Ln xs) 332 L st M) c s := (ra_A rfl n L st M c s).trans (if_pos (Nat.zero_le _))
set_option maxRecDepth 20000 in
theorem rs_L_law_333 (Ln : Nat) (xs : Nat → Int32) (n : Nat) (L : AL) (st : List AV) (M : List AC) (c s : Nat) : rx_L_law Ln xs (n + 1) 333 L st M c s = am_jB (fun pc L st M => rx_L_law Ln xs n pc L st M c s) ((tCv 6 2 fn_X6_would) 333 L st M) := (ra_L rfl n L st M c s).trans (if_pos (Nat.zero_le _))
set_option maxRecDepth 20000 in
theorem rs_L_law_336 (Ln : Nat) (xs : Nat → Int32) (n : Nat) (L : AL) (st : List AV) (M : List AC) (c s : Nat) : rx_L_law Ln xs (n + 1) 336 L st M c s = am_jB (fun pc L st M => rx_L_law Ln xs n pc L st M c s) ((tCmeq 1088) 336 L st M) := (ra_L rfl n L st M c s).trans (if_pos (Nat.zero_le _))
set_option maxRecDepth 20000 in
theorem rs_L_law_339 (Ln : Nat) (xs : Nat → Int32) (n : Nat) (L : AL) (st : List AV) (M : List AC) (c s : Nat) : rx_L_law Ln xs (n + 1) 339 L st M c s = am_jB (fun pc L st M => rx_L_law Ln xs n pc L st M c s) ((tIc 0 1) 339 L st M) := (ra_L rfl n L st M c s).trans (if_pos (Nat.zero_le _))
set_option maxRecDepth 20000 in
theorem rs_L_law_341 (Ln : Nat) (xs : Nat → Int32) (n : Nat) (L : AL) (st : List AV) (M : List AC) (c s : Nat) : rx_L_law Ln xs (n + 1) 341 L st M c s = am_jB (fun pc L st M => rx_L_law Ln xs n pc L st M c s) ((tAld 1 1) 341 L st M) := (ra_L rfl n L st M c s).trans (if_pos (Nat.zero_le _))
set_option maxRecDepth 20000 in
theorem rs_L_law_342 (Ln : Nat) (xs : Nat → Int32) (n : Nat) (L : AL) (st : List AV) (M : List AC) (c s : Nat) : rx_L_law Ln xs (n + 1) 342 L st M c s = am_jB (fun pc L st M => rx_L_law Ln xs n pc L st M c s) ((tAld 0 1) 342 L st M) := (ra_L rfl n L st M c s).trans (if_pos (Nat.zero_le _))
set_option maxRecDepth 20000 in
theorem rs_L_law_343 (Ln : Nat) (xs : Nat → Int32) (n : Nat) (L : AL) (st : List AV) (M : List AC) (c s : Nat) : rx_L_law Ln xs (n + 1) 343 L st M c s = am_jB (fun pc L st M => rx_L_law Ln xs n pc L st M c s) ((tIld 3 1) 343 L st M) := (ra_L rfl n L st M c s).trans (if_pos (Nat.zero_le _))
set_option maxRecDepth 20000 in
theorem rs_L_law_344 (Ln : Nat) (xs : Nat → Int32) (n : Nat) (L : AL) (st : List AV) (M : List AC) (c s : Nat) : rx_L_law Ln xs (n + 1) 344 L st M c s = am_jB (fun pc L st M => rx_L_law Ln xs n pc L st M c s) ((tIc 1 1) 344 L st M) := (ra_L rfl n L st M c s).trans (if_pos (Nat.zero_le _))
set_option maxRecDepth 20000 in
theorem rs_L_law_345 (Ln : Nat) (xs : Nat → Int32) (n : Nat) (L : AL) (st : List AV) (M : List AC) (c s : Nat) : rx_L_law Ln xs (n + 1) 345 L st M c s = am_jB (fun pc L st M => rx_L_law Ln xs n pc L st M c s) ((tI2 (fun a b => a + b)) 345 L st M) := (ra_L rfl n L st M c s).trans (if_pos (Nat.zero_le _))
set_option maxRecDepth 20000 in
theorem rs_L_law_346 (Ln : Nat) (xs : Nat → Int32) (n : Nat) (L : AL) (st : List AV) (M : List AC) (c s : Nat) : rx_L_law Ln xs (n + 1) 346 L st M c s = am_jC (rx_L_law Ln xs n) ((tSx Ln xs) 346 L st M) c s := (ra_A rfl n L st M c s).trans (if_pos (Nat.zero_le _))
set_option maxRecDepth 20000 in
theorem rs_L_law_347 (Ln : Nat) (xs : Nat → Int32) (n : Nat) (L : AL) (st : List AV) (M : List AC) (c s : Nat) : rx_L_law Ln xs (n + 1) 347 L st M c s = am_jB (fun pc L st M => rx_L_law Ln xs n pc L st M c s) ((tAld 0 1) 347 L st M) := (ra_L rfl n L st M c s).trans (if_pos (Nat.zero_le _))
set_option maxRecDepth 20000 in
theorem rs_L_law_348 (Ln : Nat) (xs : Nat → Int32) (n : Nat) (L : AL) (st : List AV) (M : List AC) (c s : Nat) : rx_L_law Ln xs (n + 1) 348 L st M c s = am_jB (fun pc L st M => rx_L_law Ln xs n pc L st M c s) ((tIld 3 1) 348 L st M) := (ra_L rfl n L st M c s).trans (if_pos (Nat.zero_le _))
set_option maxRecDepth 20000 in
theorem rs_L_law_349 (Ln : Nat) (xs : Nat → Int32) (n : Nat) (L : AL) (st : List AV) (M : List AC) (c s : Nat) : rx_L_law Ln xs (n + 1) 349 L st M c s = am_jB (fun pc L st M => rx_L_law Ln xs n pc L st M c s) ((tIc 2 1) 349 L st M) := (ra_L rfl n L st M c s).trans (if_pos (Nat.zero_le _))
set_option maxRecDepth 20000 in
theorem rs_L_law_350 (Ln : Nat) (xs : Nat → Int32) (n : Nat) (L : AL) (st : List AV) (M : List AC) (c s : Nat) : rx_L_law Ln xs (n + 1) 350 L st M c s = am_jB (fun pc L st M => rx_L_law Ln xs n pc L st M c s) ((tI2 (fun a b => a + b)) 350 L st M) := (ra_L rfl n L st M c s).trans (if_pos (Nat.zero_le _))
set_option maxRecDepth 20000 in
theorem rs_L_law_351 (Ln : Nat) (xs : Nat → Int32) (n : Nat) (L : AL) (st : List AV) (M : List AC) (c s : Nat) : rx_L_law Ln xs (n + 1) 351 L st M c s = am_jC (rx_L_law Ln xs n) ((tSx Ln xs) 351 L st M) c s := (ra_A rfl n L st M c s).trans (if_pos (Nat.zero_le _))
set_option maxRecDepth 20000 in
theorem rs_L_law_352 (Ln : Nat) (xs : Nat → Int32) (n : Nat) (L : AL) (st : List AV) (M : List AC) (c s : Nat) : rx_L_law Ln xs (n + 1) 352 L st M c s = am_jB (fun pc L st M => rx_L_law Ln xs n pc L st M c s) ((tCv 5 2 fn_X5_set) 352 L st M) := (ra_L rfl n L st M c s).trans (if_pos (Nat.zero_le _))
set_option maxRecDepth 20000 in
theorem rs_L_law_355 (Ln : Nat) (xs : Nat → Int32) (n : Nat) (L : AL) (st : List AV) (M : List AC) (c s : Nat) : rx_L_law Ln xs (n + 1) 355 L st M c s = am_jB (fun pc L st M => rx_L_law Ln xs n pc L st M c s) ((tAld 2 1) 355 L st M) := (ra_L rfl n L st M c s).trans (if_pos (Nat.zero_le _))
set_option maxRecDepth 20000 in
theorem rs_L_law_356 (Ln : Nat) (xs : Nat → Int32) (n : Nat) (L : AL) (st : List AV) (M : List AC) (c s : Nat) : rx_L_law Ln xs (n + 1) 356 L st M c s = am_jB (fun pc L st M => rx_L_law Ln xs n pc L st M c s) ((tAld 0 1) 356 L st M) := (ra_L rfl n L st M c s).trans (if_pos (Nat.zero_le _))
set_option maxRecDepth 20000 in
theorem rs_L_law_357 (Ln : Nat) (xs : Nat → Int32) (n : Nat) (L : AL) (st : List AV) (M : List AC) (c s : Nat) : rx_L_law Ln xs (n + 1) 357 L st M c s = am_jB (fun pc L st M => rx_L_law Ln xs n pc L st M c s) ((tIld 3 1) 357 L st M) := (ra_L rfl n L st M c s).trans (if_pos (Nat.zero_le _))
set_option maxRecDepth 20000 in
theorem rs_L_law_358 (Ln : Nat) (xs : Nat → Int32) (n : Nat) (L : AL) (st : List AV) (M : List AC) (c s : Nat) : rx_L_law Ln xs (n + 1) 358 L st M c s = am_jB (fun pc L st M => rx_L_law Ln xs n pc L st M c s) ((tIc 1 1) 358 L st M) := (ra_L rfl n L st M c s).trans (if_pos (Nat.zero_le _))
set_option maxRecDepth 20000 in
theorem rs_L_law_359 (Ln : Nat) (xs : Nat → Int32) (n : Nat) (L : AL) (st : List AV) (M : List AC) (c s : Nat) : rx_L_law Ln xs (n + 1) 359 L st M c s = am_jB (fun pc L st M => rx_L_law Ln xs n pc L st M c s) ((tI2 (fun a b => a + b)) 359 L st M) := (ra_L rfl n L st M c s).trans (if_pos (Nat.zero_le _))
set_option maxRecDepth 20000 in
theorem rs_L_law_360 (Ln : Nat) (xs : Nat → Int32) (n : Nat) (L : AL) (st : List AV) (M : List AC) (c s : Nat) : rx_L_law Ln xs (n + 1) 360 L st M c s = am_jC (rx_L_law Ln xs n) ((tSx Ln xs) 360 L st M) c s := (ra_A rfl n L st M c s).trans (if_pos (Nat.zero_le _))
set_option maxRecDepth 20000 in
theorem rs_L_law_361 (Ln : Nat) (xs : Nat → Int32) (n : Nat) (L : AL) (st : List AV) (M : List AC) (c s : Nat) : rx_L_law Ln xs (n + 1) 361 L st M c s = am_jB (fun pc L st M => rx_L_law Ln xs n pc L st M c s) ((tAld 0 1) 361 L st M) := (ra_L rfl n L st M c s).trans (if_pos (Nat.zero_le _))
set_option maxRecDepth 20000 in
theorem rs_L_law_362 (Ln : Nat) (xs : Nat → Int32) (n : Nat) (L : AL) (st : List AV) (M : List AC) (c s : Nat) : rx_L_law Ln xs (n + 1) 362 L st M c s = am_jB (fun pc L st M => rx_L_law Ln xs n pc L st M c s) ((tIld 3 1) 362 L st M) := (ra_L rfl n L st M c s).trans (if_pos (Nat.zero_le _))
set_option maxRecDepth 20000 in
theorem rs_L_law_363 (Ln : Nat) (xs : Nat → Int32) (n : Nat) (L : AL) (st : List AV) (M : List AC) (c s : Nat) : rx_L_law Ln xs (n + 1) 363 L st M c s = am_jB (fun pc L st M => rx_L_law Ln xs n pc L st M c s) ((tIc 2 1) 363 L st M) := (ra_L rfl n L st M c s).trans (if_pos (Nat.zero_le _))
set_option maxRecDepth 20000 in
theorem rs_L_law_364 (Ln : Nat) (xs : Nat → Int32) (n : Nat) (L : AL) (st : List AV) (M : List AC) (c s : Nat) : rx_L_law Ln xs (n + 1) 364 L st M c s = am_jB (fun pc L st M => rx_L_law Ln xs n pc L st M c s) ((tI2 (fun a b => a + b)) 364 L st M) := (ra_L rfl n L st M c s).trans (if_pos (Nat.zero_le _))
set_option maxRecDepth 20000 in
theorem rs_L_law_365 (Ln : Nat) (xs : Nat → Int32) (n : Nat) (L : AL) (st : List AV) (M : List AC) (c s : Nat) : rx_L_law Ln xs (n + 1) 365 L st M c s = am_jC (rx_L_law Ln xs n) ((tSx Ln xs) 365 L st M) c s := (ra_A rfl n L st M c s).trans (if_pos (Nat.zero_le _))
set_option maxRecDepth 20000 in
theorem rs_L_law_366 (Ln : Nat) (xs : Nat → Int32) (n : Nat) (L : AL) (st : List AV) (M : List AC) (c s : Nat) : rx_L_law Ln xs (n + 1) 366 L st M c s = am_jB (fun pc L st M => rx_L_law Ln xs n pc L st M c s) ((tCv 6 2 fn_X6_set) 366 L st M) := (ra_L rfl n L st M c s).trans (if_pos (Nat.zero_le _))
set_option maxRecDepth 20000 in
theorem rs_L_law_369 (Ln : Nat) (xs : Nat → Int32) (n : Nat) (L : AL) (st : List AV) (M : List AC) (c s : Nat) : rx_L_law Ln xs (n + 1) 369 L st M c s = am_jB (fun pc L st M => rx_L_law Ln xs n pc L st M c s) ((tCmeq 1088) 369 L st M) := (ra_L rfl n L st M c s).trans (if_pos (Nat.zero_le _))
set_option maxRecDepth 20000 in
theorem rs_L_law_372 (Ln : Nat) (xs : Nat → Int32) (n : Nat) (L : AL) (st : List AV) (M : List AC) (c s : Nat) : rx_L_law Ln xs (n + 1) 372 L st M c s = am_jB (fun pc L st M => rx_L_law Ln xs n pc L st M c s) ((tIc 0 1) 372 L st M) := (ra_L rfl n L st M c s).trans (if_pos (Nat.zero_le _))
set_option maxRecDepth 20000 in
theorem rs_L_law_374 (Ln : Nat) (xs : Nat → Int32) (n : Nat) (L : AL) (st : List AV) (M : List AC) (c s : Nat) : rx_L_law Ln xs (n + 1) 374 L st M c s = am_jB (fun pc L st M => rx_L_law Ln xs n pc L st M c s) ((tAld 1 1) 374 L st M) := (ra_L rfl n L st M c s).trans (if_pos (Nat.zero_le _))
set_option maxRecDepth 20000 in
theorem rs_L_law_375 (Ln : Nat) (xs : Nat → Int32) (n : Nat) (L : AL) (st : List AV) (M : List AC) (c s : Nat) : rx_L_law Ln xs (n + 1) 375 L st M c s = am_jB (fun pc L st M => rx_L_law Ln xs n pc L st M c s) ((tAld 0 1) 375 L st M) := (ra_L rfl n L st M c s).trans (if_pos (Nat.zero_le _))
set_option maxRecDepth 20000 in
theorem rs_L_law_376 (Ln : Nat) (xs : Nat → Int32) (n : Nat) (L : AL) (st : List AV) (M : List AC) (c s : Nat) : rx_L_law Ln xs (n + 1) 376 L st M c s = am_jB (fun pc L st M => rx_L_law Ln xs n pc L st M c s) ((tIld 3 1) 376 L st M) := (ra_L rfl n L st M c s).trans (if_pos (Nat.zero_le _))
set_option maxRecDepth 20000 in
theorem rs_L_law_377 (Ln : Nat) (xs : Nat → Int32) (n : Nat) (L : AL) (st : List AV) (M : List AC) (c s : Nat) : rx_L_law Ln xs (n + 1) 377 L st M c s = am_jB (fun pc L st M => rx_L_law Ln xs n pc L st M c s) ((tIc 1 1) 377 L st M) := (ra_L rfl n L st M c s).trans (if_pos (Nat.zero_le _))
set_option maxRecDepth 20000 in
theorem rs_L_law_378 (Ln : Nat) (xs : Nat → Int32) (n : Nat) (L : AL) (st : List AV) (M : List AC) (c s : Nat) : rx_L_law Ln xs (n + 1) 378 L st M c s = am_jB (fun pc L st M => rx_L_law Ln xs n pc L st M c s) ((tI2 (fun a b => a + b)) 378 L st M) := (ra_L rfl n L st M c s).trans (if_pos (Nat.zero_le _))
set_option maxRecDepth 20000 in
theorem rs_L_law_379 (Ln : Nat) (xs : Nat → Int32) (n : Nat) (L : AL) (st : List AV) (M : List AC) (c s : Nat) : rx_L_law Ln xs (n + 1) 379 L st M c s = am_jC (rx_L_law Ln xs n) ((tSx Ln xs) 379 L st M) c s := (ra_A rfl n L st M c s).trans (if_pos (Nat.zero_le _))
set_option maxRecDepth 20000 in
theorem rs_L_law_380 (Ln : Nat) (xs : Nat → Int32) (n : Nat) (L : AL) (st : List AV) (M : List AC) (c s : Nat) : rx_L_law Ln xs (n + 1) 380 L st M c s = am_jB (fun pc L st M => rx_L_law Ln xs n pc L st M c s) ((tAld 0 1) 380 L st M) := (ra_L rfl n L st M c s).trans (if_pos (Nat.zero_le _))
set_option maxRecDepth 20000 in
theorem rs_L_law_381 (Ln : Nat) (xs : Nat → Int32) (n : Nat) (L : AL) (st : List AV) (M : List AC) (c s : Nat) : rx_L_law Ln xs (n + 1) 381 L st M c s = am_jB (fun pc L st M => rx_L_law Ln xs n pc L st M c s) ((tIld 3 1) 381 L st M) := (ra_L rfl n L st M c s).trans (if_pos (Nat.zero_le _))
set_option maxRecDepth 20000 in
theorem rs_L_law_382 (Ln : Nat) (xs : Nat → Int32) (n : Nat) (L : AL) (st : List AV) (M : List AC) (c s : Nat) : rx_L_law Ln xs (n + 1) 382 L st M c s = am_jB (fun pc L st M => rx_L_law Ln xs n pc L st M c s) ((tIc 2 1) 382 L st M) := (ra_L rfl n L st M c s).trans (if_pos (Nat.zero_le _))
set_option maxRecDepth 20000 in
theorem rs_L_law_383 (Ln : Nat) (xs : Nat → Int32) (n : Nat) (L : AL) (st : List AV) (M : List AC) (c s : Nat) : rx_L_law Ln xs (n + 1) 383 L st M c s = am_jB (fun pc L st M => rx_L_law Ln xs n pc L st M c s) ((tI2 (fun a b => a + b)) 383 L st M) := (ra_L rfl n L st M c s).trans (if_pos (Nat.zero_le _))
set_option maxRecDepth 20000 in
theorem rs_L_law_384 (Ln : Nat) (xs : Nat → Int32) (n : Nat) (L : AL) (st : List AV) (M : List AC) (c s : Nat) : rx_L_law Ln xs (n + 1) 384 L st M c s = am_jC (rx_L_law Ln xs n) ((tSx Ln xs) 384 L st M) c s := (ra_A rfl n L st M c s).trans (if_pos (Nat.zero_le _))
set_option maxRecDepth 20000 in
theorem rs_L_law_385 (Ln : Nat) (xs : Nat → Int32) (n : Nat) (L : AL) (st : List AV) (M : List AC) (c s : Nat) : rx_L_law Ln xs (n + 1) 385 L st M c s = am_jB (fun pc L st M => rx_L_law Ln xs n pc L st M c s) ((tCv 5 2 fn_X5_bend) 385 L st M) := (ra_L rfl n L st M c s).trans (if_pos (Nat.zero_le _))
set_option maxRecDepth 20000 in
theorem rs_L_law_388 (Ln : Nat) (xs : Nat → Int32) (n : Nat) (L : AL) (st : List AV) (M : List AC) (c s : Nat) : rx_L_law Ln xs (n + 1) 388 L st M c s = am_jB (fun pc L st M => rx_L_law Ln xs n pc L st M c s) ((tAld 2 1) 388 L st M) := (ra_L rfl n L st M c s).trans (if_pos (Nat.zero_le _))
set_option maxRecDepth 20000 in
theorem rs_L_law_389 (Ln : Nat) (xs : Nat → Int32) (n : Nat) (L : AL) (st : List AV) (M : List AC) (c s : Nat) : rx_L_law Ln xs (n + 1) 389 L st M c s = am_jB (fun pc L st M => rx_L_law Ln xs n pc L st M c s) ((tAld 0 1) 389 L st M) := (ra_L rfl n L st M c s).trans (if_pos (Nat.zero_le _))
set_option maxRecDepth 20000 in
theorem rs_L_law_390 (Ln : Nat) (xs : Nat → Int32) (n : Nat) (L : AL) (st : List AV) (M : List AC) (c s : Nat) : rx_L_law Ln xs (n + 1) 390 L st M c s = am_jB (fun pc L st M => rx_L_law Ln xs n pc L st M c s) ((tIld 3 1) 390 L st M) := (ra_L rfl n L st M c s).trans (if_pos (Nat.zero_le _))
set_option maxRecDepth 20000 in
theorem rs_L_law_391 (Ln : Nat) (xs : Nat → Int32) (n : Nat) (L : AL) (st : List AV) (M : List AC) (c s : Nat) : rx_L_law Ln xs (n + 1) 391 L st M c s = am_jB (fun pc L st M => rx_L_law Ln xs n pc L st M c s) ((tIc 1 1) 391 L st M) := (ra_L rfl n L st M c s).trans (if_pos (Nat.zero_le _))
set_option maxRecDepth 20000 in
theorem rs_L_law_392 (Ln : Nat) (xs : Nat → Int32) (n : Nat) (L : AL) (st : List AV) (M : List AC) (c s : Nat) : rx_L_law Ln xs (n + 1) 392 L st M c s = am_jB (fun pc L st M => rx_L_law Ln xs n pc L st M c s) ((tI2 (fun a b => a + b)) 392 L st M) := (ra_L rfl n L st M c s).trans (if_pos (Nat.zero_le _))
set_option maxRecDepth 20000 in
theorem rs_L_law_393 (Ln : Nat) (xs : Nat → Int32) (n : Nat) (L : AL) (st : List AV) (M : List AC) (c s : Nat) : rx_L_law Ln xs (n + 1) 393 L st M c s = am_jC (rx_L_law Ln xs n) ((tSx Ln xs) 393 L st M) c s := (ra_A rfl n L st M c s).trans (if_pos (Nat.zero_le _))
set_option maxRecDepth 20000 in
theorem rs_L_law_394 (Ln : Nat) (xs : Nat → Int32) (n : Nat) (L : AL) (st : List AV) (M : List AC) (c s : Nat) : rx_L_law Ln xs (n + 1) 394 L st M c s = am_jB (fun pc L st M => rx_L_law Ln xs n pc L st M c s) ((tAld 0 1) 394 L st M) := (ra_L rfl n L st M c s).trans (if_pos (Nat.zero_le _))
set_option maxRecDepth 20000 in
theorem rs_L_law_395 (Ln : Nat) (xs : Nat → Int32) (n : Nat) (L : AL) (st : List AV) (M : List AC) (c s : Nat) : rx_L_law Ln xs (n + 1) 395 L st M c s = am_jB (fun pc L st M => rx_L_law Ln xs n pc L st M c s) ((tIld 3 1) 395 L st M) := (ra_L rfl n L st M c s).trans (if_pos (Nat.zero_le _))
set_option maxRecDepth 20000 in
theorem rs_L_law_396 (Ln : Nat) (xs : Nat → Int32) (n : Nat) (L : AL) (st : List AV) (M : List AC) (c s : Nat) : rx_L_law Ln xs (n + 1) 396 L st M c s = am_jB (fun pc L st M => rx_L_law Ln xs n pc L st M c s) ((tIc 2 1) 396 L st M) := (ra_L rfl n L st M c s).trans (if_pos (Nat.zero_le _))
set_option maxRecDepth 20000 in
theorem rs_L_law_397 (Ln : Nat) (xs : Nat → Int32) (n : Nat) (L : AL) (st : List AV) (M : List AC) (c s : Nat) : rx_L_law Ln xs (n + 1) 397 L st M c s = am_jB (fun pc L st M => rx_L_law Ln xs n pc L st M c s) ((tI2 (fun a b => a + b)) 397 L st M) := (ra_L rfl n L st M c s).trans (if_pos (Nat.zero_le _))
set_option maxRecDepth 20000 in
theorem rs_L_law_398 (Ln : Nat) (xs : Nat → Int32) (n : Nat) (L : AL) (st : List AV) (M : List AC) (c s : Nat) : rx_L_law Ln xs (n + 1) 398 L st M c s = am_jC (rx_L_law Ln xs n) ((tSx Ln xs) 398 L st M) c s := (ra_A rfl n L st M c s).trans (if_pos (Nat.zero_le _))
set_option maxRecDepth 20000 in
theorem rs_L_law_399 (Ln : Nat) (xs : Nat → Int32) (n : Nat) (L : AL) (st : List AV) (M : List AC) (c s : Nat) : rx_L_law Ln xs (n + 1) 399 L st M c s = am_jB (fun pc L st M => rx_L_law Ln xs n pc L st M c s) ((tCv 6 2 fn_X6_bend) 399 L st M) := (ra_L rfl n L st M c s).trans (if_pos (Nat.zero_le _))
set_option maxRecDepth 20000 in
theorem rs_L_law_402 (Ln : Nat) (xs : Nat → Int32) (n : Nat) (L : AL) (st : List AV) (M : List AC) (c s : Nat) : rx_L_law Ln xs (n + 1) 402 L st M c s = am_jB (fun pc L st M => rx_L_law Ln xs n pc L st M c s) ((tCmeq 1088) 402 L st M) := (ra_L rfl n L st M c s).trans (if_pos (Nat.zero_le _))
set_option maxRecDepth 20000 in
theorem rs_L_law_405 (Ln : Nat) (xs : Nat → Int32) (n : Nat) (L : AL) (st : List AV) (M : List AC) (c s : Nat) : rx_L_law Ln xs (n + 1) 405 L st M c s = am_jB (fun pc L st M => rx_L_law Ln xs n pc L st M c s) ((tIc 0 1) 405 L st M) := (ra_L rfl n L st M c s).trans (if_pos (Nat.zero_le _))
set_option maxRecDepth 20000 in
theorem rs_L_law_407 (Ln : Nat) (xs : Nat → Int32) (n : Nat) (L : AL) (st : List AV) (M : List AC) (c s : Nat) : rx_L_law Ln xs (n + 1) 407 L st M c s = am_jB (fun pc L st M => rx_L_law Ln xs n pc L st M c s) ((tAld 1 1) 407 L st M) := (ra_L rfl n L st M c s).trans (if_pos (Nat.zero_le _))
set_option maxRecDepth 20000 in
theorem rs_L_law_408 (Ln : Nat) (xs : Nat → Int32) (n : Nat) (L : AL) (st : List AV) (M : List AC) (c s : Nat) : rx_L_law Ln xs (n + 1) 408 L st M c s = am_jB (fun pc L st M => rx_L_law Ln xs n pc L st M c s) ((tCv 5 0 fn_X5_wash) 408 L st M) := (ra_L rfl n L st M c s).trans (if_pos (Nat.zero_le _))
set_option maxRecDepth 20000 in
theorem rs_L_law_411 (Ln : Nat) (xs : Nat → Int32) (n : Nat) (L : AL) (st : List AV) (M : List AC) (c s : Nat) : rx_L_law Ln xs (n + 1) 411 L st M c s = am_jB (fun pc L st M => rx_L_law Ln xs n pc L st M c s) ((tAld 2 1) 411 L st M) := (ra_L rfl n L st M c s).trans (if_pos (Nat.zero_le _))
set_option maxRecDepth 20000 in
theorem rs_L_law_412 (Ln : Nat) (xs : Nat → Int32) (n : Nat) (L : AL) (st : List AV) (M : List AC) (c s : Nat) : rx_L_law Ln xs (n + 1) 412 L st M c s = am_jB (fun pc L st M => rx_L_law Ln xs n pc L st M c s) ((tCv 6 0 fn_X6_wash) 412 L st M) := (ra_L rfl n L st M c s).trans (if_pos (Nat.zero_le _))
set_option maxRecDepth 20000 in
theorem rs_L_law_415 (Ln : Nat) (xs : Nat → Int32) (n : Nat) (L : AL) (st : List AV) (M : List AC) (c s : Nat) : rx_L_law Ln xs (n + 1) 415 L st M c s = am_jB (fun pc L st M => rx_L_law Ln xs n pc L st M c s) ((tCmeq 1088) 415 L st M) := (ra_L rfl n L st M c s).trans (if_pos (Nat.zero_le _))
set_option maxRecDepth 20000 in
theorem rs_L_law_418 (Ln : Nat) (xs : Nat → Int32) (n : Nat) (L : AL) (st : List AV) (M : List AC) (c s : Nat) : rx_L_law Ln xs (n + 1) 418 L st M c s = am_jB (fun pc L st M => rx_L_law Ln xs n pc L st M c s) ((tIc 0 1) 418 L st M) := (ra_L rfl n L st M c s).trans (if_pos (Nat.zero_le _))
set_option maxRecDepth 20000 in
theorem rs_L_law_420 (Ln : Nat) (xs : Nat → Int32) (n : Nat) (L : AL) (st : List AV) (M : List AC) (c s : Nat) : rx_L_law Ln xs (n + 1) 420 L st M c s = am_jB (fun pc L st M => rx_L_law Ln xs n pc L st M c s) ((tAld 1 1) 420 L st M) := (ra_L rfl n L st M c s).trans (if_pos (Nat.zero_le _))
set_option maxRecDepth 20000 in
theorem rs_L_law_421 (Ln : Nat) (xs : Nat → Int32) (n : Nat) (L : AL) (st : List AV) (M : List AC) (c s : Nat) : rx_L_law Ln xs (n + 1) 421 L st M c s = am_jB (fun pc L st M => rx_L_law Ln xs n pc L st M c s) ((tCv 5 0 fn_X5_turn) 421 L st M) := (ra_L rfl n L st M c s).trans (if_pos (Nat.zero_le _))
set_option maxRecDepth 20000 in
theorem rs_L_law_424 (Ln : Nat) (xs : Nat → Int32) (n : Nat) (L : AL) (st : List AV) (M : List AC) (c s : Nat) : rx_L_law Ln xs (n + 1) 424 L st M c s = am_jB (fun pc L st M => rx_L_law Ln xs n pc L st M c s) ((tAld 2 1) 424 L st M) := (ra_L rfl n L st M c s).trans (if_pos (Nat.zero_le _))
set_option maxRecDepth 20000 in
theorem rs_L_law_425 (Ln : Nat) (xs : Nat → Int32) (n : Nat) (L : AL) (st : List AV) (M : List AC) (c s : Nat) : rx_L_law Ln xs (n + 1) 425 L st M c s = am_jB (fun pc L st M => rx_L_law Ln xs n pc L st M c s) ((tCv 6 0 fn_X6_turn) 425 L st M) := (ra_L rfl n L st M c s).trans (if_pos (Nat.zero_le _))
set_option maxRecDepth 20000 in
theorem rs_L_law_428 (Ln : Nat) (xs : Nat → Int32) (n : Nat) (L : AL) (st : List AV) (M : List AC) (c s : Nat) : rx_L_law Ln xs (n + 1) 428 L st M c s = am_jB (fun pc L st M => rx_L_law Ln xs n pc L st M c s) ((tCmeq 1088) 428 L st M) := (ra_L rfl n L st M c s).trans (if_pos (Nat.zero_le _))
set_option maxRecDepth 20000 in
theorem rs_L_law_431 (Ln : Nat) (xs : Nat → Int32) (n : Nat) (L : AL) (st : List AV) (M : List AC) (c s : Nat) : rx_L_law Ln xs (n + 1) 431 L st M c s = am_jB (fun pc L st M => rx_L_law Ln xs n pc L st M c s) ((tIc 0 1) 431 L st M) := (ra_L rfl n L st M c s).trans (if_pos (Nat.zero_le _))
set_option maxRecDepth 20000 in
theorem rs_L_law_433 (Ln : Nat) (xs : Nat → Int32) (n : Nat) (L : AL) (st : List AV) (M : List AC) (c s : Nat) : rx_L_law Ln xs (n + 1) 433 L st M c s = am_jB (fun pc L st M => rx_L_law Ln xs n pc L st M c s) ((tAld 1 1) 433 L st M) := (ra_L rfl n L st M c s).trans (if_pos (Nat.zero_le _))
set_option maxRecDepth 20000 in
theorem rs_L_law_434 (Ln : Nat) (xs : Nat → Int32) (n : Nat) (L : AL) (st : List AV) (M : List AC) (c s : Nat) : rx_L_law Ln xs (n + 1) 434 L st M c s = am_jB (fun pc L st M => rx_L_law Ln xs n pc L st M c s) ((tCv 5 0 fn_X5_undo) 434 L st M) := (ra_L rfl n L st M c s).trans (if_pos (Nat.zero_le _))
set_option maxRecDepth 20000 in
theorem rs_L_law_437 (Ln : Nat) (xs : Nat → Int32) (n : Nat) (L : AL) (st : List AV) (M : List AC) (c s : Nat) : rx_L_law Ln xs (n + 1) 437 L st M c s = am_jB (fun pc L st M => rx_L_law Ln xs n pc L st M c s) ((tAld 2 1) 437 L st M) := (ra_L rfl n L st M c s).trans (if_pos (Nat.zero_le _))
set_option maxRecDepth 20000 in
theorem rs_L_law_438 (Ln : Nat) (xs : Nat → Int32) (n : Nat) (L : AL) (st : List AV) (M : List AC) (c s : Nat) : rx_L_law Ln xs (n + 1) 438 L st M c s = am_jB (fun pc L st M => rx_L_law Ln xs n pc L st M c s) ((tCv 6 0 fn_X6_undo) 438 L st M) := (ra_L rfl n L st M c s).trans (if_pos (Nat.zero_le _))
set_option maxRecDepth 20000 in
theorem rs_L_law_441 (Ln : Nat) (xs : Nat → Int32) (n : Nat) (L : AL) (st : List AV) (M : List AC) (c s : Nat) : rx_L_law Ln xs (n + 1) 441 L st M c s = am_jB (fun pc L st M => rx_L_law Ln xs n pc L st M c s) ((tCmeq 1088) 441 L st M) := (ra_L rfl n L st M c s).trans (if_pos (Nat.zero_le _))
set_option maxRecDepth 20000 in
theorem rs_L_law_444 (Ln : Nat) (xs : Nat → Int32) (n : Nat) (L : AL) (st : List AV) (M : List AC) (c s : Nat) : rx_L_law Ln xs (n + 1) 444 L st M c s = am_jB (fun pc L st M => rx_L_law Ln xs n pc L st M c s) ((tIc 0 1) 444 L st M) := (ra_L rfl n L st M c s).trans (if_pos (Nat.zero_le _))
set_option maxRecDepth 20000 in
theorem rs_L_law_446 (Ln : Nat) (xs : Nat → Int32) (n : Nat) (L : AL) (st : List AV) (M : List AC) (c s : Nat) : rx_L_law Ln xs (n + 1) 446 L st M c s = am_jB (fun pc L st M => rx_L_law Ln xs n pc L st M c s) ((tAld 1 1) 446 L st M) := (ra_L rfl n L st M c s).trans (if_pos (Nat.zero_le _))
set_option maxRecDepth 20000 in
theorem rs_L_law_447 (Ln : Nat) (xs : Nat → Int32) (n : Nat) (L : AL) (st : List AV) (M : List AC) (c s : Nat) : rx_L_law Ln xs (n + 1) 447 L st M c s = am_jB (fun pc L st M => rx_L_law Ln xs n pc L st M c s) ((tAld 0 1) 447 L st M) := (ra_L rfl n L st M c s).trans (if_pos (Nat.zero_le _))
set_option maxRecDepth 20000 in
theorem rs_L_law_448 (Ln : Nat) (xs : Nat → Int32) (n : Nat) (L : AL) (st : List AV) (M : List AC) (c s : Nat) : rx_L_law Ln xs (n + 1) 448 L st M c s = am_jB (fun pc L st M => rx_L_law Ln xs n pc L st M c s) ((tIld 3 1) 448 L st M) := (ra_L rfl n L st M c s).trans (if_pos (Nat.zero_le _))
set_option maxRecDepth 20000 in
theorem rs_L_law_449 (Ln : Nat) (xs : Nat → Int32) (n : Nat) (L : AL) (st : List AV) (M : List AC) (c s : Nat) : rx_L_law Ln xs (n + 1) 449 L st M c s = am_jB (fun pc L st M => rx_L_law Ln xs n pc L st M c s) ((tIc 1 1) 449 L st M) := (ra_L rfl n L st M c s).trans (if_pos (Nat.zero_le _))
set_option maxRecDepth 20000 in
theorem rs_L_law_450 (Ln : Nat) (xs : Nat → Int32) (n : Nat) (L : AL) (st : List AV) (M : List AC) (c s : Nat) : rx_L_law Ln xs (n + 1) 450 L st M c s = am_jB (fun pc L st M => rx_L_law Ln xs n pc L st M c s) ((tI2 (fun a b => a + b)) 450 L st M) := (ra_L rfl n L st M c s).trans (if_pos (Nat.zero_le _))
set_option maxRecDepth 20000 in
theorem rs_L_law_451 (Ln : Nat) (xs : Nat → Int32) (n : Nat) (L : AL) (st : List AV) (M : List AC) (c s : Nat) : rx_L_law Ln xs (n + 1) 451 L st M c s = am_jC (rx_L_law Ln xs n) ((tSx Ln xs) 451 L st M) c s := (ra_A rfl n L st M c s).trans (if_pos (Nat.zero_le _))
set_option maxRecDepth 20000 in
theorem rs_L_law_452 (Ln : Nat) (xs : Nat → Int32) (n : Nat) (L : AL) (st : List AV) (M : List AC) (c s : Nat) : rx_L_law Ln xs (n + 1) 452 L st M c s = am_jB (fun pc L st M => rx_L_law Ln xs n pc L st M c s) ((tAld 0 1) 452 L st M) := (ra_L rfl n L st M c s).trans (if_pos (Nat.zero_le _))
set_option maxRecDepth 20000 in
theorem rs_L_law_453 (Ln : Nat) (xs : Nat → Int32) (n : Nat) (L : AL) (st : List AV) (M : List AC) (c s : Nat) : rx_L_law Ln xs (n + 1) 453 L st M c s = am_jB (fun pc L st M => rx_L_law Ln xs n pc L st M c s) ((tIld 3 1) 453 L st M) := (ra_L rfl n L st M c s).trans (if_pos (Nat.zero_le _))
set_option maxRecDepth 20000 in
theorem rs_L_law_454 (Ln : Nat) (xs : Nat → Int32) (n : Nat) (L : AL) (st : List AV) (M : List AC) (c s : Nat) : rx_L_law Ln xs (n + 1) 454 L st M c s = am_jB (fun pc L st M => rx_L_law Ln xs n pc L st M c s) ((tIc 2 1) 454 L st M) := (ra_L rfl n L st M c s).trans (if_pos (Nat.zero_le _))
set_option maxRecDepth 20000 in
theorem rs_L_law_455 (Ln : Nat) (xs : Nat → Int32) (n : Nat) (L : AL) (st : List AV) (M : List AC) (c s : Nat) : rx_L_law Ln xs (n + 1) 455 L st M c s = am_jB (fun pc L st M => rx_L_law Ln xs n pc L st M c s) ((tI2 (fun a b => a + b)) 455 L st M) := (ra_L rfl n L st M c s).trans (if_pos (Nat.zero_le _))
set_option maxRecDepth 20000 in
theorem rs_L_law_456 (Ln : Nat) (xs : Nat → Int32) (n : Nat) (L : AL) (st : List AV) (M : List AC) (c s : Nat) : rx_L_law Ln xs (n + 1) 456 L st M c s = am_jC (rx_L_law Ln xs n) ((tSx Ln xs) 456 L st M) c s := (ra_A rfl n L st M c s).trans (if_pos (Nat.zero_le _))
set_option maxRecDepth 20000 in
theorem rs_L_law_457 (Ln : Nat) (xs : Nat → Int32) (n : Nat) (L : AL) (st : List AV) (M : List AC) (c s : Nat) : rx_L_law Ln xs (n + 1) 457 L st M c s = am_jB (fun pc L st M => rx_L_law Ln xs n pc L st M c s) ((tCv 5 2 fn_X5_judge) 457 L st M) := (ra_L rfl n L st M c s).trans (if_pos (Nat.zero_le _))
set_option maxRecDepth 20000 in
theorem rs_L_law_460 (Ln : Nat) (xs : Nat → Int32) (n : Nat) (L : AL) (st : List AV) (M : List AC) (c s : Nat) : rx_L_law Ln xs (n + 1) 460 L st M c s = am_jB (fun pc L st M => rx_L_law Ln xs n pc L st M c s) ((tAld 2 1) 460 L st M) := (ra_L rfl n L st M c s).trans (if_pos (Nat.zero_le _))
set_option maxRecDepth 20000 in
theorem rs_L_law_461 (Ln : Nat) (xs : Nat → Int32) (n : Nat) (L : AL) (st : List AV) (M : List AC) (c s : Nat) : rx_L_law Ln xs (n + 1) 461 L st M c s = am_jB (fun pc L st M => rx_L_law Ln xs n pc L st M c s) ((tAld 0 1) 461 L st M) := (ra_L rfl n L st M c s).trans (if_pos (Nat.zero_le _))
set_option maxRecDepth 20000 in
theorem rs_L_law_462 (Ln : Nat) (xs : Nat → Int32) (n : Nat) (L : AL) (st : List AV) (M : List AC) (c s : Nat) : rx_L_law Ln xs (n + 1) 462 L st M c s = am_jB (fun pc L st M => rx_L_law Ln xs n pc L st M c s) ((tIld 3 1) 462 L st M) := (ra_L rfl n L st M c s).trans (if_pos (Nat.zero_le _))
set_option maxRecDepth 20000 in
theorem rs_L_law_463 (Ln : Nat) (xs : Nat → Int32) (n : Nat) (L : AL) (st : List AV) (M : List AC) (c s : Nat) : rx_L_law Ln xs (n + 1) 463 L st M c s = am_jB (fun pc L st M => rx_L_law Ln xs n pc L st M c s) ((tIc 1 1) 463 L st M) := (ra_L rfl n L st M c s).trans (if_pos (Nat.zero_le _))
set_option maxRecDepth 20000 in
theorem rs_L_law_464 (Ln : Nat) (xs : Nat → Int32) (n : Nat) (L : AL) (st : List AV) (M : List AC) (c s : Nat) : rx_L_law Ln xs (n + 1) 464 L st M c s = am_jB (fun pc L st M => rx_L_law Ln xs n pc L st M c s) ((tI2 (fun a b => a + b)) 464 L st M) := (ra_L rfl n L st M c s).trans (if_pos (Nat.zero_le _))
set_option maxRecDepth 20000 in
theorem rs_L_law_465 (Ln : Nat) (xs : Nat → Int32) (n : Nat) (L : AL) (st : List AV) (M : List AC) (c s : Nat) : rx_L_law Ln xs (n + 1) 465 L st M c s = am_jC (rx_L_law Ln xs n) ((tSx Ln xs) 465 L st M) c s := (ra_A rfl n L st M c s).trans (if_pos (Nat.zero_le _))
set_option maxRecDepth 20000 in
theorem rs_L_law_466 (Ln : Nat) (xs : Nat → Int32) (n : Nat) (L : AL) (st : List AV) (M : List AC) (c s : Nat) : rx_L_law Ln xs (n + 1) 466 L st M c s = am_jB (fun pc L st M => rx_L_law Ln xs n pc L st M c s) ((tAld 0 1) 466 L st M) := (ra_L rfl n L st M c s).trans (if_pos (Nat.zero_le _))
set_option maxRecDepth 20000 in
theorem rs_L_law_467 (Ln : Nat) (xs : Nat → Int32) (n : Nat) (L : AL) (st : List AV) (M : List AC) (c s : Nat) : rx_L_law Ln xs (n + 1) 467 L st M c s = am_jB (fun pc L st M => rx_L_law Ln xs n pc L st M c s) ((tIld 3 1) 467 L st M) := (ra_L rfl n L st M c s).trans (if_pos (Nat.zero_le _))
set_option maxRecDepth 20000 in
theorem rs_L_law_468 (Ln : Nat) (xs : Nat → Int32) (n : Nat) (L : AL) (st : List AV) (M : List AC) (c s : Nat) : rx_L_law Ln xs (n + 1) 468 L st M c s = am_jB (fun pc L st M => rx_L_law Ln xs n pc L st M c s) ((tIc 2 1) 468 L st M) := (ra_L rfl n L st M c s).trans (if_pos (Nat.zero_le _))
set_option maxRecDepth 20000 in
theorem rs_L_law_469 (Ln : Nat) (xs : Nat → Int32) (n : Nat) (L : AL) (st : List AV) (M : List AC) (c s : Nat) : rx_L_law Ln xs (n + 1) 469 L st M c s = am_jB (fun pc L st M => rx_L_law Ln xs n pc L st M c s) ((tI2 (fun a b => a + b)) 469 L st M) := (ra_L rfl n L st M c s).trans (if_pos (Nat.zero_le _))
set_option maxRecDepth 20000 in
theorem rs_L_law_470 (Ln : Nat) (xs : Nat → Int32) (n : Nat) (L : AL) (st : List AV) (M : List AC) (c s : Nat) : rx_L_law Ln xs (n + 1) 470 L st M c s = am_jC (rx_L_law Ln xs n) ((tSx Ln xs) 470 L st M) c s := (ra_A rfl n L st M c s).trans (if_pos (Nat.zero_le _))
set_option maxRecDepth 20000 in
theorem rs_L_law_471 (Ln : Nat) (xs : Nat → Int32) (n : Nat) (L : AL) (st : List AV) (M : List AC) (c s : Nat) : rx_L_law Ln xs (n + 1) 471 L st M c s = am_jB (fun pc L st M => rx_L_law Ln xs n pc L st M c s) ((tCv 6 2 fn_X6_judge) 471 L st M) := (ra_L rfl n L st M c s).trans (if_pos (Nat.zero_le _))
set_option maxRecDepth 20000 in
theorem rs_L_law_474 (Ln : Nat) (xs : Nat → Int32) (n : Nat) (L : AL) (st : List AV) (M : List AC) (c s : Nat) : rx_L_law Ln xs (n + 1) 474 L st M c s = am_jB (fun pc L st M => rx_L_law Ln xs n pc L st M c s) ((tCmeq 1088) 474 L st M) := (ra_L rfl n L st M c s).trans (if_pos (Nat.zero_le _))
set_option maxRecDepth 20000 in
theorem rs_L_law_477 (Ln : Nat) (xs : Nat → Int32) (n : Nat) (L : AL) (st : List AV) (M : List AC) (c s : Nat) : rx_L_law Ln xs (n + 1) 477 L st M c s = am_jB (fun pc L st M => rx_L_law Ln xs n pc L st M c s) ((tIc 0 1) 477 L st M) := (ra_L rfl n L st M c s).trans (if_pos (Nat.zero_le _))
set_option maxRecDepth 20000 in
theorem rs_L_law_479 (Ln : Nat) (xs : Nat → Int32) (n : Nat) (L : AL) (st : List AV) (M : List AC) (c s : Nat) : rx_L_law Ln xs (n + 1) 479 L st M c s = am_jB (fun pc L st M => rx_L_law Ln xs n pc L st M c s) ((tAld 1 1) 479 L st M) := (ra_L rfl n L st M c s).trans (if_pos (Nat.zero_le _))
set_option maxRecDepth 20000 in
theorem rs_L_law_480 (Ln : Nat) (xs : Nat → Int32) (n : Nat) (L : AL) (st : List AV) (M : List AC) (c s : Nat) : rx_L_law Ln xs (n + 1) 480 L st M c s = am_jB (fun pc L st M => rx_L_law Ln xs n pc L st M c s) ((tAld 0 1) 480 L st M) := (ra_L rfl n L st M c s).trans (if_pos (Nat.zero_le _))
set_option maxRecDepth 20000 in
theorem rs_L_law_481 (Ln : Nat) (xs : Nat → Int32) (n : Nat) (L : AL) (st : List AV) (M : List AC) (c s : Nat) : rx_L_law Ln xs (n + 1) 481 L st M c s = am_jB (fun pc L st M => rx_L_law Ln xs n pc L st M c s) ((tIld 3 1) 481 L st M) := (ra_L rfl n L st M c s).trans (if_pos (Nat.zero_le _))
set_option maxRecDepth 20000 in
theorem rs_L_law_482 (Ln : Nat) (xs : Nat → Int32) (n : Nat) (L : AL) (st : List AV) (M : List AC) (c s : Nat) : rx_L_law Ln xs (n + 1) 482 L st M c s = am_jB (fun pc L st M => rx_L_law Ln xs n pc L st M c s) ((tIc 1 1) 482 L st M) := (ra_L rfl n L st M c s).trans (if_pos (Nat.zero_le _))
set_option maxRecDepth 20000 in
theorem rs_L_law_483 (Ln : Nat) (xs : Nat → Int32) (n : Nat) (L : AL) (st : List AV) (M : List AC) (c s : Nat) : rx_L_law Ln xs (n + 1) 483 L st M c s = am_jB (fun pc L st M => rx_L_law Ln xs n pc L st M c s) ((tI2 (fun a b => a + b)) 483 L st M) := (ra_L rfl n L st M c s).trans (if_pos (Nat.zero_le _))
set_option maxRecDepth 20000 in
theorem rs_L_law_484 (Ln : Nat) (xs : Nat → Int32) (n : Nat) (L : AL) (st : List AV) (M : List AC) (c s : Nat) : rx_L_law Ln xs (n + 1) 484 L st M c s = am_jC (rx_L_law Ln xs n) ((tSx Ln xs) 484 L st M) c s := (ra_A rfl n L st M c s).trans (if_pos (Nat.zero_le _))
set_option maxRecDepth 20000 in
theorem rs_L_law_485 (Ln : Nat) (xs : Nat → Int32) (n : Nat) (L : AL) (st : List AV) (M : List AC) (c s : Nat) : rx_L_law Ln xs (n + 1) 485 L st M c s = am_jB (fun pc L st M => rx_L_law Ln xs n pc L st M c s) ((tCv 5 1 fn_X5_rows) 485 L st M) := (ra_L rfl n L st M c s).trans (if_pos (Nat.zero_le _))
set_option maxRecDepth 20000 in
theorem rs_L_law_488 (Ln : Nat) (xs : Nat → Int32) (n : Nat) (L : AL) (st : List AV) (M : List AC) (c s : Nat) : rx_L_law Ln xs (n + 1) 488 L st M c s = am_jB (fun pc L st M => rx_L_law Ln xs n pc L st M c s) ((tAld 2 1) 488 L st M) := (ra_L rfl n L st M c s).trans (if_pos (Nat.zero_le _))
set_option maxRecDepth 20000 in
theorem rs_L_law_489 (Ln : Nat) (xs : Nat → Int32) (n : Nat) (L : AL) (st : List AV) (M : List AC) (c s : Nat) : rx_L_law Ln xs (n + 1) 489 L st M c s = am_jB (fun pc L st M => rx_L_law Ln xs n pc L st M c s) ((tAld 0 1) 489 L st M) := (ra_L rfl n L st M c s).trans (if_pos (Nat.zero_le _))
set_option maxRecDepth 20000 in
theorem rs_L_law_490 (Ln : Nat) (xs : Nat → Int32) (n : Nat) (L : AL) (st : List AV) (M : List AC) (c s : Nat) : rx_L_law Ln xs (n + 1) 490 L st M c s = am_jB (fun pc L st M => rx_L_law Ln xs n pc L st M c s) ((tIld 3 1) 490 L st M) := (ra_L rfl n L st M c s).trans (if_pos (Nat.zero_le _))
set_option maxRecDepth 20000 in
theorem rs_L_law_491 (Ln : Nat) (xs : Nat → Int32) (n : Nat) (L : AL) (st : List AV) (M : List AC) (c s : Nat) : rx_L_law Ln xs (n + 1) 491 L st M c s = am_jB (fun pc L st M => rx_L_law Ln xs n pc L st M c s) ((tIc 1 1) 491 L st M) := (ra_L rfl n L st M c s).trans (if_pos (Nat.zero_le _))
set_option maxRecDepth 20000 in
theorem rs_L_law_492 (Ln : Nat) (xs : Nat → Int32) (n : Nat) (L : AL) (st : List AV) (M : List AC) (c s : Nat) : rx_L_law Ln xs (n + 1) 492 L st M c s = am_jB (fun pc L st M => rx_L_law Ln xs n pc L st M c s) ((tI2 (fun a b => a + b)) 492 L st M) := (ra_L rfl n L st M c s).trans (if_pos (Nat.zero_le _))
set_option maxRecDepth 20000 in
theorem rs_L_law_493 (Ln : Nat) (xs : Nat → Int32) (n : Nat) (L : AL) (st : List AV) (M : List AC) (c s : Nat) : rx_L_law Ln xs (n + 1) 493 L st M c s = am_jC (rx_L_law Ln xs n) ((tSx Ln xs) 493 L st M) c s := (ra_A rfl n L st M c s).trans (if_pos (Nat.zero_le _))
set_option maxRecDepth 20000 in
theorem rs_L_law_494 (Ln : Nat) (xs : Nat → Int32) (n : Nat) (L : AL) (st : List AV) (M : List AC) (c s : Nat) : rx_L_law Ln xs (n + 1) 494 L st M c s = am_jB (fun pc L st M => rx_L_law Ln xs n pc L st M c s) ((tCv 6 1 fn_X6_rows) 494 L st M) := (ra_L rfl n L st M c s).trans (if_pos (Nat.zero_le _))
set_option maxRecDepth 20000 in
theorem rs_L_law_497 (Ln : Nat) (xs : Nat → Int32) (n : Nat) (L : AL) (st : List AV) (M : List AC) (c s : Nat) : rx_L_law Ln xs (n + 1) 497 L st M c s = am_jB (fun pc L st M => rx_L_law Ln xs n pc L st M c s) ((tCmeq 1088) 497 L st M) := (ra_L rfl n L st M c s).trans (if_pos (Nat.zero_le _))
set_option maxRecDepth 20000 in
theorem rs_L_law_500 (Ln : Nat) (xs : Nat → Int32) (n : Nat) (L : AL) (st : List AV) (M : List AC) (c s : Nat) : rx_L_law Ln xs (n + 1) 500 L st M c s = am_jB (fun pc L st M => rx_L_law Ln xs n pc L st M c s) ((tIc 0 1) 500 L st M) := (ra_L rfl n L st M c s).trans (if_pos (Nat.zero_le _))
set_option maxRecDepth 20000 in
theorem rs_L_law_502 (Ln : Nat) (xs : Nat → Int32) (n : Nat) (L : AL) (st : List AV) (M : List AC) (c s : Nat) : rx_L_law Ln xs (n + 1) 502 L st M c s = am_jB (fun pc L st M => rx_L_law Ln xs n pc L st M c s) ((tAld 1 1) 502 L st M) := (ra_L rfl n L st M c s).trans (if_pos (Nat.zero_le _))
set_option maxRecDepth 20000 in
theorem rs_L_law_503 (Ln : Nat) (xs : Nat → Int32) (n : Nat) (L : AL) (st : List AV) (M : List AC) (c s : Nat) : rx_L_law Ln xs (n + 1) 503 L st M c s = am_jB (fun pc L st M => rx_L_law Ln xs n pc L st M c s) ((tAld 0 1) 503 L st M) := (ra_L rfl n L st M c s).trans (if_pos (Nat.zero_le _))
set_option maxRecDepth 20000 in
theorem rs_L_law_504 (Ln : Nat) (xs : Nat → Int32) (n : Nat) (L : AL) (st : List AV) (M : List AC) (c s : Nat) : rx_L_law Ln xs (n + 1) 504 L st M c s = am_jB (fun pc L st M => rx_L_law Ln xs n pc L st M c s) ((tIld 3 1) 504 L st M) := (ra_L rfl n L st M c s).trans (if_pos (Nat.zero_le _))
set_option maxRecDepth 20000 in
theorem rs_L_law_505 (Ln : Nat) (xs : Nat → Int32) (n : Nat) (L : AL) (st : List AV) (M : List AC) (c s : Nat) : rx_L_law Ln xs (n + 1) 505 L st M c s = am_jB (fun pc L st M => rx_L_law Ln xs n pc L st M c s) ((tIc 1 1) 505 L st M) := (ra_L rfl n L st M c s).trans (if_pos (Nat.zero_le _))
set_option maxRecDepth 20000 in
theorem rs_L_law_506 (Ln : Nat) (xs : Nat → Int32) (n : Nat) (L : AL) (st : List AV) (M : List AC) (c s : Nat) : rx_L_law Ln xs (n + 1) 506 L st M c s = am_jB (fun pc L st M => rx_L_law Ln xs n pc L st M c s) ((tI2 (fun a b => a + b)) 506 L st M) := (ra_L rfl n L st M c s).trans (if_pos (Nat.zero_le _))
set_option maxRecDepth 20000 in
theorem rs_L_law_507 (Ln : Nat) (xs : Nat → Int32) (n : Nat) (L : AL) (st : List AV) (M : List AC) (c s : Nat) : rx_L_law Ln xs (n + 1) 507 L st M c s = am_jC (rx_L_law Ln xs n) ((tSx Ln xs) 507 L st M) c s := (ra_A rfl n L st M c s).trans (if_pos (Nat.zero_le _))
set_option maxRecDepth 20000 in
theorem rs_L_law_508 (Ln : Nat) (xs : Nat → Int32) (n : Nat) (L : AL) (st : List AV) (M : List AC) (c s : Nat) : rx_L_law Ln xs (n + 1) 508 L st M c s = am_jB (fun pc L st M => rx_L_law Ln xs n pc L st M c s) ((tCv 5 1 fn_X5_rowOf) 508 L st M) := (ra_L rfl n L st M c s).trans (if_pos (Nat.zero_le _))
set_option maxRecDepth 20000 in
theorem rs_L_law_511 (Ln : Nat) (xs : Nat → Int32) (n : Nat) (L : AL) (st : List AV) (M : List AC) (c s : Nat) : rx_L_law Ln xs (n + 1) 511 L st M c s = am_jB (fun pc L st M => rx_L_law Ln xs n pc L st M c s) ((tAld 2 1) 511 L st M) := (ra_L rfl n L st M c s).trans (if_pos (Nat.zero_le _))
set_option maxRecDepth 20000 in
theorem rs_L_law_512 (Ln : Nat) (xs : Nat → Int32) (n : Nat) (L : AL) (st : List AV) (M : List AC) (c s : Nat) : rx_L_law Ln xs (n + 1) 512 L st M c s = am_jB (fun pc L st M => rx_L_law Ln xs n pc L st M c s) ((tAld 0 1) 512 L st M) := (ra_L rfl n L st M c s).trans (if_pos (Nat.zero_le _))
set_option maxRecDepth 20000 in
theorem rs_L_law_513 (Ln : Nat) (xs : Nat → Int32) (n : Nat) (L : AL) (st : List AV) (M : List AC) (c s : Nat) : rx_L_law Ln xs (n + 1) 513 L st M c s = am_jB (fun pc L st M => rx_L_law Ln xs n pc L st M c s) ((tIld 3 1) 513 L st M) := (ra_L rfl n L st M c s).trans (if_pos (Nat.zero_le _))
set_option maxRecDepth 20000 in
theorem rs_L_law_514 (Ln : Nat) (xs : Nat → Int32) (n : Nat) (L : AL) (st : List AV) (M : List AC) (c s : Nat) : rx_L_law Ln xs (n + 1) 514 L st M c s = am_jB (fun pc L st M => rx_L_law Ln xs n pc L st M c s) ((tIc 1 1) 514 L st M) := (ra_L rfl n L st M c s).trans (if_pos (Nat.zero_le _))
set_option maxRecDepth 20000 in
theorem rs_L_law_515 (Ln : Nat) (xs : Nat → Int32) (n : Nat) (L : AL) (st : List AV) (M : List AC) (c s : Nat) : rx_L_law Ln xs (n + 1) 515 L st M c s = am_jB (fun pc L st M => rx_L_law Ln xs n pc L st M c s) ((tI2 (fun a b => a + b)) 515 L st M) := (ra_L rfl n L st M c s).trans (if_pos (Nat.zero_le _))
set_option maxRecDepth 20000 in
theorem rs_L_law_516 (Ln : Nat) (xs : Nat → Int32) (n : Nat) (L : AL) (st : List AV) (M : List AC) (c s : Nat) : rx_L_law Ln xs (n + 1) 516 L st M c s = am_jC (rx_L_law Ln xs n) ((tSx Ln xs) 516 L st M) c s := (ra_A rfl n L st M c s).trans (if_pos (Nat.zero_le _))
set_option maxRecDepth 20000 in
theorem rs_L_law_517 (Ln : Nat) (xs : Nat → Int32) (n : Nat) (L : AL) (st : List AV) (M : List AC) (c s : Nat) : rx_L_law Ln xs (n + 1) 517 L st M c s = am_jB (fun pc L st M => rx_L_law Ln xs n pc L st M c s) ((tCv 6 1 fn_X6_rowOf) 517 L st M) := (ra_L rfl n L st M c s).trans (if_pos (Nat.zero_le _))
set_option maxRecDepth 20000 in
theorem rs_L_law_520 (Ln : Nat) (xs : Nat → Int32) (n : Nat) (L : AL) (st : List AV) (M : List AC) (c s : Nat) : rx_L_law Ln xs (n + 1) 520 L st M c s = am_jB (fun pc L st M => rx_L_law Ln xs n pc L st M c s) ((tCmeq 1088) 520 L st M) := (ra_L rfl n L st M c s).trans (if_pos (Nat.zero_le _))
set_option maxRecDepth 20000 in
theorem rs_L_law_523 (Ln : Nat) (xs : Nat → Int32) (n : Nat) (L : AL) (st : List AV) (M : List AC) (c s : Nat) : rx_L_law Ln xs (n + 1) 523 L st M c s = am_jB (fun pc L st M => rx_L_law Ln xs n pc L st M c s) ((tIc 0 1) 523 L st M) := (ra_L rfl n L st M c s).trans (if_pos (Nat.zero_le _))
set_option maxRecDepth 20000 in
theorem rs_L_law_525 (Ln : Nat) (xs : Nat → Int32) (n : Nat) (L : AL) (st : List AV) (M : List AC) (c s : Nat) : rx_L_law Ln xs (n + 1) 525 L st M c s = am_jB (fun pc L st M => rx_L_law Ln xs n pc L st M c s) ((tAld 1 1) 525 L st M) := (ra_L rfl n L st M c s).trans (if_pos (Nat.zero_le _))
set_option maxRecDepth 20000 in
theorem rs_L_law_526 (Ln : Nat) (xs : Nat → Int32) (n : Nat) (L : AL) (st : List AV) (M : List AC) (c s : Nat) : rx_L_law Ln xs (n + 1) 526 L st M c s = am_jB (fun pc L st M => rx_L_law Ln xs n pc L st M c s) ((tCv 5 0 fn_X5_deepest) 526 L st M) := (ra_L rfl n L st M c s).trans (if_pos (Nat.zero_le _))
set_option maxRecDepth 20000 in
theorem rs_L_law_529 (Ln : Nat) (xs : Nat → Int32) (n : Nat) (L : AL) (st : List AV) (M : List AC) (c s : Nat) : rx_L_law Ln xs (n + 1) 529 L st M c s = am_jB (fun pc L st M => rx_L_law Ln xs n pc L st M c s) ((tAld 2 1) 529 L st M) := (ra_L rfl n L st M c s).trans (if_pos (Nat.zero_le _))
set_option maxRecDepth 20000 in
theorem rs_L_law_530 (Ln : Nat) (xs : Nat → Int32) (n : Nat) (L : AL) (st : List AV) (M : List AC) (c s : Nat) : rx_L_law Ln xs (n + 1) 530 L st M c s = am_jB (fun pc L st M => rx_L_law Ln xs n pc L st M c s) ((tCv 6 0 fn_X6_deepest) 530 L st M) := (ra_L rfl n L st M c s).trans (if_pos (Nat.zero_le _))
set_option maxRecDepth 20000 in
theorem rs_L_law_533 (Ln : Nat) (xs : Nat → Int32) (n : Nat) (L : AL) (st : List AV) (M : List AC) (c s : Nat) : rx_L_law Ln xs (n + 1) 533 L st M c s = am_jB (fun pc L st M => rx_L_law Ln xs n pc L st M c s) ((tCmeq 1088) 533 L st M) := (ra_L rfl n L st M c s).trans (if_pos (Nat.zero_le _))
set_option maxRecDepth 20000 in
theorem rs_L_law_536 (Ln : Nat) (xs : Nat → Int32) (n : Nat) (L : AL) (st : List AV) (M : List AC) (c s : Nat) : rx_L_law Ln xs (n + 1) 536 L st M c s = am_jB (fun pc L st M => rx_L_law Ln xs n pc L st M c s) ((tIc 0 1) 536 L st M) := (ra_L rfl n L st M c s).trans (if_pos (Nat.zero_le _))
set_option maxRecDepth 20000 in
theorem rs_L_law_538 (Ln : Nat) (xs : Nat → Int32) (n : Nat) (L : AL) (st : List AV) (M : List AC) (c s : Nat) : rx_L_law Ln xs (n + 1) 538 L st M c s = am_jB (fun pc L st M => rx_L_law Ln xs n pc L st M c s) ((tAld 1 1) 538 L st M) := (ra_L rfl n L st M c s).trans (if_pos (Nat.zero_le _))
set_option maxRecDepth 20000 in
theorem rs_L_law_539 (Ln : Nat) (xs : Nat → Int32) (n : Nat) (L : AL) (st : List AV) (M : List AC) (c s : Nat) : rx_L_law Ln xs (n + 1) 539 L st M c s = am_jB (fun pc L st M => rx_L_law Ln xs n pc L st M c s) ((tAld 0 1) 539 L st M) := (ra_L rfl n L st M c s).trans (if_pos (Nat.zero_le _))
set_option maxRecDepth 20000 in
theorem rs_L_law_540 (Ln : Nat) (xs : Nat → Int32) (n : Nat) (L : AL) (st : List AV) (M : List AC) (c s : Nat) : rx_L_law Ln xs (n + 1) 540 L st M c s = am_jB (fun pc L st M => rx_L_law Ln xs n pc L st M c s) ((tIld 3 1) 540 L st M) := (ra_L rfl n L st M c s).trans (if_pos (Nat.zero_le _))
set_option maxRecDepth 20000 in
theorem rs_L_law_541 (Ln : Nat) (xs : Nat → Int32) (n : Nat) (L : AL) (st : List AV) (M : List AC) (c s : Nat) : rx_L_law Ln xs (n + 1) 541 L st M c s = am_jB (fun pc L st M => rx_L_law Ln xs n pc L st M c s) ((tIc 1 1) 541 L st M) := (ra_L rfl n L st M c s).trans (if_pos (Nat.zero_le _))
set_option maxRecDepth 20000 in
theorem rs_L_law_542 (Ln : Nat) (xs : Nat → Int32) (n : Nat) (L : AL) (st : List AV) (M : List AC) (c s : Nat) : rx_L_law Ln xs (n + 1) 542 L st M c s = am_jB (fun pc L st M => rx_L_law Ln xs n pc L st M c s) ((tI2 (fun a b => a + b)) 542 L st M) := (ra_L rfl n L st M c s).trans (if_pos (Nat.zero_le _))
set_option maxRecDepth 20000 in
theorem rs_L_law_543 (Ln : Nat) (xs : Nat → Int32) (n : Nat) (L : AL) (st : List AV) (M : List AC) (c s : Nat) : rx_L_law Ln xs (n + 1) 543 L st M c s = am_jC (rx_L_law Ln xs n) ((tSx Ln xs) 543 L st M) c s := (ra_A rfl n L st M c s).trans (if_pos (Nat.zero_le _))
set_option maxRecDepth 20000 in
theorem rs_L_law_544 (Ln : Nat) (xs : Nat → Int32) (n : Nat) (L : AL) (st : List AV) (M : List AC) (c s : Nat) : rx_L_law Ln xs (n + 1) 544 L st M c s = am_jC (rx_L_law Ln xs n) ((tCva 5 1 fn_X5_fewest) 544 L st M) c s := (ra_A rfl n L st M c s).trans (if_pos (Nat.zero_le _))
set_option maxRecDepth 20000 in
theorem rs_L_law_547 (Ln : Nat) (xs : Nat → Int32) (n : Nat) (L : AL) (st : List AV) (M : List AC) (c s : Nat) : rx_L_law Ln xs (n + 1) 547 L st M c s = am_jB (fun pc L st M => rx_L_law Ln xs n pc L st M c s) ((tAld 2 1) 547 L st M) := (ra_L rfl n L st M c s).trans (if_pos (Nat.zero_le _))
set_option maxRecDepth 20000 in
theorem rs_L_law_548 (Ln : Nat) (xs : Nat → Int32) (n : Nat) (L : AL) (st : List AV) (M : List AC) (c s : Nat) : rx_L_law Ln xs (n + 1) 548 L st M c s = am_jB (fun pc L st M => rx_L_law Ln xs n pc L st M c s) ((tAld 0 1) 548 L st M) := (ra_L rfl n L st M c s).trans (if_pos (Nat.zero_le _))
set_option maxRecDepth 20000 in
theorem rs_L_law_549 (Ln : Nat) (xs : Nat → Int32) (n : Nat) (L : AL) (st : List AV) (M : List AC) (c s : Nat) : rx_L_law Ln xs (n + 1) 549 L st M c s = am_jB (fun pc L st M => rx_L_law Ln xs n pc L st M c s) ((tIld 3 1) 549 L st M) := (ra_L rfl n L st M c s).trans (if_pos (Nat.zero_le _))
set_option maxRecDepth 20000 in
theorem rs_L_law_550 (Ln : Nat) (xs : Nat → Int32) (n : Nat) (L : AL) (st : List AV) (M : List AC) (c s : Nat) : rx_L_law Ln xs (n + 1) 550 L st M c s = am_jB (fun pc L st M => rx_L_law Ln xs n pc L st M c s) ((tIc 1 1) 550 L st M) := (ra_L rfl n L st M c s).trans (if_pos (Nat.zero_le _))
set_option maxRecDepth 20000 in
theorem rs_L_law_551 (Ln : Nat) (xs : Nat → Int32) (n : Nat) (L : AL) (st : List AV) (M : List AC) (c s : Nat) : rx_L_law Ln xs (n + 1) 551 L st M c s = am_jB (fun pc L st M => rx_L_law Ln xs n pc L st M c s) ((tI2 (fun a b => a + b)) 551 L st M) := (ra_L rfl n L st M c s).trans (if_pos (Nat.zero_le _))
set_option maxRecDepth 20000 in
theorem rs_L_law_552 (Ln : Nat) (xs : Nat → Int32) (n : Nat) (L : AL) (st : List AV) (M : List AC) (c s : Nat) : rx_L_law Ln xs (n + 1) 552 L st M c s = am_jC (rx_L_law Ln xs n) ((tSx Ln xs) 552 L st M) c s := (ra_A rfl n L st M c s).trans (if_pos (Nat.zero_le _))
set_option maxRecDepth 20000 in
theorem rs_L_law_553 (Ln : Nat) (xs : Nat → Int32) (n : Nat) (L : AL) (st : List AV) (M : List AC) (c s : Nat) : rx_L_law Ln xs (n + 1) 553 L st M c s = am_jB (fun pc L st M => rx_L_law Ln xs n pc L st M c s) ((tCv 6 1 fn_X6_fewest) 553 L st M) := (ra_L rfl n L st M c s).trans (if_pos (Nat.zero_le _))
set_option maxRecDepth 20000 in
theorem rs_L_law_556 (Ln : Nat) (xs : Nat → Int32) (n : Nat) (L : AL) (st : List AV) (M : List AC) (c s : Nat) : rx_L_law Ln xs (n + 1) 556 L st M c s = am_jB (fun pc L st M => rx_L_law Ln xs n pc L st M c s) ((tCmeq 1088) 556 L st M) := (ra_L rfl n L st M c s).trans (if_pos (Nat.zero_le _))
set_option maxRecDepth 20000 in
theorem rs_L_law_559 (Ln : Nat) (xs : Nat → Int32) (n : Nat) (L : AL) (st : List AV) (M : List AC) (c s : Nat) : rx_L_law Ln xs (n + 1) 559 L st M c s = am_jB (fun pc L st M => rx_L_law Ln xs n pc L st M c s) ((tIc 0 1) 559 L st M) := (ra_L rfl n L st M c s).trans (if_pos (Nat.zero_le _))
set_option maxRecDepth 20000 in
theorem rs_L_law_561 (Ln : Nat) (xs : Nat → Int32) (n : Nat) (L : AL) (st : List AV) (M : List AC) (c s : Nat) : rx_L_law Ln xs (n + 1) 561 L st M c s = am_jB (fun pc L st M => rx_L_law Ln xs n pc L st M c s) ((tAld 1 1) 561 L st M) := (ra_L rfl n L st M c s).trans (if_pos (Nat.zero_le _))
set_option maxRecDepth 20000 in
theorem rs_L_law_562 (Ln : Nat) (xs : Nat → Int32) (n : Nat) (L : AL) (st : List AV) (M : List AC) (c s : Nat) : rx_L_law Ln xs (n + 1) 562 L st M c s = am_jB (fun pc L st M => rx_L_law Ln xs n pc L st M c s) ((tAld 0 1) 562 L st M) := (ra_L rfl n L st M c s).trans (if_pos (Nat.zero_le _))
set_option maxRecDepth 20000 in
theorem rs_L_law_563 (Ln : Nat) (xs : Nat → Int32) (n : Nat) (L : AL) (st : List AV) (M : List AC) (c s : Nat) : rx_L_law Ln xs (n + 1) 563 L st M c s = am_jB (fun pc L st M => rx_L_law Ln xs n pc L st M c s) ((tIld 3 1) 563 L st M) := (ra_L rfl n L st M c s).trans (if_pos (Nat.zero_le _))
set_option maxRecDepth 20000 in
theorem rs_L_law_564 (Ln : Nat) (xs : Nat → Int32) (n : Nat) (L : AL) (st : List AV) (M : List AC) (c s : Nat) : rx_L_law Ln xs (n + 1) 564 L st M c s = am_jB (fun pc L st M => rx_L_law Ln xs n pc L st M c s) ((tIc 1 1) 564 L st M) := (ra_L rfl n L st M c s).trans (if_pos (Nat.zero_le _))
set_option maxRecDepth 20000 in
theorem rs_L_law_565 (Ln : Nat) (xs : Nat → Int32) (n : Nat) (L : AL) (st : List AV) (M : List AC) (c s : Nat) : rx_L_law Ln xs (n + 1) 565 L st M c s = am_jB (fun pc L st M => rx_L_law Ln xs n pc L st M c s) ((tI2 (fun a b => a + b)) 565 L st M) := (ra_L rfl n L st M c s).trans (if_pos (Nat.zero_le _))
set_option maxRecDepth 20000 in
theorem rs_L_law_566 (Ln : Nat) (xs : Nat → Int32) (n : Nat) (L : AL) (st : List AV) (M : List AC) (c s : Nat) : rx_L_law Ln xs (n + 1) 566 L st M c s = am_jC (rx_L_law Ln xs n) ((tSx Ln xs) 566 L st M) c s := (ra_A rfl n L st M c s).trans (if_pos (Nat.zero_le _))
set_option maxRecDepth 20000 in
theorem rs_L_law_567 (Ln : Nat) (xs : Nat → Int32) (n : Nat) (L : AL) (st : List AV) (M : List AC) (c s : Nat) : rx_L_law Ln xs (n + 1) 567 L st M c s = am_jB (fun pc L st M => rx_L_law Ln xs n pc L st M c s) ((tAld 0 1) 567 L st M) := (ra_L rfl n L st M c s).trans (if_pos (Nat.zero_le _))
set_option maxRecDepth 20000 in
theorem rs_L_law_568 (Ln : Nat) (xs : Nat → Int32) (n : Nat) (L : AL) (st : List AV) (M : List AC) (c s : Nat) : rx_L_law Ln xs (n + 1) 568 L st M c s = am_jB (fun pc L st M => rx_L_law Ln xs n pc L st M c s) ((tIld 3 1) 568 L st M) := (ra_L rfl n L st M c s).trans (if_pos (Nat.zero_le _))
set_option maxRecDepth 20000 in
theorem rs_L_law_569 (Ln : Nat) (xs : Nat → Int32) (n : Nat) (L : AL) (st : List AV) (M : List AC) (c s : Nat) : rx_L_law Ln xs (n + 1) 569 L st M c s = am_jB (fun pc L st M => rx_L_law Ln xs n pc L st M c s) ((tIc 2 1) 569 L st M) := (ra_L rfl n L st M c s).trans (if_pos (Nat.zero_le _))
set_option maxRecDepth 20000 in
theorem rs_L_law_570 (Ln : Nat) (xs : Nat → Int32) (n : Nat) (L : AL) (st : List AV) (M : List AC) (c s : Nat) : rx_L_law Ln xs (n + 1) 570 L st M c s = am_jB (fun pc L st M => rx_L_law Ln xs n pc L st M c s) ((tI2 (fun a b => a + b)) 570 L st M) := (ra_L rfl n L st M c s).trans (if_pos (Nat.zero_le _))
set_option maxRecDepth 20000 in
theorem rs_L_law_571 (Ln : Nat) (xs : Nat → Int32) (n : Nat) (L : AL) (st : List AV) (M : List AC) (c s : Nat) : rx_L_law Ln xs (n + 1) 571 L st M c s = am_jC (rx_L_law Ln xs n) ((tSx Ln xs) 571 L st M) c s := (ra_A rfl n L st M c s).trans (if_pos (Nat.zero_le _))
set_option maxRecDepth 20000 in
theorem rs_L_law_572 (Ln : Nat) (xs : Nat → Int32) (n : Nat) (L : AL) (st : List AV) (M : List AC) (c s : Nat) : rx_L_law Ln xs (n + 1) 572 L st M c s = am_jC (rx_L_law Ln xs n) ((tCva 5 2 fn_X5_fewestAt) 572 L st M) c s := (ra_A rfl n L st M c s).trans (if_pos (Nat.zero_le _))
set_option maxRecDepth 20000 in
theorem rs_L_law_575 (Ln : Nat) (xs : Nat → Int32) (n : Nat) (L : AL) (st : List AV) (M : List AC) (c s : Nat) : rx_L_law Ln xs (n + 1) 575 L st M c s = am_jB (fun pc L st M => rx_L_law Ln xs n pc L st M c s) ((tAld 2 1) 575 L st M) := (ra_L rfl n L st M c s).trans (if_pos (Nat.zero_le _))
set_option maxRecDepth 20000 in
theorem rs_L_law_576 (Ln : Nat) (xs : Nat → Int32) (n : Nat) (L : AL) (st : List AV) (M : List AC) (c s : Nat) : rx_L_law Ln xs (n + 1) 576 L st M c s = am_jB (fun pc L st M => rx_L_law Ln xs n pc L st M c s) ((tAld 0 1) 576 L st M) := (ra_L rfl n L st M c s).trans (if_pos (Nat.zero_le _))
set_option maxRecDepth 20000 in
theorem rs_L_law_577 (Ln : Nat) (xs : Nat → Int32) (n : Nat) (L : AL) (st : List AV) (M : List AC) (c s : Nat) : rx_L_law Ln xs (n + 1) 577 L st M c s = am_jB (fun pc L st M => rx_L_law Ln xs n pc L st M c s) ((tIld 3 1) 577 L st M) := (ra_L rfl n L st M c s).trans (if_pos (Nat.zero_le _))
set_option maxRecDepth 20000 in
theorem rs_L_law_578 (Ln : Nat) (xs : Nat → Int32) (n : Nat) (L : AL) (st : List AV) (M : List AC) (c s : Nat) : rx_L_law Ln xs (n + 1) 578 L st M c s = am_jB (fun pc L st M => rx_L_law Ln xs n pc L st M c s) ((tIc 1 1) 578 L st M) := (ra_L rfl n L st M c s).trans (if_pos (Nat.zero_le _))
set_option maxRecDepth 20000 in
theorem rs_L_law_579 (Ln : Nat) (xs : Nat → Int32) (n : Nat) (L : AL) (st : List AV) (M : List AC) (c s : Nat) : rx_L_law Ln xs (n + 1) 579 L st M c s = am_jB (fun pc L st M => rx_L_law Ln xs n pc L st M c s) ((tI2 (fun a b => a + b)) 579 L st M) := (ra_L rfl n L st M c s).trans (if_pos (Nat.zero_le _))
set_option maxRecDepth 20000 in
theorem rs_L_law_580 (Ln : Nat) (xs : Nat → Int32) (n : Nat) (L : AL) (st : List AV) (M : List AC) (c s : Nat) : rx_L_law Ln xs (n + 1) 580 L st M c s = am_jC (rx_L_law Ln xs n) ((tSx Ln xs) 580 L st M) c s := (ra_A rfl n L st M c s).trans (if_pos (Nat.zero_le _))
set_option maxRecDepth 20000 in
theorem rs_L_law_581 (Ln : Nat) (xs : Nat → Int32) (n : Nat) (L : AL) (st : List AV) (M : List AC) (c s : Nat) : rx_L_law Ln xs (n + 1) 581 L st M c s = am_jB (fun pc L st M => rx_L_law Ln xs n pc L st M c s) ((tAld 0 1) 581 L st M) := (ra_L rfl n L st M c s).trans (if_pos (Nat.zero_le _))
set_option maxRecDepth 20000 in
theorem rs_L_law_582 (Ln : Nat) (xs : Nat → Int32) (n : Nat) (L : AL) (st : List AV) (M : List AC) (c s : Nat) : rx_L_law Ln xs (n + 1) 582 L st M c s = am_jB (fun pc L st M => rx_L_law Ln xs n pc L st M c s) ((tIld 3 1) 582 L st M) := (ra_L rfl n L st M c s).trans (if_pos (Nat.zero_le _))
set_option maxRecDepth 20000 in
theorem rs_L_law_583 (Ln : Nat) (xs : Nat → Int32) (n : Nat) (L : AL) (st : List AV) (M : List AC) (c s : Nat) : rx_L_law Ln xs (n + 1) 583 L st M c s = am_jB (fun pc L st M => rx_L_law Ln xs n pc L st M c s) ((tIc 2 1) 583 L st M) := (ra_L rfl n L st M c s).trans (if_pos (Nat.zero_le _))
set_option maxRecDepth 20000 in
theorem rs_L_law_584 (Ln : Nat) (xs : Nat → Int32) (n : Nat) (L : AL) (st : List AV) (M : List AC) (c s : Nat) : rx_L_law Ln xs (n + 1) 584 L st M c s = am_jB (fun pc L st M => rx_L_law Ln xs n pc L st M c s) ((tI2 (fun a b => a + b)) 584 L st M) := (ra_L rfl n L st M c s).trans (if_pos (Nat.zero_le _))
set_option maxRecDepth 20000 in
theorem rs_L_law_585 (Ln : Nat) (xs : Nat → Int32) (n : Nat) (L : AL) (st : List AV) (M : List AC) (c s : Nat) : rx_L_law Ln xs (n + 1) 585 L st M c s = am_jC (rx_L_law Ln xs n) ((tSx Ln xs) 585 L st M) c s := (ra_A rfl n L st M c s).trans (if_pos (Nat.zero_le _))
set_option maxRecDepth 20000 in
theorem rs_L_law_586 (Ln : Nat) (xs : Nat → Int32) (n : Nat) (L : AL) (st : List AV) (M : List AC) (c s : Nat) : rx_L_law Ln xs (n + 1) 586 L st M c s = am_jB (fun pc L st M => rx_L_law Ln xs n pc L st M c s) ((tCv 6 2 fn_X6_fewestAt) 586 L st M) := (ra_L rfl n L st M c s).trans (if_pos (Nat.zero_le _))
set_option maxRecDepth 20000 in
theorem rs_L_law_589 (Ln : Nat) (xs : Nat → Int32) (n : Nat) (L : AL) (st : List AV) (M : List AC) (c s : Nat) : rx_L_law Ln xs (n + 1) 589 L st M c s = am_jB (fun pc L st M => rx_L_law Ln xs n pc L st M c s) ((tCmeq 1088) 589 L st M) := (ra_L rfl n L st M c s).trans (if_pos (Nat.zero_le _))
set_option maxRecDepth 20000 in
theorem rs_L_law_592 (Ln : Nat) (xs : Nat → Int32) (n : Nat) (L : AL) (st : List AV) (M : List AC) (c s : Nat) : rx_L_law Ln xs (n + 1) 592 L st M c s = am_jB (fun pc L st M => rx_L_law Ln xs n pc L st M c s) ((tIc 0 1) 592 L st M) := (ra_L rfl n L st M c s).trans (if_pos (Nat.zero_le _))
set_option maxRecDepth 20000 in
theorem rs_L_law_594 (Ln : Nat) (xs : Nat → Int32) (n : Nat) (L : AL) (st : List AV) (M : List AC) (c s : Nat) : rx_L_law Ln xs (n + 1) 594 L st M c s = am_jB (fun pc L st M => rx_L_law Ln xs n pc L st M c s) ((tAld 1 1) 594 L st M) := (ra_L rfl n L st M c s).trans (if_pos (Nat.zero_le _))
set_option maxRecDepth 20000 in
theorem rs_L_law_595 (Ln : Nat) (xs : Nat → Int32) (n : Nat) (L : AL) (st : List AV) (M : List AC) (c s : Nat) : rx_L_law Ln xs (n + 1) 595 L st M c s = am_jB (fun pc L st M => rx_L_law Ln xs n pc L st M c s) ((tAld 0 1) 595 L st M) := (ra_L rfl n L st M c s).trans (if_pos (Nat.zero_le _))
set_option maxRecDepth 20000 in
theorem rs_L_law_596 (Ln : Nat) (xs : Nat → Int32) (n : Nat) (L : AL) (st : List AV) (M : List AC) (c s : Nat) : rx_L_law Ln xs (n + 1) 596 L st M c s = am_jB (fun pc L st M => rx_L_law Ln xs n pc L st M c s) ((tIld 3 1) 596 L st M) := (ra_L rfl n L st M c s).trans (if_pos (Nat.zero_le _))
set_option maxRecDepth 20000 in
theorem rs_L_law_597 (Ln : Nat) (xs : Nat → Int32) (n : Nat) (L : AL) (st : List AV) (M : List AC) (c s : Nat) : rx_L_law Ln xs (n + 1) 597 L st M c s = am_jB (fun pc L st M => rx_L_law Ln xs n pc L st M c s) ((tIc 1 1) 597 L st M) := (ra_L rfl n L st M c s).trans (if_pos (Nat.zero_le _))
set_option maxRecDepth 20000 in
theorem rs_L_law_598 (Ln : Nat) (xs : Nat → Int32) (n : Nat) (L : AL) (st : List AV) (M : List AC) (c s : Nat) : rx_L_law Ln xs (n + 1) 598 L st M c s = am_jB (fun pc L st M => rx_L_law Ln xs n pc L st M c s) ((tI2 (fun a b => a + b)) 598 L st M) := (ra_L rfl n L st M c s).trans (if_pos (Nat.zero_le _))
set_option maxRecDepth 20000 in
theorem rs_L_law_599 (Ln : Nat) (xs : Nat → Int32) (n : Nat) (L : AL) (st : List AV) (M : List AC) (c s : Nat) : rx_L_law Ln xs (n + 1) 599 L st M c s = am_jC (rx_L_law Ln xs n) ((tSx Ln xs) 599 L st M) c s := (ra_A rfl n L st M c s).trans (if_pos (Nat.zero_le _))
set_option maxRecDepth 20000 in
theorem rs_L_law_600 (Ln : Nat) (xs : Nat → Int32) (n : Nat) (L : AL) (st : List AV) (M : List AC) (c s : Nat) : rx_L_law Ln xs (n + 1) 600 L st M c s = am_jC (rx_L_law Ln xs n) ((tCva 5 1 fn_X5_byTwo) 600 L st M) c s := (ra_A rfl n L st M c s).trans (if_pos (Nat.zero_le _))
set_option maxRecDepth 20000 in
theorem rs_L_law_603 (Ln : Nat) (xs : Nat → Int32) (n : Nat) (L : AL) (st : List AV) (M : List AC) (c s : Nat) : rx_L_law Ln xs (n + 1) 603 L st M c s = am_jB (fun pc L st M => rx_L_law Ln xs n pc L st M c s) ((tAld 2 1) 603 L st M) := (ra_L rfl n L st M c s).trans (if_pos (Nat.zero_le _))
set_option maxRecDepth 20000 in
theorem rs_L_law_604 (Ln : Nat) (xs : Nat → Int32) (n : Nat) (L : AL) (st : List AV) (M : List AC) (c s : Nat) : rx_L_law Ln xs (n + 1) 604 L st M c s = am_jB (fun pc L st M => rx_L_law Ln xs n pc L st M c s) ((tAld 0 1) 604 L st M) := (ra_L rfl n L st M c s).trans (if_pos (Nat.zero_le _))
set_option maxRecDepth 20000 in
theorem rs_L_law_605 (Ln : Nat) (xs : Nat → Int32) (n : Nat) (L : AL) (st : List AV) (M : List AC) (c s : Nat) : rx_L_law Ln xs (n + 1) 605 L st M c s = am_jB (fun pc L st M => rx_L_law Ln xs n pc L st M c s) ((tIld 3 1) 605 L st M) := (ra_L rfl n L st M c s).trans (if_pos (Nat.zero_le _))
set_option maxRecDepth 20000 in
theorem rs_L_law_606 (Ln : Nat) (xs : Nat → Int32) (n : Nat) (L : AL) (st : List AV) (M : List AC) (c s : Nat) : rx_L_law Ln xs (n + 1) 606 L st M c s = am_jB (fun pc L st M => rx_L_law Ln xs n pc L st M c s) ((tIc 1 1) 606 L st M) := (ra_L rfl n L st M c s).trans (if_pos (Nat.zero_le _))
set_option maxRecDepth 20000 in
theorem rs_L_law_607 (Ln : Nat) (xs : Nat → Int32) (n : Nat) (L : AL) (st : List AV) (M : List AC) (c s : Nat) : rx_L_law Ln xs (n + 1) 607 L st M c s = am_jB (fun pc L st M => rx_L_law Ln xs n pc L st M c s) ((tI2 (fun a b => a + b)) 607 L st M) := (ra_L rfl n L st M c s).trans (if_pos (Nat.zero_le _))
set_option maxRecDepth 20000 in
theorem rs_L_law_608 (Ln : Nat) (xs : Nat → Int32) (n : Nat) (L : AL) (st : List AV) (M : List AC) (c s : Nat) : rx_L_law Ln xs (n + 1) 608 L st M c s = am_jC (rx_L_law Ln xs n) ((tSx Ln xs) 608 L st M) c s := (ra_A rfl n L st M c s).trans (if_pos (Nat.zero_le _))
set_option maxRecDepth 20000 in
theorem rs_L_law_609 (Ln : Nat) (xs : Nat → Int32) (n : Nat) (L : AL) (st : List AV) (M : List AC) (c s : Nat) : rx_L_law Ln xs (n + 1) 609 L st M c s = am_jB (fun pc L st M => rx_L_law Ln xs n pc L st M c s) ((tCv 6 1 fn_X6_byTwo) 609 L st M) := (ra_L rfl n L st M c s).trans (if_pos (Nat.zero_le _))
set_option maxRecDepth 20000 in
theorem rs_L_law_612 (Ln : Nat) (xs : Nat → Int32) (n : Nat) (L : AL) (st : List AV) (M : List AC) (c s : Nat) : rx_L_law Ln xs (n + 1) 612 L st M c s = am_jB (fun pc L st M => rx_L_law Ln xs n pc L st M c s) ((tCmeq 1088) 612 L st M) := (ra_L rfl n L st M c s).trans (if_pos (Nat.zero_le _))
set_option maxRecDepth 20000 in
theorem rs_L_law_615 (Ln : Nat) (xs : Nat → Int32) (n : Nat) (L : AL) (st : List AV) (M : List AC) (c s : Nat) : rx_L_law Ln xs (n + 1) 615 L st M c s = am_jB (fun pc L st M => rx_L_law Ln xs n pc L st M c s) ((tIc 0 1) 615 L st M) := (ra_L rfl n L st M c s).trans (if_pos (Nat.zero_le _))
set_option maxRecDepth 20000 in
theorem rs_L_law_617 (Ln : Nat) (xs : Nat → Int32) (n : Nat) (L : AL) (st : List AV) (M : List AC) (c s : Nat) : rx_L_law Ln xs (n + 1) 617 L st M c s = am_jB (fun pc L st M => rx_L_law Ln xs n pc L st M c s) ((tAld 1 1) 617 L st M) := (ra_L rfl n L st M c s).trans (if_pos (Nat.zero_le _))
set_option maxRecDepth 20000 in
theorem rs_L_law_618 (Ln : Nat) (xs : Nat → Int32) (n : Nat) (L : AL) (st : List AV) (M : List AC) (c s : Nat) : rx_L_law Ln xs (n + 1) 618 L st M c s = am_jB (fun pc L st M => rx_L_law Ln xs n pc L st M c s) ((tAld 0 1) 618 L st M) := (ra_L rfl n L st M c s).trans (if_pos (Nat.zero_le _))
set_option maxRecDepth 20000 in
theorem rs_L_law_619 (Ln : Nat) (xs : Nat → Int32) (n : Nat) (L : AL) (st : List AV) (M : List AC) (c s : Nat) : rx_L_law Ln xs (n + 1) 619 L st M c s = am_jB (fun pc L st M => rx_L_law Ln xs n pc L st M c s) ((tIld 3 1) 619 L st M) := (ra_L rfl n L st M c s).trans (if_pos (Nat.zero_le _))
set_option maxRecDepth 20000 in
theorem rs_L_law_620 (Ln : Nat) (xs : Nat → Int32) (n : Nat) (L : AL) (st : List AV) (M : List AC) (c s : Nat) : rx_L_law Ln xs (n + 1) 620 L st M c s = am_jB (fun pc L st M => rx_L_law Ln xs n pc L st M c s) ((tIc 1 1) 620 L st M) := (ra_L rfl n L st M c s).trans (if_pos (Nat.zero_le _))
set_option maxRecDepth 20000 in
theorem rs_L_law_621 (Ln : Nat) (xs : Nat → Int32) (n : Nat) (L : AL) (st : List AV) (M : List AC) (c s : Nat) : rx_L_law Ln xs (n + 1) 621 L st M c s = am_jB (fun pc L st M => rx_L_law Ln xs n pc L st M c s) ((tI2 (fun a b => a + b)) 621 L st M) := (ra_L rfl n L st M c s).trans (if_pos (Nat.zero_le _))
set_option maxRecDepth 20000 in
theorem rs_L_law_622 (Ln : Nat) (xs : Nat → Int32) (n : Nat) (L : AL) (st : List AV) (M : List AC) (c s : Nat) : rx_L_law Ln xs (n + 1) 622 L st M c s = am_jC (rx_L_law Ln xs n) ((tSx Ln xs) 622 L st M) c s := (ra_A rfl n L st M c s).trans (if_pos (Nat.zero_le _))
set_option maxRecDepth 20000 in
theorem rs_L_law_623 (Ln : Nat) (xs : Nat → Int32) (n : Nat) (L : AL) (st : List AV) (M : List AC) (c s : Nat) : rx_L_law Ln xs (n + 1) 623 L st M c s = am_jB (fun pc L st M => rx_L_law Ln xs n pc L st M c s) ((tAld 0 1) 623 L st M) := (ra_L rfl n L st M c s).trans (if_pos (Nat.zero_le _))
set_option maxRecDepth 20000 in
theorem rs_L_law_624 (Ln : Nat) (xs : Nat → Int32) (n : Nat) (L : AL) (st : List AV) (M : List AC) (c s : Nat) : rx_L_law Ln xs (n + 1) 624 L st M c s = am_jB (fun pc L st M => rx_L_law Ln xs n pc L st M c s) ((tIld 3 1) 624 L st M) := (ra_L rfl n L st M c s).trans (if_pos (Nat.zero_le _))
set_option maxRecDepth 20000 in
theorem rs_L_law_625 (Ln : Nat) (xs : Nat → Int32) (n : Nat) (L : AL) (st : List AV) (M : List AC) (c s : Nat) : rx_L_law Ln xs (n + 1) 625 L st M c s = am_jB (fun pc L st M => rx_L_law Ln xs n pc L st M c s) ((tIc 2 1) 625 L st M) := (ra_L rfl n L st M c s).trans (if_pos (Nat.zero_le _))
set_option maxRecDepth 20000 in
theorem rs_L_law_626 (Ln : Nat) (xs : Nat → Int32) (n : Nat) (L : AL) (st : List AV) (M : List AC) (c s : Nat) : rx_L_law Ln xs (n + 1) 626 L st M c s = am_jB (fun pc L st M => rx_L_law Ln xs n pc L st M c s) ((tI2 (fun a b => a + b)) 626 L st M) := (ra_L rfl n L st M c s).trans (if_pos (Nat.zero_le _))
set_option maxRecDepth 20000 in
theorem rs_L_law_627 (Ln : Nat) (xs : Nat → Int32) (n : Nat) (L : AL) (st : List AV) (M : List AC) (c s : Nat) : rx_L_law Ln xs (n + 1) 627 L st M c s = am_jC (rx_L_law Ln xs n) ((tSx Ln xs) 627 L st M) c s := (ra_A rfl n L st M c s).trans (if_pos (Nat.zero_le _))
set_option maxRecDepth 20000 in
theorem rs_L_law_628 (Ln : Nat) (xs : Nat → Int32) (n : Nat) (L : AL) (st : List AV) (M : List AC) (c s : Nat) : rx_L_law Ln xs (n + 1) 628 L st M c s = am_jB (fun pc L st M => rx_L_law Ln xs n pc L st M c s) ((tCv 5 2 fn_X5_orders) 628 L st M) := (ra_L rfl n L st M c s).trans (if_pos (Nat.zero_le _))
set_option maxRecDepth 20000 in
theorem rs_L_law_631 (Ln : Nat) (xs : Nat → Int32) (n : Nat) (L : AL) (st : List AV) (M : List AC) (c s : Nat) : rx_L_law Ln xs (n + 1) 631 L st M c s = am_jB (fun pc L st M => rx_L_law Ln xs n pc L st M c s) ((tAld 2 1) 631 L st M) := (ra_L rfl n L st M c s).trans (if_pos (Nat.zero_le _))
set_option maxRecDepth 20000 in
theorem rs_L_law_632 (Ln : Nat) (xs : Nat → Int32) (n : Nat) (L : AL) (st : List AV) (M : List AC) (c s : Nat) : rx_L_law Ln xs (n + 1) 632 L st M c s = am_jB (fun pc L st M => rx_L_law Ln xs n pc L st M c s) ((tAld 0 1) 632 L st M) := (ra_L rfl n L st M c s).trans (if_pos (Nat.zero_le _))
set_option maxRecDepth 20000 in
theorem rs_L_law_633 (Ln : Nat) (xs : Nat → Int32) (n : Nat) (L : AL) (st : List AV) (M : List AC) (c s : Nat) : rx_L_law Ln xs (n + 1) 633 L st M c s = am_jB (fun pc L st M => rx_L_law Ln xs n pc L st M c s) ((tIld 3 1) 633 L st M) := (ra_L rfl n L st M c s).trans (if_pos (Nat.zero_le _))
set_option maxRecDepth 20000 in
theorem rs_L_law_634 (Ln : Nat) (xs : Nat → Int32) (n : Nat) (L : AL) (st : List AV) (M : List AC) (c s : Nat) : rx_L_law Ln xs (n + 1) 634 L st M c s = am_jB (fun pc L st M => rx_L_law Ln xs n pc L st M c s) ((tIc 1 1) 634 L st M) := (ra_L rfl n L st M c s).trans (if_pos (Nat.zero_le _))
set_option maxRecDepth 20000 in
theorem rs_L_law_635 (Ln : Nat) (xs : Nat → Int32) (n : Nat) (L : AL) (st : List AV) (M : List AC) (c s : Nat) : rx_L_law Ln xs (n + 1) 635 L st M c s = am_jB (fun pc L st M => rx_L_law Ln xs n pc L st M c s) ((tI2 (fun a b => a + b)) 635 L st M) := (ra_L rfl n L st M c s).trans (if_pos (Nat.zero_le _))
set_option maxRecDepth 20000 in
theorem rs_L_law_636 (Ln : Nat) (xs : Nat → Int32) (n : Nat) (L : AL) (st : List AV) (M : List AC) (c s : Nat) : rx_L_law Ln xs (n + 1) 636 L st M c s = am_jC (rx_L_law Ln xs n) ((tSx Ln xs) 636 L st M) c s := (ra_A rfl n L st M c s).trans (if_pos (Nat.zero_le _))
set_option maxRecDepth 20000 in
theorem rs_L_law_637 (Ln : Nat) (xs : Nat → Int32) (n : Nat) (L : AL) (st : List AV) (M : List AC) (c s : Nat) : rx_L_law Ln xs (n + 1) 637 L st M c s = am_jB (fun pc L st M => rx_L_law Ln xs n pc L st M c s) ((tAld 0 1) 637 L st M) := (ra_L rfl n L st M c s).trans (if_pos (Nat.zero_le _))
set_option maxRecDepth 20000 in
theorem rs_L_law_638 (Ln : Nat) (xs : Nat → Int32) (n : Nat) (L : AL) (st : List AV) (M : List AC) (c s : Nat) : rx_L_law Ln xs (n + 1) 638 L st M c s = am_jB (fun pc L st M => rx_L_law Ln xs n pc L st M c s) ((tIld 3 1) 638 L st M) := (ra_L rfl n L st M c s).trans (if_pos (Nat.zero_le _))
set_option maxRecDepth 20000 in
theorem rs_L_law_639 (Ln : Nat) (xs : Nat → Int32) (n : Nat) (L : AL) (st : List AV) (M : List AC) (c s : Nat) : rx_L_law Ln xs (n + 1) 639 L st M c s = am_jB (fun pc L st M => rx_L_law Ln xs n pc L st M c s) ((tIc 2 1) 639 L st M) := (ra_L rfl n L st M c s).trans (if_pos (Nat.zero_le _))
set_option maxRecDepth 20000 in
theorem rs_L_law_640 (Ln : Nat) (xs : Nat → Int32) (n : Nat) (L : AL) (st : List AV) (M : List AC) (c s : Nat) : rx_L_law Ln xs (n + 1) 640 L st M c s = am_jB (fun pc L st M => rx_L_law Ln xs n pc L st M c s) ((tI2 (fun a b => a + b)) 640 L st M) := (ra_L rfl n L st M c s).trans (if_pos (Nat.zero_le _))
set_option maxRecDepth 20000 in
theorem rs_L_law_641 (Ln : Nat) (xs : Nat → Int32) (n : Nat) (L : AL) (st : List AV) (M : List AC) (c s : Nat) : rx_L_law Ln xs (n + 1) 641 L st M c s = am_jC (rx_L_law Ln xs n) ((tSx Ln xs) 641 L st M) c s := (ra_A rfl n L st M c s).trans (if_pos (Nat.zero_le _))
set_option maxRecDepth 20000 in
theorem rs_L_law_642 (Ln : Nat) (xs : Nat → Int32) (n : Nat) (L : AL) (st : List AV) (M : List AC) (c s : Nat) : rx_L_law Ln xs (n + 1) 642 L st M c s = am_jB (fun pc L st M => rx_L_law Ln xs n pc L st M c s) ((tCv 6 2 fn_X6_orders) 642 L st M) := (ra_L rfl n L st M c s).trans (if_pos (Nat.zero_le _))
set_option maxRecDepth 20000 in
theorem rs_L_law_645 (Ln : Nat) (xs : Nat → Int32) (n : Nat) (L : AL) (st : List AV) (M : List AC) (c s : Nat) : rx_L_law Ln xs (n + 1) 645 L st M c s = am_jB (fun pc L st M => rx_L_law Ln xs n pc L st M c s) ((tCmeq 1088) 645 L st M) := (ra_L rfl n L st M c s).trans (if_pos (Nat.zero_le _))
set_option maxRecDepth 20000 in
theorem rs_L_law_648 (Ln : Nat) (xs : Nat → Int32) (n : Nat) (L : AL) (st : List AV) (M : List AC) (c s : Nat) : rx_L_law Ln xs (n + 1) 648 L st M c s = am_jB (fun pc L st M => rx_L_law Ln xs n pc L st M c s) ((tIc 0 1) 648 L st M) := (ra_L rfl n L st M c s).trans (if_pos (Nat.zero_le _))
set_option maxRecDepth 20000 in
theorem rs_L_law_650 (Ln : Nat) (xs : Nat → Int32) (n : Nat) (L : AL) (st : List AV) (M : List AC) (c s : Nat) : rx_L_law Ln xs (n + 1) 650 L st M c s = am_jB (fun pc L st M => rx_L_law Ln xs n pc L st M c s) ((tAld 1 1) 650 L st M) := (ra_L rfl n L st M c s).trans (if_pos (Nat.zero_le _))
set_option maxRecDepth 20000 in
theorem rs_L_law_651 (Ln : Nat) (xs : Nat → Int32) (n : Nat) (L : AL) (st : List AV) (M : List AC) (c s : Nat) : rx_L_law Ln xs (n + 1) 651 L st M c s = am_jB (fun pc L st M => rx_L_law Ln xs n pc L st M c s) ((tAld 0 1) 651 L st M) := (ra_L rfl n L st M c s).trans (if_pos (Nat.zero_le _))
set_option maxRecDepth 20000 in
theorem rs_L_law_652 (Ln : Nat) (xs : Nat → Int32) (n : Nat) (L : AL) (st : List AV) (M : List AC) (c s : Nat) : rx_L_law Ln xs (n + 1) 652 L st M c s = am_jB (fun pc L st M => rx_L_law Ln xs n pc L st M c s) ((tIld 3 1) 652 L st M) := (ra_L rfl n L st M c s).trans (if_pos (Nat.zero_le _))
set_option maxRecDepth 20000 in
theorem rs_L_law_653 (Ln : Nat) (xs : Nat → Int32) (n : Nat) (L : AL) (st : List AV) (M : List AC) (c s : Nat) : rx_L_law Ln xs (n + 1) 653 L st M c s = am_jB (fun pc L st M => rx_L_law Ln xs n pc L st M c s) ((tIc 1 1) 653 L st M) := (ra_L rfl n L st M c s).trans (if_pos (Nat.zero_le _))
set_option maxRecDepth 20000 in
theorem rs_L_law_654 (Ln : Nat) (xs : Nat → Int32) (n : Nat) (L : AL) (st : List AV) (M : List AC) (c s : Nat) : rx_L_law Ln xs (n + 1) 654 L st M c s = am_jB (fun pc L st M => rx_L_law Ln xs n pc L st M c s) ((tI2 (fun a b => a + b)) 654 L st M) := (ra_L rfl n L st M c s).trans (if_pos (Nat.zero_le _))
set_option maxRecDepth 20000 in
theorem rs_L_law_655 (Ln : Nat) (xs : Nat → Int32) (n : Nat) (L : AL) (st : List AV) (M : List AC) (c s : Nat) : rx_L_law Ln xs (n + 1) 655 L st M c s = am_jC (rx_L_law Ln xs n) ((tSx Ln xs) 655 L st M) c s := (ra_A rfl n L st M c s).trans (if_pos (Nat.zero_le _))
set_option maxRecDepth 20000 in
theorem rs_L_law_656 (Ln : Nat) (xs : Nat → Int32) (n : Nat) (L : AL) (st : List AV) (M : List AC) (c s : Nat) : rx_L_law Ln xs (n + 1) 656 L st M c s = am_jB (fun pc L st M => rx_L_law Ln xs n pc L st M c s) ((tCv 5 1 fn_X5_creases) 656 L st M) := (ra_L rfl n L st M c s).trans (if_pos (Nat.zero_le _))
set_option maxRecDepth 20000 in
theorem rs_L_law_659 (Ln : Nat) (xs : Nat → Int32) (n : Nat) (L : AL) (st : List AV) (M : List AC) (c s : Nat) : rx_L_law Ln xs (n + 1) 659 L st M c s = am_jB (fun pc L st M => rx_L_law Ln xs n pc L st M c s) ((tAld 2 1) 659 L st M) := (ra_L rfl n L st M c s).trans (if_pos (Nat.zero_le _))
set_option maxRecDepth 20000 in
theorem rs_L_law_660 (Ln : Nat) (xs : Nat → Int32) (n : Nat) (L : AL) (st : List AV) (M : List AC) (c s : Nat) : rx_L_law Ln xs (n + 1) 660 L st M c s = am_jB (fun pc L st M => rx_L_law Ln xs n pc L st M c s) ((tAld 0 1) 660 L st M) := (ra_L rfl n L st M c s).trans (if_pos (Nat.zero_le _))
set_option maxRecDepth 20000 in
theorem rs_L_law_661 (Ln : Nat) (xs : Nat → Int32) (n : Nat) (L : AL) (st : List AV) (M : List AC) (c s : Nat) : rx_L_law Ln xs (n + 1) 661 L st M c s = am_jB (fun pc L st M => rx_L_law Ln xs n pc L st M c s) ((tIld 3 1) 661 L st M) := (ra_L rfl n L st M c s).trans (if_pos (Nat.zero_le _))
set_option maxRecDepth 20000 in
theorem rs_L_law_662 (Ln : Nat) (xs : Nat → Int32) (n : Nat) (L : AL) (st : List AV) (M : List AC) (c s : Nat) : rx_L_law Ln xs (n + 1) 662 L st M c s = am_jB (fun pc L st M => rx_L_law Ln xs n pc L st M c s) ((tIc 1 1) 662 L st M) := (ra_L rfl n L st M c s).trans (if_pos (Nat.zero_le _))
set_option maxRecDepth 20000 in
theorem rs_L_law_663 (Ln : Nat) (xs : Nat → Int32) (n : Nat) (L : AL) (st : List AV) (M : List AC) (c s : Nat) : rx_L_law Ln xs (n + 1) 663 L st M c s = am_jB (fun pc L st M => rx_L_law Ln xs n pc L st M c s) ((tI2 (fun a b => a + b)) 663 L st M) := (ra_L rfl n L st M c s).trans (if_pos (Nat.zero_le _))
set_option maxRecDepth 20000 in
theorem rs_L_law_664 (Ln : Nat) (xs : Nat → Int32) (n : Nat) (L : AL) (st : List AV) (M : List AC) (c s : Nat) : rx_L_law Ln xs (n + 1) 664 L st M c s = am_jC (rx_L_law Ln xs n) ((tSx Ln xs) 664 L st M) c s := (ra_A rfl n L st M c s).trans (if_pos (Nat.zero_le _))
set_option maxRecDepth 20000 in
theorem rs_L_law_665 (Ln : Nat) (xs : Nat → Int32) (n : Nat) (L : AL) (st : List AV) (M : List AC) (c s : Nat) : rx_L_law Ln xs (n + 1) 665 L st M c s = am_jB (fun pc L st M => rx_L_law Ln xs n pc L st M c s) ((tCv 6 1 fn_X6_creases) 665 L st M) := (ra_L rfl n L st M c s).trans (if_pos (Nat.zero_le _))
set_option maxRecDepth 20000 in
theorem rs_L_law_668 (Ln : Nat) (xs : Nat → Int32) (n : Nat) (L : AL) (st : List AV) (M : List AC) (c s : Nat) : rx_L_law Ln xs (n + 1) 668 L st M c s = am_jB (fun pc L st M => rx_L_law Ln xs n pc L st M c s) ((tCmeq 1088) 668 L st M) := (ra_L rfl n L st M c s).trans (if_pos (Nat.zero_le _))
set_option maxRecDepth 20000 in
theorem rs_L_law_671 (Ln : Nat) (xs : Nat → Int32) (n : Nat) (L : AL) (st : List AV) (M : List AC) (c s : Nat) : rx_L_law Ln xs (n + 1) 671 L st M c s = am_jB (fun pc L st M => rx_L_law Ln xs n pc L st M c s) ((tIc 0 1) 671 L st M) := (ra_L rfl n L st M c s).trans (if_pos (Nat.zero_le _))
set_option maxRecDepth 20000 in
theorem rs_L_law_673 (Ln : Nat) (xs : Nat → Int32) (n : Nat) (L : AL) (st : List AV) (M : List AC) (c s : Nat) : rx_L_law Ln xs (n + 1) 673 L st M c s = am_jB (fun pc L st M => rx_L_law Ln xs n pc L st M c s) ((tAld 1 1) 673 L st M) := (ra_L rfl n L st M c s).trans (if_pos (Nat.zero_le _))
set_option maxRecDepth 20000 in
theorem rs_L_law_674 (Ln : Nat) (xs : Nat → Int32) (n : Nat) (L : AL) (st : List AV) (M : List AC) (c s : Nat) : rx_L_law Ln xs (n + 1) 674 L st M c s = am_jB (fun pc L st M => rx_L_law Ln xs n pc L st M c s) ((tAld 0 1) 674 L st M) := (ra_L rfl n L st M c s).trans (if_pos (Nat.zero_le _))
set_option maxRecDepth 20000 in
theorem rs_L_law_675 (Ln : Nat) (xs : Nat → Int32) (n : Nat) (L : AL) (st : List AV) (M : List AC) (c s : Nat) : rx_L_law Ln xs (n + 1) 675 L st M c s = am_jB (fun pc L st M => rx_L_law Ln xs n pc L st M c s) ((tIld 3 1) 675 L st M) := (ra_L rfl n L st M c s).trans (if_pos (Nat.zero_le _))
set_option maxRecDepth 20000 in
theorem rs_L_law_676 (Ln : Nat) (xs : Nat → Int32) (n : Nat) (L : AL) (st : List AV) (M : List AC) (c s : Nat) : rx_L_law Ln xs (n + 1) 676 L st M c s = am_jB (fun pc L st M => rx_L_law Ln xs n pc L st M c s) ((tIc 1 1) 676 L st M) := (ra_L rfl n L st M c s).trans (if_pos (Nat.zero_le _))
set_option maxRecDepth 20000 in
theorem rs_L_law_677 (Ln : Nat) (xs : Nat → Int32) (n : Nat) (L : AL) (st : List AV) (M : List AC) (c s : Nat) : rx_L_law Ln xs (n + 1) 677 L st M c s = am_jB (fun pc L st M => rx_L_law Ln xs n pc L st M c s) ((tI2 (fun a b => a + b)) 677 L st M) := (ra_L rfl n L st M c s).trans (if_pos (Nat.zero_le _))
set_option maxRecDepth 20000 in
theorem rs_L_law_678 (Ln : Nat) (xs : Nat → Int32) (n : Nat) (L : AL) (st : List AV) (M : List AC) (c s : Nat) : rx_L_law Ln xs (n + 1) 678 L st M c s = am_jC (rx_L_law Ln xs n) ((tSx Ln xs) 678 L st M) c s := (ra_A rfl n L st M c s).trans (if_pos (Nat.zero_le _))
set_option maxRecDepth 20000 in
theorem rs_L_law_679 (Ln : Nat) (xs : Nat → Int32) (n : Nat) (L : AL) (st : List AV) (M : List AC) (c s : Nat) : rx_L_law Ln xs (n + 1) 679 L st M c s = am_jB (fun pc L st M => rx_L_law Ln xs n pc L st M c s) ((tCv 5 1 fn_X5_bending) 679 L st M) := (ra_L rfl n L st M c s).trans (if_pos (Nat.zero_le _))
set_option maxRecDepth 20000 in
theorem rs_L_law_682 (Ln : Nat) (xs : Nat → Int32) (n : Nat) (L : AL) (st : List AV) (M : List AC) (c s : Nat) : rx_L_law Ln xs (n + 1) 682 L st M c s = am_jB (fun pc L st M => rx_L_law Ln xs n pc L st M c s) ((tAld 2 1) 682 L st M) := (ra_L rfl n L st M c s).trans (if_pos (Nat.zero_le _))
set_option maxRecDepth 20000 in
theorem rs_L_law_683 (Ln : Nat) (xs : Nat → Int32) (n : Nat) (L : AL) (st : List AV) (M : List AC) (c s : Nat) : rx_L_law Ln xs (n + 1) 683 L st M c s = am_jB (fun pc L st M => rx_L_law Ln xs n pc L st M c s) ((tAld 0 1) 683 L st M) := (ra_L rfl n L st M c s).trans (if_pos (Nat.zero_le _))
set_option maxRecDepth 20000 in
theorem rs_L_law_684 (Ln : Nat) (xs : Nat → Int32) (n : Nat) (L : AL) (st : List AV) (M : List AC) (c s : Nat) : rx_L_law Ln xs (n + 1) 684 L st M c s = am_jB (fun pc L st M => rx_L_law Ln xs n pc L st M c s) ((tIld 3 1) 684 L st M) := (ra_L rfl n L st M c s).trans (if_pos (Nat.zero_le _))
set_option maxRecDepth 20000 in
theorem rs_L_law_685 (Ln : Nat) (xs : Nat → Int32) (n : Nat) (L : AL) (st : List AV) (M : List AC) (c s : Nat) : rx_L_law Ln xs (n + 1) 685 L st M c s = am_jB (fun pc L st M => rx_L_law Ln xs n pc L st M c s) ((tIc 1 1) 685 L st M) := (ra_L rfl n L st M c s).trans (if_pos (Nat.zero_le _))
set_option maxRecDepth 20000 in
theorem rs_L_law_686 (Ln : Nat) (xs : Nat → Int32) (n : Nat) (L : AL) (st : List AV) (M : List AC) (c s : Nat) : rx_L_law Ln xs (n + 1) 686 L st M c s = am_jB (fun pc L st M => rx_L_law Ln xs n pc L st M c s) ((tI2 (fun a b => a + b)) 686 L st M) := (ra_L rfl n L st M c s).trans (if_pos (Nat.zero_le _))
set_option maxRecDepth 20000 in
theorem rs_L_law_687 (Ln : Nat) (xs : Nat → Int32) (n : Nat) (L : AL) (st : List AV) (M : List AC) (c s : Nat) : rx_L_law Ln xs (n + 1) 687 L st M c s = am_jC (rx_L_law Ln xs n) ((tSx Ln xs) 687 L st M) c s := (ra_A rfl n L st M c s).trans (if_pos (Nat.zero_le _))
set_option maxRecDepth 20000 in
theorem rs_L_law_688 (Ln : Nat) (xs : Nat → Int32) (n : Nat) (L : AL) (st : List AV) (M : List AC) (c s : Nat) : rx_L_law Ln xs (n + 1) 688 L st M c s = am_jB (fun pc L st M => rx_L_law Ln xs n pc L st M c s) ((tCv 6 1 fn_X6_bending) 688 L st M) := (ra_L rfl n L st M c s).trans (if_pos (Nat.zero_le _))
set_option maxRecDepth 20000 in
theorem rs_L_law_691 (Ln : Nat) (xs : Nat → Int32) (n : Nat) (L : AL) (st : List AV) (M : List AC) (c s : Nat) : rx_L_law Ln xs (n + 1) 691 L st M c s = am_jB (fun pc L st M => rx_L_law Ln xs n pc L st M c s) ((tCmeq 1088) 691 L st M) := (ra_L rfl n L st M c s).trans (if_pos (Nat.zero_le _))
set_option maxRecDepth 20000 in
theorem rs_L_law_694 (Ln : Nat) (xs : Nat → Int32) (n : Nat) (L : AL) (st : List AV) (M : List AC) (c s : Nat) : rx_L_law Ln xs (n + 1) 694 L st M c s = am_jB (fun pc L st M => rx_L_law Ln xs n pc L st M c s) ((tIc 0 1) 694 L st M) := (ra_L rfl n L st M c s).trans (if_pos (Nat.zero_le _))
set_option maxRecDepth 20000 in
theorem rs_L_law_696 (Ln : Nat) (xs : Nat → Int32) (n : Nat) (L : AL) (st : List AV) (M : List AC) (c s : Nat) : rx_L_law Ln xs (n + 1) 696 L st M c s = am_jB (fun pc L st M => rx_L_law Ln xs n pc L st M c s) ((tAld 1 1) 696 L st M) := (ra_L rfl n L st M c s).trans (if_pos (Nat.zero_le _))
set_option maxRecDepth 20000 in
theorem rs_L_law_697 (Ln : Nat) (xs : Nat → Int32) (n : Nat) (L : AL) (st : List AV) (M : List AC) (c s : Nat) : rx_L_law Ln xs (n + 1) 697 L st M c s = am_jB (fun pc L st M => rx_L_law Ln xs n pc L st M c s) ((tAld 0 1) 697 L st M) := (ra_L rfl n L st M c s).trans (if_pos (Nat.zero_le _))
set_option maxRecDepth 20000 in
theorem rs_L_law_698 (Ln : Nat) (xs : Nat → Int32) (n : Nat) (L : AL) (st : List AV) (M : List AC) (c s : Nat) : rx_L_law Ln xs (n + 1) 698 L st M c s = am_jB (fun pc L st M => rx_L_law Ln xs n pc L st M c s) ((tIld 3 1) 698 L st M) := (ra_L rfl n L st M c s).trans (if_pos (Nat.zero_le _))
set_option maxRecDepth 20000 in
theorem rs_L_law_699 (Ln : Nat) (xs : Nat → Int32) (n : Nat) (L : AL) (st : List AV) (M : List AC) (c s : Nat) : rx_L_law Ln xs (n + 1) 699 L st M c s = am_jB (fun pc L st M => rx_L_law Ln xs n pc L st M c s) ((tIc 1 1) 699 L st M) := (ra_L rfl n L st M c s).trans (if_pos (Nat.zero_le _))
set_option maxRecDepth 20000 in
theorem rs_L_law_700 (Ln : Nat) (xs : Nat → Int32) (n : Nat) (L : AL) (st : List AV) (M : List AC) (c s : Nat) : rx_L_law Ln xs (n + 1) 700 L st M c s = am_jB (fun pc L st M => rx_L_law Ln xs n pc L st M c s) ((tI2 (fun a b => a + b)) 700 L st M) := (ra_L rfl n L st M c s).trans (if_pos (Nat.zero_le _))
set_option maxRecDepth 20000 in
theorem rs_L_law_701 (Ln : Nat) (xs : Nat → Int32) (n : Nat) (L : AL) (st : List AV) (M : List AC) (c s : Nat) : rx_L_law Ln xs (n + 1) 701 L st M c s = am_jC (rx_L_law Ln xs n) ((tSx Ln xs) 701 L st M) c s := (ra_A rfl n L st M c s).trans (if_pos (Nat.zero_le _))
set_option maxRecDepth 20000 in
theorem rs_L_law_702 (Ln : Nat) (xs : Nat → Int32) (n : Nat) (L : AL) (st : List AV) (M : List AC) (c s : Nat) : rx_L_law Ln xs (n + 1) 702 L st M c s = am_jB (fun pc L st M => rx_L_law Ln xs n pc L st M c s) ((tCv 5 1 fn_X5_washes) 702 L st M) := (ra_L rfl n L st M c s).trans (if_pos (Nat.zero_le _))
set_option maxRecDepth 20000 in
theorem rs_L_law_705 (Ln : Nat) (xs : Nat → Int32) (n : Nat) (L : AL) (st : List AV) (M : List AC) (c s : Nat) : rx_L_law Ln xs (n + 1) 705 L st M c s = am_jB (fun pc L st M => rx_L_law Ln xs n pc L st M c s) ((tAld 2 1) 705 L st M) := (ra_L rfl n L st M c s).trans (if_pos (Nat.zero_le _))
set_option maxRecDepth 20000 in
theorem rs_L_law_706 (Ln : Nat) (xs : Nat → Int32) (n : Nat) (L : AL) (st : List AV) (M : List AC) (c s : Nat) : rx_L_law Ln xs (n + 1) 706 L st M c s = am_jB (fun pc L st M => rx_L_law Ln xs n pc L st M c s) ((tAld 0 1) 706 L st M) := (ra_L rfl n L st M c s).trans (if_pos (Nat.zero_le _))
set_option maxRecDepth 20000 in
theorem rs_L_law_707 (Ln : Nat) (xs : Nat → Int32) (n : Nat) (L : AL) (st : List AV) (M : List AC) (c s : Nat) : rx_L_law Ln xs (n + 1) 707 L st M c s = am_jB (fun pc L st M => rx_L_law Ln xs n pc L st M c s) ((tIld 3 1) 707 L st M) := (ra_L rfl n L st M c s).trans (if_pos (Nat.zero_le _))
set_option maxRecDepth 20000 in
theorem rs_L_law_708 (Ln : Nat) (xs : Nat → Int32) (n : Nat) (L : AL) (st : List AV) (M : List AC) (c s : Nat) : rx_L_law Ln xs (n + 1) 708 L st M c s = am_jB (fun pc L st M => rx_L_law Ln xs n pc L st M c s) ((tIc 1 1) 708 L st M) := (ra_L rfl n L st M c s).trans (if_pos (Nat.zero_le _))
set_option maxRecDepth 20000 in
theorem rs_L_law_709 (Ln : Nat) (xs : Nat → Int32) (n : Nat) (L : AL) (st : List AV) (M : List AC) (c s : Nat) : rx_L_law Ln xs (n + 1) 709 L st M c s = am_jB (fun pc L st M => rx_L_law Ln xs n pc L st M c s) ((tI2 (fun a b => a + b)) 709 L st M) := (ra_L rfl n L st M c s).trans (if_pos (Nat.zero_le _))
set_option maxRecDepth 20000 in
theorem rs_L_law_710 (Ln : Nat) (xs : Nat → Int32) (n : Nat) (L : AL) (st : List AV) (M : List AC) (c s : Nat) : rx_L_law Ln xs (n + 1) 710 L st M c s = am_jC (rx_L_law Ln xs n) ((tSx Ln xs) 710 L st M) c s := (ra_A rfl n L st M c s).trans (if_pos (Nat.zero_le _))
set_option maxRecDepth 20000 in
theorem rs_L_law_711 (Ln : Nat) (xs : Nat → Int32) (n : Nat) (L : AL) (st : List AV) (M : List AC) (c s : Nat) : rx_L_law Ln xs (n + 1) 711 L st M c s = am_jB (fun pc L st M => rx_L_law Ln xs n pc L st M c s) ((tCv 6 1 fn_X6_washes) 711 L st M) := (ra_L rfl n L st M c s).trans (if_pos (Nat.zero_le _))
set_option maxRecDepth 20000 in
theorem rs_L_law_714 (Ln : Nat) (xs : Nat → Int32) (n : Nat) (L : AL) (st : List AV) (M : List AC) (c s : Nat) : rx_L_law Ln xs (n + 1) 714 L st M c s = am_jB (fun pc L st M => rx_L_law Ln xs n pc L st M c s) ((tCmeq 1088) 714 L st M) := (ra_L rfl n L st M c s).trans (if_pos (Nat.zero_le _))
set_option maxRecDepth 20000 in
theorem rs_L_law_717 (Ln : Nat) (xs : Nat → Int32) (n : Nat) (L : AL) (st : List AV) (M : List AC) (c s : Nat) : rx_L_law Ln xs (n + 1) 717 L st M c s = am_jB (fun pc L st M => rx_L_law Ln xs n pc L st M c s) ((tIc 0 1) 717 L st M) := (ra_L rfl n L st M c s).trans (if_pos (Nat.zero_le _))
set_option maxRecDepth 20000 in
theorem rs_L_law_719 (Ln : Nat) (xs : Nat → Int32) (n : Nat) (L : AL) (st : List AV) (M : List AC) (c s : Nat) : rx_L_law Ln xs (n + 1) 719 L st M c s = am_jB (fun pc L st M => rx_L_law Ln xs n pc L st M c s) ((tAld 1 1) 719 L st M) := (ra_L rfl n L st M c s).trans (if_pos (Nat.zero_le _))
set_option maxRecDepth 20000 in
theorem rs_L_law_720 (Ln : Nat) (xs : Nat → Int32) (n : Nat) (L : AL) (st : List AV) (M : List AC) (c s : Nat) : rx_L_law Ln xs (n + 1) 720 L st M c s = am_jB (fun pc L st M => rx_L_law Ln xs n pc L st M c s) ((tAld 0 1) 720 L st M) := (ra_L rfl n L st M c s).trans (if_pos (Nat.zero_le _))
set_option maxRecDepth 20000 in
theorem rs_L_law_721 (Ln : Nat) (xs : Nat → Int32) (n : Nat) (L : AL) (st : List AV) (M : List AC) (c s : Nat) : rx_L_law Ln xs (n + 1) 721 L st M c s = am_jB (fun pc L st M => rx_L_law Ln xs n pc L st M c s) ((tIld 3 1) 721 L st M) := (ra_L rfl n L st M c s).trans (if_pos (Nat.zero_le _))
set_option maxRecDepth 20000 in
theorem rs_L_law_722 (Ln : Nat) (xs : Nat → Int32) (n : Nat) (L : AL) (st : List AV) (M : List AC) (c s : Nat) : rx_L_law Ln xs (n + 1) 722 L st M c s = am_jB (fun pc L st M => rx_L_law Ln xs n pc L st M c s) ((tIc 1 1) 722 L st M) := (ra_L rfl n L st M c s).trans (if_pos (Nat.zero_le _))
set_option maxRecDepth 20000 in
theorem rs_L_law_723 (Ln : Nat) (xs : Nat → Int32) (n : Nat) (L : AL) (st : List AV) (M : List AC) (c s : Nat) : rx_L_law Ln xs (n + 1) 723 L st M c s = am_jB (fun pc L st M => rx_L_law Ln xs n pc L st M c s) ((tI2 (fun a b => a + b)) 723 L st M) := (ra_L rfl n L st M c s).trans (if_pos (Nat.zero_le _))
set_option maxRecDepth 20000 in
theorem rs_L_law_724 (Ln : Nat) (xs : Nat → Int32) (n : Nat) (L : AL) (st : List AV) (M : List AC) (c s : Nat) : rx_L_law Ln xs (n + 1) 724 L st M c s = am_jC (rx_L_law Ln xs n) ((tSx Ln xs) 724 L st M) c s := (ra_A rfl n L st M c s).trans (if_pos (Nat.zero_le _))
set_option maxRecDepth 20000 in
theorem rs_L_law_725 (Ln : Nat) (xs : Nat → Int32) (n : Nat) (L : AL) (st : List AV) (M : List AC) (c s : Nat) : rx_L_law Ln xs (n + 1) 725 L st M c s = am_jB (fun pc L st M => rx_L_law Ln xs n pc L st M c s) ((tAld 0 1) 725 L st M) := (ra_L rfl n L st M c s).trans (if_pos (Nat.zero_le _))
set_option maxRecDepth 20000 in
theorem rs_L_law_726 (Ln : Nat) (xs : Nat → Int32) (n : Nat) (L : AL) (st : List AV) (M : List AC) (c s : Nat) : rx_L_law Ln xs (n + 1) 726 L st M c s = am_jB (fun pc L st M => rx_L_law Ln xs n pc L st M c s) ((tIld 3 1) 726 L st M) := (ra_L rfl n L st M c s).trans (if_pos (Nat.zero_le _))
set_option maxRecDepth 20000 in
theorem rs_L_law_727 (Ln : Nat) (xs : Nat → Int32) (n : Nat) (L : AL) (st : List AV) (M : List AC) (c s : Nat) : rx_L_law Ln xs (n + 1) 727 L st M c s = am_jB (fun pc L st M => rx_L_law Ln xs n pc L st M c s) ((tIc 2 1) 727 L st M) := (ra_L rfl n L st M c s).trans (if_pos (Nat.zero_le _))
set_option maxRecDepth 20000 in
theorem rs_L_law_728 (Ln : Nat) (xs : Nat → Int32) (n : Nat) (L : AL) (st : List AV) (M : List AC) (c s : Nat) : rx_L_law Ln xs (n + 1) 728 L st M c s = am_jB (fun pc L st M => rx_L_law Ln xs n pc L st M c s) ((tI2 (fun a b => a + b)) 728 L st M) := (ra_L rfl n L st M c s).trans (if_pos (Nat.zero_le _))
set_option maxRecDepth 20000 in
theorem rs_L_law_729 (Ln : Nat) (xs : Nat → Int32) (n : Nat) (L : AL) (st : List AV) (M : List AC) (c s : Nat) : rx_L_law Ln xs (n + 1) 729 L st M c s = am_jC (rx_L_law Ln xs n) ((tSx Ln xs) 729 L st M) c s := (ra_A rfl n L st M c s).trans (if_pos (Nat.zero_le _))
set_option maxRecDepth 20000 in
theorem rs_L_law_730 (Ln : Nat) (xs : Nat → Int32) (n : Nat) (L : AL) (st : List AV) (M : List AC) (c s : Nat) : rx_L_law Ln xs (n + 1) 730 L st M c s = am_jB (fun pc L st M => rx_L_law Ln xs n pc L st M c s) ((tIfeq 737) 730 L st M) := (ra_L rfl n L st M c s).trans (if_pos (Nat.zero_le _))
set_option maxRecDepth 20000 in
theorem rs_L_law_733 (Ln : Nat) (xs : Nat → Int32) (n : Nat) (L : AL) (st : List AV) (M : List AC) (c s : Nat) : rx_L_law Ln xs (n + 1) 733 L st M c s = am_jB (fun pc L st M => rx_L_law Ln xs n pc L st M c s) ((tIc 1 1) 733 L st M) := (ra_L rfl n L st M c s).trans (if_pos (Nat.zero_le _))
set_option maxRecDepth 20000 in
theorem rs_L_law_734 (Ln : Nat) (xs : Nat → Int32) (n : Nat) (L : AL) (st : List AV) (M : List AC) (c s : Nat) : rx_L_law Ln xs (n + 1) 734 L st M c s = am_jB (fun pc L st M => rx_L_law Ln xs n pc L st M c s) ((tGo 738) 734 L st M) := (ra_L rfl n L st M c s).trans (if_pos (Nat.zero_le _))
set_option maxRecDepth 20000 in
theorem rs_L_law_737 (Ln : Nat) (xs : Nat → Int32) (n : Nat) (L : AL) (st : List AV) (M : List AC) (c s : Nat) : rx_L_law Ln xs (n + 1) 737 L st M c s = am_jB (fun pc L st M => rx_L_law Ln xs n pc L st M c s) ((tIc 0 1) 737 L st M) := (ra_L rfl n L st M c s).trans (if_pos (Nat.zero_le _))
set_option maxRecDepth 20000 in
theorem rs_L_law_738 (Ln : Nat) (xs : Nat → Int32) (n : Nat) (L : AL) (st : List AV) (M : List AC) (c s : Nat) : rx_L_law Ln xs (n + 1) 738 L st M c s = am_jB (fun pc L st M => rx_L_law Ln xs n pc L st M c s) ((tCv 5 2 fn_X5_likely) 738 L st M) := (ra_L rfl n L st M c s).trans (if_pos (Nat.zero_le _))
set_option maxRecDepth 20000 in
theorem rs_L_law_741 (Ln : Nat) (xs : Nat → Int32) (n : Nat) (L : AL) (st : List AV) (M : List AC) (c s : Nat) : rx_L_law Ln xs (n + 1) 741 L st M c s = am_jB (fun pc L st M => rx_L_law Ln xs n pc L st M c s) ((tAld 2 1) 741 L st M) := (ra_L rfl n L st M c s).trans (if_pos (Nat.zero_le _))
set_option maxRecDepth 20000 in
theorem rs_L_law_742 (Ln : Nat) (xs : Nat → Int32) (n : Nat) (L : AL) (st : List AV) (M : List AC) (c s : Nat) : rx_L_law Ln xs (n + 1) 742 L st M c s = am_jB (fun pc L st M => rx_L_law Ln xs n pc L st M c s) ((tAld 0 1) 742 L st M) := (ra_L rfl n L st M c s).trans (if_pos (Nat.zero_le _))
set_option maxRecDepth 20000 in
theorem rs_L_law_743 (Ln : Nat) (xs : Nat → Int32) (n : Nat) (L : AL) (st : List AV) (M : List AC) (c s : Nat) : rx_L_law Ln xs (n + 1) 743 L st M c s = am_jB (fun pc L st M => rx_L_law Ln xs n pc L st M c s) ((tIld 3 1) 743 L st M) := (ra_L rfl n L st M c s).trans (if_pos (Nat.zero_le _))
set_option maxRecDepth 20000 in
theorem rs_L_law_744 (Ln : Nat) (xs : Nat → Int32) (n : Nat) (L : AL) (st : List AV) (M : List AC) (c s : Nat) : rx_L_law Ln xs (n + 1) 744 L st M c s = am_jB (fun pc L st M => rx_L_law Ln xs n pc L st M c s) ((tIc 1 1) 744 L st M) := (ra_L rfl n L st M c s).trans (if_pos (Nat.zero_le _))
set_option maxRecDepth 20000 in
theorem rs_L_law_745 (Ln : Nat) (xs : Nat → Int32) (n : Nat) (L : AL) (st : List AV) (M : List AC) (c s : Nat) : rx_L_law Ln xs (n + 1) 745 L st M c s = am_jB (fun pc L st M => rx_L_law Ln xs n pc L st M c s) ((tI2 (fun a b => a + b)) 745 L st M) := (ra_L rfl n L st M c s).trans (if_pos (Nat.zero_le _))
set_option maxRecDepth 20000 in
theorem rs_L_law_746 (Ln : Nat) (xs : Nat → Int32) (n : Nat) (L : AL) (st : List AV) (M : List AC) (c s : Nat) : rx_L_law Ln xs (n + 1) 746 L st M c s = am_jC (rx_L_law Ln xs n) ((tSx Ln xs) 746 L st M) c s := (ra_A rfl n L st M c s).trans (if_pos (Nat.zero_le _))
set_option maxRecDepth 20000 in
theorem rs_L_law_747 (Ln : Nat) (xs : Nat → Int32) (n : Nat) (L : AL) (st : List AV) (M : List AC) (c s : Nat) : rx_L_law Ln xs (n + 1) 747 L st M c s = am_jB (fun pc L st M => rx_L_law Ln xs n pc L st M c s) ((tAld 0 1) 747 L st M) := (ra_L rfl n L st M c s).trans (if_pos (Nat.zero_le _))
set_option maxRecDepth 20000 in
theorem rs_L_law_748 (Ln : Nat) (xs : Nat → Int32) (n : Nat) (L : AL) (st : List AV) (M : List AC) (c s : Nat) : rx_L_law Ln xs (n + 1) 748 L st M c s = am_jB (fun pc L st M => rx_L_law Ln xs n pc L st M c s) ((tIld 3 1) 748 L st M) := (ra_L rfl n L st M c s).trans (if_pos (Nat.zero_le _))
set_option maxRecDepth 20000 in
theorem rs_L_law_749 (Ln : Nat) (xs : Nat → Int32) (n : Nat) (L : AL) (st : List AV) (M : List AC) (c s : Nat) : rx_L_law Ln xs (n + 1) 749 L st M c s = am_jB (fun pc L st M => rx_L_law Ln xs n pc L st M c s) ((tIc 2 1) 749 L st M) := (ra_L rfl n L st M c s).trans (if_pos (Nat.zero_le _))
set_option maxRecDepth 20000 in
theorem rs_L_law_750 (Ln : Nat) (xs : Nat → Int32) (n : Nat) (L : AL) (st : List AV) (M : List AC) (c s : Nat) : rx_L_law Ln xs (n + 1) 750 L st M c s = am_jB (fun pc L st M => rx_L_law Ln xs n pc L st M c s) ((tI2 (fun a b => a + b)) 750 L st M) := (ra_L rfl n L st M c s).trans (if_pos (Nat.zero_le _))
set_option maxRecDepth 20000 in
theorem rs_L_law_751 (Ln : Nat) (xs : Nat → Int32) (n : Nat) (L : AL) (st : List AV) (M : List AC) (c s : Nat) : rx_L_law Ln xs (n + 1) 751 L st M c s = am_jC (rx_L_law Ln xs n) ((tSx Ln xs) 751 L st M) c s := (ra_A rfl n L st M c s).trans (if_pos (Nat.zero_le _))
set_option maxRecDepth 20000 in
theorem rs_L_law_752 (Ln : Nat) (xs : Nat → Int32) (n : Nat) (L : AL) (st : List AV) (M : List AC) (c s : Nat) : rx_L_law Ln xs (n + 1) 752 L st M c s = am_jB (fun pc L st M => rx_L_law Ln xs n pc L st M c s) ((tIfeq 759) 752 L st M) := (ra_L rfl n L st M c s).trans (if_pos (Nat.zero_le _))
set_option maxRecDepth 20000 in
theorem rs_L_law_755 (Ln : Nat) (xs : Nat → Int32) (n : Nat) (L : AL) (st : List AV) (M : List AC) (c s : Nat) : rx_L_law Ln xs (n + 1) 755 L st M c s = am_jB (fun pc L st M => rx_L_law Ln xs n pc L st M c s) ((tIc 1 1) 755 L st M) := (ra_L rfl n L st M c s).trans (if_pos (Nat.zero_le _))
set_option maxRecDepth 20000 in
theorem rs_L_law_756 (Ln : Nat) (xs : Nat → Int32) (n : Nat) (L : AL) (st : List AV) (M : List AC) (c s : Nat) : rx_L_law Ln xs (n + 1) 756 L st M c s = am_jB (fun pc L st M => rx_L_law Ln xs n pc L st M c s) ((tGo 760) 756 L st M) := (ra_L rfl n L st M c s).trans (if_pos (Nat.zero_le _))
set_option maxRecDepth 20000 in
theorem rs_L_law_759 (Ln : Nat) (xs : Nat → Int32) (n : Nat) (L : AL) (st : List AV) (M : List AC) (c s : Nat) : rx_L_law Ln xs (n + 1) 759 L st M c s = am_jB (fun pc L st M => rx_L_law Ln xs n pc L st M c s) ((tIc 0 1) 759 L st M) := (ra_L rfl n L st M c s).trans (if_pos (Nat.zero_le _))
set_option maxRecDepth 20000 in
theorem rs_L_law_760 (Ln : Nat) (xs : Nat → Int32) (n : Nat) (L : AL) (st : List AV) (M : List AC) (c s : Nat) : rx_L_law Ln xs (n + 1) 760 L st M c s = am_jB (fun pc L st M => rx_L_law Ln xs n pc L st M c s) ((tCv 6 2 fn_X6_likely) 760 L st M) := (ra_L rfl n L st M c s).trans (if_pos (Nat.zero_le _))
set_option maxRecDepth 20000 in
theorem rs_L_law_763 (Ln : Nat) (xs : Nat → Int32) (n : Nat) (L : AL) (st : List AV) (M : List AC) (c s : Nat) : rx_L_law Ln xs (n + 1) 763 L st M c s = am_jB (fun pc L st M => rx_L_law Ln xs n pc L st M c s) ((tCmeq 1088) 763 L st M) := (ra_L rfl n L st M c s).trans (if_pos (Nat.zero_le _))
set_option maxRecDepth 20000 in
theorem rs_L_law_766 (Ln : Nat) (xs : Nat → Int32) (n : Nat) (L : AL) (st : List AV) (M : List AC) (c s : Nat) : rx_L_law Ln xs (n + 1) 766 L st M c s = am_jB (fun pc L st M => rx_L_law Ln xs n pc L st M c s) ((tIc 0 1) 766 L st M) := (ra_L rfl n L st M c s).trans (if_pos (Nat.zero_le _))
set_option maxRecDepth 20000 in
theorem rs_L_law_768 (Ln : Nat) (xs : Nat → Int32) (n : Nat) (L : AL) (st : List AV) (M : List AC) (c s : Nat) : rx_L_law Ln xs (n + 1) 768 L st M c s = am_jB (fun pc L st M => rx_L_law Ln xs n pc L st M c s) ((tAld 1 1) 768 L st M) := (ra_L rfl n L st M c s).trans (if_pos (Nat.zero_le _))
set_option maxRecDepth 20000 in
theorem rs_L_law_769 (Ln : Nat) (xs : Nat → Int32) (n : Nat) (L : AL) (st : List AV) (M : List AC) (c s : Nat) : rx_L_law Ln xs (n + 1) 769 L st M c s = am_jB (fun pc L st M => rx_L_law Ln xs n pc L st M c s) ((tAld 0 1) 769 L st M) := (ra_L rfl n L st M c s).trans (if_pos (Nat.zero_le _))
set_option maxRecDepth 20000 in
theorem rs_L_law_770 (Ln : Nat) (xs : Nat → Int32) (n : Nat) (L : AL) (st : List AV) (M : List AC) (c s : Nat) : rx_L_law Ln xs (n + 1) 770 L st M c s = am_jB (fun pc L st M => rx_L_law Ln xs n pc L st M c s) ((tIld 3 1) 770 L st M) := (ra_L rfl n L st M c s).trans (if_pos (Nat.zero_le _))
set_option maxRecDepth 20000 in
theorem rs_L_law_771 (Ln : Nat) (xs : Nat → Int32) (n : Nat) (L : AL) (st : List AV) (M : List AC) (c s : Nat) : rx_L_law Ln xs (n + 1) 771 L st M c s = am_jB (fun pc L st M => rx_L_law Ln xs n pc L st M c s) ((tIc 1 1) 771 L st M) := (ra_L rfl n L st M c s).trans (if_pos (Nat.zero_le _))
set_option maxRecDepth 20000 in
theorem rs_L_law_772 (Ln : Nat) (xs : Nat → Int32) (n : Nat) (L : AL) (st : List AV) (M : List AC) (c s : Nat) : rx_L_law Ln xs (n + 1) 772 L st M c s = am_jB (fun pc L st M => rx_L_law Ln xs n pc L st M c s) ((tI2 (fun a b => a + b)) 772 L st M) := (ra_L rfl n L st M c s).trans (if_pos (Nat.zero_le _))
set_option maxRecDepth 20000 in
theorem rs_L_law_773 (Ln : Nat) (xs : Nat → Int32) (n : Nat) (L : AL) (st : List AV) (M : List AC) (c s : Nat) : rx_L_law Ln xs (n + 1) 773 L st M c s = am_jC (rx_L_law Ln xs n) ((tSx Ln xs) 773 L st M) c s := (ra_A rfl n L st M c s).trans (if_pos (Nat.zero_le _))
set_option maxRecDepth 20000 in
theorem rs_L_law_774 (Ln : Nat) (xs : Nat → Int32) (n : Nat) (L : AL) (st : List AV) (M : List AC) (c s : Nat) : rx_L_law Ln xs (n + 1) 774 L st M c s = am_jB (fun pc L st M => rx_L_law Ln xs n pc L st M c s) ((tIfeq 781) 774 L st M) := (ra_L rfl n L st M c s).trans (if_pos (Nat.zero_le _))
set_option maxRecDepth 20000 in
theorem rs_L_law_777 (Ln : Nat) (xs : Nat → Int32) (n : Nat) (L : AL) (st : List AV) (M : List AC) (c s : Nat) : rx_L_law Ln xs (n + 1) 777 L st M c s = am_jB (fun pc L st M => rx_L_law Ln xs n pc L st M c s) ((tIc 1 1) 777 L st M) := (ra_L rfl n L st M c s).trans (if_pos (Nat.zero_le _))
set_option maxRecDepth 20000 in
theorem rs_L_law_778 (Ln : Nat) (xs : Nat → Int32) (n : Nat) (L : AL) (st : List AV) (M : List AC) (c s : Nat) : rx_L_law Ln xs (n + 1) 778 L st M c s = am_jB (fun pc L st M => rx_L_law Ln xs n pc L st M c s) ((tGo 782) 778 L st M) := (ra_L rfl n L st M c s).trans (if_pos (Nat.zero_le _))
set_option maxRecDepth 20000 in
theorem rs_L_law_781 (Ln : Nat) (xs : Nat → Int32) (n : Nat) (L : AL) (st : List AV) (M : List AC) (c s : Nat) : rx_L_law Ln xs (n + 1) 781 L st M c s = am_jB (fun pc L st M => rx_L_law Ln xs n pc L st M c s) ((tIc 0 1) 781 L st M) := (ra_L rfl n L st M c s).trans (if_pos (Nat.zero_le _))
set_option maxRecDepth 20000 in
theorem rs_L_law_782 (Ln : Nat) (xs : Nat → Int32) (n : Nat) (L : AL) (st : List AV) (M : List AC) (c s : Nat) : rx_L_law Ln xs (n + 1) 782 L st M c s = am_jB (fun pc L st M => rx_L_law Ln xs n pc L st M c s) ((tCv 5 1 fn_X5_tries) 782 L st M) := (ra_L rfl n L st M c s).trans (if_pos (Nat.zero_le _))
set_option maxRecDepth 20000 in
theorem rs_L_law_785 (Ln : Nat) (xs : Nat → Int32) (n : Nat) (L : AL) (st : List AV) (M : List AC) (c s : Nat) : rx_L_law Ln xs (n + 1) 785 L st M c s = am_jB (fun pc L st M => rx_L_law Ln xs n pc L st M c s) ((tAld 2 1) 785 L st M) := (ra_L rfl n L st M c s).trans (if_pos (Nat.zero_le _))
set_option maxRecDepth 20000 in
theorem rs_L_law_786 (Ln : Nat) (xs : Nat → Int32) (n : Nat) (L : AL) (st : List AV) (M : List AC) (c s : Nat) : rx_L_law Ln xs (n + 1) 786 L st M c s = am_jB (fun pc L st M => rx_L_law Ln xs n pc L st M c s) ((tAld 0 1) 786 L st M) := (ra_L rfl n L st M c s).trans (if_pos (Nat.zero_le _))
set_option maxRecDepth 20000 in
theorem rs_L_law_787 (Ln : Nat) (xs : Nat → Int32) (n : Nat) (L : AL) (st : List AV) (M : List AC) (c s : Nat) : rx_L_law Ln xs (n + 1) 787 L st M c s = am_jB (fun pc L st M => rx_L_law Ln xs n pc L st M c s) ((tIld 3 1) 787 L st M) := (ra_L rfl n L st M c s).trans (if_pos (Nat.zero_le _))
set_option maxRecDepth 20000 in
theorem rs_L_law_788 (Ln : Nat) (xs : Nat → Int32) (n : Nat) (L : AL) (st : List AV) (M : List AC) (c s : Nat) : rx_L_law Ln xs (n + 1) 788 L st M c s = am_jB (fun pc L st M => rx_L_law Ln xs n pc L st M c s) ((tIc 1 1) 788 L st M) := (ra_L rfl n L st M c s).trans (if_pos (Nat.zero_le _))
set_option maxRecDepth 20000 in
theorem rs_L_law_789 (Ln : Nat) (xs : Nat → Int32) (n : Nat) (L : AL) (st : List AV) (M : List AC) (c s : Nat) : rx_L_law Ln xs (n + 1) 789 L st M c s = am_jB (fun pc L st M => rx_L_law Ln xs n pc L st M c s) ((tI2 (fun a b => a + b)) 789 L st M) := (ra_L rfl n L st M c s).trans (if_pos (Nat.zero_le _))
set_option maxRecDepth 20000 in
theorem rs_L_law_790 (Ln : Nat) (xs : Nat → Int32) (n : Nat) (L : AL) (st : List AV) (M : List AC) (c s : Nat) : rx_L_law Ln xs (n + 1) 790 L st M c s = am_jC (rx_L_law Ln xs n) ((tSx Ln xs) 790 L st M) c s := (ra_A rfl n L st M c s).trans (if_pos (Nat.zero_le _))
set_option maxRecDepth 20000 in
theorem rs_L_law_791 (Ln : Nat) (xs : Nat → Int32) (n : Nat) (L : AL) (st : List AV) (M : List AC) (c s : Nat) : rx_L_law Ln xs (n + 1) 791 L st M c s = am_jB (fun pc L st M => rx_L_law Ln xs n pc L st M c s) ((tIfeq 798) 791 L st M) := (ra_L rfl n L st M c s).trans (if_pos (Nat.zero_le _))
set_option maxRecDepth 20000 in
theorem rs_L_law_794 (Ln : Nat) (xs : Nat → Int32) (n : Nat) (L : AL) (st : List AV) (M : List AC) (c s : Nat) : rx_L_law Ln xs (n + 1) 794 L st M c s = am_jB (fun pc L st M => rx_L_law Ln xs n pc L st M c s) ((tIc 1 1) 794 L st M) := (ra_L rfl n L st M c s).trans (if_pos (Nat.zero_le _))
set_option maxRecDepth 20000 in
theorem rs_L_law_795 (Ln : Nat) (xs : Nat → Int32) (n : Nat) (L : AL) (st : List AV) (M : List AC) (c s : Nat) : rx_L_law Ln xs (n + 1) 795 L st M c s = am_jB (fun pc L st M => rx_L_law Ln xs n pc L st M c s) ((tGo 799) 795 L st M) := (ra_L rfl n L st M c s).trans (if_pos (Nat.zero_le _))
set_option maxRecDepth 20000 in
theorem rs_L_law_798 (Ln : Nat) (xs : Nat → Int32) (n : Nat) (L : AL) (st : List AV) (M : List AC) (c s : Nat) : rx_L_law Ln xs (n + 1) 798 L st M c s = am_jB (fun pc L st M => rx_L_law Ln xs n pc L st M c s) ((tIc 0 1) 798 L st M) := (ra_L rfl n L st M c s).trans (if_pos (Nat.zero_le _))
set_option maxRecDepth 20000 in
theorem rs_L_law_799 (Ln : Nat) (xs : Nat → Int32) (n : Nat) (L : AL) (st : List AV) (M : List AC) (c s : Nat) : rx_L_law Ln xs (n + 1) 799 L st M c s = am_jB (fun pc L st M => rx_L_law Ln xs n pc L st M c s) ((tCv 6 1 fn_X6_tries) 799 L st M) := (ra_L rfl n L st M c s).trans (if_pos (Nat.zero_le _))
set_option maxRecDepth 20000 in
theorem rs_L_law_802 (Ln : Nat) (xs : Nat → Int32) (n : Nat) (L : AL) (st : List AV) (M : List AC) (c s : Nat) : rx_L_law Ln xs (n + 1) 802 L st M c s = am_jB (fun pc L st M => rx_L_law Ln xs n pc L st M c s) ((tCmeq 1088) 802 L st M) := (ra_L rfl n L st M c s).trans (if_pos (Nat.zero_le _))
set_option maxRecDepth 20000 in
theorem rs_L_law_805 (Ln : Nat) (xs : Nat → Int32) (n : Nat) (L : AL) (st : List AV) (M : List AC) (c s : Nat) : rx_L_law Ln xs (n + 1) 805 L st M c s = am_jB (fun pc L st M => rx_L_law Ln xs n pc L st M c s) ((tIc 0 1) 805 L st M) := (ra_L rfl n L st M c s).trans (if_pos (Nat.zero_le _))
set_option maxRecDepth 20000 in
theorem rs_L_law_807 (Ln : Nat) (xs : Nat → Int32) (n : Nat) (L : AL) (st : List AV) (M : List AC) (c s : Nat) : rx_L_law Ln xs (n + 1) 807 L st M c s = am_jB (fun pc L st M => rx_L_law Ln xs n pc L st M c s) ((tAld 1 1) 807 L st M) := (ra_L rfl n L st M c s).trans (if_pos (Nat.zero_le _))
set_option maxRecDepth 20000 in
theorem rs_L_law_808 (Ln : Nat) (xs : Nat → Int32) (n : Nat) (L : AL) (st : List AV) (M : List AC) (c s : Nat) : rx_L_law Ln xs (n + 1) 808 L st M c s = am_jB (fun pc L st M => rx_L_law Ln xs n pc L st M c s) ((tAld 0 1) 808 L st M) := (ra_L rfl n L st M c s).trans (if_pos (Nat.zero_le _))
set_option maxRecDepth 20000 in
theorem rs_L_law_809 (Ln : Nat) (xs : Nat → Int32) (n : Nat) (L : AL) (st : List AV) (M : List AC) (c s : Nat) : rx_L_law Ln xs (n + 1) 809 L st M c s = am_jB (fun pc L st M => rx_L_law Ln xs n pc L st M c s) ((tIld 3 1) 809 L st M) := (ra_L rfl n L st M c s).trans (if_pos (Nat.zero_le _))
set_option maxRecDepth 20000 in
theorem rs_L_law_810 (Ln : Nat) (xs : Nat → Int32) (n : Nat) (L : AL) (st : List AV) (M : List AC) (c s : Nat) : rx_L_law Ln xs (n + 1) 810 L st M c s = am_jB (fun pc L st M => rx_L_law Ln xs n pc L st M c s) ((tIc 1 1) 810 L st M) := (ra_L rfl n L st M c s).trans (if_pos (Nat.zero_le _))
set_option maxRecDepth 20000 in
theorem rs_L_law_811 (Ln : Nat) (xs : Nat → Int32) (n : Nat) (L : AL) (st : List AV) (M : List AC) (c s : Nat) : rx_L_law Ln xs (n + 1) 811 L st M c s = am_jB (fun pc L st M => rx_L_law Ln xs n pc L st M c s) ((tI2 (fun a b => a + b)) 811 L st M) := (ra_L rfl n L st M c s).trans (if_pos (Nat.zero_le _))
set_option maxRecDepth 20000 in
theorem rs_L_law_812 (Ln : Nat) (xs : Nat → Int32) (n : Nat) (L : AL) (st : List AV) (M : List AC) (c s : Nat) : rx_L_law Ln xs (n + 1) 812 L st M c s = am_jC (rx_L_law Ln xs n) ((tSx Ln xs) 812 L st M) c s := (ra_A rfl n L st M c s).trans (if_pos (Nat.zero_le _))
set_option maxRecDepth 20000 in
theorem rs_L_law_813 (Ln : Nat) (xs : Nat → Int32) (n : Nat) (L : AL) (st : List AV) (M : List AC) (c s : Nat) : rx_L_law Ln xs (n + 1) 813 L st M c s = am_jB (fun pc L st M => rx_L_law Ln xs n pc L st M c s) ((tAld 0 1) 813 L st M) := (ra_L rfl n L st M c s).trans (if_pos (Nat.zero_le _))
set_option maxRecDepth 20000 in
theorem rs_L_law_814 (Ln : Nat) (xs : Nat → Int32) (n : Nat) (L : AL) (st : List AV) (M : List AC) (c s : Nat) : rx_L_law Ln xs (n + 1) 814 L st M c s = am_jB (fun pc L st M => rx_L_law Ln xs n pc L st M c s) ((tIld 3 1) 814 L st M) := (ra_L rfl n L st M c s).trans (if_pos (Nat.zero_le _))
set_option maxRecDepth 20000 in
theorem rs_L_law_815 (Ln : Nat) (xs : Nat → Int32) (n : Nat) (L : AL) (st : List AV) (M : List AC) (c s : Nat) : rx_L_law Ln xs (n + 1) 815 L st M c s = am_jB (fun pc L st M => rx_L_law Ln xs n pc L st M c s) ((tIc 2 1) 815 L st M) := (ra_L rfl n L st M c s).trans (if_pos (Nat.zero_le _))
set_option maxRecDepth 20000 in
theorem rs_L_law_816 (Ln : Nat) (xs : Nat → Int32) (n : Nat) (L : AL) (st : List AV) (M : List AC) (c s : Nat) : rx_L_law Ln xs (n + 1) 816 L st M c s = am_jB (fun pc L st M => rx_L_law Ln xs n pc L st M c s) ((tI2 (fun a b => a + b)) 816 L st M) := (ra_L rfl n L st M c s).trans (if_pos (Nat.zero_le _))
set_option maxRecDepth 20000 in
theorem rs_L_law_817 (Ln : Nat) (xs : Nat → Int32) (n : Nat) (L : AL) (st : List AV) (M : List AC) (c s : Nat) : rx_L_law Ln xs (n + 1) 817 L st M c s = am_jC (rx_L_law Ln xs n) ((tSx Ln xs) 817 L st M) c s := (ra_A rfl n L st M c s).trans (if_pos (Nat.zero_le _))
set_option maxRecDepth 20000 in
theorem rs_L_law_818 (Ln : Nat) (xs : Nat → Int32) (n : Nat) (L : AL) (st : List AV) (M : List AC) (c s : Nat) : rx_L_law Ln xs (n + 1) 818 L st M c s = am_jB (fun pc L st M => rx_L_law Ln xs n pc L st M c s) ((tAld 0 1) 818 L st M) := (ra_L rfl n L st M c s).trans (if_pos (Nat.zero_le _))
set_option maxRecDepth 20000 in
theorem rs_L_law_819 (Ln : Nat) (xs : Nat → Int32) (n : Nat) (L : AL) (st : List AV) (M : List AC) (c s : Nat) : rx_L_law Ln xs (n + 1) 819 L st M c s = am_jB (fun pc L st M => rx_L_law Ln xs n pc L st M c s) ((tIld 3 1) 819 L st M) := (ra_L rfl n L st M c s).trans (if_pos (Nat.zero_le _))
set_option maxRecDepth 20000 in
theorem rs_L_law_820 (Ln : Nat) (xs : Nat → Int32) (n : Nat) (L : AL) (st : List AV) (M : List AC) (c s : Nat) : rx_L_law Ln xs (n + 1) 820 L st M c s = am_jB (fun pc L st M => rx_L_law Ln xs n pc L st M c s) ((tIc 3 1) 820 L st M) := (ra_L rfl n L st M c s).trans (if_pos (Nat.zero_le _))
set_option maxRecDepth 20000 in
theorem rs_L_law_821 (Ln : Nat) (xs : Nat → Int32) (n : Nat) (L : AL) (st : List AV) (M : List AC) (c s : Nat) : rx_L_law Ln xs (n + 1) 821 L st M c s = am_jB (fun pc L st M => rx_L_law Ln xs n pc L st M c s) ((tI2 (fun a b => a + b)) 821 L st M) := (ra_L rfl n L st M c s).trans (if_pos (Nat.zero_le _))
set_option maxRecDepth 20000 in
theorem rs_L_law_822 (Ln : Nat) (xs : Nat → Int32) (n : Nat) (L : AL) (st : List AV) (M : List AC) (c s : Nat) : rx_L_law Ln xs (n + 1) 822 L st M c s = am_jC (rx_L_law Ln xs n) ((tSx Ln xs) 822 L st M) c s := (ra_A rfl n L st M c s).trans (if_pos (Nat.zero_le _))
set_option maxRecDepth 20000 in
theorem rs_L_law_823 (Ln : Nat) (xs : Nat → Int32) (n : Nat) (L : AL) (st : List AV) (M : List AC) (c s : Nat) : rx_L_law Ln xs (n + 1) 823 L st M c s = am_jB (fun pc L st M => rx_L_law Ln xs n pc L st M c s) ((tCv 5 3 fn_X5_drum) 823 L st M) := (ra_L rfl n L st M c s).trans (if_pos (Nat.zero_le _))
set_option maxRecDepth 20000 in
theorem rs_L_law_826 (Ln : Nat) (xs : Nat → Int32) (n : Nat) (L : AL) (st : List AV) (M : List AC) (c s : Nat) : rx_L_law Ln xs (n + 1) 826 L st M c s = am_jB (fun pc L st M => rx_L_law Ln xs n pc L st M c s) ((tAld 2 1) 826 L st M) := (ra_L rfl n L st M c s).trans (if_pos (Nat.zero_le _))
set_option maxRecDepth 20000 in
theorem rs_L_law_827 (Ln : Nat) (xs : Nat → Int32) (n : Nat) (L : AL) (st : List AV) (M : List AC) (c s : Nat) : rx_L_law Ln xs (n + 1) 827 L st M c s = am_jB (fun pc L st M => rx_L_law Ln xs n pc L st M c s) ((tAld 0 1) 827 L st M) := (ra_L rfl n L st M c s).trans (if_pos (Nat.zero_le _))
set_option maxRecDepth 20000 in
theorem rs_L_law_828 (Ln : Nat) (xs : Nat → Int32) (n : Nat) (L : AL) (st : List AV) (M : List AC) (c s : Nat) : rx_L_law Ln xs (n + 1) 828 L st M c s = am_jB (fun pc L st M => rx_L_law Ln xs n pc L st M c s) ((tIld 3 1) 828 L st M) := (ra_L rfl n L st M c s).trans (if_pos (Nat.zero_le _))
set_option maxRecDepth 20000 in
theorem rs_L_law_829 (Ln : Nat) (xs : Nat → Int32) (n : Nat) (L : AL) (st : List AV) (M : List AC) (c s : Nat) : rx_L_law Ln xs (n + 1) 829 L st M c s = am_jB (fun pc L st M => rx_L_law Ln xs n pc L st M c s) ((tIc 1 1) 829 L st M) := (ra_L rfl n L st M c s).trans (if_pos (Nat.zero_le _))
set_option maxRecDepth 20000 in
theorem rs_L_law_830 (Ln : Nat) (xs : Nat → Int32) (n : Nat) (L : AL) (st : List AV) (M : List AC) (c s : Nat) : rx_L_law Ln xs (n + 1) 830 L st M c s = am_jB (fun pc L st M => rx_L_law Ln xs n pc L st M c s) ((tI2 (fun a b => a + b)) 830 L st M) := (ra_L rfl n L st M c s).trans (if_pos (Nat.zero_le _))
set_option maxRecDepth 20000 in
theorem rs_L_law_831 (Ln : Nat) (xs : Nat → Int32) (n : Nat) (L : AL) (st : List AV) (M : List AC) (c s : Nat) : rx_L_law Ln xs (n + 1) 831 L st M c s = am_jC (rx_L_law Ln xs n) ((tSx Ln xs) 831 L st M) c s := (ra_A rfl n L st M c s).trans (if_pos (Nat.zero_le _))
set_option maxRecDepth 20000 in
theorem rs_L_law_832 (Ln : Nat) (xs : Nat → Int32) (n : Nat) (L : AL) (st : List AV) (M : List AC) (c s : Nat) : rx_L_law Ln xs (n + 1) 832 L st M c s = am_jB (fun pc L st M => rx_L_law Ln xs n pc L st M c s) ((tAld 0 1) 832 L st M) := (ra_L rfl n L st M c s).trans (if_pos (Nat.zero_le _))
set_option maxRecDepth 20000 in
theorem rs_L_law_833 (Ln : Nat) (xs : Nat → Int32) (n : Nat) (L : AL) (st : List AV) (M : List AC) (c s : Nat) : rx_L_law Ln xs (n + 1) 833 L st M c s = am_jB (fun pc L st M => rx_L_law Ln xs n pc L st M c s) ((tIld 3 1) 833 L st M) := (ra_L rfl n L st M c s).trans (if_pos (Nat.zero_le _))
set_option maxRecDepth 20000 in
theorem rs_L_law_834 (Ln : Nat) (xs : Nat → Int32) (n : Nat) (L : AL) (st : List AV) (M : List AC) (c s : Nat) : rx_L_law Ln xs (n + 1) 834 L st M c s = am_jB (fun pc L st M => rx_L_law Ln xs n pc L st M c s) ((tIc 2 1) 834 L st M) := (ra_L rfl n L st M c s).trans (if_pos (Nat.zero_le _))
set_option maxRecDepth 20000 in
theorem rs_L_law_835 (Ln : Nat) (xs : Nat → Int32) (n : Nat) (L : AL) (st : List AV) (M : List AC) (c s : Nat) : rx_L_law Ln xs (n + 1) 835 L st M c s = am_jB (fun pc L st M => rx_L_law Ln xs n pc L st M c s) ((tI2 (fun a b => a + b)) 835 L st M) := (ra_L rfl n L st M c s).trans (if_pos (Nat.zero_le _))
set_option maxRecDepth 20000 in
theorem rs_L_law_836 (Ln : Nat) (xs : Nat → Int32) (n : Nat) (L : AL) (st : List AV) (M : List AC) (c s : Nat) : rx_L_law Ln xs (n + 1) 836 L st M c s = am_jC (rx_L_law Ln xs n) ((tSx Ln xs) 836 L st M) c s := (ra_A rfl n L st M c s).trans (if_pos (Nat.zero_le _))
set_option maxRecDepth 20000 in
theorem rs_L_law_837 (Ln : Nat) (xs : Nat → Int32) (n : Nat) (L : AL) (st : List AV) (M : List AC) (c s : Nat) : rx_L_law Ln xs (n + 1) 837 L st M c s = am_jB (fun pc L st M => rx_L_law Ln xs n pc L st M c s) ((tAld 0 1) 837 L st M) := (ra_L rfl n L st M c s).trans (if_pos (Nat.zero_le _))
set_option maxRecDepth 20000 in
theorem rs_L_law_838 (Ln : Nat) (xs : Nat → Int32) (n : Nat) (L : AL) (st : List AV) (M : List AC) (c s : Nat) : rx_L_law Ln xs (n + 1) 838 L st M c s = am_jB (fun pc L st M => rx_L_law Ln xs n pc L st M c s) ((tIld 3 1) 838 L st M) := (ra_L rfl n L st M c s).trans (if_pos (Nat.zero_le _))
set_option maxRecDepth 20000 in
theorem rs_L_law_839 (Ln : Nat) (xs : Nat → Int32) (n : Nat) (L : AL) (st : List AV) (M : List AC) (c s : Nat) : rx_L_law Ln xs (n + 1) 839 L st M c s = am_jB (fun pc L st M => rx_L_law Ln xs n pc L st M c s) ((tIc 3 1) 839 L st M) := (ra_L rfl n L st M c s).trans (if_pos (Nat.zero_le _))
set_option maxRecDepth 20000 in
theorem rs_L_law_840 (Ln : Nat) (xs : Nat → Int32) (n : Nat) (L : AL) (st : List AV) (M : List AC) (c s : Nat) : rx_L_law Ln xs (n + 1) 840 L st M c s = am_jB (fun pc L st M => rx_L_law Ln xs n pc L st M c s) ((tI2 (fun a b => a + b)) 840 L st M) := (ra_L rfl n L st M c s).trans (if_pos (Nat.zero_le _))
set_option maxRecDepth 20000 in
theorem rs_L_law_841 (Ln : Nat) (xs : Nat → Int32) (n : Nat) (L : AL) (st : List AV) (M : List AC) (c s : Nat) : rx_L_law Ln xs (n + 1) 841 L st M c s = am_jC (rx_L_law Ln xs n) ((tSx Ln xs) 841 L st M) c s := (ra_A rfl n L st M c s).trans (if_pos (Nat.zero_le _))
set_option maxRecDepth 20000 in
theorem rs_L_law_842 (Ln : Nat) (xs : Nat → Int32) (n : Nat) (L : AL) (st : List AV) (M : List AC) (c s : Nat) : rx_L_law Ln xs (n + 1) 842 L st M c s = am_jB (fun pc L st M => rx_L_law Ln xs n pc L st M c s) ((tCv 6 3 fn_X6_drum) 842 L st M) := (ra_L rfl n L st M c s).trans (if_pos (Nat.zero_le _))
set_option maxRecDepth 20000 in
theorem rs_L_law_845 (Ln : Nat) (xs : Nat → Int32) (n : Nat) (L : AL) (st : List AV) (M : List AC) (c s : Nat) : rx_L_law Ln xs (n + 1) 845 L st M c s = am_jB (fun pc L st M => rx_L_law Ln xs n pc L st M c s) ((tCmeq 1088) 845 L st M) := (ra_L rfl n L st M c s).trans (if_pos (Nat.zero_le _))
set_option maxRecDepth 20000 in
theorem rs_L_law_848 (Ln : Nat) (xs : Nat → Int32) (n : Nat) (L : AL) (st : List AV) (M : List AC) (c s : Nat) : rx_L_law Ln xs (n + 1) 848 L st M c s = am_jB (fun pc L st M => rx_L_law Ln xs n pc L st M c s) ((tIc 0 1) 848 L st M) := (ra_L rfl n L st M c s).trans (if_pos (Nat.zero_le _))
set_option maxRecDepth 20000 in
theorem rs_L_law_850 (Ln : Nat) (xs : Nat → Int32) (n : Nat) (L : AL) (st : List AV) (M : List AC) (c s : Nat) : rx_L_law Ln xs (n + 1) 850 L st M c s = am_jB (fun pc L st M => rx_L_law Ln xs n pc L st M c s) ((tAld 1 1) 850 L st M) := (ra_L rfl n L st M c s).trans (if_pos (Nat.zero_le _))
set_option maxRecDepth 20000 in
theorem rs_L_law_851 (Ln : Nat) (xs : Nat → Int32) (n : Nat) (L : AL) (st : List AV) (M : List AC) (c s : Nat) : rx_L_law Ln xs (n + 1) 851 L st M c s = am_jB (fun pc L st M => rx_L_law Ln xs n pc L st M c s) ((tAld 0 1) 851 L st M) := (ra_L rfl n L st M c s).trans (if_pos (Nat.zero_le _))
set_option maxRecDepth 20000 in
theorem rs_L_law_852 (Ln : Nat) (xs : Nat → Int32) (n : Nat) (L : AL) (st : List AV) (M : List AC) (c s : Nat) : rx_L_law Ln xs (n + 1) 852 L st M c s = am_jB (fun pc L st M => rx_L_law Ln xs n pc L st M c s) ((tIld 3 1) 852 L st M) := (ra_L rfl n L st M c s).trans (if_pos (Nat.zero_le _))
set_option maxRecDepth 20000 in
theorem rs_L_law_853 (Ln : Nat) (xs : Nat → Int32) (n : Nat) (L : AL) (st : List AV) (M : List AC) (c s : Nat) : rx_L_law Ln xs (n + 1) 853 L st M c s = am_jB (fun pc L st M => rx_L_law Ln xs n pc L st M c s) ((tIc 1 1) 853 L st M) := (ra_L rfl n L st M c s).trans (if_pos (Nat.zero_le _))
set_option maxRecDepth 20000 in
theorem rs_L_law_854 (Ln : Nat) (xs : Nat → Int32) (n : Nat) (L : AL) (st : List AV) (M : List AC) (c s : Nat) : rx_L_law Ln xs (n + 1) 854 L st M c s = am_jB (fun pc L st M => rx_L_law Ln xs n pc L st M c s) ((tI2 (fun a b => a + b)) 854 L st M) := (ra_L rfl n L st M c s).trans (if_pos (Nat.zero_le _))
set_option maxRecDepth 20000 in
theorem rs_L_law_855 (Ln : Nat) (xs : Nat → Int32) (n : Nat) (L : AL) (st : List AV) (M : List AC) (c s : Nat) : rx_L_law Ln xs (n + 1) 855 L st M c s = am_jC (rx_L_law Ln xs n) ((tSx Ln xs) 855 L st M) c s := (ra_A rfl n L st M c s).trans (if_pos (Nat.zero_le _))
set_option maxRecDepth 20000 in
theorem rs_L_law_856 (Ln : Nat) (xs : Nat → Int32) (n : Nat) (L : AL) (st : List AV) (M : List AC) (c s : Nat) : rx_L_law Ln xs (n + 1) 856 L st M c s = am_jB (fun pc L st M => rx_L_law Ln xs n pc L st M c s) ((tAld 0 1) 856 L st M) := (ra_L rfl n L st M c s).trans (if_pos (Nat.zero_le _))
set_option maxRecDepth 20000 in
theorem rs_L_law_857 (Ln : Nat) (xs : Nat → Int32) (n : Nat) (L : AL) (st : List AV) (M : List AC) (c s : Nat) : rx_L_law Ln xs (n + 1) 857 L st M c s = am_jB (fun pc L st M => rx_L_law Ln xs n pc L st M c s) ((tIld 3 1) 857 L st M) := (ra_L rfl n L st M c s).trans (if_pos (Nat.zero_le _))
set_option maxRecDepth 20000 in
theorem rs_L_law_858 (Ln : Nat) (xs : Nat → Int32) (n : Nat) (L : AL) (st : List AV) (M : List AC) (c s : Nat) : rx_L_law Ln xs (n + 1) 858 L st M c s = am_jB (fun pc L st M => rx_L_law Ln xs n pc L st M c s) ((tIc 2 1) 858 L st M) := (ra_L rfl n L st M c s).trans (if_pos (Nat.zero_le _))
set_option maxRecDepth 20000 in
theorem rs_L_law_859 (Ln : Nat) (xs : Nat → Int32) (n : Nat) (L : AL) (st : List AV) (M : List AC) (c s : Nat) : rx_L_law Ln xs (n + 1) 859 L st M c s = am_jB (fun pc L st M => rx_L_law Ln xs n pc L st M c s) ((tI2 (fun a b => a + b)) 859 L st M) := (ra_L rfl n L st M c s).trans (if_pos (Nat.zero_le _))
set_option maxRecDepth 20000 in
theorem rs_L_law_860 (Ln : Nat) (xs : Nat → Int32) (n : Nat) (L : AL) (st : List AV) (M : List AC) (c s : Nat) : rx_L_law Ln xs (n + 1) 860 L st M c s = am_jC (rx_L_law Ln xs n) ((tSx Ln xs) 860 L st M) c s := (ra_A rfl n L st M c s).trans (if_pos (Nat.zero_le _))
set_option maxRecDepth 20000 in
theorem rs_L_law_861 (Ln : Nat) (xs : Nat → Int32) (n : Nat) (L : AL) (st : List AV) (M : List AC) (c s : Nat) : rx_L_law Ln xs (n + 1) 861 L st M c s = am_jB (fun pc L st M => rx_L_law Ln xs n pc L st M c s) ((tCv 5 2 fn_X5_cross) 861 L st M) := (ra_L rfl n L st M c s).trans (if_pos (Nat.zero_le _))
set_option maxRecDepth 20000 in
theorem rs_L_law_864 (Ln : Nat) (xs : Nat → Int32) (n : Nat) (L : AL) (st : List AV) (M : List AC) (c s : Nat) : rx_L_law Ln xs (n + 1) 864 L st M c s = am_jB (fun pc L st M => rx_L_law Ln xs n pc L st M c s) ((tAld 2 1) 864 L st M) := (ra_L rfl n L st M c s).trans (if_pos (Nat.zero_le _))
set_option maxRecDepth 20000 in
theorem rs_L_law_865 (Ln : Nat) (xs : Nat → Int32) (n : Nat) (L : AL) (st : List AV) (M : List AC) (c s : Nat) : rx_L_law Ln xs (n + 1) 865 L st M c s = am_jB (fun pc L st M => rx_L_law Ln xs n pc L st M c s) ((tAld 0 1) 865 L st M) := (ra_L rfl n L st M c s).trans (if_pos (Nat.zero_le _))
set_option maxRecDepth 20000 in
theorem rs_L_law_866 (Ln : Nat) (xs : Nat → Int32) (n : Nat) (L : AL) (st : List AV) (M : List AC) (c s : Nat) : rx_L_law Ln xs (n + 1) 866 L st M c s = am_jB (fun pc L st M => rx_L_law Ln xs n pc L st M c s) ((tIld 3 1) 866 L st M) := (ra_L rfl n L st M c s).trans (if_pos (Nat.zero_le _))
set_option maxRecDepth 20000 in
theorem rs_L_law_867 (Ln : Nat) (xs : Nat → Int32) (n : Nat) (L : AL) (st : List AV) (M : List AC) (c s : Nat) : rx_L_law Ln xs (n + 1) 867 L st M c s = am_jB (fun pc L st M => rx_L_law Ln xs n pc L st M c s) ((tIc 1 1) 867 L st M) := (ra_L rfl n L st M c s).trans (if_pos (Nat.zero_le _))
set_option maxRecDepth 20000 in
theorem rs_L_law_868 (Ln : Nat) (xs : Nat → Int32) (n : Nat) (L : AL) (st : List AV) (M : List AC) (c s : Nat) : rx_L_law Ln xs (n + 1) 868 L st M c s = am_jB (fun pc L st M => rx_L_law Ln xs n pc L st M c s) ((tI2 (fun a b => a + b)) 868 L st M) := (ra_L rfl n L st M c s).trans (if_pos (Nat.zero_le _))
set_option maxRecDepth 20000 in
theorem rs_L_law_869 (Ln : Nat) (xs : Nat → Int32) (n : Nat) (L : AL) (st : List AV) (M : List AC) (c s : Nat) : rx_L_law Ln xs (n + 1) 869 L st M c s = am_jC (rx_L_law Ln xs n) ((tSx Ln xs) 869 L st M) c s := (ra_A rfl n L st M c s).trans (if_pos (Nat.zero_le _))
set_option maxRecDepth 20000 in
theorem rs_L_law_870 (Ln : Nat) (xs : Nat → Int32) (n : Nat) (L : AL) (st : List AV) (M : List AC) (c s : Nat) : rx_L_law Ln xs (n + 1) 870 L st M c s = am_jB (fun pc L st M => rx_L_law Ln xs n pc L st M c s) ((tAld 0 1) 870 L st M) := (ra_L rfl n L st M c s).trans (if_pos (Nat.zero_le _))
set_option maxRecDepth 20000 in
theorem rs_L_law_871 (Ln : Nat) (xs : Nat → Int32) (n : Nat) (L : AL) (st : List AV) (M : List AC) (c s : Nat) : rx_L_law Ln xs (n + 1) 871 L st M c s = am_jB (fun pc L st M => rx_L_law Ln xs n pc L st M c s) ((tIld 3 1) 871 L st M) := (ra_L rfl n L st M c s).trans (if_pos (Nat.zero_le _))
set_option maxRecDepth 20000 in
theorem rs_L_law_872 (Ln : Nat) (xs : Nat → Int32) (n : Nat) (L : AL) (st : List AV) (M : List AC) (c s : Nat) : rx_L_law Ln xs (n + 1) 872 L st M c s = am_jB (fun pc L st M => rx_L_law Ln xs n pc L st M c s) ((tIc 2 1) 872 L st M) := (ra_L rfl n L st M c s).trans (if_pos (Nat.zero_le _))
set_option maxRecDepth 20000 in
theorem rs_L_law_873 (Ln : Nat) (xs : Nat → Int32) (n : Nat) (L : AL) (st : List AV) (M : List AC) (c s : Nat) : rx_L_law Ln xs (n + 1) 873 L st M c s = am_jB (fun pc L st M => rx_L_law Ln xs n pc L st M c s) ((tI2 (fun a b => a + b)) 873 L st M) := (ra_L rfl n L st M c s).trans (if_pos (Nat.zero_le _))
set_option maxRecDepth 20000 in
theorem rs_L_law_874 (Ln : Nat) (xs : Nat → Int32) (n : Nat) (L : AL) (st : List AV) (M : List AC) (c s : Nat) : rx_L_law Ln xs (n + 1) 874 L st M c s = am_jC (rx_L_law Ln xs n) ((tSx Ln xs) 874 L st M) c s := (ra_A rfl n L st M c s).trans (if_pos (Nat.zero_le _))
set_option maxRecDepth 20000 in
theorem rs_L_law_875 (Ln : Nat) (xs : Nat → Int32) (n : Nat) (L : AL) (st : List AV) (M : List AC) (c s : Nat) : rx_L_law Ln xs (n + 1) 875 L st M c s = am_jB (fun pc L st M => rx_L_law Ln xs n pc L st M c s) ((tCv 6 2 fn_X6_cross) 875 L st M) := (ra_L rfl n L st M c s).trans (if_pos (Nat.zero_le _))
set_option maxRecDepth 20000 in
theorem rs_L_law_878 (Ln : Nat) (xs : Nat → Int32) (n : Nat) (L : AL) (st : List AV) (M : List AC) (c s : Nat) : rx_L_law Ln xs (n + 1) 878 L st M c s = am_jB (fun pc L st M => rx_L_law Ln xs n pc L st M c s) ((tCmeq 1088) 878 L st M) := (ra_L rfl n L st M c s).trans (if_pos (Nat.zero_le _))
set_option maxRecDepth 20000 in
theorem rs_L_law_881 (Ln : Nat) (xs : Nat → Int32) (n : Nat) (L : AL) (st : List AV) (M : List AC) (c s : Nat) : rx_L_law Ln xs (n + 1) 881 L st M c s = am_jB (fun pc L st M => rx_L_law Ln xs n pc L st M c s) ((tIc 0 1) 881 L st M) := (ra_L rfl n L st M c s).trans (if_pos (Nat.zero_le _))
set_option maxRecDepth 20000 in
theorem rs_L_law_883 (Ln : Nat) (xs : Nat → Int32) (n : Nat) (L : AL) (st : List AV) (M : List AC) (c s : Nat) : rx_L_law Ln xs (n + 1) 883 L st M c s = am_jB (fun pc L st M => rx_L_law Ln xs n pc L st M c s) ((tAld 1 1) 883 L st M) := (ra_L rfl n L st M c s).trans (if_pos (Nat.zero_le _))
set_option maxRecDepth 20000 in
theorem rs_L_law_884 (Ln : Nat) (xs : Nat → Int32) (n : Nat) (L : AL) (st : List AV) (M : List AC) (c s : Nat) : rx_L_law Ln xs (n + 1) 884 L st M c s = am_jB (fun pc L st M => rx_L_law Ln xs n pc L st M c s) ((tAld 0 1) 884 L st M) := (ra_L rfl n L st M c s).trans (if_pos (Nat.zero_le _))
set_option maxRecDepth 20000 in
theorem rs_L_law_885 (Ln : Nat) (xs : Nat → Int32) (n : Nat) (L : AL) (st : List AV) (M : List AC) (c s : Nat) : rx_L_law Ln xs (n + 1) 885 L st M c s = am_jB (fun pc L st M => rx_L_law Ln xs n pc L st M c s) ((tIld 3 1) 885 L st M) := (ra_L rfl n L st M c s).trans (if_pos (Nat.zero_le _))
set_option maxRecDepth 20000 in
theorem rs_L_law_886 (Ln : Nat) (xs : Nat → Int32) (n : Nat) (L : AL) (st : List AV) (M : List AC) (c s : Nat) : rx_L_law Ln xs (n + 1) 886 L st M c s = am_jB (fun pc L st M => rx_L_law Ln xs n pc L st M c s) ((tIc 1 1) 886 L st M) := (ra_L rfl n L st M c s).trans (if_pos (Nat.zero_le _))
set_option maxRecDepth 20000 in
theorem rs_L_law_887 (Ln : Nat) (xs : Nat → Int32) (n : Nat) (L : AL) (st : List AV) (M : List AC) (c s : Nat) : rx_L_law Ln xs (n + 1) 887 L st M c s = am_jB (fun pc L st M => rx_L_law Ln xs n pc L st M c s) ((tI2 (fun a b => a + b)) 887 L st M) := (ra_L rfl n L st M c s).trans (if_pos (Nat.zero_le _))
set_option maxRecDepth 20000 in
theorem rs_L_law_888 (Ln : Nat) (xs : Nat → Int32) (n : Nat) (L : AL) (st : List AV) (M : List AC) (c s : Nat) : rx_L_law Ln xs (n + 1) 888 L st M c s = am_jC (rx_L_law Ln xs n) ((tSx Ln xs) 888 L st M) c s := (ra_A rfl n L st M c s).trans (if_pos (Nat.zero_le _))
set_option maxRecDepth 20000 in
theorem rs_L_law_889 (Ln : Nat) (xs : Nat → Int32) (n : Nat) (L : AL) (st : List AV) (M : List AC) (c s : Nat) : rx_L_law Ln xs (n + 1) 889 L st M c s = am_jB (fun pc L st M => rx_L_law Ln xs n pc L st M c s) ((tAld 0 1) 889 L st M) := (ra_L rfl n L st M c s).trans (if_pos (Nat.zero_le _))
set_option maxRecDepth 20000 in
theorem rs_L_law_890 (Ln : Nat) (xs : Nat → Int32) (n : Nat) (L : AL) (st : List AV) (M : List AC) (c s : Nat) : rx_L_law Ln xs (n + 1) 890 L st M c s = am_jB (fun pc L st M => rx_L_law Ln xs n pc L st M c s) ((tIld 3 1) 890 L st M) := (ra_L rfl n L st M c s).trans (if_pos (Nat.zero_le _))
set_option maxRecDepth 20000 in
theorem rs_L_law_891 (Ln : Nat) (xs : Nat → Int32) (n : Nat) (L : AL) (st : List AV) (M : List AC) (c s : Nat) : rx_L_law Ln xs (n + 1) 891 L st M c s = am_jB (fun pc L st M => rx_L_law Ln xs n pc L st M c s) ((tIc 2 1) 891 L st M) := (ra_L rfl n L st M c s).trans (if_pos (Nat.zero_le _))
set_option maxRecDepth 20000 in
theorem rs_L_law_892 (Ln : Nat) (xs : Nat → Int32) (n : Nat) (L : AL) (st : List AV) (M : List AC) (c s : Nat) : rx_L_law Ln xs (n + 1) 892 L st M c s = am_jB (fun pc L st M => rx_L_law Ln xs n pc L st M c s) ((tI2 (fun a b => a + b)) 892 L st M) := (ra_L rfl n L st M c s).trans (if_pos (Nat.zero_le _))
set_option maxRecDepth 20000 in
theorem rs_L_law_893 (Ln : Nat) (xs : Nat → Int32) (n : Nat) (L : AL) (st : List AV) (M : List AC) (c s : Nat) : rx_L_law Ln xs (n + 1) 893 L st M c s = am_jC (rx_L_law Ln xs n) ((tSx Ln xs) 893 L st M) c s := (ra_A rfl n L st M c s).trans (if_pos (Nat.zero_le _))
set_option maxRecDepth 20000 in
theorem rs_L_law_894 (Ln : Nat) (xs : Nat → Int32) (n : Nat) (L : AL) (st : List AV) (M : List AC) (c s : Nat) : rx_L_law Ln xs (n + 1) 894 L st M c s = am_jB (fun pc L st M => rx_L_law Ln xs n pc L st M c s) ((tAld 0 1) 894 L st M) := (ra_L rfl n L st M c s).trans (if_pos (Nat.zero_le _))
set_option maxRecDepth 20000 in
theorem rs_L_law_895 (Ln : Nat) (xs : Nat → Int32) (n : Nat) (L : AL) (st : List AV) (M : List AC) (c s : Nat) : rx_L_law Ln xs (n + 1) 895 L st M c s = am_jB (fun pc L st M => rx_L_law Ln xs n pc L st M c s) ((tIld 3 1) 895 L st M) := (ra_L rfl n L st M c s).trans (if_pos (Nat.zero_le _))
set_option maxRecDepth 20000 in
theorem rs_L_law_896 (Ln : Nat) (xs : Nat → Int32) (n : Nat) (L : AL) (st : List AV) (M : List AC) (c s : Nat) : rx_L_law Ln xs (n + 1) 896 L st M c s = am_jB (fun pc L st M => rx_L_law Ln xs n pc L st M c s) ((tIc 3 1) 896 L st M) := (ra_L rfl n L st M c s).trans (if_pos (Nat.zero_le _))
set_option maxRecDepth 20000 in
theorem rs_L_law_897 (Ln : Nat) (xs : Nat → Int32) (n : Nat) (L : AL) (st : List AV) (M : List AC) (c s : Nat) : rx_L_law Ln xs (n + 1) 897 L st M c s = am_jB (fun pc L st M => rx_L_law Ln xs n pc L st M c s) ((tI2 (fun a b => a + b)) 897 L st M) := (ra_L rfl n L st M c s).trans (if_pos (Nat.zero_le _))
set_option maxRecDepth 20000 in
theorem rs_L_law_898 (Ln : Nat) (xs : Nat → Int32) (n : Nat) (L : AL) (st : List AV) (M : List AC) (c s : Nat) : rx_L_law Ln xs (n + 1) 898 L st M c s = am_jC (rx_L_law Ln xs n) ((tSx Ln xs) 898 L st M) c s := (ra_A rfl n L st M c s).trans (if_pos (Nat.zero_le _))
set_option maxRecDepth 20000 in
theorem rs_L_law_899 (Ln : Nat) (xs : Nat → Int32) (n : Nat) (L : AL) (st : List AV) (M : List AC) (c s : Nat) : rx_L_law Ln xs (n + 1) 899 L st M c s = am_jB (fun pc L st M => rx_L_law Ln xs n pc L st M c s) ((tIfeq 906) 899 L st M) := (ra_L rfl n L st M c s).trans (if_pos (Nat.zero_le _))
set_option maxRecDepth 20000 in
theorem rs_L_law_902 (Ln : Nat) (xs : Nat → Int32) (n : Nat) (L : AL) (st : List AV) (M : List AC) (c s : Nat) : rx_L_law Ln xs (n + 1) 902 L st M c s = am_jB (fun pc L st M => rx_L_law Ln xs n pc L st M c s) ((tIc 1 1) 902 L st M) := (ra_L rfl n L st M c s).trans (if_pos (Nat.zero_le _))
set_option maxRecDepth 20000 in
theorem rs_L_law_903 (Ln : Nat) (xs : Nat → Int32) (n : Nat) (L : AL) (st : List AV) (M : List AC) (c s : Nat) : rx_L_law Ln xs (n + 1) 903 L st M c s = am_jB (fun pc L st M => rx_L_law Ln xs n pc L st M c s) ((tGo 907) 903 L st M) := (ra_L rfl n L st M c s).trans (if_pos (Nat.zero_le _))
set_option maxRecDepth 20000 in
theorem rs_L_law_906 (Ln : Nat) (xs : Nat → Int32) (n : Nat) (L : AL) (st : List AV) (M : List AC) (c s : Nat) : rx_L_law Ln xs (n + 1) 906 L st M c s = am_jB (fun pc L st M => rx_L_law Ln xs n pc L st M c s) ((tIc 0 1) 906 L st M) := (ra_L rfl n L st M c s).trans (if_pos (Nat.zero_le _))
set_option maxRecDepth 20000 in
theorem rs_L_law_907 (Ln : Nat) (xs : Nat → Int32) (n : Nat) (L : AL) (st : List AV) (M : List AC) (c s : Nat) : rx_L_law Ln xs (n + 1) 907 L st M c s = am_jB (fun pc L st M => rx_L_law Ln xs n pc L st M c s) ((tCv 5 3 fn_X5_drawer) 907 L st M) := (ra_L rfl n L st M c s).trans (if_pos (Nat.zero_le _))
set_option maxRecDepth 20000 in
theorem rs_L_law_910 (Ln : Nat) (xs : Nat → Int32) (n : Nat) (L : AL) (st : List AV) (M : List AC) (c s : Nat) : rx_L_law Ln xs (n + 1) 910 L st M c s = am_jB (fun pc L st M => rx_L_law Ln xs n pc L st M c s) ((tAld 2 1) 910 L st M) := (ra_L rfl n L st M c s).trans (if_pos (Nat.zero_le _))
set_option maxRecDepth 20000 in
theorem rs_L_law_911 (Ln : Nat) (xs : Nat → Int32) (n : Nat) (L : AL) (st : List AV) (M : List AC) (c s : Nat) : rx_L_law Ln xs (n + 1) 911 L st M c s = am_jB (fun pc L st M => rx_L_law Ln xs n pc L st M c s) ((tAld 0 1) 911 L st M) := (ra_L rfl n L st M c s).trans (if_pos (Nat.zero_le _))
set_option maxRecDepth 20000 in
theorem rs_L_law_912 (Ln : Nat) (xs : Nat → Int32) (n : Nat) (L : AL) (st : List AV) (M : List AC) (c s : Nat) : rx_L_law Ln xs (n + 1) 912 L st M c s = am_jB (fun pc L st M => rx_L_law Ln xs n pc L st M c s) ((tIld 3 1) 912 L st M) := (ra_L rfl n L st M c s).trans (if_pos (Nat.zero_le _))
set_option maxRecDepth 20000 in
theorem rs_L_law_913 (Ln : Nat) (xs : Nat → Int32) (n : Nat) (L : AL) (st : List AV) (M : List AC) (c s : Nat) : rx_L_law Ln xs (n + 1) 913 L st M c s = am_jB (fun pc L st M => rx_L_law Ln xs n pc L st M c s) ((tIc 1 1) 913 L st M) := (ra_L rfl n L st M c s).trans (if_pos (Nat.zero_le _))
set_option maxRecDepth 20000 in
theorem rs_L_law_914 (Ln : Nat) (xs : Nat → Int32) (n : Nat) (L : AL) (st : List AV) (M : List AC) (c s : Nat) : rx_L_law Ln xs (n + 1) 914 L st M c s = am_jB (fun pc L st M => rx_L_law Ln xs n pc L st M c s) ((tI2 (fun a b => a + b)) 914 L st M) := (ra_L rfl n L st M c s).trans (if_pos (Nat.zero_le _))
set_option maxRecDepth 20000 in
theorem rs_L_law_915 (Ln : Nat) (xs : Nat → Int32) (n : Nat) (L : AL) (st : List AV) (M : List AC) (c s : Nat) : rx_L_law Ln xs (n + 1) 915 L st M c s = am_jC (rx_L_law Ln xs n) ((tSx Ln xs) 915 L st M) c s := (ra_A rfl n L st M c s).trans (if_pos (Nat.zero_le _))
set_option maxRecDepth 20000 in
theorem rs_L_law_916 (Ln : Nat) (xs : Nat → Int32) (n : Nat) (L : AL) (st : List AV) (M : List AC) (c s : Nat) : rx_L_law Ln xs (n + 1) 916 L st M c s = am_jB (fun pc L st M => rx_L_law Ln xs n pc L st M c s) ((tAld 0 1) 916 L st M) := (ra_L rfl n L st M c s).trans (if_pos (Nat.zero_le _))
set_option maxRecDepth 20000 in
theorem rs_L_law_917 (Ln : Nat) (xs : Nat → Int32) (n : Nat) (L : AL) (st : List AV) (M : List AC) (c s : Nat) : rx_L_law Ln xs (n + 1) 917 L st M c s = am_jB (fun pc L st M => rx_L_law Ln xs n pc L st M c s) ((tIld 3 1) 917 L st M) := (ra_L rfl n L st M c s).trans (if_pos (Nat.zero_le _))
set_option maxRecDepth 20000 in
theorem rs_L_law_918 (Ln : Nat) (xs : Nat → Int32) (n : Nat) (L : AL) (st : List AV) (M : List AC) (c s : Nat) : rx_L_law Ln xs (n + 1) 918 L st M c s = am_jB (fun pc L st M => rx_L_law Ln xs n pc L st M c s) ((tIc 2 1) 918 L st M) := (ra_L rfl n L st M c s).trans (if_pos (Nat.zero_le _))
set_option maxRecDepth 20000 in
theorem rs_L_law_919 (Ln : Nat) (xs : Nat → Int32) (n : Nat) (L : AL) (st : List AV) (M : List AC) (c s : Nat) : rx_L_law Ln xs (n + 1) 919 L st M c s = am_jB (fun pc L st M => rx_L_law Ln xs n pc L st M c s) ((tI2 (fun a b => a + b)) 919 L st M) := (ra_L rfl n L st M c s).trans (if_pos (Nat.zero_le _))
set_option maxRecDepth 20000 in
theorem rs_L_law_920 (Ln : Nat) (xs : Nat → Int32) (n : Nat) (L : AL) (st : List AV) (M : List AC) (c s : Nat) : rx_L_law Ln xs (n + 1) 920 L st M c s = am_jC (rx_L_law Ln xs n) ((tSx Ln xs) 920 L st M) c s := (ra_A rfl n L st M c s).trans (if_pos (Nat.zero_le _))
set_option maxRecDepth 20000 in
theorem rs_L_law_921 (Ln : Nat) (xs : Nat → Int32) (n : Nat) (L : AL) (st : List AV) (M : List AC) (c s : Nat) : rx_L_law Ln xs (n + 1) 921 L st M c s = am_jB (fun pc L st M => rx_L_law Ln xs n pc L st M c s) ((tAld 0 1) 921 L st M) := (ra_L rfl n L st M c s).trans (if_pos (Nat.zero_le _))
set_option maxRecDepth 20000 in
theorem rs_L_law_922 (Ln : Nat) (xs : Nat → Int32) (n : Nat) (L : AL) (st : List AV) (M : List AC) (c s : Nat) : rx_L_law Ln xs (n + 1) 922 L st M c s = am_jB (fun pc L st M => rx_L_law Ln xs n pc L st M c s) ((tIld 3 1) 922 L st M) := (ra_L rfl n L st M c s).trans (if_pos (Nat.zero_le _))
set_option maxRecDepth 20000 in
theorem rs_L_law_923 (Ln : Nat) (xs : Nat → Int32) (n : Nat) (L : AL) (st : List AV) (M : List AC) (c s : Nat) : rx_L_law Ln xs (n + 1) 923 L st M c s = am_jB (fun pc L st M => rx_L_law Ln xs n pc L st M c s) ((tIc 3 1) 923 L st M) := (ra_L rfl n L st M c s).trans (if_pos (Nat.zero_le _))
set_option maxRecDepth 20000 in
theorem rs_L_law_924 (Ln : Nat) (xs : Nat → Int32) (n : Nat) (L : AL) (st : List AV) (M : List AC) (c s : Nat) : rx_L_law Ln xs (n + 1) 924 L st M c s = am_jB (fun pc L st M => rx_L_law Ln xs n pc L st M c s) ((tI2 (fun a b => a + b)) 924 L st M) := (ra_L rfl n L st M c s).trans (if_pos (Nat.zero_le _))
set_option maxRecDepth 20000 in
theorem rs_L_law_925 (Ln : Nat) (xs : Nat → Int32) (n : Nat) (L : AL) (st : List AV) (M : List AC) (c s : Nat) : rx_L_law Ln xs (n + 1) 925 L st M c s = am_jC (rx_L_law Ln xs n) ((tSx Ln xs) 925 L st M) c s := (ra_A rfl n L st M c s).trans (if_pos (Nat.zero_le _))
set_option maxRecDepth 20000 in
theorem rs_L_law_926 (Ln : Nat) (xs : Nat → Int32) (n : Nat) (L : AL) (st : List AV) (M : List AC) (c s : Nat) : rx_L_law Ln xs (n + 1) 926 L st M c s = am_jB (fun pc L st M => rx_L_law Ln xs n pc L st M c s) ((tIfeq 933) 926 L st M) := (ra_L rfl n L st M c s).trans (if_pos (Nat.zero_le _))
set_option maxRecDepth 20000 in
theorem rs_L_law_929 (Ln : Nat) (xs : Nat → Int32) (n : Nat) (L : AL) (st : List AV) (M : List AC) (c s : Nat) : rx_L_law Ln xs (n + 1) 929 L st M c s = am_jB (fun pc L st M => rx_L_law Ln xs n pc L st M c s) ((tIc 1 1) 929 L st M) := (ra_L rfl n L st M c s).trans (if_pos (Nat.zero_le _))
set_option maxRecDepth 20000 in
theorem rs_L_law_930 (Ln : Nat) (xs : Nat → Int32) (n : Nat) (L : AL) (st : List AV) (M : List AC) (c s : Nat) : rx_L_law Ln xs (n + 1) 930 L st M c s = am_jB (fun pc L st M => rx_L_law Ln xs n pc L st M c s) ((tGo 934) 930 L st M) := (ra_L rfl n L st M c s).trans (if_pos (Nat.zero_le _))
set_option maxRecDepth 20000 in
theorem rs_L_law_933 (Ln : Nat) (xs : Nat → Int32) (n : Nat) (L : AL) (st : List AV) (M : List AC) (c s : Nat) : rx_L_law Ln xs (n + 1) 933 L st M c s = am_jB (fun pc L st M => rx_L_law Ln xs n pc L st M c s) ((tIc 0 1) 933 L st M) := (ra_L rfl n L st M c s).trans (if_pos (Nat.zero_le _))
set_option maxRecDepth 20000 in
theorem rs_L_law_934 (Ln : Nat) (xs : Nat → Int32) (n : Nat) (L : AL) (st : List AV) (M : List AC) (c s : Nat) : rx_L_law Ln xs (n + 1) 934 L st M c s = am_jB (fun pc L st M => rx_L_law Ln xs n pc L st M c s) ((tCv 6 3 fn_X6_drawer) 934 L st M) := (ra_L rfl n L st M c s).trans (if_pos (Nat.zero_le _))
set_option maxRecDepth 20000 in
theorem rs_L_law_937 (Ln : Nat) (xs : Nat → Int32) (n : Nat) (L : AL) (st : List AV) (M : List AC) (c s : Nat) : rx_L_law Ln xs (n + 1) 937 L st M c s = am_jB (fun pc L st M => rx_L_law Ln xs n pc L st M c s) ((tCmeq 1088) 937 L st M) := (ra_L rfl n L st M c s).trans (if_pos (Nat.zero_le _))
set_option maxRecDepth 20000 in
theorem rs_L_law_940 (Ln : Nat) (xs : Nat → Int32) (n : Nat) (L : AL) (st : List AV) (M : List AC) (c s : Nat) : rx_L_law Ln xs (n + 1) 940 L st M c s = am_jB (fun pc L st M => rx_L_law Ln xs n pc L st M c s) ((tIc 0 1) 940 L st M) := (ra_L rfl n L st M c s).trans (if_pos (Nat.zero_le _))
set_option maxRecDepth 20000 in
theorem rs_L_law_942 (Ln : Nat) (xs : Nat → Int32) (n : Nat) (L : AL) (st : List AV) (M : List AC) (c s : Nat) : rx_L_law Ln xs (n + 1) 942 L st M c s = am_jB (fun pc L st M => rx_L_law Ln xs n pc L st M c s) ((tAld 1 1) 942 L st M) := (ra_L rfl n L st M c s).trans (if_pos (Nat.zero_le _))
set_option maxRecDepth 20000 in
theorem rs_L_law_943 (Ln : Nat) (xs : Nat → Int32) (n : Nat) (L : AL) (st : List AV) (M : List AC) (c s : Nat) : rx_L_law Ln xs (n + 1) 943 L st M c s = am_jB (fun pc L st M => rx_L_law Ln xs n pc L st M c s) ((tAld 0 1) 943 L st M) := (ra_L rfl n L st M c s).trans (if_pos (Nat.zero_le _))
set_option maxRecDepth 20000 in
theorem rs_L_law_944 (Ln : Nat) (xs : Nat → Int32) (n : Nat) (L : AL) (st : List AV) (M : List AC) (c s : Nat) : rx_L_law Ln xs (n + 1) 944 L st M c s = am_jB (fun pc L st M => rx_L_law Ln xs n pc L st M c s) ((tIld 3 1) 944 L st M) := (ra_L rfl n L st M c s).trans (if_pos (Nat.zero_le _))
set_option maxRecDepth 20000 in
theorem rs_L_law_945 (Ln : Nat) (xs : Nat → Int32) (n : Nat) (L : AL) (st : List AV) (M : List AC) (c s : Nat) : rx_L_law Ln xs (n + 1) 945 L st M c s = am_jB (fun pc L st M => rx_L_law Ln xs n pc L st M c s) ((tIc 1 1) 945 L st M) := (ra_L rfl n L st M c s).trans (if_pos (Nat.zero_le _))
set_option maxRecDepth 20000 in
theorem rs_L_law_946 (Ln : Nat) (xs : Nat → Int32) (n : Nat) (L : AL) (st : List AV) (M : List AC) (c s : Nat) : rx_L_law Ln xs (n + 1) 946 L st M c s = am_jB (fun pc L st M => rx_L_law Ln xs n pc L st M c s) ((tI2 (fun a b => a + b)) 946 L st M) := (ra_L rfl n L st M c s).trans (if_pos (Nat.zero_le _))
set_option maxRecDepth 20000 in
theorem rs_L_law_947 (Ln : Nat) (xs : Nat → Int32) (n : Nat) (L : AL) (st : List AV) (M : List AC) (c s : Nat) : rx_L_law Ln xs (n + 1) 947 L st M c s = am_jC (rx_L_law Ln xs n) ((tSx Ln xs) 947 L st M) c s := (ra_A rfl n L st M c s).trans (if_pos (Nat.zero_le _))
set_option maxRecDepth 20000 in
theorem rs_L_law_948 (Ln : Nat) (xs : Nat → Int32) (n : Nat) (L : AL) (st : List AV) (M : List AC) (c s : Nat) : rx_L_law Ln xs (n + 1) 948 L st M c s = am_jB (fun pc L st M => rx_L_law Ln xs n pc L st M c s) (tI2l 948 L st M) := (ra_L rfl n L st M c s).trans (if_pos (Nat.zero_le _))
set_option maxRecDepth 20000 in
theorem rs_L_law_949 (Ln : Nat) (xs : Nat → Int32) (n : Nat) (L : AL) (st : List AV) (M : List AC) (c s : Nat) : rx_L_law Ln xs (n + 1) 949 L st M c s = am_jB (fun pc L st M => rx_L_law Ln xs n pc L st M c s) ((tIc 32 2) 949 L st M) := (ra_L rfl n L st M c s).trans (if_pos (Nat.zero_le _))
set_option maxRecDepth 20000 in
theorem rs_L_law_951 (Ln : Nat) (xs : Nat → Int32) (n : Nat) (L : AL) (st : List AV) (M : List AC) (c s : Nat) : rx_L_law Ln xs (n + 1) 951 L st M c s = am_jB (fun pc L st M => rx_L_law Ln xs n pc L st M c s) ((tLs oLshl) 951 L st M) := (ra_L rfl n L st M c s).trans (if_pos (Nat.zero_le _))
set_option maxRecDepth 20000 in
theorem rs_L_law_952 (Ln : Nat) (xs : Nat → Int32) (n : Nat) (L : AL) (st : List AV) (M : List AC) (c s : Nat) : rx_L_law Ln xs (n + 1) 952 L st M c s = am_jB (fun pc L st M => rx_L_law Ln xs n pc L st M c s) ((tAld 0 1) 952 L st M) := (ra_L rfl n L st M c s).trans (if_pos (Nat.zero_le _))
set_option maxRecDepth 20000 in
theorem rs_L_law_953 (Ln : Nat) (xs : Nat → Int32) (n : Nat) (L : AL) (st : List AV) (M : List AC) (c s : Nat) : rx_L_law Ln xs (n + 1) 953 L st M c s = am_jB (fun pc L st M => rx_L_law Ln xs n pc L st M c s) ((tIld 3 1) 953 L st M) := (ra_L rfl n L st M c s).trans (if_pos (Nat.zero_le _))
set_option maxRecDepth 20000 in
theorem rs_L_law_954 (Ln : Nat) (xs : Nat → Int32) (n : Nat) (L : AL) (st : List AV) (M : List AC) (c s : Nat) : rx_L_law Ln xs (n + 1) 954 L st M c s = am_jB (fun pc L st M => rx_L_law Ln xs n pc L st M c s) ((tIc 2 1) 954 L st M) := (ra_L rfl n L st M c s).trans (if_pos (Nat.zero_le _))
set_option maxRecDepth 20000 in
theorem rs_L_law_955 (Ln : Nat) (xs : Nat → Int32) (n : Nat) (L : AL) (st : List AV) (M : List AC) (c s : Nat) : rx_L_law Ln xs (n + 1) 955 L st M c s = am_jB (fun pc L st M => rx_L_law Ln xs n pc L st M c s) ((tI2 (fun a b => a + b)) 955 L st M) := (ra_L rfl n L st M c s).trans (if_pos (Nat.zero_le _))
set_option maxRecDepth 20000 in
theorem rs_L_law_956 (Ln : Nat) (xs : Nat → Int32) (n : Nat) (L : AL) (st : List AV) (M : List AC) (c s : Nat) : rx_L_law Ln xs (n + 1) 956 L st M c s = am_jC (rx_L_law Ln xs n) ((tSx Ln xs) 956 L st M) c s := (ra_A rfl n L st M c s).trans (if_pos (Nat.zero_le _))
set_option maxRecDepth 20000 in
theorem rs_L_law_957 (Ln : Nat) (xs : Nat → Int32) (n : Nat) (L : AL) (st : List AV) (M : List AC) (c s : Nat) : rx_L_law Ln xs (n + 1) 957 L st M c s = am_jB (fun pc L st M => rx_L_law Ln xs n pc L st M c s) (tI2l 957 L st M) := (ra_L rfl n L st M c s).trans (if_pos (Nat.zero_le _))
set_option maxRecDepth 20000 in
theorem rs_L_law_958 (Ln : Nat) (xs : Nat → Int32) (n : Nat) (L : AL) (st : List AV) (M : List AC) (c s : Nat) : rx_L_law Ln xs (n + 1) 958 L st M c s = am_jB (fun pc L st M => rx_L_law Ln xs n pc L st M c s) ((tLc 4294967295 3) 958 L st M) := (ra_L rfl n L st M c s).trans (if_pos (Nat.zero_le _))
set_option maxRecDepth 20000 in
theorem rs_L_law_961 (Ln : Nat) (xs : Nat → Int32) (n : Nat) (L : AL) (st : List AV) (M : List AC) (c s : Nat) : rx_L_law Ln xs (n + 1) 961 L st M c s = am_jB (fun pc L st M => rx_L_law Ln xs n pc L st M c s) ((tL2 (fun a b => a &&& b)) 961 L st M) := (ra_L rfl n L st M c s).trans (if_pos (Nat.zero_le _))
set_option maxRecDepth 20000 in
theorem rs_L_law_962 (Ln : Nat) (xs : Nat → Int32) (n : Nat) (L : AL) (st : List AV) (M : List AC) (c s : Nat) : rx_L_law Ln xs (n + 1) 962 L st M c s = am_jB (fun pc L st M => rx_L_law Ln xs n pc L st M c s) ((tL2 (fun a b => a ||| b)) 962 L st M) := (ra_L rfl n L st M c s).trans (if_pos (Nat.zero_le _))
set_option maxRecDepth 20000 in
theorem rs_L_law_963 (Ln : Nat) (xs : Nat → Int32) (n : Nat) (L : AL) (st : List AV) (M : List AC) (c s : Nat) : rx_L_law Ln xs (n + 1) 963 L st M c s = am_jB (fun pc L st M => rx_L_law Ln xs n pc L st M c s) ((tCv 5 1 fn_X5_seed) 963 L st M) := (ra_L rfl n L st M c s).trans (if_pos (Nat.zero_le _))
set_option maxRecDepth 20000 in
theorem rs_L_law_966 (Ln : Nat) (xs : Nat → Int32) (n : Nat) (L : AL) (st : List AV) (M : List AC) (c s : Nat) : rx_L_law Ln xs (n + 1) 966 L st M c s = am_jB (fun pc L st M => rx_L_law Ln xs n pc L st M c s) ((tAld 2 1) 966 L st M) := (ra_L rfl n L st M c s).trans (if_pos (Nat.zero_le _))
set_option maxRecDepth 20000 in
theorem rs_L_law_967 (Ln : Nat) (xs : Nat → Int32) (n : Nat) (L : AL) (st : List AV) (M : List AC) (c s : Nat) : rx_L_law Ln xs (n + 1) 967 L st M c s = am_jB (fun pc L st M => rx_L_law Ln xs n pc L st M c s) ((tAld 0 1) 967 L st M) := (ra_L rfl n L st M c s).trans (if_pos (Nat.zero_le _))
set_option maxRecDepth 20000 in
theorem rs_L_law_968 (Ln : Nat) (xs : Nat → Int32) (n : Nat) (L : AL) (st : List AV) (M : List AC) (c s : Nat) : rx_L_law Ln xs (n + 1) 968 L st M c s = am_jB (fun pc L st M => rx_L_law Ln xs n pc L st M c s) ((tIld 3 1) 968 L st M) := (ra_L rfl n L st M c s).trans (if_pos (Nat.zero_le _))
set_option maxRecDepth 20000 in
theorem rs_L_law_969 (Ln : Nat) (xs : Nat → Int32) (n : Nat) (L : AL) (st : List AV) (M : List AC) (c s : Nat) : rx_L_law Ln xs (n + 1) 969 L st M c s = am_jB (fun pc L st M => rx_L_law Ln xs n pc L st M c s) ((tIc 1 1) 969 L st M) := (ra_L rfl n L st M c s).trans (if_pos (Nat.zero_le _))
set_option maxRecDepth 20000 in
theorem rs_L_law_970 (Ln : Nat) (xs : Nat → Int32) (n : Nat) (L : AL) (st : List AV) (M : List AC) (c s : Nat) : rx_L_law Ln xs (n + 1) 970 L st M c s = am_jB (fun pc L st M => rx_L_law Ln xs n pc L st M c s) ((tI2 (fun a b => a + b)) 970 L st M) := (ra_L rfl n L st M c s).trans (if_pos (Nat.zero_le _))
set_option maxRecDepth 20000 in
theorem rs_L_law_971 (Ln : Nat) (xs : Nat → Int32) (n : Nat) (L : AL) (st : List AV) (M : List AC) (c s : Nat) : rx_L_law Ln xs (n + 1) 971 L st M c s = am_jC (rx_L_law Ln xs n) ((tSx Ln xs) 971 L st M) c s := (ra_A rfl n L st M c s).trans (if_pos (Nat.zero_le _))
set_option maxRecDepth 20000 in
theorem rs_L_law_972 (Ln : Nat) (xs : Nat → Int32) (n : Nat) (L : AL) (st : List AV) (M : List AC) (c s : Nat) : rx_L_law Ln xs (n + 1) 972 L st M c s = am_jB (fun pc L st M => rx_L_law Ln xs n pc L st M c s) (tI2l 972 L st M) := (ra_L rfl n L st M c s).trans (if_pos (Nat.zero_le _))
set_option maxRecDepth 20000 in
theorem rs_L_law_973 (Ln : Nat) (xs : Nat → Int32) (n : Nat) (L : AL) (st : List AV) (M : List AC) (c s : Nat) : rx_L_law Ln xs (n + 1) 973 L st M c s = am_jB (fun pc L st M => rx_L_law Ln xs n pc L st M c s) ((tIc 32 2) 973 L st M) := (ra_L rfl n L st M c s).trans (if_pos (Nat.zero_le _))
set_option maxRecDepth 20000 in
theorem rs_L_law_975 (Ln : Nat) (xs : Nat → Int32) (n : Nat) (L : AL) (st : List AV) (M : List AC) (c s : Nat) : rx_L_law Ln xs (n + 1) 975 L st M c s = am_jB (fun pc L st M => rx_L_law Ln xs n pc L st M c s) ((tLs oLshl) 975 L st M) := (ra_L rfl n L st M c s).trans (if_pos (Nat.zero_le _))
set_option maxRecDepth 20000 in
theorem rs_L_law_976 (Ln : Nat) (xs : Nat → Int32) (n : Nat) (L : AL) (st : List AV) (M : List AC) (c s : Nat) : rx_L_law Ln xs (n + 1) 976 L st M c s = am_jB (fun pc L st M => rx_L_law Ln xs n pc L st M c s) ((tAld 0 1) 976 L st M) := (ra_L rfl n L st M c s).trans (if_pos (Nat.zero_le _))
set_option maxRecDepth 20000 in
theorem rs_L_law_977 (Ln : Nat) (xs : Nat → Int32) (n : Nat) (L : AL) (st : List AV) (M : List AC) (c s : Nat) : rx_L_law Ln xs (n + 1) 977 L st M c s = am_jB (fun pc L st M => rx_L_law Ln xs n pc L st M c s) ((tIld 3 1) 977 L st M) := (ra_L rfl n L st M c s).trans (if_pos (Nat.zero_le _))
set_option maxRecDepth 20000 in
theorem rs_L_law_978 (Ln : Nat) (xs : Nat → Int32) (n : Nat) (L : AL) (st : List AV) (M : List AC) (c s : Nat) : rx_L_law Ln xs (n + 1) 978 L st M c s = am_jB (fun pc L st M => rx_L_law Ln xs n pc L st M c s) ((tIc 2 1) 978 L st M) := (ra_L rfl n L st M c s).trans (if_pos (Nat.zero_le _))
set_option maxRecDepth 20000 in
theorem rs_L_law_979 (Ln : Nat) (xs : Nat → Int32) (n : Nat) (L : AL) (st : List AV) (M : List AC) (c s : Nat) : rx_L_law Ln xs (n + 1) 979 L st M c s = am_jB (fun pc L st M => rx_L_law Ln xs n pc L st M c s) ((tI2 (fun a b => a + b)) 979 L st M) := (ra_L rfl n L st M c s).trans (if_pos (Nat.zero_le _))
set_option maxRecDepth 20000 in
theorem rs_L_law_980 (Ln : Nat) (xs : Nat → Int32) (n : Nat) (L : AL) (st : List AV) (M : List AC) (c s : Nat) : rx_L_law Ln xs (n + 1) 980 L st M c s = am_jC (rx_L_law Ln xs n) ((tSx Ln xs) 980 L st M) c s := (ra_A rfl n L st M c s).trans (if_pos (Nat.zero_le _))
set_option maxRecDepth 20000 in
theorem rs_L_law_981 (Ln : Nat) (xs : Nat → Int32) (n : Nat) (L : AL) (st : List AV) (M : List AC) (c s : Nat) : rx_L_law Ln xs (n + 1) 981 L st M c s = am_jB (fun pc L st M => rx_L_law Ln xs n pc L st M c s) (tI2l 981 L st M) := (ra_L rfl n L st M c s).trans (if_pos (Nat.zero_le _))
set_option maxRecDepth 20000 in
theorem rs_L_law_982 (Ln : Nat) (xs : Nat → Int32) (n : Nat) (L : AL) (st : List AV) (M : List AC) (c s : Nat) : rx_L_law Ln xs (n + 1) 982 L st M c s = am_jB (fun pc L st M => rx_L_law Ln xs n pc L st M c s) ((tLc 4294967295 3) 982 L st M) := (ra_L rfl n L st M c s).trans (if_pos (Nat.zero_le _))
set_option maxRecDepth 20000 in
theorem rs_L_law_985 (Ln : Nat) (xs : Nat → Int32) (n : Nat) (L : AL) (st : List AV) (M : List AC) (c s : Nat) : rx_L_law Ln xs (n + 1) 985 L st M c s = am_jB (fun pc L st M => rx_L_law Ln xs n pc L st M c s) ((tL2 (fun a b => a &&& b)) 985 L st M) := (ra_L rfl n L st M c s).trans (if_pos (Nat.zero_le _))
set_option maxRecDepth 20000 in
theorem rs_L_law_986 (Ln : Nat) (xs : Nat → Int32) (n : Nat) (L : AL) (st : List AV) (M : List AC) (c s : Nat) : rx_L_law Ln xs (n + 1) 986 L st M c s = am_jB (fun pc L st M => rx_L_law Ln xs n pc L st M c s) ((tL2 (fun a b => a ||| b)) 986 L st M) := (ra_L rfl n L st M c s).trans (if_pos (Nat.zero_le _))
set_option maxRecDepth 20000 in
theorem rs_L_law_987 (Ln : Nat) (xs : Nat → Int32) (n : Nat) (L : AL) (st : List AV) (M : List AC) (c s : Nat) : rx_L_law Ln xs (n + 1) 987 L st M c s = am_jB (fun pc L st M => rx_L_law Ln xs n pc L st M c s) ((tCv 6 1 fn_X6_seed) 987 L st M) := (ra_L rfl n L st M c s).trans (if_pos (Nat.zero_le _))
set_option maxRecDepth 20000 in
theorem rs_L_law_990 (Ln : Nat) (xs : Nat → Int32) (n : Nat) (L : AL) (st : List AV) (M : List AC) (c s : Nat) : rx_L_law Ln xs (n + 1) 990 L st M c s = am_jB (fun pc L st M => rx_L_law Ln xs n pc L st M c s) (tLcmp 990 L st M) := (ra_L rfl n L st M c s).trans (if_pos (Nat.zero_le _))
set_option maxRecDepth 20000 in
theorem rs_L_law_991 (Ln : Nat) (xs : Nat → Int32) (n : Nat) (L : AL) (st : List AV) (M : List AC) (c s : Nat) : rx_L_law Ln xs (n + 1) 991 L st M c s = am_jB (fun pc L st M => rx_L_law Ln xs n pc L st M c s) ((tIfeq 1088) 991 L st M) := (ra_L rfl n L st M c s).trans (if_pos (Nat.zero_le _))
set_option maxRecDepth 20000 in
theorem rs_L_law_994 (Ln : Nat) (xs : Nat → Int32) (n : Nat) (L : AL) (st : List AV) (M : List AC) (c s : Nat) : rx_L_law Ln xs (n + 1) 994 L st M c s = am_jB (fun pc L st M => rx_L_law Ln xs n pc L st M c s) ((tIc 0 1) 994 L st M) := (ra_L rfl n L st M c s).trans (if_pos (Nat.zero_le _))
set_option maxRecDepth 20000 in
theorem rs_L_law_996 (Ln : Nat) (xs : Nat → Int32) (n : Nat) (L : AL) (st : List AV) (M : List AC) (c s : Nat) : rx_L_law Ln xs (n + 1) 996 L st M c s = am_jB (fun pc L st M => rx_L_law Ln xs n pc L st M c s) ((tAld 1 1) 996 L st M) := (ra_L rfl n L st M c s).trans (if_pos (Nat.zero_le _))
set_option maxRecDepth 20000 in
theorem rs_L_law_997 (Ln : Nat) (xs : Nat → Int32) (n : Nat) (L : AL) (st : List AV) (M : List AC) (c s : Nat) : rx_L_law Ln xs (n + 1) 997 L st M c s = am_jB (fun pc L st M => rx_L_law Ln xs n pc L st M c s) ((tAld 0 1) 997 L st M) := (ra_L rfl n L st M c s).trans (if_pos (Nat.zero_le _))
set_option maxRecDepth 20000 in
theorem rs_L_law_998 (Ln : Nat) (xs : Nat → Int32) (n : Nat) (L : AL) (st : List AV) (M : List AC) (c s : Nat) : rx_L_law Ln xs (n + 1) 998 L st M c s = am_jB (fun pc L st M => rx_L_law Ln xs n pc L st M c s) ((tIld 3 1) 998 L st M) := (ra_L rfl n L st M c s).trans (if_pos (Nat.zero_le _))
set_option maxRecDepth 20000 in
theorem rs_L_law_999 (Ln : Nat) (xs : Nat → Int32) (n : Nat) (L : AL) (st : List AV) (M : List AC) (c s : Nat) : rx_L_law Ln xs (n + 1) 999 L st M c s = am_jB (fun pc L st M => rx_L_law Ln xs n pc L st M c s) ((tIc 1 1) 999 L st M) := (ra_L rfl n L st M c s).trans (if_pos (Nat.zero_le _))
set_option maxRecDepth 20000 in
theorem rs_L_law_1000 (Ln : Nat) (xs : Nat → Int32) (n : Nat) (L : AL) (st : List AV) (M : List AC) (c s : Nat) : rx_L_law Ln xs (n + 1) 1000 L st M c s = am_jB (fun pc L st M => rx_L_law Ln xs n pc L st M c s) ((tI2 (fun a b => a + b)) 1000 L st M) := (ra_L rfl n L st M c s).trans (if_pos (Nat.zero_le _))
set_option maxRecDepth 20000 in
theorem rs_L_law_1001 (Ln : Nat) (xs : Nat → Int32) (n : Nat) (L : AL) (st : List AV) (M : List AC) (c s : Nat) : rx_L_law Ln xs (n + 1) 1001 L st M c s = am_jC (rx_L_law Ln xs n) ((tSx Ln xs) 1001 L st M) c s := (ra_A rfl n L st M c s).trans (if_pos (Nat.zero_le _))
set_option maxRecDepth 20000 in
theorem rs_L_law_1002 (Ln : Nat) (xs : Nat → Int32) (n : Nat) (L : AL) (st : List AV) (M : List AC) (c s : Nat) : rx_L_law Ln xs (n + 1) 1002 L st M c s = am_jB (fun pc L st M => rx_L_law Ln xs n pc L st M c s) ((tCv 5 1 fn_X5_ward) 1002 L st M) := (ra_L rfl n L st M c s).trans (if_pos (Nat.zero_le _))
set_option maxRecDepth 20000 in
theorem rs_L_law_1005 (Ln : Nat) (xs : Nat → Int32) (n : Nat) (L : AL) (st : List AV) (M : List AC) (c s : Nat) : rx_L_law Ln xs (n + 1) 1005 L st M c s = am_jB (fun pc L st M => rx_L_law Ln xs n pc L st M c s) ((tAld 2 1) 1005 L st M) := (ra_L rfl n L st M c s).trans (if_pos (Nat.zero_le _))
set_option maxRecDepth 20000 in
theorem rs_L_law_1006 (Ln : Nat) (xs : Nat → Int32) (n : Nat) (L : AL) (st : List AV) (M : List AC) (c s : Nat) : rx_L_law Ln xs (n + 1) 1006 L st M c s = am_jB (fun pc L st M => rx_L_law Ln xs n pc L st M c s) ((tAld 0 1) 1006 L st M) := (ra_L rfl n L st M c s).trans (if_pos (Nat.zero_le _))
set_option maxRecDepth 20000 in
theorem rs_L_law_1007 (Ln : Nat) (xs : Nat → Int32) (n : Nat) (L : AL) (st : List AV) (M : List AC) (c s : Nat) : rx_L_law Ln xs (n + 1) 1007 L st M c s = am_jB (fun pc L st M => rx_L_law Ln xs n pc L st M c s) ((tIld 3 1) 1007 L st M) := (ra_L rfl n L st M c s).trans (if_pos (Nat.zero_le _))
set_option maxRecDepth 20000 in
theorem rs_L_law_1008 (Ln : Nat) (xs : Nat → Int32) (n : Nat) (L : AL) (st : List AV) (M : List AC) (c s : Nat) : rx_L_law Ln xs (n + 1) 1008 L st M c s = am_jB (fun pc L st M => rx_L_law Ln xs n pc L st M c s) ((tIc 1 1) 1008 L st M) := (ra_L rfl n L st M c s).trans (if_pos (Nat.zero_le _))
set_option maxRecDepth 20000 in
theorem rs_L_law_1009 (Ln : Nat) (xs : Nat → Int32) (n : Nat) (L : AL) (st : List AV) (M : List AC) (c s : Nat) : rx_L_law Ln xs (n + 1) 1009 L st M c s = am_jB (fun pc L st M => rx_L_law Ln xs n pc L st M c s) ((tI2 (fun a b => a + b)) 1009 L st M) := (ra_L rfl n L st M c s).trans (if_pos (Nat.zero_le _))
set_option maxRecDepth 20000 in
theorem rs_L_law_1010 (Ln : Nat) (xs : Nat → Int32) (n : Nat) (L : AL) (st : List AV) (M : List AC) (c s : Nat) : rx_L_law Ln xs (n + 1) 1010 L st M c s = am_jC (rx_L_law Ln xs n) ((tSx Ln xs) 1010 L st M) c s := (ra_A rfl n L st M c s).trans (if_pos (Nat.zero_le _))
set_option maxRecDepth 20000 in
theorem rs_L_law_1011 (Ln : Nat) (xs : Nat → Int32) (n : Nat) (L : AL) (st : List AV) (M : List AC) (c s : Nat) : rx_L_law Ln xs (n + 1) 1011 L st M c s = am_jB (fun pc L st M => rx_L_law Ln xs n pc L st M c s) ((tCv 6 1 fn_X6_ward) 1011 L st M) := (ra_L rfl n L st M c s).trans (if_pos (Nat.zero_le _))
set_option maxRecDepth 20000 in
theorem rs_L_law_1014 (Ln : Nat) (xs : Nat → Int32) (n : Nat) (L : AL) (st : List AV) (M : List AC) (c s : Nat) : rx_L_law Ln xs (n + 1) 1014 L st M c s = am_jB (fun pc L st M => rx_L_law Ln xs n pc L st M c s) ((tCmeq 1088) 1014 L st M) := (ra_L rfl n L st M c s).trans (if_pos (Nat.zero_le _))
set_option maxRecDepth 20000 in
theorem rs_L_law_1017 (Ln : Nat) (xs : Nat → Int32) (n : Nat) (L : AL) (st : List AV) (M : List AC) (c s : Nat) : rx_L_law Ln xs (n + 1) 1017 L st M c s = am_jB (fun pc L st M => rx_L_law Ln xs n pc L st M c s) ((tIc 0 1) 1017 L st M) := (ra_L rfl n L st M c s).trans (if_pos (Nat.zero_le _))
set_option maxRecDepth 20000 in
theorem rs_L_law_1019 (Ln : Nat) (xs : Nat → Int32) (n : Nat) (L : AL) (st : List AV) (M : List AC) (c s : Nat) : rx_L_law Ln xs (n + 1) 1019 L st M c s = am_jB (fun pc L st M => rx_L_law Ln xs n pc L st M c s) ((tAld 1 1) 1019 L st M) := (ra_L rfl n L st M c s).trans (if_pos (Nat.zero_le _))
set_option maxRecDepth 20000 in
theorem rs_L_law_1020 (Ln : Nat) (xs : Nat → Int32) (n : Nat) (L : AL) (st : List AV) (M : List AC) (c s : Nat) : rx_L_law Ln xs (n + 1) 1020 L st M c s = am_jB (fun pc L st M => rx_L_law Ln xs n pc L st M c s) ((tAld 0 1) 1020 L st M) := (ra_L rfl n L st M c s).trans (if_pos (Nat.zero_le _))
set_option maxRecDepth 20000 in
theorem rs_L_law_1021 (Ln : Nat) (xs : Nat → Int32) (n : Nat) (L : AL) (st : List AV) (M : List AC) (c s : Nat) : rx_L_law Ln xs (n + 1) 1021 L st M c s = am_jB (fun pc L st M => rx_L_law Ln xs n pc L st M c s) ((tIld 3 1) 1021 L st M) := (ra_L rfl n L st M c s).trans (if_pos (Nat.zero_le _))
set_option maxRecDepth 20000 in
theorem rs_L_law_1022 (Ln : Nat) (xs : Nat → Int32) (n : Nat) (L : AL) (st : List AV) (M : List AC) (c s : Nat) : rx_L_law Ln xs (n + 1) 1022 L st M c s = am_jB (fun pc L st M => rx_L_law Ln xs n pc L st M c s) ((tIc 1 1) 1022 L st M) := (ra_L rfl n L st M c s).trans (if_pos (Nat.zero_le _))
set_option maxRecDepth 20000 in
theorem rs_L_law_1023 (Ln : Nat) (xs : Nat → Int32) (n : Nat) (L : AL) (st : List AV) (M : List AC) (c s : Nat) : rx_L_law Ln xs (n + 1) 1023 L st M c s = am_jB (fun pc L st M => rx_L_law Ln xs n pc L st M c s) ((tI2 (fun a b => a + b)) 1023 L st M) := (ra_L rfl n L st M c s).trans (if_pos (Nat.zero_le _))
set_option maxRecDepth 20000 in
theorem rs_L_law_1024 (Ln : Nat) (xs : Nat → Int32) (n : Nat) (L : AL) (st : List AV) (M : List AC) (c s : Nat) : rx_L_law Ln xs (n + 1) 1024 L st M c s = am_jC (rx_L_law Ln xs n) ((tSx Ln xs) 1024 L st M) c s := (ra_A rfl n L st M c s).trans (if_pos (Nat.zero_le _))
set_option maxRecDepth 20000 in
theorem rs_L_law_1025 (Ln : Nat) (xs : Nat → Int32) (n : Nat) (L : AL) (st : List AV) (M : List AC) (c s : Nat) : rx_L_law Ln xs (n + 1) 1025 L st M c s = am_jB (fun pc L st M => rx_L_law Ln xs n pc L st M c s) ((tCv 5 1 fn_X5_keep) 1025 L st M) := (ra_L rfl n L st M c s).trans (if_pos (Nat.zero_le _))
set_option maxRecDepth 20000 in
theorem rs_L_law_1028 (Ln : Nat) (xs : Nat → Int32) (n : Nat) (L : AL) (st : List AV) (M : List AC) (c s : Nat) : rx_L_law Ln xs (n + 1) 1028 L st M c s = am_jB (fun pc L st M => rx_L_law Ln xs n pc L st M c s) ((tAld 2 1) 1028 L st M) := (ra_L rfl n L st M c s).trans (if_pos (Nat.zero_le _))
set_option maxRecDepth 20000 in
theorem rs_L_law_1029 (Ln : Nat) (xs : Nat → Int32) (n : Nat) (L : AL) (st : List AV) (M : List AC) (c s : Nat) : rx_L_law Ln xs (n + 1) 1029 L st M c s = am_jB (fun pc L st M => rx_L_law Ln xs n pc L st M c s) ((tAld 0 1) 1029 L st M) := (ra_L rfl n L st M c s).trans (if_pos (Nat.zero_le _))
set_option maxRecDepth 20000 in
theorem rs_L_law_1030 (Ln : Nat) (xs : Nat → Int32) (n : Nat) (L : AL) (st : List AV) (M : List AC) (c s : Nat) : rx_L_law Ln xs (n + 1) 1030 L st M c s = am_jB (fun pc L st M => rx_L_law Ln xs n pc L st M c s) ((tIld 3 1) 1030 L st M) := (ra_L rfl n L st M c s).trans (if_pos (Nat.zero_le _))
set_option maxRecDepth 20000 in
theorem rs_L_law_1031 (Ln : Nat) (xs : Nat → Int32) (n : Nat) (L : AL) (st : List AV) (M : List AC) (c s : Nat) : rx_L_law Ln xs (n + 1) 1031 L st M c s = am_jB (fun pc L st M => rx_L_law Ln xs n pc L st M c s) ((tIc 1 1) 1031 L st M) := (ra_L rfl n L st M c s).trans (if_pos (Nat.zero_le _))
set_option maxRecDepth 20000 in
theorem rs_L_law_1032 (Ln : Nat) (xs : Nat → Int32) (n : Nat) (L : AL) (st : List AV) (M : List AC) (c s : Nat) : rx_L_law Ln xs (n + 1) 1032 L st M c s = am_jB (fun pc L st M => rx_L_law Ln xs n pc L st M c s) ((tI2 (fun a b => a + b)) 1032 L st M) := (ra_L rfl n L st M c s).trans (if_pos (Nat.zero_le _))
set_option maxRecDepth 20000 in
theorem rs_L_law_1033 (Ln : Nat) (xs : Nat → Int32) (n : Nat) (L : AL) (st : List AV) (M : List AC) (c s : Nat) : rx_L_law Ln xs (n + 1) 1033 L st M c s = am_jC (rx_L_law Ln xs n) ((tSx Ln xs) 1033 L st M) c s := (ra_A rfl n L st M c s).trans (if_pos (Nat.zero_le _))
set_option maxRecDepth 20000 in
theorem rs_L_law_1034 (Ln : Nat) (xs : Nat → Int32) (n : Nat) (L : AL) (st : List AV) (M : List AC) (c s : Nat) : rx_L_law Ln xs (n + 1) 1034 L st M c s = am_jB (fun pc L st M => rx_L_law Ln xs n pc L st M c s) ((tCv 6 1 fn_X6_keep) 1034 L st M) := (ra_L rfl n L st M c s).trans (if_pos (Nat.zero_le _))
set_option maxRecDepth 20000 in
theorem rs_L_law_1037 (Ln : Nat) (xs : Nat → Int32) (n : Nat) (L : AL) (st : List AV) (M : List AC) (c s : Nat) : rx_L_law Ln xs (n + 1) 1037 L st M c s = am_jB (fun pc L st M => rx_L_law Ln xs n pc L st M c s) ((tCmeq 1088) 1037 L st M) := (ra_L rfl n L st M c s).trans (if_pos (Nat.zero_le _))
set_option maxRecDepth 20000 in
theorem rs_L_law_1040 (Ln : Nat) (xs : Nat → Int32) (n : Nat) (L : AL) (st : List AV) (M : List AC) (c s : Nat) : rx_L_law Ln xs (n + 1) 1040 L st M c s = am_jB (fun pc L st M => rx_L_law Ln xs n pc L st M c s) ((tIc 0 1) 1040 L st M) := (ra_L rfl n L st M c s).trans (if_pos (Nat.zero_le _))
set_option maxRecDepth 20000 in
theorem rs_L_law_1042 (Ln : Nat) (xs : Nat → Int32) (n : Nat) (L : AL) (st : List AV) (M : List AC) (c s : Nat) : rx_L_law Ln xs (n + 1) 1042 L st M c s = am_jB (fun pc L st M => rx_L_law Ln xs n pc L st M c s) ((tAld 1 1) 1042 L st M) := (ra_L rfl n L st M c s).trans (if_pos (Nat.zero_le _))
set_option maxRecDepth 20000 in
theorem rs_L_law_1043 (Ln : Nat) (xs : Nat → Int32) (n : Nat) (L : AL) (st : List AV) (M : List AC) (c s : Nat) : rx_L_law Ln xs (n + 1) 1043 L st M c s = am_jB (fun pc L st M => rx_L_law Ln xs n pc L st M c s) ((tAld 0 1) 1043 L st M) := (ra_L rfl n L st M c s).trans (if_pos (Nat.zero_le _))
set_option maxRecDepth 20000 in
theorem rs_L_law_1044 (Ln : Nat) (xs : Nat → Int32) (n : Nat) (L : AL) (st : List AV) (M : List AC) (c s : Nat) : rx_L_law Ln xs (n + 1) 1044 L st M c s = am_jB (fun pc L st M => rx_L_law Ln xs n pc L st M c s) ((tIld 3 1) 1044 L st M) := (ra_L rfl n L st M c s).trans (if_pos (Nat.zero_le _))
set_option maxRecDepth 20000 in
theorem rs_L_law_1045 (Ln : Nat) (xs : Nat → Int32) (n : Nat) (L : AL) (st : List AV) (M : List AC) (c s : Nat) : rx_L_law Ln xs (n + 1) 1045 L st M c s = am_jB (fun pc L st M => rx_L_law Ln xs n pc L st M c s) ((tIc 1 1) 1045 L st M) := (ra_L rfl n L st M c s).trans (if_pos (Nat.zero_le _))
set_option maxRecDepth 20000 in
theorem rs_L_law_1046 (Ln : Nat) (xs : Nat → Int32) (n : Nat) (L : AL) (st : List AV) (M : List AC) (c s : Nat) : rx_L_law Ln xs (n + 1) 1046 L st M c s = am_jB (fun pc L st M => rx_L_law Ln xs n pc L st M c s) ((tI2 (fun a b => a + b)) 1046 L st M) := (ra_L rfl n L st M c s).trans (if_pos (Nat.zero_le _))
set_option maxRecDepth 20000 in
theorem rs_L_law_1047 (Ln : Nat) (xs : Nat → Int32) (n : Nat) (L : AL) (st : List AV) (M : List AC) (c s : Nat) : rx_L_law Ln xs (n + 1) 1047 L st M c s = am_jC (rx_L_law Ln xs n) ((tSx Ln xs) 1047 L st M) c s := (ra_A rfl n L st M c s).trans (if_pos (Nat.zero_le _))
set_option maxRecDepth 20000 in
theorem rs_L_law_1048 (Ln : Nat) (xs : Nat → Int32) (n : Nat) (L : AL) (st : List AV) (M : List AC) (c s : Nat) : rx_L_law Ln xs (n + 1) 1048 L st M c s = am_jB (fun pc L st M => rx_L_law Ln xs n pc L st M c s) ((tCv 5 1 fn_X5_again) 1048 L st M) := (ra_L rfl n L st M c s).trans (if_pos (Nat.zero_le _))
set_option maxRecDepth 20000 in
theorem rs_L_law_1051 (Ln : Nat) (xs : Nat → Int32) (n : Nat) (L : AL) (st : List AV) (M : List AC) (c s : Nat) : rx_L_law Ln xs (n + 1) 1051 L st M c s = am_jB (fun pc L st M => rx_L_law Ln xs n pc L st M c s) ((tAld 2 1) 1051 L st M) := (ra_L rfl n L st M c s).trans (if_pos (Nat.zero_le _))
set_option maxRecDepth 20000 in
theorem rs_L_law_1052 (Ln : Nat) (xs : Nat → Int32) (n : Nat) (L : AL) (st : List AV) (M : List AC) (c s : Nat) : rx_L_law Ln xs (n + 1) 1052 L st M c s = am_jB (fun pc L st M => rx_L_law Ln xs n pc L st M c s) ((tAld 0 1) 1052 L st M) := (ra_L rfl n L st M c s).trans (if_pos (Nat.zero_le _))
set_option maxRecDepth 20000 in
theorem rs_L_law_1053 (Ln : Nat) (xs : Nat → Int32) (n : Nat) (L : AL) (st : List AV) (M : List AC) (c s : Nat) : rx_L_law Ln xs (n + 1) 1053 L st M c s = am_jB (fun pc L st M => rx_L_law Ln xs n pc L st M c s) ((tIld 3 1) 1053 L st M) := (ra_L rfl n L st M c s).trans (if_pos (Nat.zero_le _))
set_option maxRecDepth 20000 in
theorem rs_L_law_1054 (Ln : Nat) (xs : Nat → Int32) (n : Nat) (L : AL) (st : List AV) (M : List AC) (c s : Nat) : rx_L_law Ln xs (n + 1) 1054 L st M c s = am_jB (fun pc L st M => rx_L_law Ln xs n pc L st M c s) ((tIc 1 1) 1054 L st M) := (ra_L rfl n L st M c s).trans (if_pos (Nat.zero_le _))
set_option maxRecDepth 20000 in
theorem rs_L_law_1055 (Ln : Nat) (xs : Nat → Int32) (n : Nat) (L : AL) (st : List AV) (M : List AC) (c s : Nat) : rx_L_law Ln xs (n + 1) 1055 L st M c s = am_jB (fun pc L st M => rx_L_law Ln xs n pc L st M c s) ((tI2 (fun a b => a + b)) 1055 L st M) := (ra_L rfl n L st M c s).trans (if_pos (Nat.zero_le _))
set_option maxRecDepth 20000 in
theorem rs_L_law_1056 (Ln : Nat) (xs : Nat → Int32) (n : Nat) (L : AL) (st : List AV) (M : List AC) (c s : Nat) : rx_L_law Ln xs (n + 1) 1056 L st M c s = am_jC (rx_L_law Ln xs n) ((tSx Ln xs) 1056 L st M) c s := (ra_A rfl n L st M c s).trans (if_pos (Nat.zero_le _))
set_option maxRecDepth 20000 in
theorem rs_L_law_1057 (Ln : Nat) (xs : Nat → Int32) (n : Nat) (L : AL) (st : List AV) (M : List AC) (c s : Nat) : rx_L_law Ln xs (n + 1) 1057 L st M c s = am_jB (fun pc L st M => rx_L_law Ln xs n pc L st M c s) ((tCv 6 1 fn_X6_again) 1057 L st M) := (ra_L rfl n L st M c s).trans (if_pos (Nat.zero_le _))
set_option maxRecDepth 20000 in
theorem rs_L_law_1060 (Ln : Nat) (xs : Nat → Int32) (n : Nat) (L : AL) (st : List AV) (M : List AC) (c s : Nat) : rx_L_law Ln xs (n + 1) 1060 L st M c s = am_jB (fun pc L st M => rx_L_law Ln xs n pc L st M c s) ((tCmeq 1088) 1060 L st M) := (ra_L rfl n L st M c s).trans (if_pos (Nat.zero_le _))
set_option maxRecDepth 20000 in
theorem rs_L_law_1063 (Ln : Nat) (xs : Nat → Int32) (n : Nat) (L : AL) (st : List AV) (M : List AC) (c s : Nat) : rx_L_law Ln xs (n + 1) 1063 L st M c s = am_jB (fun pc L st M => rx_L_law Ln xs n pc L st M c s) ((tIc 0 1) 1063 L st M) := (ra_L rfl n L st M c s).trans (if_pos (Nat.zero_le _))
set_option maxRecDepth 20000 in
theorem rs_L_law_1065 (Ln : Nat) (xs : Nat → Int32) (n : Nat) (L : AL) (st : List AV) (M : List AC) (c s : Nat) : rx_L_law Ln xs (n + 1) 1065 L st M c s = am_jB (fun pc L st M => rx_L_law Ln xs n pc L st M c s) ((tAld 1 1) 1065 L st M) := (ra_L rfl n L st M c s).trans (if_pos (Nat.zero_le _))
set_option maxRecDepth 20000 in
theorem rs_L_law_1066 (Ln : Nat) (xs : Nat → Int32) (n : Nat) (L : AL) (st : List AV) (M : List AC) (c s : Nat) : rx_L_law Ln xs (n + 1) 1066 L st M c s = am_jB (fun pc L st M => rx_L_law Ln xs n pc L st M c s) ((tAld 0 1) 1066 L st M) := (ra_L rfl n L st M c s).trans (if_pos (Nat.zero_le _))
set_option maxRecDepth 20000 in
theorem rs_L_law_1067 (Ln : Nat) (xs : Nat → Int32) (n : Nat) (L : AL) (st : List AV) (M : List AC) (c s : Nat) : rx_L_law Ln xs (n + 1) 1067 L st M c s = am_jB (fun pc L st M => rx_L_law Ln xs n pc L st M c s) ((tIld 3 1) 1067 L st M) := (ra_L rfl n L st M c s).trans (if_pos (Nat.zero_le _))
set_option maxRecDepth 20000 in
theorem rs_L_law_1068 (Ln : Nat) (xs : Nat → Int32) (n : Nat) (L : AL) (st : List AV) (M : List AC) (c s : Nat) : rx_L_law Ln xs (n + 1) 1068 L st M c s = am_jB (fun pc L st M => rx_L_law Ln xs n pc L st M c s) ((tIc 1 1) 1068 L st M) := (ra_L rfl n L st M c s).trans (if_pos (Nat.zero_le _))
set_option maxRecDepth 20000 in
theorem rs_L_law_1069 (Ln : Nat) (xs : Nat → Int32) (n : Nat) (L : AL) (st : List AV) (M : List AC) (c s : Nat) : rx_L_law Ln xs (n + 1) 1069 L st M c s = am_jB (fun pc L st M => rx_L_law Ln xs n pc L st M c s) ((tI2 (fun a b => a + b)) 1069 L st M) := (ra_L rfl n L st M c s).trans (if_pos (Nat.zero_le _))
set_option maxRecDepth 20000 in
theorem rs_L_law_1070 (Ln : Nat) (xs : Nat → Int32) (n : Nat) (L : AL) (st : List AV) (M : List AC) (c s : Nat) : rx_L_law Ln xs (n + 1) 1070 L st M c s = am_jC (rx_L_law Ln xs n) ((tSx Ln xs) 1070 L st M) c s := (ra_A rfl n L st M c s).trans (if_pos (Nat.zero_le _))
set_option maxRecDepth 20000 in
theorem rs_L_law_1071 (Ln : Nat) (xs : Nat → Int32) (n : Nat) (L : AL) (st : List AV) (M : List AC) (c s : Nat) : rx_L_law Ln xs (n + 1) 1071 L st M c s = am_jB (fun pc L st M => rx_L_law Ln xs n pc L st M c s) ((tCv 5 1 fn_X5_count) 1071 L st M) := (ra_L rfl n L st M c s).trans (if_pos (Nat.zero_le _))
set_option maxRecDepth 20000 in
theorem rs_L_law_1074 (Ln : Nat) (xs : Nat → Int32) (n : Nat) (L : AL) (st : List AV) (M : List AC) (c s : Nat) : rx_L_law Ln xs (n + 1) 1074 L st M c s = am_jB (fun pc L st M => rx_L_law Ln xs n pc L st M c s) ((tAld 2 1) 1074 L st M) := (ra_L rfl n L st M c s).trans (if_pos (Nat.zero_le _))
set_option maxRecDepth 20000 in
theorem rs_L_law_1075 (Ln : Nat) (xs : Nat → Int32) (n : Nat) (L : AL) (st : List AV) (M : List AC) (c s : Nat) : rx_L_law Ln xs (n + 1) 1075 L st M c s = am_jB (fun pc L st M => rx_L_law Ln xs n pc L st M c s) ((tAld 0 1) 1075 L st M) := (ra_L rfl n L st M c s).trans (if_pos (Nat.zero_le _))
set_option maxRecDepth 20000 in
theorem rs_L_law_1076 (Ln : Nat) (xs : Nat → Int32) (n : Nat) (L : AL) (st : List AV) (M : List AC) (c s : Nat) : rx_L_law Ln xs (n + 1) 1076 L st M c s = am_jB (fun pc L st M => rx_L_law Ln xs n pc L st M c s) ((tIld 3 1) 1076 L st M) := (ra_L rfl n L st M c s).trans (if_pos (Nat.zero_le _))
set_option maxRecDepth 20000 in
theorem rs_L_law_1077 (Ln : Nat) (xs : Nat → Int32) (n : Nat) (L : AL) (st : List AV) (M : List AC) (c s : Nat) : rx_L_law Ln xs (n + 1) 1077 L st M c s = am_jB (fun pc L st M => rx_L_law Ln xs n pc L st M c s) ((tIc 1 1) 1077 L st M) := (ra_L rfl n L st M c s).trans (if_pos (Nat.zero_le _))
set_option maxRecDepth 20000 in
theorem rs_L_law_1078 (Ln : Nat) (xs : Nat → Int32) (n : Nat) (L : AL) (st : List AV) (M : List AC) (c s : Nat) : rx_L_law Ln xs (n + 1) 1078 L st M c s = am_jB (fun pc L st M => rx_L_law Ln xs n pc L st M c s) ((tI2 (fun a b => a + b)) 1078 L st M) := (ra_L rfl n L st M c s).trans (if_pos (Nat.zero_le _))
set_option maxRecDepth 20000 in
theorem rs_L_law_1079 (Ln : Nat) (xs : Nat → Int32) (n : Nat) (L : AL) (st : List AV) (M : List AC) (c s : Nat) : rx_L_law Ln xs (n + 1) 1079 L st M c s = am_jC (rx_L_law Ln xs n) ((tSx Ln xs) 1079 L st M) c s := (ra_A rfl n L st M c s).trans (if_pos (Nat.zero_le _))
set_option maxRecDepth 20000 in
theorem rs_L_law_1080 (Ln : Nat) (xs : Nat → Int32) (n : Nat) (L : AL) (st : List AV) (M : List AC) (c s : Nat) : rx_L_law Ln xs (n + 1) 1080 L st M c s = am_jB (fun pc L st M => rx_L_law Ln xs n pc L st M c s) ((tCv 6 1 fn_X6_count) 1080 L st M) := (ra_L rfl n L st M c s).trans (if_pos (Nat.zero_le _))
set_option maxRecDepth 20000 in
theorem rs_L_law_1083 (Ln : Nat) (xs : Nat → Int32) (n : Nat) (L : AL) (st : List AV) (M : List AC) (c s : Nat) : rx_L_law Ln xs (n + 1) 1083 L st M c s = am_jB (fun pc L st M => rx_L_law Ln xs n pc L st M c s) ((tCmeq 1088) 1083 L st M) := (ra_L rfl n L st M c s).trans (if_pos (Nat.zero_le _))
set_option maxRecDepth 20000 in
theorem rs_L_law_1086 (Ln : Nat) (xs : Nat → Int32) (n : Nat) (L : AL) (st : List AV) (M : List AC) (c s : Nat) : rx_L_law Ln xs (n + 1) 1086 L st M c s = am_jB (fun pc L st M => rx_L_law Ln xs n pc L st M c s) ((tIc 0 1) 1086 L st M) := (ra_L rfl n L st M c s).trans (if_pos (Nat.zero_le _))
set_option maxRecDepth 20000 in
theorem rs_L_law_1088 (Ln : Nat) (xs : Nat → Int32) (n : Nat) (L : AL) (st : List AV) (M : List AC) (c s : Nat) : rx_L_law Ln xs (n + 1) 1088 L st M c s = am_jB (fun pc L st M => rx_L_law Ln xs n pc L st M c s) ((tIinc 3 4) 1088 L st M) := (ra_L rfl n L st M c s).trans (if_pos (Nat.zero_le _))
set_option maxRecDepth 20000 in
theorem rs_L_law_1091 (Ln : Nat) (xs : Nat → Int32) (n : Nat) (L : AL) (st : List AV) (M : List AC) (c s : Nat) : rx_L_law Ln xs (n + 1) 1091 L st M c s = am_jB (fun pc L st M => rx_L_law Ln xs n pc L st M c s) ((tGo 18) 1091 L st M) := (ra_L rfl n L st M c s).trans (if_pos (Nat.zero_le _))
set_option maxRecDepth 20000 in
theorem rs_L_law_1094 (Ln : Nat) (xs : Nat → Int32) (n : Nat) (L : AL) (st : List AV) (M : List AC) (c s : Nat) : rx_L_law Ln xs (n + 1) 1094 L st M c s = am_jB (fun pc L st M => rx_L_law Ln xs n pc L st M c s) ((tIc 1 1) 1094 L st M) := (ra_L rfl n L st M c s).trans (if_pos (Nat.zero_le _))
set_option maxRecDepth 20000 in
theorem rs_L_law_202 (Ln : Nat) (xs : Nat → Int32) (n : Nat) (L : AL) (st : List AV) (M : List AC) (c s : Nat) : rx_L_law Ln xs (n + 1) 202 L st M c s = am_eA rZ st M c s := ra_R rfl rfl n L st M c s
set_option maxRecDepth 20000 in
theorem rs_L_law_215 (Ln : Nat) (xs : Nat → Int32) (n : Nat) (L : AL) (st : List AV) (M : List AC) (c s : Nat) : rx_L_law Ln xs (n + 1) 215 L st M c s = am_eA rZ st M c s := ra_R rfl rfl n L st M c s
set_option maxRecDepth 20000 in
theorem rs_L_law_228 (Ln : Nat) (xs : Nat → Int32) (n : Nat) (L : AL) (st : List AV) (M : List AC) (c s : Nat) : rx_L_law Ln xs (n + 1) 228 L st M c s = am_eA rZ st M c s := ra_R rfl rfl n L st M c s
set_option maxRecDepth 20000 in
theorem rs_L_law_241 (Ln : Nat) (xs : Nat → Int32) (n : Nat) (L : AL) (st : List AV) (M : List AC) (c s : Nat) : rx_L_law Ln xs (n + 1) 241 L st M c s = am_eA rZ st M c s := ra_R rfl rfl n L st M c s
set_option maxRecDepth 20000 in
theorem rs_L_law_274 (Ln : Nat) (xs : Nat → Int32) (n : Nat) (L : AL) (st : List AV) (M : List AC) (c s : Nat) : rx_L_law Ln xs (n + 1) 274 L st M c s = am_eA rZ st M c s := ra_R rfl rfl n L st M c s
set_option maxRecDepth 20000 in
theorem rs_L_law_307 (Ln : Nat) (xs : Nat → Int32) (n : Nat) (L : AL) (st : List AV) (M : List AC) (c s : Nat) : rx_L_law Ln xs (n + 1) 307 L st M c s = am_eA rZ st M c s := ra_R rfl rfl n L st M c s
set_option maxRecDepth 20000 in
theorem rs_L_law_340 (Ln : Nat) (xs : Nat → Int32) (n : Nat) (L : AL) (st : List AV) (M : List AC) (c s : Nat) : rx_L_law Ln xs (n + 1) 340 L st M c s = am_eA rZ st M c s := ra_R rfl rfl n L st M c s
set_option maxRecDepth 20000 in
theorem rs_L_law_373 (Ln : Nat) (xs : Nat → Int32) (n : Nat) (L : AL) (st : List AV) (M : List AC) (c s : Nat) : rx_L_law Ln xs (n + 1) 373 L st M c s = am_eA rZ st M c s := ra_R rfl rfl n L st M c s
set_option maxRecDepth 20000 in
theorem rs_L_law_406 (Ln : Nat) (xs : Nat → Int32) (n : Nat) (L : AL) (st : List AV) (M : List AC) (c s : Nat) : rx_L_law Ln xs (n + 1) 406 L st M c s = am_eA rZ st M c s := ra_R rfl rfl n L st M c s
set_option maxRecDepth 20000 in
theorem rs_L_law_419 (Ln : Nat) (xs : Nat → Int32) (n : Nat) (L : AL) (st : List AV) (M : List AC) (c s : Nat) : rx_L_law Ln xs (n + 1) 419 L st M c s = am_eA rZ st M c s := ra_R rfl rfl n L st M c s
set_option maxRecDepth 20000 in
theorem rs_L_law_432 (Ln : Nat) (xs : Nat → Int32) (n : Nat) (L : AL) (st : List AV) (M : List AC) (c s : Nat) : rx_L_law Ln xs (n + 1) 432 L st M c s = am_eA rZ st M c s := ra_R rfl rfl n L st M c s
set_option maxRecDepth 20000 in
theorem rs_L_law_445 (Ln : Nat) (xs : Nat → Int32) (n : Nat) (L : AL) (st : List AV) (M : List AC) (c s : Nat) : rx_L_law Ln xs (n + 1) 445 L st M c s = am_eA rZ st M c s := ra_R rfl rfl n L st M c s
set_option maxRecDepth 20000 in
theorem rs_L_law_478 (Ln : Nat) (xs : Nat → Int32) (n : Nat) (L : AL) (st : List AV) (M : List AC) (c s : Nat) : rx_L_law Ln xs (n + 1) 478 L st M c s = am_eA rZ st M c s := ra_R rfl rfl n L st M c s
set_option maxRecDepth 20000 in
theorem rs_L_law_501 (Ln : Nat) (xs : Nat → Int32) (n : Nat) (L : AL) (st : List AV) (M : List AC) (c s : Nat) : rx_L_law Ln xs (n + 1) 501 L st M c s = am_eA rZ st M c s := ra_R rfl rfl n L st M c s
set_option maxRecDepth 20000 in
theorem rs_L_law_524 (Ln : Nat) (xs : Nat → Int32) (n : Nat) (L : AL) (st : List AV) (M : List AC) (c s : Nat) : rx_L_law Ln xs (n + 1) 524 L st M c s = am_eA rZ st M c s := ra_R rfl rfl n L st M c s
set_option maxRecDepth 20000 in
theorem rs_L_law_537 (Ln : Nat) (xs : Nat → Int32) (n : Nat) (L : AL) (st : List AV) (M : List AC) (c s : Nat) : rx_L_law Ln xs (n + 1) 537 L st M c s = am_eA rZ st M c s := ra_R rfl rfl n L st M c s
set_option maxRecDepth 20000 in
theorem rs_L_law_560 (Ln : Nat) (xs : Nat → Int32) (n : Nat) (L : AL) (st : List AV) (M : List AC) (c s : Nat) : rx_L_law Ln xs (n + 1) 560 L st M c s = am_eA rZ st M c s := ra_R rfl rfl n L st M c s
set_option maxRecDepth 20000 in
theorem rs_L_law_593 (Ln : Nat) (xs : Nat → Int32) (n : Nat) (L : AL) (st : List AV) (M : List AC) (c s : Nat) : rx_L_law Ln xs (n + 1) 593 L st M c s = am_eA rZ st M c s := ra_R rfl rfl n L st M c s
set_option maxRecDepth 20000 in
theorem rs_L_law_616 (Ln : Nat) (xs : Nat → Int32) (n : Nat) (L : AL) (st : List AV) (M : List AC) (c s : Nat) : rx_L_law Ln xs (n + 1) 616 L st M c s = am_eA rZ st M c s := ra_R rfl rfl n L st M c s
set_option maxRecDepth 20000 in
theorem rs_L_law_649 (Ln : Nat) (xs : Nat → Int32) (n : Nat) (L : AL) (st : List AV) (M : List AC) (c s : Nat) : rx_L_law Ln xs (n + 1) 649 L st M c s = am_eA rZ st M c s := ra_R rfl rfl n L st M c s
set_option maxRecDepth 20000 in
theorem rs_L_law_672 (Ln : Nat) (xs : Nat → Int32) (n : Nat) (L : AL) (st : List AV) (M : List AC) (c s : Nat) : rx_L_law Ln xs (n + 1) 672 L st M c s = am_eA rZ st M c s := ra_R rfl rfl n L st M c s
set_option maxRecDepth 20000 in
theorem rs_L_law_695 (Ln : Nat) (xs : Nat → Int32) (n : Nat) (L : AL) (st : List AV) (M : List AC) (c s : Nat) : rx_L_law Ln xs (n + 1) 695 L st M c s = am_eA rZ st M c s := ra_R rfl rfl n L st M c s
set_option maxRecDepth 20000 in
theorem rs_L_law_718 (Ln : Nat) (xs : Nat → Int32) (n : Nat) (L : AL) (st : List AV) (M : List AC) (c s : Nat) : rx_L_law Ln xs (n + 1) 718 L st M c s = am_eA rZ st M c s := ra_R rfl rfl n L st M c s
set_option maxRecDepth 20000 in
theorem rs_L_law_767 (Ln : Nat) (xs : Nat → Int32) (n : Nat) (L : AL) (st : List AV) (M : List AC) (c s : Nat) : rx_L_law Ln xs (n + 1) 767 L st M c s = am_eA rZ st M c s := ra_R rfl rfl n L st M c s
set_option maxRecDepth 20000 in
theorem rs_L_law_806 (Ln : Nat) (xs : Nat → Int32) (n : Nat) (L : AL) (st : List AV) (M : List AC) (c s : Nat) : rx_L_law Ln xs (n + 1) 806 L st M c s = am_eA rZ st M c s := ra_R rfl rfl n L st M c s
set_option maxRecDepth 20000 in
theorem rs_L_law_849 (Ln : Nat) (xs : Nat → Int32) (n : Nat) (L : AL) (st : List AV) (M : List AC) (c s : Nat) : rx_L_law Ln xs (n + 1) 849 L st M c s = am_eA rZ st M c s := ra_R rfl rfl n L st M c s
set_option maxRecDepth 20000 in
theorem rs_L_law_882 (Ln : Nat) (xs : Nat → Int32) (n : Nat) (L : AL) (st : List AV) (M : List AC) (c s : Nat) : rx_L_law Ln xs (n + 1) 882 L st M c s = am_eA rZ st M c s := ra_R rfl rfl n L st M c s
set_option maxRecDepth 20000 in
theorem rs_L_law_941 (Ln : Nat) (xs : Nat → Int32) (n : Nat) (L : AL) (st : List AV) (M : List AC) (c s : Nat) : rx_L_law Ln xs (n + 1) 941 L st M c s = am_eA rZ st M c s := ra_R rfl rfl n L st M c s
set_option maxRecDepth 20000 in
theorem rs_L_law_995 (Ln : Nat) (xs : Nat → Int32) (n : Nat) (L : AL) (st : List AV) (M : List AC) (c s : Nat) : rx_L_law Ln xs (n + 1) 995 L st M c s = am_eA rZ st M c s := ra_R rfl rfl n L st M c s
set_option maxRecDepth 20000 in
theorem rs_L_law_1018 (Ln : Nat) (xs : Nat → Int32) (n : Nat) (L : AL) (st : List AV) (M : List AC) (c s : Nat) : rx_L_law Ln xs (n + 1) 1018 L st M c s = am_eA rZ st M c s := ra_R rfl rfl n L st M c s
set_option maxRecDepth 20000 in
theorem rs_L_law_1041 (Ln : Nat) (xs : Nat → Int32) (n : Nat) (L : AL) (st : List AV) (M : List AC) (c s : Nat) : rx_L_law Ln xs (n + 1) 1041 L st M c s = am_eA rZ st M c s := ra_R rfl rfl n L st M c s
set_option maxRecDepth 20000 in
theorem rs_L_law_1064 (Ln : Nat) (xs : Nat → Int32) (n : Nat) (L : AL) (st : List AV) (M : List AC) (c s : Nat) : rx_L_law Ln xs (n + 1) 1064 L st M c s = am_eA rZ st M c s := ra_R rfl rfl n L st M c s
set_option maxRecDepth 20000 in
theorem rs_L_law_1087 (Ln : Nat) (xs : Nat → Int32) (n : Nat) (L : AL) (st : List AV) (M : List AC) (c s : Nat) : rx_L_law Ln xs (n + 1) 1087 L st M c s = am_eA rZ st M c s := ra_R rfl rfl n L st M c s
set_option maxRecDepth 20000 in
theorem rs_L_law_1095 (Ln : Nat) (xs : Nat → Int32) (n : Nat) (L : AL) (st : List AV) (M : List AC) (c s : Nat) : rx_L_law Ln xs (n + 1) 1095 L st M c s = am_eA rZ st M c s := ra_R rfl rfl n L st M c s
theorem ri_L_law (c : Prop) [Decidable c] (p q : Nat) (Ln : Nat) (xs : Nat → Int32) (n : Nat) (L : AL) (st : List AV) (M : List AC) (x y : Nat) : rx_L_law Ln xs n (if c then p else q) L st M x y = if c then rx_L_law Ln xs n p L st M x y else rx_L_law Ln xs n q L st M x y := by split <;> rfl
theorem rm_L_law {Ln : Nat} {xs : Nat → Int32} {n k pc : Nat} {L : AL} {st : List AV} {M : List AC} {c s : Nat} {x : Option AV × List AC × Nat × Nat} (h : rx_L_law Ln xs n pc L st M c s = some x) (hk : n ≤ k) : rx_L_law Ln xs k pc L st M c s = some x := am_ra_mono n k h hk
def rets_L_law : List Nat := [202, 215, 228, 241, 274, 307, 340, 373, 406, 419, 432, 445, 478, 501, 524, 537, 560, 593, 616, 649, 672, 695, 718, 767, 806, 849, 882, 941, 995, 1018, 1041, 1064, 1087, 1095]
end
