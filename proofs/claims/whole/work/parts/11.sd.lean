theorem sd_iconst {y : MethodName} {cc : ByteArray} {nL : Nat} {ret : Option FieldType} {lev pc : Nat} {n : Int} (hn : Int32.ofInt n = Int32.ofInt n) (h : decode cc pc = .ok (.iconst n, 1)) : Sd (y, cc, nL, ret, lev) pc (tIc n 1) := by
  rintro ⟨p, l, e, R, s, m, args, below, meth, c, D, K, A, Q⟩ ad cells slots L st M pc' L' st' M' ⟨hx, hb, hml, hr, hlk, hown, hts, hK, hA, hSt, hfr, hlo, hnm⟩ ht k H locs ls hc hs hP hD hS hL
  cases ht
  refine lv_iconst hx hb h hn ?_
  exact k H locs ls hc hs hP hD hS hL
theorem sd_bipush {y : MethodName} {cc : ByteArray} {nL : Nat} {ret : Option FieldType} {lev pc : Nat} {n : Int} (hn : (Int8.ofInt n).toInt32 = Int32.ofInt n) (h : decode cc pc = .ok (.bipush n, 2)) : Sd (y, cc, nL, ret, lev) pc (tIc n 2) := by
  rintro ⟨p, l, e, R, s, m, args, below, meth, c, D, K, A, Q⟩ ad cells slots L st M pc' L' st' M' ⟨hx, hb, hml, hr, hlk, hown, hts, hK, hA, hSt, hfr, hlo, hnm⟩ ht k H locs ls hc hs hP hD hS hL
  cases ht
  refine lv_bipush hx hb h hn ?_
  exact k H locs ls hc hs hP hD hS hL
theorem sd_sipush {y : MethodName} {cc : ByteArray} {nL : Nat} {ret : Option FieldType} {lev pc : Nat} {n : Int} (hn : (Int16.ofInt n).toInt32 = Int32.ofInt n) (h : decode cc pc = .ok (.sipush n, 3)) : Sd (y, cc, nL, ret, lev) pc (tIc n 3) := by
  rintro ⟨p, l, e, R, s, m, args, below, meth, c, D, K, A, Q⟩ ad cells slots L st M pc' L' st' M' ⟨hx, hb, hml, hr, hlk, hown, hts, hK, hA, hSt, hfr, hlo, hnm⟩ ht k H locs ls hc hs hP hD hS hL
  cases ht
  refine lv_sipush hx hb h hn ?_
  exact k H locs ls hc hs hP hD hS hL
theorem sd_lconst {y : MethodName} {cc : ByteArray} {nL : Nat} {ret : Option FieldType} {lev pc : Nat} {n : Fin 2} {w : Int64} (hw : Int64.ofNat (n : Nat) = w) (h : decode cc pc = .ok (.lconst n, 1)) : Sd (y, cc, nL, ret, lev) pc (tLc w 1) := by
  rintro ⟨p, l, e, R, s, m, args, below, meth, c, D, K, A, Q⟩ ad cells slots L st M pc' L' st' M' ⟨hx, hb, hml, hr, hlk, hown, hts, hK, hA, hSt, hfr, hlo, hnm⟩ ht k H locs ls hc hs hP hD hS hL
  cases ht
  refine lv_lconst hx hb h hw ?_
  exact k H locs ls hc hs hP hD hS hL
theorem sd_ldc2 {y : MethodName} {cc : ByteArray} {nL : Nat} {ret : Option FieldType} {lev pc : Nat} {i : Nat} {w : Int64} (hw : Cond.constantLong y.cls i w ∈ GB) (h : decode cc pc = .ok (.ldc2_w i, 3)) : Sd (y, cc, nL, ret, lev) pc (tLc w 3) := by
  rintro ⟨p, l, e, R, s, m, args, below, meth, c, D, K, A, Q⟩ ad cells slots L st M pc' L' st' M' ⟨hx, hb, hml, hr, hlk, hown, hts, hK, hA, hSt, hfr, hlo, hnm⟩ ht k H locs ls hc hs hP hD hS hL
  cases ht
  refine lv_ldc2 hx hb hown (hts _ hw) h ?_
  exact k H locs ls hc hs hP hD hS hL
theorem sd_ldc {y : MethodName} {cc : ByteArray} {nL : Nat} {ret : Option FieldType} {lev pc : Nat} {i : Nat} {n : Int} {w : Int32} (hn : Int32.ofInt n = w) (hw : Cond.constant y.cls i w ∈ GB) (h : decode cc pc = .ok (.ldc i, 2)) : Sd (y, cc, nL, ret, lev) pc (tIc n 2) := by
  rintro ⟨p, l, e, R, s, m, args, below, meth, c, D, K, A, Q⟩ ad cells slots L st M pc' L' st' M' ⟨hx, hb, hml, hr, hlk, hown, hts, hK, hA, hSt, hfr, hlo, hnm⟩ ht k H locs ls hc hs hP hD hS hL
  cases ht
  subst hn
  refine lv_ldc hx hb hown (hts _ hw) h ?_
  exact k H locs ls hc hs hP hD hS hL
theorem sd_ldcw {y : MethodName} {cc : ByteArray} {nL : Nat} {ret : Option FieldType} {lev pc : Nat} {i : Nat} {n : Int} {w : Int32} (hn : Int32.ofInt n = w) (hw : Cond.constant y.cls i w ∈ GB) (h : decode cc pc = .ok (.ldc_w i, 3)) : Sd (y, cc, nL, ret, lev) pc (tIc n 3) := by
  rintro ⟨p, l, e, R, s, m, args, below, meth, c, D, K, A, Q⟩ ad cells slots L st M pc' L' st' M' ⟨hx, hb, hml, hr, hlk, hown, hts, hK, hA, hSt, hfr, hlo, hnm⟩ ht k H locs ls hc hs hP hD hS hL
  cases ht
  subst hn
  refine lv_ldcw hx hb hown (hts _ hw) h ?_
  exact k H locs ls hc hs hP hD hS hL
theorem sd_null {y : MethodName} {cc : ByteArray} {nL : Nat} {ret : Option FieldType} {lev pc : Nat}  (h : decode cc pc = .ok (.aconst_null, 1)) : Sd (y, cc, nL, ret, lev) pc (tNul) := by
  rintro ⟨p, l, e, R, s, m, args, below, meth, c, D, K, A, Q⟩ ad cells slots L st M pc' L' st' M' ⟨hx, hb, hml, hr, hlk, hown, hts, hK, hA, hSt, hfr, hlo, hnm⟩ ht k H locs ls hc hs hP hD hS hL
  cases ht
  refine lv_null hx hb h ?_
  exact k H locs ls hc hs hP hD hS hL
theorem sd_iload_n {y : MethodName} {cc : ByteArray} {nL : Nat} {ret : Option FieldType} {lev pc : Nat} {i : Fin 4} (h : decode cc pc = .ok (.iload_n i, 1)) : Sd (y, cc, nL, ret, lev) pc (tIld i.val 1) := by
  rintro ⟨p, l, e, R, s, m, args, below, meth, c, D, K, A, Q⟩ ad cells slots L st M pc' L' st' M' ⟨hx, hb, hml, hr, hlk, hown, hts, hK, hA, hSt, hfr, hlo, hnm⟩ ht k H locs ls hc hs hP hD hS hL
  unfold tIld at ht
  split at ht
  · next z hz =>
    cases ht
    refine lv_iload_n hx hb h rfl (hL.2.2.2 _ _ hz) ?_
    exact k H locs ls hc hs hP hD hS hL
  · cases ht
theorem sd_iload {y : MethodName} {cc : ByteArray} {nL : Nat} {ret : Option FieldType} {lev pc : Nat} {i : Nat} (h : decode cc pc = .ok (.iload i, 2)) : Sd (y, cc, nL, ret, lev) pc (tIld i 2) := by
  rintro ⟨p, l, e, R, s, m, args, below, meth, c, D, K, A, Q⟩ ad cells slots L st M pc' L' st' M' ⟨hx, hb, hml, hr, hlk, hown, hts, hK, hA, hSt, hfr, hlo, hnm⟩ ht k H locs ls hc hs hP hD hS hL
  unfold tIld at ht
  split at ht
  · next z hz =>
    cases ht
    refine lv_iload hx hb h (hL.2.2.2 _ _ hz) ?_
    exact k H locs ls hc hs hP hD hS hL
  · cases ht
theorem sd_lload_n {y : MethodName} {cc : ByteArray} {nL : Nat} {ret : Option FieldType} {lev pc : Nat} {i : Fin 4} (h : decode cc pc = .ok (.lload_n i, 1)) : Sd (y, cc, nL, ret, lev) pc (tLld i.val 1) := by
  rintro ⟨p, l, e, R, s, m, args, below, meth, c, D, K, A, Q⟩ ad cells slots L st M pc' L' st' M' ⟨hx, hb, hml, hr, hlk, hown, hts, hK, hA, hSt, hfr, hlo, hnm⟩ ht k H locs ls hc hs hP hD hS hL
  unfold tLld at ht
  split at ht
  · next z hz =>
    cases ht
    refine lv_lload_n hx hb h rfl (hL.2.2.2 _ _ hz) ?_
    exact k H locs ls hc hs hP hD hS hL
  · cases ht
theorem sd_lload {y : MethodName} {cc : ByteArray} {nL : Nat} {ret : Option FieldType} {lev pc : Nat} {i : Nat} (h : decode cc pc = .ok (.lload i, 2)) : Sd (y, cc, nL, ret, lev) pc (tLld i 2) := by
  rintro ⟨p, l, e, R, s, m, args, below, meth, c, D, K, A, Q⟩ ad cells slots L st M pc' L' st' M' ⟨hx, hb, hml, hr, hlk, hown, hts, hK, hA, hSt, hfr, hlo, hnm⟩ ht k H locs ls hc hs hP hD hS hL
  unfold tLld at ht
  split at ht
  · next z hz =>
    cases ht
    refine lv_lload hx hb h (hL.2.2.2 _ _ hz) ?_
    exact k H locs ls hc hs hP hD hS hL
  · cases ht
theorem sd_aload_n {y : MethodName} {cc : ByteArray} {nL : Nat} {ret : Option FieldType} {lev pc : Nat} {i : Fin 4} (h : decode cc pc = .ok (.aload_n i, 1)) : Sd (y, cc, nL, ret, lev) pc (tAld i.val 1) := by
  rintro ⟨p, l, e, R, s, m, args, below, meth, c, D, K, A, Q⟩ ad cells slots L st M pc' L' st' M' ⟨hx, hb, hml, hr, hlk, hown, hts, hK, hA, hSt, hfr, hlo, hnm⟩ ht k H locs ls hc hs hP hD hS hL
  unfold tAld at ht
  split at ht
  · next z hz =>
    cases ht
    refine lv_aload_n hx hb h rfl (hL.2.2.2 _ _ hz) ?_
    exact k H locs ls hc hs hP hD hS hL
  · cases ht
theorem sd_aload {y : MethodName} {cc : ByteArray} {nL : Nat} {ret : Option FieldType} {lev pc : Nat} {i : Nat} (h : decode cc pc = .ok (.aload i, 2)) : Sd (y, cc, nL, ret, lev) pc (tAld i 2) := by
  rintro ⟨p, l, e, R, s, m, args, below, meth, c, D, K, A, Q⟩ ad cells slots L st M pc' L' st' M' ⟨hx, hb, hml, hr, hlk, hown, hts, hK, hA, hSt, hfr, hlo, hnm⟩ ht k H locs ls hc hs hP hD hS hL
  unfold tAld at ht
  split at ht
  · next z hz =>
    cases ht
    refine lv_aload hx hb h (hL.2.2.2 _ _ hz) ?_
    exact k H locs ls hc hs hP hD hS hL
  · cases ht
theorem sd_istore_n {y : MethodName} {cc : ByteArray} {nL : Nat} {ret : Option FieldType} {lev pc : Nat} {i : Fin 4} (h : decode cc pc = .ok (.istore_n i, 1)) : Sd (y, cc, nL, ret, lev) pc (tIst i.val 1) := by
  rintro ⟨p, l, e, R, s, m, args, below, meth, c, D, K, A, Q⟩ ad cells slots L st M pc' L' st' M' ⟨hx, hb, hml, hr, hlk, hown, hts, hK, hA, hSt, hfr, hlo, hnm⟩ ht k H locs ls hc hs hP hD hS hL
  unfold tIst at ht
  split at ht
  · split at ht
    · next z r hi =>
      simp only [Bool.and_eq_true, decide_eq_true_eq] at hi
      cases ht
      refine lv_istore_n hx hb h rfl (am_pl_has hL) (by rw [← hL.2.2.1]; exact hi.2) rfl (fun ls' hl' => ?_)
      exact k H locs ls' hc hs hP hD hS (am_L_set1 hL hi.1 hl')
    · cases ht
  · cases ht
theorem sd_istore {y : MethodName} {cc : ByteArray} {nL : Nat} {ret : Option FieldType} {lev pc : Nat} {i : Nat} (h : decode cc pc = .ok (.istore i, 2)) : Sd (y, cc, nL, ret, lev) pc (tIst i 2) := by
  rintro ⟨p, l, e, R, s, m, args, below, meth, c, D, K, A, Q⟩ ad cells slots L st M pc' L' st' M' ⟨hx, hb, hml, hr, hlk, hown, hts, hK, hA, hSt, hfr, hlo, hnm⟩ ht k H locs ls hc hs hP hD hS hL
  unfold tIst at ht
  split at ht
  · split at ht
    · next z r hi =>
      simp only [Bool.and_eq_true, decide_eq_true_eq] at hi
      cases ht
      refine lv_istore hx hb h (am_pl_has hL) (by rw [← hL.2.2.1]; exact hi.2) rfl (fun ls' hl' => ?_)
      exact k H locs ls' hc hs hP hD hS (am_L_set1 hL hi.1 hl')
    · cases ht
  · cases ht
theorem sd_astore_n {y : MethodName} {cc : ByteArray} {nL : Nat} {ret : Option FieldType} {lev pc : Nat} {i : Fin 4} (h : decode cc pc = .ok (.astore_n i, 1)) : Sd (y, cc, nL, ret, lev) pc (tAst i.val 1) := by
  rintro ⟨p, l, e, R, s, m, args, below, meth, c, D, K, A, Q⟩ ad cells slots L st M pc' L' st' M' ⟨hx, hb, hml, hr, hlk, hown, hts, hK, hA, hSt, hfr, hlo, hnm⟩ ht k H locs ls hc hs hP hD hS hL
  unfold tAst at ht
  split at ht
  · split at ht
    · next z r hi =>
      simp only [Bool.and_eq_true, decide_eq_true_eq] at hi
      cases ht
      refine lv_astore_n hx hb h rfl (am_pl_has hL) (by rw [← hL.2.2.1]; exact hi.2) rfl (fun ls' hl' => ?_)
      exact k H locs ls' hc hs hP hD hS (am_L_set1 hL hi.1 hl')
    · cases ht
  · cases ht
theorem sd_astore {y : MethodName} {cc : ByteArray} {nL : Nat} {ret : Option FieldType} {lev pc : Nat} {i : Nat} (h : decode cc pc = .ok (.astore i, 2)) : Sd (y, cc, nL, ret, lev) pc (tAst i 2) := by
  rintro ⟨p, l, e, R, s, m, args, below, meth, c, D, K, A, Q⟩ ad cells slots L st M pc' L' st' M' ⟨hx, hb, hml, hr, hlk, hown, hts, hK, hA, hSt, hfr, hlo, hnm⟩ ht k H locs ls hc hs hP hD hS hL
  unfold tAst at ht
  split at ht
  · split at ht
    · next z r hi =>
      simp only [Bool.and_eq_true, decide_eq_true_eq] at hi
      cases ht
      refine lv_astore hx hb h (am_pl_has hL) (by rw [← hL.2.2.1]; exact hi.2) rfl (fun ls' hl' => ?_)
      exact k H locs ls' hc hs hP hD hS (am_L_set1 hL hi.1 hl')
    · cases ht
  · cases ht
theorem sd_lstore_n {y : MethodName} {cc : ByteArray} {nL : Nat} {ret : Option FieldType} {lev pc : Nat} {i : Fin 4} (h : decode cc pc = .ok (.lstore_n i, 1)) : Sd (y, cc, nL, ret, lev) pc (tLst i.val 1) := by
  rintro ⟨p, l, e, R, s, m, args, below, meth, c, D, K, A, Q⟩ ad cells slots L st M pc' L' st' M' ⟨hx, hb, hml, hr, hlk, hown, hts, hK, hA, hSt, hfr, hlo, hnm⟩ ht k H locs ls hc hs hP hD hS hL
  unfold tLst at ht
  split at ht
  · split at ht
    · next z r hi =>
      simp only [Bool.and_eq_true, decide_eq_true_eq] at hi
      cases ht
      refine lv_lstore_n hx hb h rfl (am_pl_has hL) (by rw [← hL.2.2.1]; exact hi.2) rfl (fun ls' hl' => ?_)
      exact k H locs ls' hc hs hP hD hS (am_L_set2 hL hi.1 hl')
    · cases ht
  · cases ht
theorem sd_lstore {y : MethodName} {cc : ByteArray} {nL : Nat} {ret : Option FieldType} {lev pc : Nat} {i : Nat} (h : decode cc pc = .ok (.lstore i, 2)) : Sd (y, cc, nL, ret, lev) pc (tLst i 2) := by
  rintro ⟨p, l, e, R, s, m, args, below, meth, c, D, K, A, Q⟩ ad cells slots L st M pc' L' st' M' ⟨hx, hb, hml, hr, hlk, hown, hts, hK, hA, hSt, hfr, hlo, hnm⟩ ht k H locs ls hc hs hP hD hS hL
  unfold tLst at ht
  split at ht
  · split at ht
    · next z r hi =>
      simp only [Bool.and_eq_true, decide_eq_true_eq] at hi
      cases ht
      refine lv_lstore hx hb h (am_pl_has hL) (by rw [← hL.2.2.1]; exact hi.2) rfl (fun ls' hl' => ?_)
      exact k H locs ls' hc hs hP hD hS (am_L_set2 hL hi.1 hl')
    · cases ht
  · cases ht
theorem sd_iinc {y : MethodName} {cc : ByteArray} {nL : Nat} {ret : Option FieldType} {lev pc : Nat} {i : Nat} {n : Int} (h : decode cc pc = .ok (.iinc i n, 3)) : Sd (y, cc, nL, ret, lev) pc (tIinc i n) := by
  rintro ⟨p, l, e, R, s, m, args, below, meth, c, D, K, A, Q⟩ ad cells slots L st M pc' L' st' M' ⟨hx, hb, hml, hr, hlk, hown, hts, hK, hA, hSt, hfr, hlo, hnm⟩ ht k H locs ls hc hs hP hD hS hL
  unfold tIinc at ht
  split at ht
  · next z hz =>
    split at ht
    · next hi =>
      cases ht
      obtain ⟨j, hj⟩ := List.getElem?_of_mem (am_pl_mem (ad := ad) (L := L) (q := (i, am_v ad (.inl z))) |>.mpr ⟨_, hz, rfl⟩)
      refine lv_iinc (v := Int32.ofInt (z + n)) hx hb h (am_pl_has hL) hj (Int32.ofInt_add z n).symm (am_L_lt hL hz) rfl (fun ls' hl' => ?_)
      exact k H locs ls' hc hs hP hD hS (am_L_set1 (v := .inl (z + n)) hL hi hl')
    · cases ht
  · cases ht
theorem sd_iadd {y : MethodName} {cc : ByteArray} {nL : Nat} {ret : Option FieldType} {lev pc : Nat}  (h : decode cc pc = .ok (.iadd, 1)) : Sd (y, cc, nL, ret, lev) pc (tI2 (fun a b => a + b)) := by
  rintro ⟨p, l, e, R, s, m, args, below, meth, c, D, K, A, Q⟩ ad cells slots L st M pc' L' st' M' ⟨hx, hb, hml, hr, hlk, hown, hts, hK, hA, hSt, hfr, hlo, hnm⟩ ht k H locs ls hc hs hP hD hS hL
  unfold tI2 at ht
  split at ht
  · next b a r =>
    cases ht
    refine lv_iadd hx hb h ?_
    have k9 := k H locs ls hc hs hP hD hS hL
    simp only [List.map_cons, am_v, Int32.ofInt_add] at k9
    exact k9
  · cases ht
theorem sd_isub {y : MethodName} {cc : ByteArray} {nL : Nat} {ret : Option FieldType} {lev pc : Nat}  (h : decode cc pc = .ok (.isub, 1)) : Sd (y, cc, nL, ret, lev) pc (tI2 (fun a b => a - b)) := by
  rintro ⟨p, l, e, R, s, m, args, below, meth, c, D, K, A, Q⟩ ad cells slots L st M pc' L' st' M' ⟨hx, hb, hml, hr, hlk, hown, hts, hK, hA, hSt, hfr, hlo, hnm⟩ ht k H locs ls hc hs hP hD hS hL
  unfold tI2 at ht
  split at ht
  · next b a r =>
    cases ht
    refine lv_isub hx hb h ?_
    have k9 := k H locs ls hc hs hP hD hS hL
    simp only [List.map_cons, am_v, Int32.ofInt_sub] at k9
    exact k9
  · cases ht
theorem sd_imul {y : MethodName} {cc : ByteArray} {nL : Nat} {ret : Option FieldType} {lev pc : Nat}  (h : decode cc pc = .ok (.imul, 1)) : Sd (y, cc, nL, ret, lev) pc (tI2 (fun a b => a * b)) := by
  rintro ⟨p, l, e, R, s, m, args, below, meth, c, D, K, A, Q⟩ ad cells slots L st M pc' L' st' M' ⟨hx, hb, hml, hr, hlk, hown, hts, hK, hA, hSt, hfr, hlo, hnm⟩ ht k H locs ls hc hs hP hD hS hL
  unfold tI2 at ht
  split at ht
  · next b a r =>
    cases ht
    refine lv_imul hx hb h ?_
    have k9 := k H locs ls hc hs hP hD hS hL
    simp only [List.map_cons, am_v, Int32.ofInt_mul] at k9
    exact k9
  · cases ht
theorem sd_iand {y : MethodName} {cc : ByteArray} {nL : Nat} {ret : Option FieldType} {lev pc : Nat}  (h : decode cc pc = .ok (.iand, 1)) : Sd (y, cc, nL, ret, lev) pc (tI2 oAnd) := by
  rintro ⟨p, l, e, R, s, m, args, below, meth, c, D, K, A, Q⟩ ad cells slots L st M pc' L' st' M' ⟨hx, hb, hml, hr, hlk, hown, hts, hK, hA, hSt, hfr, hlo, hnm⟩ ht k H locs ls hc hs hP hD hS hL
  unfold tI2 at ht
  split at ht
  · next b a r =>
    cases ht
    refine lv_iand hx hb h ?_
    have k9 := k H locs ls hc hs hP hD hS hL
    simp only [List.map_cons, am_v, oAnd, Int32.ofInt_toInt] at k9
    exact k9
  · cases ht
theorem sd_ior {y : MethodName} {cc : ByteArray} {nL : Nat} {ret : Option FieldType} {lev pc : Nat}  (h : decode cc pc = .ok (.ior, 1)) : Sd (y, cc, nL, ret, lev) pc (tI2 oOr) := by
  rintro ⟨p, l, e, R, s, m, args, below, meth, c, D, K, A, Q⟩ ad cells slots L st M pc' L' st' M' ⟨hx, hb, hml, hr, hlk, hown, hts, hK, hA, hSt, hfr, hlo, hnm⟩ ht k H locs ls hc hs hP hD hS hL
  unfold tI2 at ht
  split at ht
  · next b a r =>
    cases ht
    refine lv_ior hx hb h ?_
    have k9 := k H locs ls hc hs hP hD hS hL
    simp only [List.map_cons, am_v, oOr, Int32.ofInt_toInt] at k9
    exact k9
  · cases ht
theorem sd_ishl {y : MethodName} {cc : ByteArray} {nL : Nat} {ret : Option FieldType} {lev pc : Nat}  (h : decode cc pc = .ok (.ishl, 1)) : Sd (y, cc, nL, ret, lev) pc (tI2 oShl) := by
  rintro ⟨p, l, e, R, s, m, args, below, meth, c, D, K, A, Q⟩ ad cells slots L st M pc' L' st' M' ⟨hx, hb, hml, hr, hlk, hown, hts, hK, hA, hSt, hfr, hlo, hnm⟩ ht k H locs ls hc hs hP hD hS hL
  unfold tI2 at ht
  split at ht
  · next b a r =>
    cases ht
    refine lv_ishl hx hb h ?_
    have k9 := k H locs ls hc hs hP hD hS hL
    simp only [List.map_cons, am_v, oShl, Int32.ofInt_toInt] at k9
    exact k9
  · cases ht
theorem sd_ishr {y : MethodName} {cc : ByteArray} {nL : Nat} {ret : Option FieldType} {lev pc : Nat}  (h : decode cc pc = .ok (.ishr, 1)) : Sd (y, cc, nL, ret, lev) pc (tI2 oShr) := by
  rintro ⟨p, l, e, R, s, m, args, below, meth, c, D, K, A, Q⟩ ad cells slots L st M pc' L' st' M' ⟨hx, hb, hml, hr, hlk, hown, hts, hK, hA, hSt, hfr, hlo, hnm⟩ ht k H locs ls hc hs hP hD hS hL
  unfold tI2 at ht
  split at ht
  · next b a r =>
    cases ht
    refine lv_ishr hx hb h ?_
    have k9 := k H locs ls hc hs hP hD hS hL
    simp only [List.map_cons, am_v, oShr, Int32.ofInt_toInt] at k9
    exact k9
  · cases ht
theorem sd_iushr {y : MethodName} {cc : ByteArray} {nL : Nat} {ret : Option FieldType} {lev pc : Nat}  (h : decode cc pc = .ok (.iushr, 1)) : Sd (y, cc, nL, ret, lev) pc (tI2 oUshr) := by
  rintro ⟨p, l, e, R, s, m, args, below, meth, c, D, K, A, Q⟩ ad cells slots L st M pc' L' st' M' ⟨hx, hb, hml, hr, hlk, hown, hts, hK, hA, hSt, hfr, hlo, hnm⟩ ht k H locs ls hc hs hP hD hS hL
  unfold tI2 at ht
  split at ht
  · next b a r =>
    cases ht
    refine lv_iushr hx hb h rfl ?_
    have k9 := k H locs ls hc hs hP hD hS hL
    simp only [List.map_cons, am_v, oUshr, Int32.ofInt_toInt] at k9
    exact k9
  · cases ht
theorem of_ne {b : Int} (h : ¬ wr b = 0) : ¬ Int32.ofInt b = 0 := fun e => h (by rw [← wr_eq, e]; rfl)
theorem of_div (a b : Int) : Int32.ofInt ((wr a).tdiv (wr b)) = Int32.ofInt a / Int32.ofInt b := by
  have h1 := wr_rng a
  have h2 := wr_rng b
  rw [Int32.ofInt_tdiv (by rw [show Int32.minValue.toInt = -2147483648 from rfl]; exact h1.1) (by rw [show Int32.maxValue.toInt = 2147483647 from rfl]; omega) (by rw [show Int32.minValue.toInt = -2147483648 from rfl]; exact h2.1) (by rw [show Int32.maxValue.toInt = 2147483647 from rfl]; omega), of_wr, of_wr]
theorem of_rem (a b : Int) : Int32.ofInt ((wr a).tmod (wr b)) = Int32.ofInt a - Int32.ofInt a / Int32.ofInt b * Int32.ofInt b := by
  rw [← of_div a b, Int.tmod_def, Int32.ofInt_sub, Int32.ofInt_mul, of_wr, of_wr]
  rw [Int32.mul_comm]
theorem sd_idiv {y : MethodName} {cc : ByteArray} {nL : Nat} {ret : Option FieldType} {lev pc : Nat}  (h : decode cc pc = .ok (.idiv, 1)) : Sd (y, cc, nL, ret, lev) pc (tDv Int.tdiv) := by
  rintro ⟨p, l, e, R, s, m, args, below, meth, c, D, K, A, Q⟩ ad cells slots L st M pc' L' st' M' ⟨hx, hb, hml, hr, hlk, hown, hts, hK, hA, hSt, hfr, hlo, hnm⟩ ht k H locs ls hc hs hP hD hS hL
  unfold tDv at ht
  split at ht
  · next b a r =>
    split at ht
    · cases ht
    · next hb0 =>
      cases ht
      refine lv_idiv hx hb h (of_ne hb0) ?_
      have k9 := k H locs ls hc hs hP hD hS hL
      simp only [List.map_cons, am_v, of_div] at k9
      exact k9
  · cases ht
theorem sd_irem {y : MethodName} {cc : ByteArray} {nL : Nat} {ret : Option FieldType} {lev pc : Nat}  (h : decode cc pc = .ok (.irem, 1)) : Sd (y, cc, nL, ret, lev) pc (tDv Int.tmod) := by
  rintro ⟨p, l, e, R, s, m, args, below, meth, c, D, K, A, Q⟩ ad cells slots L st M pc' L' st' M' ⟨hx, hb, hml, hr, hlk, hown, hts, hK, hA, hSt, hfr, hlo, hnm⟩ ht k H locs ls hc hs hP hD hS hL
  unfold tDv at ht
  split at ht
  · next b a r =>
    split at ht
    · cases ht
    · next hb0 =>
      cases ht
      refine lv_irem hx hb h (of_ne hb0) ?_
      have k9 := k H locs ls hc hs hP hD hS hL
      simp only [List.map_cons, am_v, of_rem] at k9
      exact k9
  · cases ht
theorem sd_ladd {y : MethodName} {cc : ByteArray} {nL : Nat} {ret : Option FieldType} {lev pc : Nat}  (h : decode cc pc = .ok (.ladd, 1)) : Sd (y, cc, nL, ret, lev) pc (tL2 (fun a b => a + b)) := by
  rintro ⟨p, l, e, R, s, m, args, below, meth, c, D, K, A, Q⟩ ad cells slots L st M pc' L' st' M' ⟨hx, hb, hml, hr, hlk, hown, hts, hK, hA, hSt, hfr, hlo, hnm⟩ ht k H locs ls hc hs hP hD hS hL
  unfold tL2 at ht
  split at ht
  · next b a r =>
    cases ht
    refine lv_ladd hx hb h ?_
    exact k H locs ls hc hs hP hD hS hL
  · cases ht
theorem sd_lmul {y : MethodName} {cc : ByteArray} {nL : Nat} {ret : Option FieldType} {lev pc : Nat}  (h : decode cc pc = .ok (.lmul, 1)) : Sd (y, cc, nL, ret, lev) pc (tL2 (fun a b => a * b)) := by
  rintro ⟨p, l, e, R, s, m, args, below, meth, c, D, K, A, Q⟩ ad cells slots L st M pc' L' st' M' ⟨hx, hb, hml, hr, hlk, hown, hts, hK, hA, hSt, hfr, hlo, hnm⟩ ht k H locs ls hc hs hP hD hS hL
  unfold tL2 at ht
  split at ht
  · next b a r =>
    cases ht
    refine lv_lmul hx hb h ?_
    exact k H locs ls hc hs hP hD hS hL
  · cases ht
theorem sd_land {y : MethodName} {cc : ByteArray} {nL : Nat} {ret : Option FieldType} {lev pc : Nat}  (h : decode cc pc = .ok (.land, 1)) : Sd (y, cc, nL, ret, lev) pc (tL2 (fun a b => a &&& b)) := by
  rintro ⟨p, l, e, R, s, m, args, below, meth, c, D, K, A, Q⟩ ad cells slots L st M pc' L' st' M' ⟨hx, hb, hml, hr, hlk, hown, hts, hK, hA, hSt, hfr, hlo, hnm⟩ ht k H locs ls hc hs hP hD hS hL
  unfold tL2 at ht
  split at ht
  · next b a r =>
    cases ht
    refine lv_land hx hb h ?_
    exact k H locs ls hc hs hP hD hS hL
  · cases ht
theorem sd_lor {y : MethodName} {cc : ByteArray} {nL : Nat} {ret : Option FieldType} {lev pc : Nat}  (h : decode cc pc = .ok (.lor, 1)) : Sd (y, cc, nL, ret, lev) pc (tL2 (fun a b => a ||| b)) := by
  rintro ⟨p, l, e, R, s, m, args, below, meth, c, D, K, A, Q⟩ ad cells slots L st M pc' L' st' M' ⟨hx, hb, hml, hr, hlk, hown, hts, hK, hA, hSt, hfr, hlo, hnm⟩ ht k H locs ls hc hs hP hD hS hL
  unfold tL2 at ht
  split at ht
  · next b a r =>
    cases ht
    refine lv_lor hx hb h ?_
    exact k H locs ls hc hs hP hD hS hL
  · cases ht
theorem sd_lrem {y : MethodName} {cc : ByteArray} {nL : Nat} {ret : Option FieldType} {lev pc : Nat}  (h : decode cc pc = .ok (.lrem, 1)) : Sd (y, cc, nL, ret, lev) pc (tLrem) := by
  rintro ⟨p, l, e, R, s, m, args, below, meth, c, D, K, A, Q⟩ ad cells slots L st M pc' L' st' M' ⟨hx, hb, hml, hr, hlk, hown, hts, hK, hA, hSt, hfr, hlo, hnm⟩ ht k H locs ls hc hs hP hD hS hL
  unfold tLrem at ht
  split at ht
  · next b a r =>
    split at ht
    · cases ht
    · next hb0 =>
      cases ht
      refine lv_lrem hx hb h hb0 ?_
      exact k H locs ls hc hs hP hD hS hL
  · cases ht
theorem sd_lushr {y : MethodName} {cc : ByteArray} {nL : Nat} {ret : Option FieldType} {lev pc : Nat}  (h : decode cc pc = .ok (.lushr, 1)) : Sd (y, cc, nL, ret, lev) pc (tLs oLushr) := by
  rintro ⟨p, l, e, R, s, m, args, below, meth, c, D, K, A, Q⟩ ad cells slots L st M pc' L' st' M' ⟨hx, hb, hml, hr, hlk, hown, hts, hK, hA, hSt, hfr, hlo, hnm⟩ ht k H locs ls hc hs hP hD hS hL
  unfold tLs at ht
  split at ht
  · next b a r =>
    cases ht
    refine lv_lushr hx hb h rfl ?_
    exact k H locs ls hc hs hP hD hS hL
  · cases ht
theorem sd_lshl {y : MethodName} {cc : ByteArray} {nL : Nat} {ret : Option FieldType} {lev pc : Nat}  (h : decode cc pc = .ok (.lshl, 1)) : Sd (y, cc, nL, ret, lev) pc (tLs oLshl) := by
  rintro ⟨p, l, e, R, s, m, args, below, meth, c, D, K, A, Q⟩ ad cells slots L st M pc' L' st' M' ⟨hx, hb, hml, hr, hlk, hown, hts, hK, hA, hSt, hfr, hlo, hnm⟩ ht k H locs ls hc hs hP hD hS hL
  unfold tLs at ht
  split at ht
  · next b a r =>
    cases ht
    refine lv_lshl hx hb h rfl ?_
    exact k H locs ls hc hs hP hD hS hL
  · cases ht
theorem sd_lcmp {y : MethodName} {cc : ByteArray} {nL : Nat} {ret : Option FieldType} {lev pc : Nat}  (h : decode cc pc = .ok (.lcmp, 1)) : Sd (y, cc, nL, ret, lev) pc (tLcmp) := by
  rintro ⟨p, l, e, R, s, m, args, below, meth, c, D, K, A, Q⟩ ad cells slots L st M pc' L' st' M' ⟨hx, hb, hml, hr, hlk, hown, hts, hK, hA, hSt, hfr, hlo, hnm⟩ ht k H locs ls hc hs hP hD hS hL
  unfold tLcmp at ht
  split at ht
  · next b a r =>
    cases ht
    refine W.lcmp hx hb h ?_
    have k9 := k H locs ls hc hs hP hD hS hL
    have e : lg_cmp a b = Int32.ofInt (if b < a then 1 else if a = b then 0 else -1) := by
      unfold lg_cmp
      by_cases h1 : b < a
      · simp [h1]
      · by_cases h2 : a = b <;> simp [h1, h2]
    rw [e]
    exact k9
  · cases ht
theorem sd_i2l {y : MethodName} {cc : ByteArray} {nL : Nat} {ret : Option FieldType} {lev pc : Nat}  (h : decode cc pc = .ok (.i2l, 1)) : Sd (y, cc, nL, ret, lev) pc (tI2l) := by
  rintro ⟨p, l, e, R, s, m, args, below, meth, c, D, K, A, Q⟩ ad cells slots L st M pc' L' st' M' ⟨hx, hb, hml, hr, hlk, hown, hts, hK, hA, hSt, hfr, hlo, hnm⟩ ht k H locs ls hc hs hP hD hS hL
  unfold tI2l at ht
  split at ht
  · cases ht
    refine lv_i2l hx hb h rfl ?_
    exact k H locs ls hc hs hP hD hS hL
  · cases ht
theorem sd_l2i {y : MethodName} {cc : ByteArray} {nL : Nat} {ret : Option FieldType} {lev pc : Nat}  (h : decode cc pc = .ok (.l2i, 1)) : Sd (y, cc, nL, ret, lev) pc (tL2i) := by
  rintro ⟨p, l, e, R, s, m, args, below, meth, c, D, K, A, Q⟩ ad cells slots L st M pc' L' st' M' ⟨hx, hb, hml, hr, hlk, hown, hts, hK, hA, hSt, hfr, hlo, hnm⟩ ht k H locs ls hc hs hP hD hS hL
  unfold tL2i at ht
  split at ht
  · cases ht
    refine lv_l2i hx hb h rfl ?_
    have k9 := k H locs ls hc hs hP hD hS hL
    simp only [List.map_cons, am_v, Int32.ofInt_toInt] at k9
    exact k9
  · cases ht
theorem sd_i2c {y : MethodName} {cc : ByteArray} {nL : Nat} {ret : Option FieldType} {lev pc : Nat}  (h : decode cc pc = .ok (.i2c, 1)) : Sd (y, cc, nL, ret, lev) pc (tI2c) := by
  rintro ⟨p, l, e, R, s, m, args, below, meth, c, D, K, A, Q⟩ ad cells slots L st M pc' L' st' M' ⟨hx, hb, hml, hr, hlk, hown, hts, hK, hA, hSt, hfr, hlo, hnm⟩ ht k H locs ls hc hs hP hD hS hL
  unfold tI2c at ht
  split at ht
  · cases ht
    refine lv_i2c hx hb h rfl ?_
    have k9 := k H locs ls hc hs hP hD hS hL
    simp only [List.map_cons, am_v, Int32.ofInt_toInt] at k9
    exact k9
  · cases ht
theorem am_one_cat {ad : Nat → Nat} {v : AV} (h : am_one v = true) : (am_v ad v).category = 1 := by
  rw [am_cat]
  rcases v with z | w | (_ | k)
  · rfl
  · cases h
  · rfl
  · rfl
theorem sd_dup {y : MethodName} {cc : ByteArray} {nL : Nat} {ret : Option FieldType} {lev pc : Nat}  (h : decode cc pc = .ok (.dup, 1)) : Sd (y, cc, nL, ret, lev) pc (tDup) := by
  rintro ⟨p, l, e, R, s, m, args, below, meth, c, D, K, A, Q⟩ ad cells slots L st M pc' L' st' M' ⟨hx, hb, hml, hr, hlk, hown, hts, hK, hA, hSt, hfr, hlo, hnm⟩ ht k H locs ls hc hs hP hD hS hL
  unfold tDup at ht
  split at ht
  · next v r =>
    split at ht
    · next hv =>
      cases ht
      refine lv_dup hx hb h (am_one_cat hv) ?_
      exact k H locs ls hc hs hP hD hS hL
    · cases ht
  · cases ht
theorem sd_dup2 {y : MethodName} {cc : ByteArray} {nL : Nat} {ret : Option FieldType} {lev pc : Nat}  (h : decode cc pc = .ok (.dup2, 1)) : Sd (y, cc, nL, ret, lev) pc (tDup2) := by
  rintro ⟨p, l, e, R, s, m, args, below, meth, c, D, K, A, Q⟩ ad cells slots L st M pc' L' st' M' ⟨hx, hb, hml, hr, hlk, hown, hts, hK, hA, hSt, hfr, hlo, hnm⟩ ht k H locs ls hc hs hP hD hS hL
  unfold tDup2 at ht
  split at ht
  · next v u r =>
    split at ht
    · next hv =>
      simp only [Bool.and_eq_true] at hv
      cases ht
      refine lv_dup2_11 hx hb h (am_one_cat hv.1) (am_one_cat hv.2) ?_
      exact k H locs ls hc hs hP hD hS hL
    · cases ht
  · cases ht
theorem sd_pop {y : MethodName} {cc : ByteArray} {nL : Nat} {ret : Option FieldType} {lev pc : Nat}  (h : decode cc pc = .ok (.pop, 1)) : Sd (y, cc, nL, ret, lev) pc (tPop) := by
  rintro ⟨p, l, e, R, s, m, args, below, meth, c, D, K, A, Q⟩ ad cells slots L st M pc' L' st' M' ⟨hx, hb, hml, hr, hlk, hown, hts, hK, hA, hSt, hfr, hlo, hnm⟩ ht k H locs ls hc hs hP hD hS hL
  unfold tPop at ht
  split at ht
  · next v r =>
    split at ht
    · next hv =>
      cases ht
      refine lv_pop hx hb h (am_one_cat hv) ?_
      exact k H locs ls hc hs hP hD hS hL
    · cases ht
  · cases ht
theorem sd_goto {y : MethodName} {cc : ByteArray} {nL : Nat} {ret : Option FieldType} {lev pc : Nat} {off : Int} {tgt : Nat} (ht0 : (pc : Int) + off = (tgt : Int)) (h : decode cc pc = .ok (.goto off, 3)) : Sd (y, cc, nL, ret, lev) pc (tGo tgt) := by
  rintro ⟨p, l, e, R, s, m, args, below, meth, c, D, K, A, Q⟩ ad cells slots L st M pc' L' st' M' ⟨hx, hb, hml, hr, hlk, hown, hts, hK, hA, hSt, hfr, hlo, hnm⟩ ht k H locs ls hc hs hP hD hS hL
  cases ht
  refine lv_goto hx hb h ht0 ?_
  exact k H locs ls hc hs hP hD hS hL
theorem sd_if_eq {y : MethodName} {cc : ByteArray} {nL : Nat} {ret : Option FieldType} {lev pc : Nat} {off : Int} {tgt : Nat} (ht0 : (pc : Int) + off = (tgt : Int)) (h : decode cc pc = .ok (.ifCond .eq off, 3)) : Sd (y, cc, nL, ret, lev) pc (tIfeq tgt) := by
  rintro ⟨p, l, e, R, s, m, args, below, meth, c, D, K, A, Q⟩ ad cells slots L st M pc' L' st' M' ⟨hx, hb, hml, hr, hlk, hown, hts, hK, hA, hSt, hfr, hlo, hnm⟩ ht k H locs ls hc hs hP hD hS hL
  unfold tIfeq at ht
  split at ht
  · next a r =>
    cases ht
    refine lv_if_eq hx hb h ht0 (fun q => ?_) (fun q => ?_)
    · rw [of_z, of_eq, wr_0] at q
      have k9 := k H locs ls hc hs hP hD hS hL
      rw [if_pos q] at k9
      exact k9
    · rw [of_z, of_eq, wr_0] at q
      have k9 := k H locs ls hc hs hP hD hS hL
      rw [if_neg q] at k9
      exact k9
  · cases ht
theorem sd_cm_eq {y : MethodName} {cc : ByteArray} {nL : Nat} {ret : Option FieldType} {lev pc : Nat} {off : Int} {tgt : Nat} (ht0 : (pc : Int) + off = (tgt : Int)) (h : decode cc pc = .ok (.if_icmp .eq off, 3)) : Sd (y, cc, nL, ret, lev) pc (tCmeq tgt) := by
  rintro ⟨p, l, e, R, s, m, args, below, meth, c, D, K, A, Q⟩ ad cells slots L st M pc' L' st' M' ⟨hx, hb, hml, hr, hlk, hown, hts, hK, hA, hSt, hfr, hlo, hnm⟩ ht k H locs ls hc hs hP hD hS hL
  unfold tCmeq at ht
  split at ht
  · next b a r =>
    cases ht
    refine lv_icmp_eq hx hb h ht0 (fun q => ?_) (fun q => ?_)
    · rw [of_eq] at q
      have k9 := k H locs ls hc hs hP hD hS hL
      rw [if_pos q] at k9
      exact k9
    · rw [of_eq] at q
      have k9 := k H locs ls hc hs hP hD hS hL
      rw [if_neg q] at k9
      exact k9
  · cases ht
theorem sd_if_ne {y : MethodName} {cc : ByteArray} {nL : Nat} {ret : Option FieldType} {lev pc : Nat} {off : Int} {tgt : Nat} (ht0 : (pc : Int) + off = (tgt : Int)) (h : decode cc pc = .ok (.ifCond .ne off, 3)) : Sd (y, cc, nL, ret, lev) pc (tIfne tgt) := by
  rintro ⟨p, l, e, R, s, m, args, below, meth, c, D, K, A, Q⟩ ad cells slots L st M pc' L' st' M' ⟨hx, hb, hml, hr, hlk, hown, hts, hK, hA, hSt, hfr, hlo, hnm⟩ ht k H locs ls hc hs hP hD hS hL
  unfold tIfne at ht
  split at ht
  · next a r =>
    cases ht
    refine lv_if_ne hx hb h ht0 (fun q => ?_) (fun q => ?_)
    · have q : wr a ≠ 0 := fun z => q (by rw [of_z, of_eq, z, wr_0])
      have k9 := k H locs ls hc hs hP hD hS hL
      rw [if_pos q] at k9
      exact k9
    · have q : ¬ wr a ≠ 0 := by rw [of_z, of_eq, wr_0] at q; exact fun z => z q
      have k9 := k H locs ls hc hs hP hD hS hL
      rw [if_neg q] at k9
      exact k9
  · cases ht
theorem sd_cm_ne {y : MethodName} {cc : ByteArray} {nL : Nat} {ret : Option FieldType} {lev pc : Nat} {off : Int} {tgt : Nat} (ht0 : (pc : Int) + off = (tgt : Int)) (h : decode cc pc = .ok (.if_icmp .ne off, 3)) : Sd (y, cc, nL, ret, lev) pc (tCmne tgt) := by
  rintro ⟨p, l, e, R, s, m, args, below, meth, c, D, K, A, Q⟩ ad cells slots L st M pc' L' st' M' ⟨hx, hb, hml, hr, hlk, hown, hts, hK, hA, hSt, hfr, hlo, hnm⟩ ht k H locs ls hc hs hP hD hS hL
  unfold tCmne at ht
  split at ht
  · next b a r =>
    cases ht
    refine lv_icmp_ne hx hb h ht0 (fun q => ?_) (fun q => ?_)
    · have q : wr a ≠ wr b := fun z => q (by rw [of_eq, z])
      have k9 := k H locs ls hc hs hP hD hS hL
      rw [if_pos q] at k9
      exact k9
    · have q : ¬ wr a ≠ wr b := by rw [of_eq] at q; exact fun z => z q
      have k9 := k H locs ls hc hs hP hD hS hL
      rw [if_neg q] at k9
      exact k9
  · cases ht
theorem sd_if_lt {y : MethodName} {cc : ByteArray} {nL : Nat} {ret : Option FieldType} {lev pc : Nat} {off : Int} {tgt : Nat} (ht0 : (pc : Int) + off = (tgt : Int)) (h : decode cc pc = .ok (.ifCond .lt off, 3)) : Sd (y, cc, nL, ret, lev) pc (tIflt tgt) := by
  rintro ⟨p, l, e, R, s, m, args, below, meth, c, D, K, A, Q⟩ ad cells slots L st M pc' L' st' M' ⟨hx, hb, hml, hr, hlk, hown, hts, hK, hA, hSt, hfr, hlo, hnm⟩ ht k H locs ls hc hs hP hD hS hL
  unfold tIflt at ht
  split at ht
  · next a r =>
    cases ht
    refine lv_if_lt hx hb h ht0 (fun q => ?_) (fun q => ?_)
    · rw [of_z, of_lt, wr_0] at q
      have k9 := k H locs ls hc hs hP hD hS hL
      rw [if_pos q] at k9
      exact k9
    · rw [of_z, of_lt, wr_0] at q
      have k9 := k H locs ls hc hs hP hD hS hL
      rw [if_neg q] at k9
      exact k9
  · cases ht
theorem sd_cm_lt {y : MethodName} {cc : ByteArray} {nL : Nat} {ret : Option FieldType} {lev pc : Nat} {off : Int} {tgt : Nat} (ht0 : (pc : Int) + off = (tgt : Int)) (h : decode cc pc = .ok (.if_icmp .lt off, 3)) : Sd (y, cc, nL, ret, lev) pc (tCmlt tgt) := by
  rintro ⟨p, l, e, R, s, m, args, below, meth, c, D, K, A, Q⟩ ad cells slots L st M pc' L' st' M' ⟨hx, hb, hml, hr, hlk, hown, hts, hK, hA, hSt, hfr, hlo, hnm⟩ ht k H locs ls hc hs hP hD hS hL
  unfold tCmlt at ht
  split at ht
  · next b a r =>
    cases ht
    refine lv_icmp_lt hx hb h ht0 (fun q => ?_) (fun q => ?_)
    · rw [of_lt] at q
      have k9 := k H locs ls hc hs hP hD hS hL
      rw [if_pos q] at k9
      exact k9
    · rw [of_lt] at q
      have k9 := k H locs ls hc hs hP hD hS hL
      rw [if_neg q] at k9
      exact k9
  · cases ht
theorem sd_if_ge {y : MethodName} {cc : ByteArray} {nL : Nat} {ret : Option FieldType} {lev pc : Nat} {off : Int} {tgt : Nat} (ht0 : (pc : Int) + off = (tgt : Int)) (h : decode cc pc = .ok (.ifCond .ge off, 3)) : Sd (y, cc, nL, ret, lev) pc (tIfge tgt) := by
  rintro ⟨p, l, e, R, s, m, args, below, meth, c, D, K, A, Q⟩ ad cells slots L st M pc' L' st' M' ⟨hx, hb, hml, hr, hlk, hown, hts, hK, hA, hSt, hfr, hlo, hnm⟩ ht k H locs ls hc hs hP hD hS hL
  unfold tIfge at ht
  split at ht
  · next a r =>
    cases ht
    refine lv_if_ge hx hb h ht0 (fun q => ?_) (fun q => ?_)
    · rw [of_z, of_le, wr_0] at q
      have k9 := k H locs ls hc hs hP hD hS hL
      rw [if_pos q] at k9
      exact k9
    · rw [of_z, of_le, wr_0] at q
      have k9 := k H locs ls hc hs hP hD hS hL
      rw [if_neg q] at k9
      exact k9
  · cases ht
theorem sd_cm_ge {y : MethodName} {cc : ByteArray} {nL : Nat} {ret : Option FieldType} {lev pc : Nat} {off : Int} {tgt : Nat} (ht0 : (pc : Int) + off = (tgt : Int)) (h : decode cc pc = .ok (.if_icmp .ge off, 3)) : Sd (y, cc, nL, ret, lev) pc (tCmge tgt) := by
  rintro ⟨p, l, e, R, s, m, args, below, meth, c, D, K, A, Q⟩ ad cells slots L st M pc' L' st' M' ⟨hx, hb, hml, hr, hlk, hown, hts, hK, hA, hSt, hfr, hlo, hnm⟩ ht k H locs ls hc hs hP hD hS hL
  unfold tCmge at ht
  split at ht
  · next b a r =>
    cases ht
    refine lv_icmp_ge hx hb h ht0 (fun q => ?_) (fun q => ?_)
    · rw [of_le] at q
      have k9 := k H locs ls hc hs hP hD hS hL
      rw [if_pos q] at k9
      exact k9
    · rw [of_le] at q
      have k9 := k H locs ls hc hs hP hD hS hL
      rw [if_neg q] at k9
      exact k9
  · cases ht
theorem sd_if_gt {y : MethodName} {cc : ByteArray} {nL : Nat} {ret : Option FieldType} {lev pc : Nat} {off : Int} {tgt : Nat} (ht0 : (pc : Int) + off = (tgt : Int)) (h : decode cc pc = .ok (.ifCond .gt off, 3)) : Sd (y, cc, nL, ret, lev) pc (tIfgt tgt) := by
  rintro ⟨p, l, e, R, s, m, args, below, meth, c, D, K, A, Q⟩ ad cells slots L st M pc' L' st' M' ⟨hx, hb, hml, hr, hlk, hown, hts, hK, hA, hSt, hfr, hlo, hnm⟩ ht k H locs ls hc hs hP hD hS hL
  unfold tIfgt at ht
  split at ht
  · next a r =>
    cases ht
    refine lv_if_gt hx hb h ht0 (fun q => ?_) (fun q => ?_)
    · rw [of_z, of_lt, wr_0] at q
      have k9 := k H locs ls hc hs hP hD hS hL
      rw [if_pos q] at k9
      exact k9
    · rw [of_z, of_lt, wr_0] at q
      have k9 := k H locs ls hc hs hP hD hS hL
      rw [if_neg q] at k9
      exact k9
  · cases ht
theorem sd_cm_gt {y : MethodName} {cc : ByteArray} {nL : Nat} {ret : Option FieldType} {lev pc : Nat} {off : Int} {tgt : Nat} (ht0 : (pc : Int) + off = (tgt : Int)) (h : decode cc pc = .ok (.if_icmp .gt off, 3)) : Sd (y, cc, nL, ret, lev) pc (tCmgt tgt) := by
  rintro ⟨p, l, e, R, s, m, args, below, meth, c, D, K, A, Q⟩ ad cells slots L st M pc' L' st' M' ⟨hx, hb, hml, hr, hlk, hown, hts, hK, hA, hSt, hfr, hlo, hnm⟩ ht k H locs ls hc hs hP hD hS hL
  unfold tCmgt at ht
  split at ht
  · next b a r =>
    cases ht
    refine lv_icmp_gt hx hb h ht0 (fun q => ?_) (fun q => ?_)
    · rw [of_lt] at q
      have k9 := k H locs ls hc hs hP hD hS hL
      rw [if_pos q] at k9
      exact k9
    · rw [of_lt] at q
      have k9 := k H locs ls hc hs hP hD hS hL
      rw [if_neg q] at k9
      exact k9
  · cases ht
theorem sd_if_le {y : MethodName} {cc : ByteArray} {nL : Nat} {ret : Option FieldType} {lev pc : Nat} {off : Int} {tgt : Nat} (ht0 : (pc : Int) + off = (tgt : Int)) (h : decode cc pc = .ok (.ifCond .le off, 3)) : Sd (y, cc, nL, ret, lev) pc (tIfle tgt) := by
  rintro ⟨p, l, e, R, s, m, args, below, meth, c, D, K, A, Q⟩ ad cells slots L st M pc' L' st' M' ⟨hx, hb, hml, hr, hlk, hown, hts, hK, hA, hSt, hfr, hlo, hnm⟩ ht k H locs ls hc hs hP hD hS hL
  unfold tIfle at ht
  split at ht
  · next a r =>
    cases ht
    refine lv_if_le hx hb h ht0 (fun q => ?_) (fun q => ?_)
    · rw [of_z, of_le, wr_0] at q
      have k9 := k H locs ls hc hs hP hD hS hL
      rw [if_pos q] at k9
      exact k9
    · rw [of_z, of_le, wr_0] at q
      have k9 := k H locs ls hc hs hP hD hS hL
      rw [if_neg q] at k9
      exact k9
  · cases ht
theorem sd_cm_le {y : MethodName} {cc : ByteArray} {nL : Nat} {ret : Option FieldType} {lev pc : Nat} {off : Int} {tgt : Nat} (ht0 : (pc : Int) + off = (tgt : Int)) (h : decode cc pc = .ok (.if_icmp .le off, 3)) : Sd (y, cc, nL, ret, lev) pc (tCmle tgt) := by
  rintro ⟨p, l, e, R, s, m, args, below, meth, c, D, K, A, Q⟩ ad cells slots L st M pc' L' st' M' ⟨hx, hb, hml, hr, hlk, hown, hts, hK, hA, hSt, hfr, hlo, hnm⟩ ht k H locs ls hc hs hP hD hS hL
  unfold tCmle at ht
  split at ht
  · next b a r =>
    cases ht
    refine lv_icmp_le hx hb h ht0 (fun q => ?_) (fun q => ?_)
    · rw [of_le] at q
      have k9 := k H locs ls hc hs hP hD hS hL
      rw [if_pos q] at k9
      exact k9
    · rw [of_le] at q
      have k9 := k H locs ls hc hs hP hD hS hL
      rw [if_neg q] at k9
      exact k9
  · cases ht
theorem sd_ifnull {y : MethodName} {cc : ByteArray} {nL : Nat} {ret : Option FieldType} {lev pc : Nat} {off : Int} {tgt : Nat} (ht0 : (pc : Int) + off = (tgt : Int)) (h : decode cc pc = .ok (.ifnull off, 3)) : Sd (y, cc, nL, ret, lev) pc (tNu tgt) := by
  rintro ⟨p, l, e, R, s, m, args, below, meth, c, D, K, A, Q⟩ ad cells slots L st M pc' L' st' M' ⟨hx, hb, hml, hr, hlk, hown, hts, hK, hA, hSt, hfr, hlo, hnm⟩ ht k H locs ls hc hs hP hD hS hL
  unfold tNu at ht
  split at ht
  · cases ht
    refine lv_ifnullN hx hb h ht0 ?_
    exact k H locs ls hc hs hP hD hS hL
  · cases ht
    refine lv_ifnull hx hb h ?_
    exact k H locs ls hc hs hP hD hS hL
  · cases ht
theorem sd_getf {y : MethodName} {cc : ByteArray} {nL : Nat} {ret : Option FieldType} {lev pc : Nat} {idx ci k0 : Nat} {C : String} {T : u_T} {N : Nat} (hcl : vwCl[ci]? = some (C, T, N)) (hin : ∀ w ∈ u_ws C T N, w ∈ GB) (hk : k0 < N) (hlk0 : Cond.fieldLink y.cls idx (T k0).1 (T k0).2.1 (T k0).2.2.1 ∈ GB) (h : decode cc pc = .ok (.getfield idx, 3)) : Sd (y, cc, nL, ret, lev) pc (tGf ci k0) := by
  rintro ⟨p, l, e, R, s, m, args, below, meth, c, D, K, A, Q⟩ ad cells slots L st M pc' L' st' M' ⟨hx, hb, hml, hr, hlk, hown, hts, hK, hA, hSt, hfr, hlo, hnm⟩ ht k H locs ls hc hs hP hD hS hL
  unfold tGf at ht
  split at ht
  · next q r =>
    split at ht
    · next cc0 fs hM =>
      split at ht
      · next hce =>
        split at ht
        · next v hv =>
          cases ht
          subst hce
          refine va_get (D := D) (cl := vwCl) (v := am_v ad v) hx hb hts hin hown hK hP q (am_w_at hM) hcl k0 hk (hts _ hlk0) (fun _ h9 => h9) (by rw [List.getElem?_map, hv]; rfl) h ?_
          exact k H locs ls hc hs hP hD hS hL
        · cases ht
      · cases ht
    · cases ht
  · cases ht
theorem sd_putf {y : MethodName} {cc : ByteArray} {nL : Nat} {ret : Option FieldType} {lev pc : Nat} {idx ci k0 : Nat} {C : String} {T : u_T} {N : Nat} (hcl : vwCl[ci]? = some (C, T, N)) (hin : ∀ w ∈ u_ws C T N, w ∈ GB) (hk : k0 < N) (hlk0 : Cond.fieldLink y.cls idx (T k0).1 (T k0).2.1 (T k0).2.2.1 ∈ GB) (ty0 : Nat → FieldType) (hty : ∀ k, k < N → parseFieldDescriptor (T k).2.2.1 = some (ty0 k)) (hnn : ∀ a, a < N → ∀ b, b < N → a ≠ b → (T a).2.1 ≠ (T b).2.1) {kd : AV → Bool} (hkd : ∀ (ad : Nat → Nat) (v : AV), kd v = true → narrow (ty0 k0) (am_v ad v) = am_v ad v ∧ fits (ty0 k0) (am_v ad v) = true) (hfin : (T k0).2.2.2 = false) (h : decode cc pc = .ok (.putfield idx, 3)) : Sd (y, cc, nL, ret, lev) pc (tPf kd ci k0) := by
  rintro ⟨p, l, e, R, s, m, args, below, meth, c, D, K, A, Q⟩ ad cells slots L st M pc' L' st' M' ⟨hx, hb, hml, hr, hlk, hown, hts, hK, hA, hSt, hfr, hlo, hnm⟩ ht k H locs ls hc hs hP hD hS hL
  unfold tPf at ht
  split at ht
  · next v q r =>
    split at ht
    · next cc0 fs hM =>
      split at ht
      · next hce =>
        simp only [Bool.and_eq_true, decide_eq_true_eq] at hce
        obtain ⟨⟨h1, h2⟩, h3⟩ := hce
        cases ht
        subst h1
        refine va_put (D := D) (cl := vwCl) (v := am_v ad v) hx hb hts hin ty0 hty hnn hown hK hP hD hS q (am_w_at hM) hcl k0 hk (hts _ hlk0) (fun _ h9 => h9) hfin (hty k0 hk) (hkd ad v h2).1 (hkd ad v h2).2 (by rw [List.length_map]; exact h3) h (fun H1 locs1 hP1 hD1 hS1 => ?_)
        refine k H1 locs1 ls hc hs ?_ ?_ hS1 hL
        · rw [am_w_set]; simpa only [am_c, List.map_set] using hP1
        · rw [am_w_set]; simpa only [am_c, List.map_set] using hD1
      · cases ht
    · cases ht
  · cases ht
theorem sd_putF {y : MethodName} {cc : ByteArray} {nL : Nat} {ret : Option FieldType} {lev pc : Nat} {idx ci k0 : Nat} {C : String} {T : u_T} {N : Nat} (hcl : vwCl[ci]? = some (C, T, N)) (hin : ∀ w ∈ u_ws C T N, w ∈ GB) (hk : k0 < N) (hlk0 : Cond.fieldLink y.cls idx (T k0).1 (T k0).2.1 (T k0).2.2.1 ∈ GB) (ty0 : Nat → FieldType) (hty : ∀ k, k < N → parseFieldDescriptor (T k).2.2.1 = some (ty0 k)) (hnn : ∀ a, a < N → ∀ b, b < N → a ≠ b → (T a).2.1 ≠ (T b).2.1) {kd : AV → Bool} (hkd : ∀ (ad : Nat → Nat) (v : AV), kd v = true → narrow (ty0 k0) (am_v ad v) = am_v ad v ∧ fits (ty0 k0) (am_v ad v) = true) (hfin : (T k0).2.2.2 = true) (hy : y.name = "<init>") (hdecl : (T k0).1 = y.cls) (h : decode cc pc = .ok (.putfield idx, 3)) : Sd (y, cc, nL, ret, lev) pc (tPf kd ci k0) := by
  rintro ⟨p, l, e, R, s, m, args, below, meth, c, D, K, A, Q⟩ ad cells slots L st M pc' L' st' M' ⟨hx, hb, hml, hr, hlk, hown, hts, hK, hA, hSt, hfr, hlo, hnm⟩ ht k H locs ls hc hs hP hD hS hL
  unfold tPf at ht
  split at ht
  · next v q r =>
    split at ht
    · next cc0 fs hM =>
      split at ht
      · next hce =>
        simp only [Bool.and_eq_true, decide_eq_true_eq] at hce
        obtain ⟨⟨h1, h2⟩, h3⟩ := hce
        cases ht
        subst h1
        refine va_putF (D := D) (cl := vwCl) (v := am_v ad v) hx hb hts hin ty0 hty hnn hown hK hP hD hS q (am_w_at hM) hcl k0 hk (hts _ hlk0) (fun _ h9 => h9) hfin (hnm.trans hy) hdecl (hty k0 hk) (hkd ad v h2).1 (hkd ad v h2).2 (by rw [List.length_map]; exact h3) h (fun H1 locs1 hP1 hD1 hS1 => ?_)
        refine k H1 locs1 ls hc hs ?_ ?_ hS1 hL
        · rw [am_w_set]; simpa only [am_c, List.map_set] using hP1
        · rw [am_w_set]; simpa only [am_c, List.map_set] using hD1
      · cases ht
    · cases ht
  · cases ht
def kI (v : AV) : Bool := match v with | .inl _ => true | _ => false
def kJ (v : AV) : Bool := match v with | .inr (.inl _) => true | _ => false
def kR (v : AV) : Bool := match v with | .inr (.inr _) => true | _ => false
theorem kI_ok (ad : Nat → Nat) (v : AV) (h : kI v = true) : narrow .int (am_v ad v) = am_v ad v ∧ fits .int (am_v ad v) = true := by
  rcases v with z | w | (_ | k) <;> first | (cases h; done) | exact ⟨rfl, rfl⟩
theorem kJ_ok (ad : Nat → Nat) (v : AV) (h : kJ v = true) : narrow .long (am_v ad v) = am_v ad v ∧ fits .long (am_v ad v) = true := by
  rcases v with z | w | (_ | k) <;> first | (cases h; done) | exact ⟨rfl, rfl⟩
theorem kO_ok (C : String) (ad : Nat → Nat) (v : AV) (h : kR v = true) : narrow (.object C) (am_v ad v) = am_v ad v ∧ fits (.object C) (am_v ad v) = true := by
  rcases v with z | w | (_ | k) <;> first | (cases h; done) | exact ⟨rfl, rfl⟩
theorem kA_ok (t : FieldType) (ad : Nat → Nat) (v : AV) (h : kR v = true) : narrow (.array t) (am_v ad v) = am_v ad v ∧ fits (.array t) (am_v ad v) = true := by
  rcases v with z | w | (_ | k) <;> first | (cases h; done) | exact ⟨rfl, rfl⟩
theorem sd_gsTens {y : MethodName} {cc : ByteArray} {nL : Nat} {ret : Option FieldType} {lev pc : Nat} {idx : Nat} (hl0 : Cond.fieldLink y.cls idx "FourthCorner" "TENS" "[I" ∈ GB) (h : decode cc pc = .ok (.getstatic idx, 3)) : Sd (y, cc, nL, ret, lev) pc (tGs (vR 1000)) := by
  rintro ⟨p, l, e, R, s, m, args, below, meth, c, D, K, A, Q⟩ ad cells slots L st M pc' L' st' M' ⟨hx, hb, hml, hr, hlk, hown, hts, hK, hA, hSt, hfr, hlo, hnm⟩ ht k H locs ls hc hs hP hD hS hL
  cases ht
  refine va_gets hx hb hSt.1.1 hS hown (hts _ hl0) (fun _ h9 => h9) h ?_
  exact k H locs ls hc hs hP hD hS hL
theorem sd_gsSevens {y : MethodName} {cc : ByteArray} {nL : Nat} {ret : Option FieldType} {lev pc : Nat} {idx : Nat} (hl0 : Cond.fieldLink y.cls idx "FourthCorner" "SEVENS" "[I" ∈ GB) (h : decode cc pc = .ok (.getstatic idx, 3)) : Sd (y, cc, nL, ret, lev) pc (tGs (vR 1001)) := by
  rintro ⟨p, l, e, R, s, m, args, below, meth, c, D, K, A, Q⟩ ad cells slots L st M pc' L' st' M' ⟨hx, hb, hml, hr, hlk, hown, hts, hK, hA, hSt, hfr, hlo, hnm⟩ ht k H locs ls hc hs hP hD hS hL
  cases ht
  refine va_gets hx hb hSt.2.1.1 hS hown (hts _ hl0) (fun _ h9 => h9) h ?_
  exact k H locs ls hc hs hP hD hS hL
theorem sd_gsOrders {y : MethodName} {cc : ByteArray} {nL : Nat} {ret : Option FieldType} {lev pc : Nat} {idx : Nat} (hl0 : Cond.fieldLink y.cls idx "FourthCorner" "ORDERS" "[I" ∈ GB) (h : decode cc pc = .ok (.getstatic idx, 3)) : Sd (y, cc, nL, ret, lev) pc (tGs (vR 1002)) := by
  rintro ⟨p, l, e, R, s, m, args, below, meth, c, D, K, A, Q⟩ ad cells slots L st M pc' L' st' M' ⟨hx, hb, hml, hr, hlk, hown, hts, hK, hA, hSt, hfr, hlo, hnm⟩ ht k H locs ls hc hs hP hD hS hL
  cases ht
  refine va_gets hx hb hSt.2.2.1.1 hS hown (hts _ hl0) (fun _ h9 => h9) h ?_
  exact k H locs ls hc hs hP hD hS hL
theorem sd_gsSevensN {y : MethodName} {cc : ByteArray} {nL : Nat} {ret : Option FieldType} {lev pc : Nat} {idx : Nat} (hl0 : Cond.fieldLinkNest y.cls idx "FourthCorner" "SEVENS" "[I" RX5 ∈ am_nest) (h : decode cc pc = .ok (.getstatic idx, 3)) : Sd (y, cc, nL, ret, lev) pc (tGs (vR 1001)) := by
  rintro ⟨p, l, e, R, s, m, args, below, meth, c, D, K, A, Q⟩ ad cells slots L st M pc' L' st' M' ⟨hx, hb, hml, hr, hlk, hown, hts, hK, hA, hSt, hfr, hlo, hnm⟩ ht k H locs ls hc hs hP hD hS hL
  cases ht
  refine va_getsN hx hb hSt.2.1.1 hS hown (va_Nw.use rfl (hSt.2.2.2.2.2.2.2.1 _ hl0)) (fun _ h9 => h9) h ?_
  exact k H locs ls hc hs hP hD hS hL
theorem sd_gsCompact {y : MethodName} {cc : ByteArray} {nL : Nat} {ret : Option FieldType} {lev pc : Nat} {idx : Nat} (hl0 : Cond.fieldLink y.cls idx "java/lang/String" "COMPACT_STRINGS" "Z" ∈ GB) (h : decode cc pc = .ok (.getstatic idx, 3)) : Sd (y, cc, nL, ret, lev) pc (tGs (vI 1)) := by
  rintro ⟨p, l, e, R, s, m, args, below, meth, c, D, K, A, Q⟩ ad cells slots L st M pc' L' st' M' ⟨hx, hb, hml, hr, hlk, hown, hts, hK, hA, hSt, hfr, hlo, hnm⟩ ht k H locs ls hc hs hP hD hS hL
  cases ht
  refine va_gets hx hb hSt.2.2.2.1 hS hown (hts _ hl0) (fun _ h9 => h9) h ?_
  exact k H locs ls hc hs hP hD hS hL
theorem sd_ldcS1 {y : MethodName} {cc : ByteArray} {nL : Nat} {ret : Option FieldType} {lev pc : Nat} (hy : y.cls = "FourthCorner") (h : decode cc pc = .ok (.ldc 243, 2)) : Sd (y, cc, nL, ret, lev) pc (tSk 1010) := by
  rintro ⟨p, l, e, R, s, m, args, below, meth, c, D, K, A, Q⟩ ad cells slots L st M pc' L' st' M' ⟨hx, hb, hml, hr, hlk, hown, hts, hK, hA, hSt, hfr, hlo, hnm⟩ ht k H locs ls hc hs hP hD hS hL
  cases ht
  refine va_ldcS hx hb hown (by rw [hy]; exact hSt.2.2.2.2.1) h ?_
  exact k H locs ls hc hs hP hD hS hL
theorem sd_ldcS2 {y : MethodName} {cc : ByteArray} {nL : Nat} {ret : Option FieldType} {lev pc : Nat} (hy : y.cls = "FourthCorner") (h : decode cc pc = .ok (.ldc 249, 2)) : Sd (y, cc, nL, ret, lev) pc (tSk 1011) := by
  rintro ⟨p, l, e, R, s, m, args, below, meth, c, D, K, A, Q⟩ ad cells slots L st M pc' L' st' M' ⟨hx, hb, hml, hr, hlk, hown, hts, hK, hA, hSt, hfr, hlo, hnm⟩ ht k H locs ls hc hs hP hD hS hL
  cases ht
  refine va_ldcS hx hb hown (by rw [hy]; exact hSt.2.2.2.2.2.1) h ?_
  exact k H locs ls hc hs hP hD hS hL
theorem sd_sv {y : MethodName} {cc : ByteArray} {nL : Nat} {ret : Option FieldType} {lev pc : Nat} {idx : Nat} (hl0 : Cond.fieldLink y.cls idx "java/lang/String" "value" "[B" ∈ GB) (h : decode cc pc = .ok (.getfield idx, 3)) : Sd (y, cc, nL, ret, lev) pc (tSv) := by
  rintro ⟨p, l, e, R, s, m, args, below, meth, c, D, K, A, Q⟩ ad cells slots L st M pc' L' st' M' ⟨hx, hb, hml, hr, hlk, hown, hts, hK, hA, hSt, hfr, hlo, hnm⟩ ht k H locs ls hc hs hP hD hS hL
  unfold tSv at ht
  split at ht
  · next q r =>
    split at ht
    · next e =>
      cases ht
      subst e
      refine vk_getf hx hb (hSt.2.2.2.2.2.2.1.1 0 (by decide)).2.2.1 hS hown (hts _ hl0) (fun _ h9 => h9) h ?_
      exact k H locs ls hc hs hP hD hS hL
    · split at ht
      · next e =>
        cases ht
        subst e
        refine vk_getf hx hb (hSt.2.2.2.2.2.2.1.1 1 (by decide)).2.2.1 hS hown (hts _ hl0) (fun _ h9 => h9) h ?_
        exact k H locs ls hc hs hP hD hS hL
      · cases ht
  · cases ht
theorem sd_sc {y : MethodName} {cc : ByteArray} {nL : Nat} {ret : Option FieldType} {lev pc : Nat} {idx : Nat} (hl0 : Cond.fieldLink y.cls idx "java/lang/String" "coder" "B" ∈ GB) (h : decode cc pc = .ok (.getfield idx, 3)) : Sd (y, cc, nL, ret, lev) pc (tSc) := by
  rintro ⟨p, l, e, R, s, m, args, below, meth, c, D, K, A, Q⟩ ad cells slots L st M pc' L' st' M' ⟨hx, hb, hml, hr, hlk, hown, hts, hK, hA, hSt, hfr, hlo, hnm⟩ ht k H locs ls hc hs hP hD hS hL
  unfold tSc at ht
  split at ht
  · next q r =>
    split at ht
    · next e =>
      cases ht
      subst e
      refine vk_getf hx hb (hSt.2.2.2.2.2.2.1.1 0 (by decide)).2.1 hS hown (hts _ hl0) (fun _ h9 => h9) h ?_
      exact k H locs ls hc hs hP hD hS hL
    · split at ht
      · next e =>
        cases ht
        subst e
        refine vk_getf hx hb (hSt.2.2.2.2.2.2.1.1 1 (by decide)).2.1 hS hown (hts _ hl0) (fun _ h9 => h9) h ?_
        exact k H locs ls hc hs hP hD hS hL
      · cases ht
  · cases ht
theorem am_bk {A : Nat → Prop} {s : State} {ad : Nat → Nat} {q : Nat} {l : List Int} (hSt : am_S ad A s s.heap) (h : am_b q = some l) : l.length = 19 ∧ va_T .byte (ad q) 19 (fun j => .int (am_f l j)) A s s.heap := by
  have key : ∀ l0 : List Int, l0.length = 19 → ∀ j, j < 19 → (l0.map Int32.ofInt).getD j 0 = am_f l0 j := by
    intro l0 h0 j hj
    unfold am_f
    simp [List.getD, h0, hj]
  have mk : ∀ (t : Nat) (l0 : List Int), l0.length = 19 → va_T .byte t 19 (fun j => .int ((l0.map Int32.ofInt).getD j 0)) A s s.heap → va_T .byte t 19 (fun j => .int (am_f l0 j)) A s s.heap := by
    rintro t l0 h0 ⟨cell, a1, a2, a3, a4, a5, a6, a7⟩
    exact ⟨cell, a1, a2, a3, a4, a5, fun j hj => by rw [a6 j hj]; dsimp only; rw [key l0 h0 j hj], a7⟩
  unfold am_b at h
  split at h
  · next e =>
    cases h
    subst e
    exact ⟨rfl, mk _ _ rfl (hSt.2.2.2.2.2.2.1.1 0 (by decide)).2.2.2⟩
  · split at h
    · next e =>
      cases h
      subst e
      exact ⟨rfl, mk _ _ rfl (hSt.2.2.2.2.2.2.1.1 1 (by decide)).2.2.2⟩
    · cases h
theorem am_kk {A : Nat → Prop} {s : State} {ad : Nat → Nat} {q : Nat} {l : List Int} (hSt : am_S ad A s s.heap) (h : am_k q = some l) : va_T .int (ad q) l.length (fun j => .int (am_f l j)) A s s.heap := by
  unfold am_k at h
  split at h
  · next e => cases h; subst e; exact hSt.1.2
  · split at h
    · next e => cases h; subst e; exact hSt.2.1.2
    · split at h
      · next e => cases h; subst e; exact hSt.2.2.1.2
      · cases h
theorem sd_sb {y : MethodName} {cc : ByteArray} {nL : Nat} {ret : Option FieldType} {lev pc : Nat}  (h : decode cc pc = .ok (.baload, 1)) : Sd (y, cc, nL, ret, lev) pc (tSb) := by
  rintro ⟨p, l, e, R, s, m, args, below, meth, c, D, K, A, Q⟩ ad cells slots L st M pc' L' st' M' ⟨hx, hb, hml, hr, hlk, hown, hts, hK, hA, hSt, hfr, hlo, hnm⟩ ht k H locs ls hc hs hP hD hS hL
  unfold tSb at ht
  split at ht
  · next i q r =>
    split at ht
    · next l0 hq =>
      split at ht
      · next hi =>
        cases ht
        obtain ⟨e1, e2⟩ := am_bk hSt hq
        rw [e1] at hi
        refine va_tb hx hb e2 hS ((of_in i 19).mpr hi) (by rw [of_nat]) h ?_
        exact k H locs ls hc hs hP hD hS hL
      · cases ht
    · cases ht
  · cases ht
theorem sd_sl {y : MethodName} {cc : ByteArray} {nL : Nat} {ret : Option FieldType} {lev pc : Nat}  (h : decode cc pc = .ok (.arraylength, 1)) : Sd (y, cc, nL, ret, lev) pc (tSl) := by
  rintro ⟨p, l, e, R, s, m, args, below, meth, c, D, K, A, Q⟩ ad cells slots L st M pc' L' st' M' ⟨hx, hb, hml, hr, hlk, hown, hts, hK, hA, hSt, hfr, hlo, hnm⟩ ht k H locs ls hc hs hP hD hS hL
  unfold tSl at ht
  split at ht
  · next q r =>
    split at ht
    · next l0 hq =>
      cases ht
      obtain ⟨e1, e2⟩ := am_bk hSt hq
      refine va_tlen hx hb e2 hS (v := Int32.ofInt (l0.length : Int)) (by rw [e1]; rfl) h ?_
      exact k H locs ls hc hs hP hD hS hL
    · cases ht
  · cases ht
theorem sd_ial {y : MethodName} {cc : ByteArray} {nL : Nat} {ret : Option FieldType} {lev pc : Nat}  (h : decode cc pc = .ok (.iaload, 1)) : Sd (y, cc, nL, ret, lev) pc (tIal) := by
  rintro ⟨p, l, e, R, s, m, args, below, meth, c, D, K, A, Q⟩ ad cells slots L st M pc' L' st' M' ⟨hx, hb, hml, hr, hlk, hown, hts, hK, hA, hSt, hfr, hlo, hnm⟩ ht k H locs ls hc hs hP hD hS hL
  unfold tIal at ht
  split at ht
  · next i q r =>
    split at ht
    · next l0 hq =>
      split at ht
      · next hi =>
        cases ht
        refine va_ti hx hb (am_kk hSt hq) hS ((of_in i _).mpr hi) (by rw [of_nat]) h ?_
        exact k H locs ls hc hs hP hD hS hL
      · cases ht
    · next hq =>
      split at ht
      · next l0 hM =>
        split at ht
        · next hi =>
          cases ht
          refine va_iald (D := D) (cl := vwCl) hx hb hK hP q 0 (am_w_at hM) rfl ((of_in i _).mpr hi) h ?_
          have k9 := k H locs ls hc hs hP hD hS hL
          rw [of_nat]
          exact k9
        · cases ht
      · cases ht
  · cases ht
theorem sd_bal {y : MethodName} {cc : ByteArray} {nL : Nat} {ret : Option FieldType} {lev pc : Nat}  (h : decode cc pc = .ok (.baload, 1)) : Sd (y, cc, nL, ret, lev) pc (tBal) := by
  rintro ⟨p, l, e, R, s, m, args, below, meth, c, D, K, A, Q⟩ ad cells slots L st M pc' L' st' M' ⟨hx, hb, hml, hr, hlk, hown, hts, hK, hA, hSt, hfr, hlo, hnm⟩ ht k H locs ls hc hs hP hD hS hL
  unfold tBal at ht
  split at ht
  · next i q r =>
    split at ht
    · next l0 hM =>
      split at ht
      · next hi =>
        cases ht
        refine va_zald (D := D) (cl := vwCl) hx hb hK hP q 1 (am_w_at hM) rfl ((of_in i _).mpr hi) h ?_
        have k9 := k H locs ls hc hs hP hD hS hL
        rw [of_nat]
        exact k9
      · cases ht
    · cases ht
  · cases ht
theorem sd_ias {y : MethodName} {cc : ByteArray} {nL : Nat} {ret : Option FieldType} {lev pc : Nat}  (h : decode cc pc = .ok (.iastore, 1)) : Sd (y, cc, nL, ret, lev) pc (tIas) := by
  rintro ⟨p, l, e, R, s, m, args, below, meth, c, D, K, A, Q⟩ ad cells slots L st M pc' L' st' M' ⟨hx, hb, hml, hr, hlk, hown, hts, hK, hA, hSt, hfr, hlo, hnm⟩ ht k H locs ls hc hs hP hD hS hL
  unfold tIas at ht
  split at ht
  · next z i q r =>
    split at ht
    · next l0 hM =>
      split at ht
      · next hi =>
        cases ht
        have hlt : (wr i).toNat < l0.length := by omega
        refine va_iast (D := D) (cl := vwCl) hx hb hK hP hD hS q 0 (am_w_at hM) rfl ((of_in i _).mpr hi) h (fun H1 locs1 hP1 hD1 hS1 => ?_)
        refine k H1 locs1 ls hc hs ?_ ?_ hS1 hL
        · rw [am_w_set]; simpa only [am_c, am_f_set hlt, List.length_set, of_nat] using hP1
        · rw [am_w_set]; simpa only [am_c, am_f_set hlt, List.length_set, of_nat] using hD1
      · cases ht
    · cases ht
  · cases ht
theorem sd_bas {y : MethodName} {cc : ByteArray} {nL : Nat} {ret : Option FieldType} {lev pc : Nat}  (h : decode cc pc = .ok (.bastore, 1)) : Sd (y, cc, nL, ret, lev) pc (tBas) := by
  rintro ⟨p, l, e, R, s, m, args, below, meth, c, D, K, A, Q⟩ ad cells slots L st M pc' L' st' M' ⟨hx, hb, hml, hr, hlk, hown, hts, hK, hA, hSt, hfr, hlo, hnm⟩ ht k H locs ls hc hs hP hD hS hL
  unfold tBas at ht
  split at ht
  · next z i q r =>
    split at ht
    · next l0 hM =>
      split at ht
      · next hi2 =>
        obtain ⟨hi, hz⟩ := hi2
        cases ht
        have hlt : (wr i).toNat < l0.length := by omega
        have hz2 : vp_nar .boolean (Int32.ofInt z) = Int32.ofInt z := by rcases hz with rfl | rfl <;> rfl
        refine va_zast (D := D) (cl := vwCl) hx hb hK hP hD hS q 1 (am_w_at hM) rfl ((of_in i _).mpr hi) h (fun H1 locs1 hP1 hD1 hS1 => ?_)
        rw [hz2] at hP1 hD1
        refine k H1 locs1 ls hc hs ?_ ?_ hS1 hL
        · rw [am_w_set]; simpa only [am_c, am_f_set hlt, List.length_set, of_nat] using hP1
        · rw [am_w_set]; simpa only [am_c, am_f_set hlt, List.length_set, of_nat] using hD1
      · cases ht
    · cases ht
  · cases ht
theorem sd_aln {y : MethodName} {cc : ByteArray} {nL : Nat} {ret : Option FieldType} {lev pc : Nat}  (h : decode cc pc = .ok (.arraylength, 1)) : Sd (y, cc, nL, ret, lev) pc (tAln) := by
  rintro ⟨p, l, e, R, s, m, args, below, meth, c, D, K, A, Q⟩ ad cells slots L st M pc' L' st' M' ⟨hx, hb, hml, hr, hlk, hown, hts, hK, hA, hSt, hfr, hlo, hnm⟩ ht k H locs ls hc hs hP hD hS hL
  unfold tAln at ht
  split at ht
  · next q r =>
    split at ht
    · next l0 hq =>
      cases ht
      refine va_tlen hx hb (am_kk hSt hq) hS (v := Int32.ofInt (l0.length : Int)) rfl h ?_
      exact k H locs ls hc hs hP hD hS hL
    · next hq =>
      split at ht
      · next b0 l0 hM =>
        cases ht
        cases b0 with
        | false =>
          refine va_alen (D := D) (cl := vwCl) hx hb hK hP q 0 (am_w_at hM) rfl (v := Int32.ofInt (l0.length : Int)) rfl h ?_
          exact k H locs ls hc hs hP hD hS hL
        | true =>
          refine va_alen (D := D) (cl := vwCl) hx hb hK hP q 1 (am_w_at hM) rfl (v := Int32.ofInt (l0.length : Int)) rfl h ?_
          exact k H locs ls hc hs hP hD hS hL
      · cases ht
  · cases ht
theorem sd_tsw {y : MethodName} {cc : ByteArray} {nL : Nat} {ret : Option FieldType} {lev pc : Nat} {lo hi dflt : Int} {offs : Array Int} {len : Nat} {ts : List Nat} {df : Nat} (hdf : (pc : Int) + dflt = (df : Int)) (hn : hi - lo + 1 = (ts.length : Int)) (hts0 : ∀ j : Nat, j < ts.length → ∃ off : Int, offs[j]? = some off ∧ (pc : Int) + off = ((ts[j]?).getD df : Nat)) (h : decode cc pc = .ok (.tableswitch dflt lo hi offs, len)) : Sd (y, cc, nL, ret, lev) pc (tTs lo ts df) := by
  rintro ⟨p, l, e, R, s, m, args, below, meth, c, D, K, A, Q⟩ ad cells slots L st M pc' L' st' M' ⟨hx, hb, hml, hr, hlk, hown, hts, hK, hA, hSt, hfr, hlo, hnm⟩ ht k H locs ls hc hs hP hD hS hL
  unfold tTs at ht
  split at ht
  · next a r =>
    cases ht
    by_cases h1 : wr a < lo
    · refine lv_tableOut hx hb h (Or.inl (by rw [wr_eq]; exact h1)) hdf ?_
      have k9 := k H locs ls hc hs hP hD hS hL
      rw [if_pos h1] at k9
      exact k9
    · have k9 := k H locs ls hc hs hP hD hS hL
      rw [if_neg h1] at k9
      by_cases h2 : hi < wr a
      · refine lv_tableOut hx hb h (Or.inr (by rw [wr_eq]; exact h2)) hdf ?_
        rw [List.getElem?_eq_none (by omega)] at k9
        exact k9
      · obtain ⟨off, q1, q2⟩ := hts0 (wr a - lo).toNat (by omega)
        exact lv_tableIn hx hb h (by rw [wr_eq]; exact h1) (by rw [wr_eq]; exact h2) (by rw [wr_eq]; exact q1) q2 k9
  · cases ht
