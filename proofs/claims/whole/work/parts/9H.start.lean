noncomputable section
def R_law : String := "FourthCornerLaw"
def lw_P (b : Addr) (xs : List Int32) (args : Array Value) (s : State) : Prop := args = #[.ref b] ∧ s.IntsAt b xs ∧ xs.length ≤ 256 ∧ (Jvm.Cond.and given_1 narrow_1).before args s = true
def lw_Q (_ : Array Value) (s : State) (o : Outcome) (t : State) : Prop := o = .returned (some (.int 1)) ∧ Framed s o t [] 600000 7302250
def lw_Z (below : List Frame) (a : Array Value) (s : State) : State → Prop := fun t => ∃ o, t.status = .running ∧ Ended t below o ∧ lw_Q a s o t
/-- the law's own end, with 1 on the stack, nothing written that was there before, its room as the claim has it -/
theorem lw_ret {p : Program} {l : Launch} {e : Env} {s : State} {m : MethodId} {below : List Frame} {meth : Method} {c : Code} {b : Nat} (hx : p.tables.exec = Jvm.exec) (hb : c.code = code) (hr : meth.sig.returnType = ret) (hlocks : meth.locks = false) {pc : Nat} {H : Heap} {ls : Array Slot} (hdg : decode code pc = .ok (.ireturn, 1)) : W p l e room_1 s m #[Value.ref b] below meth c H [] 600000 7302250 (lw_Z below #[Value.ref b] s) (F0 m pc ls [.int 1]) := by
  intro T hT X
  obtain ⟨fs, hret, hrun, hended, hW, hframe⟩ := X.leave (v := some (.int 1)) (hlocks := hlocks) (fun h => by rw [hr] at h; cases h)
  have hmeth' : T.vm.method? m = some meth := X.method'
  refine ⟨T.setFrames fs, ?_, .returned (some (.int 1)), hrun, hended, rfl, ⟨_, rfl⟩, hW, hframe⟩
  jvm_step X.here [X.here.top, hx, hb, hdg, hmeth', hr, ret, narrow_b1]
  (try refine ⟨rfl, ?_⟩); (try refine ⟨rfl, ?_⟩)
  first | (intro acts; rw [hret _ acts rfl rfl rfl]) | rw [hret _ _ rfl rfl rfl]
  exact Steps.refl _
/-- what holds at the law's entry: the machine, the code, the tables' words (any of lw_tbl by 'hts w (by decide +kernel)'), the script of L ints xs at the cell b, what the Statement gives of the start (any of its parts by flat_of_before) -/
def lw_At (p : Program) (s : State) (m : MethodId) (meth : Method) (c : Code) (b L : Nat) (xs : Nat → Int32) : Prop :=
  p.tables.exec = Jvm.exec ∧ c.code = code ∧ meth.sig.returnType = ret ∧ c.maxLocals = 4 ∧ s.vm.findClass R_law = some m.cls ∧ (∀ w ∈ lw_tbl, w.before #[Value.ref b] s = true) ∧ va_X b L xs s s.heap ∧ b < s.heap.size ∧ meth.locks = false ∧ (Jvm.Cond.and given_1 narrow_1).before #[Value.ref b] s = true
theorem ws_ret : ∀ pc ∈ ([202, 215, 228, 241, 274, 307, 340, 373, 406, 419, 432, 445, 478, 501, 524, 537, 560, 593, 616, 649, 672, 695, 718, 767, 806, 849, 882, 941, 995, 1018, 1041, 1064, 1087, 1095] : List Nat), decode cL_law pc = .ok (.ireturn, 1) := by
  intro pc h
  simp only [List.mem_cons, List.not_mem_nil, or_false] at h
  rcases h with rfl | rfl | rfl | rfl | rfl | rfl | rfl | rfl | rfl | rfl | rfl | rfl | rfl | rfl | rfl | rfl | rfl | rfl | rfl | rfl | rfl | rfl | rfl | rfl | rfl | rfl | rfl | rfl | rfl | rfl | rfl | rfl | rfl | rfl
  · exact dL_law_202
  · exact dL_law_215
  · exact dL_law_228
  · exact dL_law_241
  · exact dL_law_274
  · exact dL_law_307
  · exact dL_law_340
  · exact dL_law_373
  · exact dL_law_406
  · exact dL_law_419
  · exact dL_law_432
  · exact dL_law_445
  · exact dL_law_478
  · exact dL_law_501
  · exact dL_law_524
  · exact dL_law_537
  · exact dL_law_560
  · exact dL_law_593
  · exact dL_law_616
  · exact dL_law_649
  · exact dL_law_672
  · exact dL_law_695
  · exact dL_law_718
  · exact dL_law_767
  · exact dL_law_806
  · exact dL_law_849
  · exact dL_law_882
  · exact dL_law_941
  · exact dL_law_995
  · exact dL_law_1018
  · exact dL_law_1041
  · exact dL_law_1064
  · exact dL_law_1087
  · exact dL_law_1095
theorem ws_K {args : Array Value} {s : State} (h : ∀ w ∈ GB, w.before args s = true) : ∃ (D : va_G) (K : ClassId × ClassId), va_K D vwCl (am_ty K) s := by
  obtain ⟨c0, i0, k0⟩ := u_known h giX0 (h _ w_is_X0)
  obtain ⟨c1, i1, k1⟩ := u_known h giX1 (h _ w_is_X1)
  obtain ⟨c2, i2, k2⟩ := u_known h giX2 (h _ w_is_X2)
  obtain ⟨c3, i3x, k3⟩ := u_known h giX3 (h _ w_is_X3)
  obtain ⟨c4, i4x, k4⟩ := u_known h giX4 (h _ w_is_X4)
  obtain ⟨c5, i5, k5⟩ := u_known h giX5 (h _ w_is_X5)
  obtain ⟨c6, i6, k6⟩ := u_known h giX6 (h _ w_is_X6)
  obtain ⟨cA, kA, comp, h1, h2, h3⟩ := Cond.arrayClass_spec (h _ w_ac_int)
  obtain ⟨cB, kB, comp', g1, g2, g3⟩ := Cond.arrayClass_spec (h _ w_ac_boolean)
  refine ⟨(fun n => match n with | 0 => c0 | 1 => c1 | 2 => c2 | 3 => c3 | 4 => c4 | 5 => c5 | _ => c6, fun n => match n with | 0 => i0 | 1 => i1 | 2 => i2 | 3 => i3x | 4 => i4x | 5 => i5 | _ => i6), (cA, cB), fun c q hq => ?_, fun k q hq => ?_⟩
  · match c, hq with
    | 0, hq => cases hq; exact k0
    | 1, hq => cases hq; exact k1
    | 2, hq => cases hq; exact k2
    | 3, hq => cases hq; exact k3
    | 4, hq => cases hq; exact k4
    | 5, hq => cases hq; exact k5
    | 6, hq => cases hq; exact k6
    | n + 7, hq => cases hq
  · match k, hq with
    | 0, hq => cases hq; exact ⟨fun n z => ⟨fun k h => (by cases h), kA, h2, comp, h3⟩, h1⟩
    | 1, hq => cases hq; exact ⟨fun n z => ⟨fun k h => (by cases h), kB, g2, comp', g3⟩, g1⟩
    | n + 2, hq => cases hq
theorem ws_T {args : Array Value} {s : State} (hts : ∀ w ∈ lw_tbl, w.before args s = true) (hg : ∀ w ∈ flatC (Jvm.Cond.and given_1 narrow_1), w.before args s = true) : ∃ t0 t1 t2 : Nat, ((va_Z "FourthCorner" "TENS" "[I" (.ref t0) (s.heap.size ≤ ·) s s.heap ∧ va_T .int t0 9 (fun j => .int (am_f am_tens j)) (s.heap.size ≤ ·) s s.heap) ∧ (va_Z "FourthCorner" "SEVENS" "[I" (.ref t1) (s.heap.size ≤ ·) s s.heap ∧ va_T .int t1 4 (fun j => .int (am_f am_sevens j)) (s.heap.size ≤ ·) s s.heap) ∧ (va_Z "FourthCorner" "ORDERS" "[I" (.ref t2) (s.heap.size ≤ ·) s s.heap ∧ va_T .int t2 24 (fun j => .int (am_f am_orders j)) (s.heap.size ≤ ·) s s.heap)) := by
  have hA : ∀ a : Nat, a < s.heap.size → ¬ (s.heap.size ≤ a) := fun a h => Nat.not_le.mpr h
  have m0 : ∀ j : Nat, j < 9 → (Cond.eq (Term.elem (Term.static "FourthCorner" "TENS" "[I") (.int (Int32.ofNat j))) (.int (am_f am_tens j))) ∈ flatC (Jvm.Cond.and given_1 narrow_1) := by decide +kernel
  obtain ⟨t0, e0, v0⟩ := va_Tof (args := args) (tm := (Term.static "FourthCorner" "TENS" "[I")) (ty := .int) (N := 9) (f := fun j => .int (am_f am_tens j)) (A := (s.heap.size ≤ ·)) (by decide) (hg _ (by decide +kernel)) (va_eqt (hg _ (by decide +kernel))) (fun j hj => va_eqt (hg _ (m0 j hj))) hA
  have z0 := va_Zof (hts (.laysStatic "FourthCorner" "TENS" "[I") (by decide +kernel)) (hts (.initialized "FourthCorner") (by decide +kernel)) e0 hA
  have m1 : ∀ j : Nat, j < 4 → (Cond.eq (Term.elem (Term.static "FourthCorner" "SEVENS" "[I") (.int (Int32.ofNat j))) (.int (am_f am_sevens j))) ∈ flatC (Jvm.Cond.and given_1 narrow_1) := by decide +kernel
  obtain ⟨t1, e1, v1⟩ := va_Tof (args := args) (tm := (Term.static "FourthCorner" "SEVENS" "[I")) (ty := .int) (N := 4) (f := fun j => .int (am_f am_sevens j)) (A := (s.heap.size ≤ ·)) (by decide) (hg _ (by decide +kernel)) (va_eqt (hg _ (by decide +kernel))) (fun j hj => va_eqt (hg _ (m1 j hj))) hA
  have z1 := va_Zof (hts (.laysStatic "FourthCorner" "SEVENS" "[I") (by decide +kernel)) (hts (.initialized "FourthCorner") (by decide +kernel)) e1 hA
  have m2 : ∀ j : Nat, j < 24 → (Cond.eq (Term.elem (Term.static "FourthCorner" "ORDERS" "[I") (.int (Int32.ofNat j))) (.int (am_f am_orders j))) ∈ flatC (Jvm.Cond.and given_1 narrow_1) := by decide +kernel
  obtain ⟨t2, e2, v2⟩ := va_Tof (args := args) (tm := (Term.static "FourthCorner" "ORDERS" "[I")) (ty := .int) (N := 24) (f := fun j => .int (am_f am_orders j)) (A := (s.heap.size ≤ ·)) (by decide) (hg _ (by decide +kernel)) (va_eqt (hg _ (by decide +kernel))) (fun j hj => va_eqt (hg _ (m2 j hj))) hA
  have z2 := va_Zof (hts (.laysStatic "FourthCorner" "ORDERS" "[I") (by decide +kernel)) (hts (.initialized "FourthCorner") (by decide +kernel)) e2 hA
  exact ⟨t0, t1, t2, ⟨z0, v0⟩, ⟨z1, v1⟩, ⟨z2, v2⟩⟩
theorem ws_nest : ∀ w ∈ am_nest, w ∈ lw_tbl ∧ w.onTables = true := by decide +kernel
def ws_tm : Nat → Term := fun i => match i with | 0 => .string "FourthCorner" 243 | _ => .string "FourthCorner" 249
theorem ws_S {args : Array Value} {s : State} (hts : ∀ w ∈ lw_tbl, w.before args s = true) (hg : ∀ w ∈ flatC (Jvm.Cond.and given_1 narrow_1), w.before args s = true) (b : Nat) : ∃ ad : Nat → Nat, ad 1030 = b ∧ am_S ad (s.heap.size ≤ ·) s s.heap := by
  have hA : ∀ a : Nat, a < s.heap.size → ¬ (s.heap.size ≤ a) := fun a h => Nat.not_le.mpr h
  obtain ⟨t0, t1, t2, hT0, hT1, hT2⟩ := ws_T hts hg
  have m1 : ∀ i : Nat, i < 2 → (Cond.exactly (ws_tm i) "java/lang/String") ∈ flatC (Jvm.Cond.and given_1 narrow_1) := by decide +kernel
  have m2 : ∀ i : Nat, i < 2 → (Cond.eq (.field (ws_tm i) "java/lang/String" "coder" "B") (.int 0)) ∈ flatC (Jvm.Cond.and given_1 narrow_1) := by decide +kernel
  have m3 : ∀ i : Nat, i < 2 → (Cond.arrayOf (.field (ws_tm i) "java/lang/String" "value" "[B") .byte) ∈ flatC (Jvm.Cond.and given_1 narrow_1) := by decide +kernel
  have m4 : ∀ i : Nat, i < 2 → (Cond.eq (.length (.field (ws_tm i) "java/lang/String" "value" "[B")) (.int (Int32.ofNat (([19, 19] : List Nat).getD i 0)))) ∈ flatC (Jvm.Cond.and given_1 narrow_1) := by decide +kernel
  have m5 : ∀ i : Nat, i < 2 → ∀ j : Nat, j < 19 → (Cond.eq (.elem (.field (ws_tm i) "java/lang/String" "value" "[B") (.int (Int32.ofNat j))) (.int ((([am_b1.map Int32.ofInt, am_b2.map Int32.ofInt] : List (List Int32)).getD i []).getD j 0))) ∈ flatC (Jvm.Cond.and given_1 narrow_1) := by decide +kernel
  have l19 : ∀ i : Nat, i < 2 → ([19, 19] : List Nat).getD i 0 = 19 := by decide
  have m6 : (Cond.not (Cond.eq (ws_tm 0) (ws_tm 1))) ∈ flatC (Jvm.Cond.and given_1 narrow_1) ∨ (Cond.not (Cond.eq (ws_tm 1) (ws_tm 0))) ∈ flatC (Jvm.Cond.and given_1 narrow_1) := by decide +kernel
  obtain ⟨aK, aV, hS, hev⟩ := vk_Sof (args := args) (s := s) (N := 2) (tm := ws_tm) (len := [19, 19]) (byt := [am_b1.map Int32.ofInt, am_b2.map Int32.ofInt]) (A := (s.heap.size ≤ ·)) (fun i hi => by rw [l19 i hi]; decide) (fun i hi => hg _ (m1 i hi)) (fun i hi => hg _ (m2 i hi)) (fun i hi => hg _ (m3 i hi)) (fun i hi => hg _ (m4 i hi)) (fun i hi j hj => hg _ (m5 i hi j (by rw [l19 i hi] at hj; exact hj))) (fun i j hi hj hij => by
    match i, j, hi, hj, hij with
    | 0, 0, _, _, h => exact absurd rfl h
    | 1, 1, _, _, h => exact absurd rfl h
    | 0, 1, _, _, _ => exact m6.elim (fun h => Or.inl (hg _ h)) (fun h => Or.inr (hg _ h))
    | 1, 0, _, _, _ => exact m6.elim (fun h => Or.inr (hg _ h)) (fun h => Or.inl (hg _ h))
    | n + 2, _, h, _, _ => exact absurd h (by omega)
    | _, n + 2, _, h, _ => exact absurd h (by omega)) hA
  have hF : ∃ tF : Nat, va_Z "jdk/internal/util/Preconditions" "SIOOBE_FORMATTER" "Ljava/util/function/BiFunction;" .null (s.heap.size ≤ ·) s s.heap ∨ va_Z "jdk/internal/util/Preconditions" "SIOOBE_FORMATTER" "Ljava/util/function/BiFunction;" (.ref tF) (s.heap.size ≤ ·) s s.heap := by
    rcases va_Zqof (args := args) (A := (s.heap.size ≤ ·)) (hts (.laysStatic "jdk/internal/util/Preconditions" "SIOOBE_FORMATTER" "Ljava/util/function/BiFunction;") (by decide +kernel)) (hts (.initialized "jdk/internal/util/Preconditions") (by decide +kernel)) (hg _ (by decide +kernel)) hA with h | ⟨t, h⟩
    · exact ⟨0, Or.inl h⟩
    · exact ⟨t, Or.inr h⟩
  obtain ⟨tF, hF⟩ := hF
  obtain ⟨ad, d0, d1, d2, d3, d4, d5, d6, d7, d8⟩ : ∃ ad : Nat → Nat, ad 1000 = t0 ∧ ad 1001 = t1 ∧ ad 1002 = t2 ∧ ad 1010 = aK 0 ∧ ad 1011 = aK 1 ∧ ad 1012 = aV 0 ∧ ad 1013 = aV 1 ∧ ad 1020 = tF ∧ ad 1030 = b := ⟨fun n => if n = 1000 then t0 else if n = 1001 then t1 else if n = 1002 then t2 else if n = 1010 then aK 0 else if n = 1011 then aK 1 else if n = 1012 then aV 0 else if n = 1013 then aV 1 else if n = 1020 then tF else b, rfl, rfl, rfl, rfl, rfl, rfl, rfl, rfl, rfl⟩
  refine ⟨ad, d8, by rw [d0]; exact hT0, by rw [d1]; exact hT1, by rw [d2]; exact hT2, va_Zof (hts (.laysStatic "java/lang/String" "COMPACT_STRINGS" "Z") (by decide +kernel)) (hts (.initialized "java/lang/String") (by decide +kernel)) (va_eqt (hg _ (by decide +kernel))) hA, ?_, ?_, ⟨fun i hi => ?_, fun i j hi hj he => ?_⟩, fun w hw => va_Nw.of (ws_nest w hw).2 (hts w (ws_nest w hw).1), by rw [d7]; exact hF⟩
  · rw [d3]
    exact vk_R.of (hts (.stringRef "FourthCorner" 243 "B111110000L00L00L00") (by decide +kernel)) (hev 0 (by decide))
  · rw [d4]
    exact vk_R.of (hts (.stringRef "FourthCorner" 249 "B399999999L39L39L39") (by decide +kernel)) (hev 1 (by decide))
  · match i, hi with
    | 0, _ => have h := hS.1 0 (by decide); rw [← d3, ← d5] at h; exact h
    | 1, _ => have h := hS.1 1 (by decide); rw [← d4, ← d6] at h; exact h
    | n + 2, h => exact absurd h (by omega)
  · match i, j, hi, hj, he with
    | 0, 0, _, _, _ => rfl
    | 1, 1, _, _, _ => rfl
    | 0, 1, _, _, he => exact hS.2 0 1 (by decide) (by decide) (d3.symm.trans (Eq.trans he d4))
    | 1, 0, _, _, he => exact hS.2 1 0 (by decide) (by decide) (d4.symm.trans (Eq.trans he d3))
    | n + 2, _, h, _, _ => exact absurd h (by omega)
    | _, n + 2, _, h, _ => exact absurd h (by omega)
theorem whole_start {p : Program} {e : Env} {s : State} {m : MethodId} {below : List Frame} {meth : Method} {c : Code} (l : Launch) {b L : Nat} {xs : Nat → Int32} (hL : L ≤ 256) (C0 : lw_At p s m meth c b L xs) : W p l e room_1 s m #[Value.ref b] below meth c s.heap [] 0 0 (lw_Z below #[Value.ref b] s) (entryFrame m ([Value.ref b] : List Value).toArray 4) := by
  obtain ⟨hx, hb, hr, hml, hown, hts, hXs, hbl, hlk, hgv⟩ := C0
  have hGB : ∀ w ∈ GB, w.before #[Value.ref b] s = true := fun w hw => hts w (List.mem_filter.mp hw).1
  obtain ⟨D, K, hK⟩ := ws_K hGB
  obtain ⟨ad, had, hSt⟩ := ws_S hts (flat_of_before _ hgv) b
  obtain ⟨N, M2, c2, s2, hc2, hs2, he⟩ := law_ends L xs hL
  have hX : am_X (p, l, e, room_1, s, m, #[Value.ref b], below, meth, c, D, K, (s.heap.size ≤ ·), lw_Z below #[Value.ref b] s) ad (mi_L_law meth.name) := ⟨hx, hb, hml, hr, hlk, hown, hGB, hK, fun _ h => h, hSt, by decide, by decide, rfl⟩
  have hSc : aScr (p, l, e, room_1, s, m, #[Value.ref b], below, meth, c, D, K, (s.heap.size ≤ ·), lw_Z below #[Value.ref b] s) b L xs := ⟨hXs, hbl, Nat.not_le.mpr hbl⟩
  have hRet : ∀ (ad' : Nat → Nat) (pc : Nat) (L' : AL), (∀ j, j < 0 ∨ 1000 ≤ j → ad' j = ad j) → am_X (p, l, e, room_1, s, m, #[Value.ref b], below, meth, c, D, K, (s.heap.size ≤ ·), lw_Z below #[Value.ref b] s) ad' (mi_L_law meth.name) → pc ∈ ([202, 215, 228, 241, 274, 307, 340, 373, 406, 419, 432, 445, 478, 501, 524, 537, 560, 593, 616, 649, 672, 695, 718, 767, 806, 849, 882, 941, 995, 1018, 1041, 1064, 1087, 1095] : List Nat) → rZ (some (vI 1)) = true → GG (p, l, e, room_1, s, m, #[Value.ref b], below, meth, c, D, K, (s.heap.size ≤ ·), lw_Z below #[Value.ref b] s) ad' 4 c2 s2 pc L' (some (vI 1)).toList M2 := by
    intro ad' pc L' _ _ hp _ H locs ls _ _ _ _ hS _
    exact va_forget (fun q hq => hS.2.2 q hq) (W.widen (k := 600000) (n := 7302250) (by omega) (by omega) (lw_ret hx hb hr hlk (ws_ret pc hp)))
  have hg := am_rra (mi := mi_L_law meth.name) (G := fun ad => ad 1030 = b) (n0 := 0) (tb := tb_L_law_0 L xs) (kd := rZ) (rets := [202, 215, 228, 241, 274, 307, 340, 373, 406, 419, 432, 445, 478, 501, 524, 537, 560, 593, 616, 649, 672, 695, 718, 767, 806, 849, 882, 941, 995, 1018, 1041, 1064, 1087, 1095]) (ad0 := ad) (r := some (vI 1)) (M' := M2) (C := c2) (S := s2) (fun ad' h => (h 1030 (Or.inr (by decide))).trans had) (ok_L_law_0 hSc meth.name) (show c2 ≤ 600000 by omega) (show s2 ≤ 7302250 by omega) hRet N (ad := ad) (fun _ _ => rfl) hX he
  have hloc := am_in_L (ad := ad) (av := [vR 1030]) (nL := 4) (by decide)
  have hw := hg s.heap [] _ (Nat.zero_le _) (Nat.zero_le _) (fun k q h => (by cases h)) ⟨fun i j p q h => (by cases h), fun k q h => (by cases h)⟩ ⟨Nat.le_refl _, fun _ _ _ => rfl, fun q hq => (by cases hq)⟩ hloc
  rw [lg_entry_eq]
  rw [show ([vR 1030] : List AV).map (am_v ad) = [Value.ref b] by show [Value.ref (ad 1030)] = _; rw [had]] at hw
  exact hw
end
