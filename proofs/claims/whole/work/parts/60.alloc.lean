noncomputable section
/-! new cells -/
def am_rk (n : Nat) (v : AV) : Bool := match v with
  | .inr (.inr (some k)) => decide (k < n ∨ 1000 ≤ k)
  | _ => true
def am_lk2 (n : Nat) (o : Option AV) : Bool := match o with
  | some v => am_rk n v
  | none => true
def am_ck (n : Nat) (c : AC) : Bool := match c with
  | .inr (_, fs) => fs.all (am_rk n)
  | _ => true
def am_ok (n : Nat) (L : AL) (st : List AV) (M : List AC) : Bool := L.all (am_lk2 n) && (st.all (am_rk n) && M.all (am_ck n))
theorem am_v_eq {n : Nat} {ad ad' : Nat → Nat} (hk : ∀ j, j < n ∨ 1000 ≤ j → ad' j = ad j) {v : AV} (h : am_rk n v = true) : am_v ad' v = am_v ad v := by
  rcases v with z | w | (_ | k)
  · rfl
  · rfl
  · rfl
  · show Value.ref (ad' k) = Value.ref (ad k)
    rw [hk k (of_decide_eq_true h)]
theorem am_map_eq {n : Nat} {ad ad' : Nat → Nat} (hk : ∀ j, j < n ∨ 1000 ≤ j → ad' j = ad j) {l : List AV} (h : l.all (am_rk n) = true) : l.map (am_v ad') = l.map (am_v ad) :=
  List.map_congr_left fun v hv => am_v_eq hk (List.all_eq_true.mp h v hv)
theorem am_w_eq {n : Nat} {ad ad' : Nat → Nat} {K : ClassId × ClassId} (hk : ∀ j, j < n ∨ 1000 ≤ j → ad' j = ad j) {M : List AC} (hn : M.length ≤ n) (h : M.all (am_ck n) = true) : am_w ad' K M = am_w ad K M := by
  apply List.ext_getElem?
  intro i
  simp only [am_w, List.getElem?_mapIdx]
  cases hi : M[i]? with
  | none => rfl
  | some c =>
    have h1 := List.all_eq_true.mp h c (List.mem_of_getElem? hi)
    have h2 : i < M.length := (List.getElem?_eq_some_iff.mp hi).1
    simp only [Option.map_some]
    rw [hk i (Or.inl (Nat.lt_of_lt_of_le h2 hn))]
    rcases c with ⟨_ | _, l⟩ | ⟨ci, fs⟩
    · rfl
    · rfl
    · unfold am_c
      dsimp only
      rw [am_map_eq hk h1]
theorem am_L_eq {n : Nat} {ad ad' : Nat → Nat} {ls : Array Slot} {nL : Nat} {L : AL} (hk : ∀ j, j < n ∨ 1000 ≤ j → ad' j = ad j) (h : L.all (am_lk2 n) = true) (hL : am_L ad ls nL L) : am_L ad' ls nL L := by
  refine ⟨hL.1, hL.2.1, hL.2.2.1, fun i v hi => ?_⟩
  have h1 := List.all_eq_true.mp h (some v) (List.mem_of_getElem? hi)
  rw [am_v_eq hk h1]
  exact hL.2.2.2 i v hi
theorem am_X_eq {a : Am} {ad ad' : Nat → Nat} {mi : Mi} {n : Nat} (hk : ∀ j, j < n ∨ 1000 ≤ j → ad' j = ad j) (hX : am_X a ad mi) : am_X a ad' mi := by
  obtain ⟨p, l, e, R, s, m, args, below, meth, c, D, K, A, Q⟩ := a
  obtain ⟨y, cc, nL, ret, lev⟩ := mi
  obtain ⟨hx, hb, hml, hr, hlk, hown, hts, hK, hA, hSt, hfr, hlo, hnm⟩ := hX
  exact ⟨hx, hb, hml, hr, hlk, hown, hts, hK, hA, hSt.cong (fun k h => hk k (Or.inr h)), hfr, hlo, hnm⟩
def am_nr (v : AV) : Bool := match v with
  | .inr (.inr (some _)) => false
  | _ => true
theorem am_nr_rk {v : AV} (h : am_nr v = true) (n : Nat) : am_rk n v = true := by
  rcases v with z | w | (_ | k)
  · rfl
  · rfl
  · rfl
  · cases h
theorem g_new {y : MethodName} {cc : ByteArray} {nL : Nat} {ret : Option FieldType} {lev pc idx cells slots : Nat} {a : Am} {ad : Nat → Nat} {L : AL} {st : List AV} {M : List AC} {ci N : Nat} {C : String} {T : u_T} (hX : am_X a ad (y, cc, nL, ret, lev)) (hcl : vwCl[ci]? = some (C, T, N)) (hin : ∀ w ∈ u_ws C T N, w ∈ GB) (ty : Nat → FieldType) (hty : ∀ k, k < N → parseFieldDescriptor (T k).2.2.1 = some (ty k)) (hcs : Cond.classLink y.cls idx C ∈ GB) (his : Cond.instantiable C N ∈ GB) (hini : Cond.initialized C ∈ GB) (fs : List AV) (hfs : ∀ (ad : Nat → Nat) (j : Nat), j < N → defaultValue (ty j) = vp_V (fs.map (am_v ad)) j) (hnr : fs.all am_nr = true) (hok : am_ok M.length L st M = true) (hlt : M.length < 1000) (hc : cells + 1 ≤ a.2.2.2.1.cells) (hs : slots + N ≤ a.2.2.2.1.slots) (h : decode cc pc = .ok (.new idx, 3))
    (k : ∀ ad' : Nat → Nat, (∀ j, j < M.length ∨ 1000 ≤ j → ad' j = ad j) → am_X a ad' (y, cc, nL, ret, lev) → GG a ad' nL (cells + 1) (slots + N) (pc + 3) L (vR M.length :: st) (M ++ [aO ci fs])) : GG a ad nL cells slots pc L st M := by
  have hX0 := hX
  obtain ⟨p, l, e, R, s, m, args, below, meth, c, D, K, A, Q⟩ := a
  obtain ⟨hx, hb, hml, hr, hlk, hown, hts, hK, hA, hSt, hfr, hlo, hnm⟩ := hX
  intro H locs ls hc0 hs0 hP hD hS hL
  unfold am_ok at hok
  simp only [Bool.and_eq_true] at hok
  refine va_new (D := D) (cl := vwCl) (fs := fs.map (am_v ad)) hx hb hts hin ty hty hown (hts _ hcs) (hts _ his) (hts _ hini) hK hP hD hS hA hcl (hfs ad) hc hs h (fun q H1 hP1 hD1 hS1 => ?_)
  have hk : ∀ j, j < M.length ∨ 1000 ≤ j → (fun j => if j = M.length then q else ad j) j = ad j := by
    intro j hj
    show (if j = M.length then q else ad j) = ad j
    rw [if_neg (by omega)]
  have e1 : am_w (fun j => if j = M.length then q else ad j) K (M ++ [aO ci fs]) = am_w ad K M ++ [(q, .inr (ci, fs.map (am_v ad)))] := by
    rw [am_w_push, am_w_eq hk (Nat.le_refl _) hok.2.2]
    rw [if_pos rfl]
    unfold am_c
    dsimp only
    rw [am_map_eq hk (List.all_eq_true.mpr fun v hv => am_nr_rk (List.all_eq_true.mp hnr v hv) _)]
  have w := k _ hk (am_X_eq hk hX0) H1 locs ls hc hs (by rw [e1]; exact hP1) (by rw [e1]; exact hD1) hS1 (am_L_eq hk hok.1 hL)
  have e2 : (vR M.length :: st).map (am_v (fun j => if j = M.length then q else ad j)) = .ref q :: st.map (am_v ad) := by
    rw [List.map_cons, am_map_eq hk hok.2.1]
    unfold am_v
    dsimp only
    rw [if_pos rfl]
  rw [e2] at w
  exact w
theorem am_f_0 (N : Nat) : am_f (List.replicate N 0) = fun _ => 0 := by
  funext j
  unfold am_f
  have e : (List.replicate N (0 : Int)).getD j 0 = 0 := by
    simp only [List.getD, List.getElem?_replicate]
    split <;> rfl
  rw [e]
  rfl
theorem g_newa {y : MethodName} {cc : ByteArray} {nL : Nat} {ret : Option FieldType} {lev pc cells slots : Nat} {a : Am} {ad : Nat → Nat} {L : AL} {st : List AV} {M : List AC} (bo : Bool) {atype : ArrayType} (hat : newarray.typeOf atype = if bo then .boolean else .int) (n : Int) (N : Nat) (hn : wr n = N) (hN : N ≤ 10000) (hX : am_X a ad (y, cc, nL, ret, lev)) (hok : am_ok M.length L st M = true) (hlt : M.length < 1000) (hc : cells + 1 ≤ a.2.2.2.1.cells) (hs : slots + N ≤ a.2.2.2.1.slots) (h : decode cc pc = .ok (.newarray atype, 2))
    (k : ∀ ad' : Nat → Nat, (∀ j, j < M.length ∨ 1000 ≤ j → ad' j = ad j) → am_X a ad' (y, cc, nL, ret, lev) → GG a ad' nL (cells + 1) (slots + N) (pc + 2) L (vR M.length :: st) (M ++ [.inl (bo, List.replicate N 0)])) : GG a ad nL cells slots pc L (vI n :: st) M := by
  have hX0 := hX
  obtain ⟨p, l, e, R, s, m, args, below, meth, c, D, K, A, Q⟩ := a
  obtain ⟨hx, hb, hml, hr, hlk, hown, hts, hK, hA, hSt, hfr, hlo, hnm⟩ := hX
  intro H locs ls hc0 hs0 hP hD hS hL
  unfold am_ok at hok
  simp only [Bool.and_eq_true] at hok
  have hneg : ¬ Int32.ofInt n < 0 := by
    rw [of_z, of_lt, wr_0, hn]
    omega
  have hnat : (Int32.ofInt n).toNatClampNeg = N := by rw [of_nat, hn]; omega
  have hw : Cond.arrayClass (newarray.typeOf atype) ∈ GB := by
    rw [hat]
    cases bo
    · exact w_ac_int
    · exact w_ac_boolean
  have hdef : ∀ cA : ClassId, vp_cell cA (N, .inl (am_f (List.replicate N 0))) = arrV cA N (fun _ => defaultValue (newarray.typeOf atype)) := by
    intro cA
    rw [vp_cell_i, am_f_0, hat]
    cases bo <;> rfl
  have hby : N * componentBytes (newarray.typeOf atype) ≤ 536870912 := by
    rw [hat]
    have h4 : componentBytes (if bo then FieldType.boolean else FieldType.int) ≤ 8 := by cases bo <;> decide
    have := Nat.mul_le_mul hN h4
    omega
  refine va_newa (D := D) (cl := vwCl) (a0 := (N, .inl (am_f (List.replicate N 0)))) hx hb (hts _ hw) rfl hK hP hD hS hA hdef hneg hnat hby hc hs h (fun q cA H1 hK1 hP1 hD1 hS1 => ?_)
  have hcA : cA = if bo then K.2 else K.1 := by
    have h2 := (hK1.2 2 (cA, newarray.typeOf atype) rfl).2
    rw [hat] at h2
    cases bo
    · have h0 := (hK.2 0 (K.1, .int) rfl).2
      exact Option.some.inj (h2.symm.trans h0)
    · have h0 := (hK.2 1 (K.2, .boolean) rfl).2
      exact Option.some.inj (h2.symm.trans h0)
  have hk : ∀ j, j < M.length ∨ 1000 ≤ j → (fun j => if j = M.length then q else ad j) j = ad j := by
    intro j hj
    show (if j = M.length then q else ad j) = ad j
    rw [if_neg (by omega)]
  have e1 : am_w (fun j => if j = M.length then q else ad j) K (M ++ [.inl (bo, List.replicate N 0)]) = am_w ad K M ++ [(q, .inl (cA, (N, .inl (am_f (List.replicate N 0)))))] := by
    rw [am_w_push, am_w_eq hk (Nat.le_refl _) hok.2.2]
    rw [if_pos rfl, hcA]
    unfold am_c
    cases bo <;> simp
  have w := k _ hk (am_X_eq hk hX0) H1 locs ls hc hs (by rw [e1]; exact hP1) (by rw [e1]; exact hD1) hS1 (am_L_eq hk hok.1 hL)
  have e2 : (vR M.length :: st).map (am_v (fun j => if j = M.length then q else ad j)) = .ref q :: st.map (am_v ad) := by
    rw [List.map_cons, am_map_eq hk hok.2.1]
    unfold am_v
    dsimp only
    rw [if_pos rfl]
  rw [e2] at w
  exact w
def tObj : Tr := fun pc L st M => match st with
  | .inr (.inr (some _)) :: r => if am_w8 r then some (pc + 3, L, r, M) else none
  | _ => none
theorem sd_obj {y : MethodName} {cc : ByteArray} {nL : Nat} {ret : Option FieldType} {lev pc idx : Nat} (hl : Cond.methodLink y.cls idx ⟨"java/lang/Object", "<init>", "()V"⟩ ∈ GB) (h : decode cc pc = .ok (.invokespecial idx, 3)) : Sd (y, cc, nL, ret, lev + 1) pc tObj := by
  rintro ⟨p, l, e, R, s, m, args, below, meth, c, D, K, A, Q⟩ ad cells slots L st M pc' L' st' M' ⟨hx, hb, hml, hr, hlk, hown, hts, hK, hA, hSt, hfr, hlo, hnm⟩ ht k H locs ls hc hs hP hD hS hL
  unfold tObj at ht
  split at ht
  · next q r =>
    split at ht
    · next hw =>
      cases ht
      have h8 := am_w8_ok (ad := ad) hw
      exact W.objInit hx hb hown (hts _ hl) (hts _ w_im_java_lang_Object__init____V) (hts _ w_co_java_lang_Object__init____V) rfl (by rw [hml]; exact hL.1) rfl h (by omega) (Nat.le_trans (Nat.add_le_add_right (lv_room h8) 12) (by omega)) (k H locs ls hc hs hP hD hS hL)
    · cases ht
  · cases ht
/-- behind a call that makes cells -/
theorem am_frameA {p : Program} {l : Launch} {e : Env} {R : Room} {s : State} {m : MethodId} {args : Array Value} {below : List Frame} {meth : Method} {c : Code} {H : Heap} {locs : List Loc} {cells slots mc ms : Nat} {Q : State → Prop} {D : va_G} {K : ClassId × ClassId} {A : Nat → Prop} {ad : Nat → Nat} {nL pc : Nat} {ls : Array Slot} {L : AL} {st0 : List Value} {rest : List AV} {r : Option AV} {M M' : List AC} {av : Array Value} {mi : Mi}
    (hX : am_X (p, l, e, R, s, m, args, below, meth, c, D, K, A, Q) ad mi)
    (hr : va_Run p l e R s m args below meth c H locs cells slots mc ms (F0 m pc ls st0) (rest.map (am_v ad)) (am_Qa D K ad M.length r M' (va_A (am_w ad K M) H.size) av) (va_A (am_w ad K M) H.size))
    (hF : ∀ q, va_A (am_w ad K M) H.size q → A q) (hS : va_S A s.heap H locs) (hL : am_L ad ls nL L) (hc : cells + mc ≤ R.cells) (hs : slots + ms ≤ R.slots) (hok : L.all (am_lk2 M.length) = true) (hok2 : rest.all (am_rk M.length) = true)
    (k : ∀ ad' : Nat → Nat, (∀ j, j < M.length ∨ 1000 ≤ j → ad' j = ad j) → am_X (p, l, e, R, s, m, args, below, meth, c, D, K, A, Q) ad' mi → GG (p, l, e, R, s, m, args, below, meth, c, D, K, A, Q) ad' nL (cells + mc) (slots + ms) (pc + 3) L (r.toList ++ rest) M') : W p l e R s m args below meth c H locs cells slots Q (F0 m pc ls st0) := by
  intro T hT X
  obtain ⟨v, st₀, t, T', L1, h0, X', hL1, e1, e2, ⟨⟨ad', hk, hv, hP1, hK1, hD1⟩, hz, hk1⟩, st⟩ := hr T hT X
  cases hv
  rw [h0] at hz hk1
  rw [← e1] at hP1 hz hk1
  have hS1 : va_S A s.heap T'.heap (locs ++ L1) := ⟨Nat.le_trans hS.1 hz, fun q h1 h2 => by rw [hk1 q (Nat.lt_of_lt_of_le h1 hS.1) (fun z => h2 (hF q z))]; exact hS.2.1 q h1 h2, fun q hq => by
      rcases List.mem_append.mp hq with h | h
      · exact hS.2.2 q h
      · exact hF _ (hL1 q h)⟩
  have w := k ad' hk (am_X_eq hk hX) T'.heap (locs ++ L1) ls hc hs hP1 (hD1.weaken (fun _ q _ h => hF q.1 h)) hS1 (am_L_eq hk hok hL)
  obtain ⟨t2, a1, b1⟩ := w T' rfl X'
  refine ⟨t2, st t2 ?_, b1⟩
  have e9 : ((r.toList ++ rest).map (am_v ad')) = (r.map (am_v ad')).toList ++ rest.map (am_v ad) := by
    rw [List.map_append, am_map_eq hk hok2]
    cases r <;> rfl
  rw [e9] at a1
  exact a1
end
