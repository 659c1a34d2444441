/-! contracts over the abstract machine -/
def am_B (D : va_G) (K : ClassId × ClassId) (ad : Nat → Nat) (M : List AC) (sz : Nat) (U : State) : Prop := U.heap.size = sz ∧ va_P D vwCl (am_w ad K M) U.heap ∧ va_K D vwCl (am_ty K) U ∧ va_D (fun _ => True) (am_w ad K M) ∧ am_S ad (va_A (am_w ad K M) sz) U U.heap
def am_Q (D : va_G) (K : ClassId × ClassId) (ad : Nat → Nat) (r : Option AV) (M' : List AC) (A : Nat → Prop) : Array Value → State → Outcome → State → Prop := fun _ st oc t => (oc = .returned (r.map (am_v ad)) ∧ va_P D vwCl (am_w ad K M') t.heap ∧ va_K D vwCl (am_ty K) t ∧ va_D A (am_w ad K M')) ∧ va_F A st t
/-- a method that makes cells: the places that were there keep their addresses -/
def am_Qa (D : va_G) (K : ClassId × ClassId) (ad : Nat → Nat) (n : Nat) (r : Option AV) (M' : List AC) (A : Nat → Prop) : Array Value → State → Outcome → State → Prop := fun _ st oc t => (∃ ad' : Nat → Nat, (∀ k, k < n ∨ 1000 ≤ k → ad' k = ad k) ∧ oc = .returned (r.map (am_v ad')) ∧ va_P D vwCl (am_w ad' K M') t.heap ∧ va_K D vwCl (am_ty K) t ∧ va_D A (am_w ad' K M')) ∧ va_F A st t
abbrev am_rm (lev mc ms : Nat) : Room := { frames := lev, cells := mc, slots := ms, locals := 37 * lev }
def Ct (mi : Mi) (av : List AV) (M : List AC) (r : Option AV) (M' : List AC) : Prop := match mi with
  | (y, cc, nL, ret, lev) => ∀ (l : Launch) (D : va_G) (K : ClassId × ClassId) (ad : Nat → Nat) (sz : Nat), Met l y (.code y cc nL ret :: GB) (am_rm lev 0 0) (va_Pc (av.map (am_v ad)) (am_B D K ad M sz)) (am_Q D K ad r M' (va_A (am_w ad K M) sz)) 0 0 (va_A (am_w ad K M) sz)
def Ca (mi : Mi) (mc ms : Nat) (av : List AV) (M : List AC) (r : Option AV) (M' : List AC) : Prop := match mi with
  | (y, cc, nL, ret, lev) => ∀ (l : Launch) (D : va_G) (K : ClassId × ClassId) (ad : Nat → Nat) (sz : Nat), Met l y (.code y cc nL ret :: GB) (am_rm lev mc ms) (va_Pc (av.map (am_v ad)) (am_B D K ad M sz)) (am_Qa D K ad M.length r M' (va_A (am_w ad K M) sz)) mc ms (va_A (am_w ad K M) sz)
def am_Z (a : Am) (ad : Nat → Nat) (r : Option AV) (M : List AC) (mc ms : Nat) : Prop := match a with
  | (p, l, e, R, s, m, args, below, meth, c, D, K, A, Q) => ∃ Qc : Array Value → State → Outcome → State → Prop, Q = MQ below Qc args s mc ms A ∧ ∀ (H : Heap) (locs : List Loc) (t : State), va_P D vwCl (am_w ad K M) H → va_D A (am_w ad K M) → va_S A s.heap H locs → t.heap = H → s.WarmedH t.vm → Qc args s (.returned (r.map (am_v ad))) t
def am_sl : List AV → AL
  | [] => []
  | .inr (.inl w) :: r => some (.inr (.inl w)) :: none :: am_sl r
  | .inl z :: r => some (.inl z) :: am_sl r
  | .inr (.inr z) :: r => some (.inr (.inr z)) :: am_sl r
def am_in (av : List AV) (nL : Nat) : AL := am_sl av ++ List.replicate (nL - (am_sl av).length) none
theorem am_sl_len (ad : Nat → Nat) : ∀ av : List AV, (lg_sl (av.map (am_v ad))).length = (am_sl av).length
  | [] => rfl
  | .inl z :: r => by
    have ih := am_sl_len ad r
    simp only [lg_sl, List.map_cons, List.flatMap_cons, am_v, Value.category, am_sl, List.length_append, List.length_cons] at ih ⊢
    simp [ih]; omega
  | .inr (.inl z) :: r => by
    have ih := am_sl_len ad r
    simp only [lg_sl, List.map_cons, List.flatMap_cons, am_v, Value.category, am_sl, List.length_append, List.length_cons] at ih ⊢
    simp [ih]; omega
  | .inr (.inr none) :: r => by
    have ih := am_sl_len ad r
    simp only [lg_sl, List.map_cons, List.flatMap_cons, am_v, Value.category, am_sl, List.length_append, List.length_cons] at ih ⊢
    simp [ih]; omega
  | .inr (.inr (some k)) :: r => by
    have ih := am_sl_len ad r
    simp only [lg_sl, List.map_cons, List.flatMap_cons, am_v, Value.category, am_sl, List.length_append, List.length_cons] at ih ⊢
    simp [ih]; omega
theorem am_sl_mem (ad : Nat → Nat) : ∀ (av : List AV) (k i : Nat) (v : AV), (am_sl av)[i]? = some (some v) → (k + i, am_v ad v) ∈ lv_args k (av.map (am_v ad))
  | [], k, i, v, h => by simp [am_sl] at h
  | .inr (.inl w) :: r, k, i, v, h => by
    simp only [am_sl] at h
    match i, h with
    | 0, h => simp at h; subst h; simp [lv_args, am_v]
    | 1, h => simp at h
    | i + 2, h =>
      simp only [List.getElem?_cons_succ] at h
      have ih := am_sl_mem ad r (k + 2) i v h
      have e : k + (i + 2) = k + 2 + i := by omega
      rw [e]
      simp only [List.map_cons, lv_args, am_v, Value.category, if_true]
      exact List.mem_cons_of_mem _ ih
  | .inl z :: r, k, i, v, h => by
    simp only [am_sl] at h
    match i, h with
    | 0, h => simp at h; subst h; simp [lv_args, am_v]
    | i + 1, h =>
      simp only [List.getElem?_cons_succ] at h
      have ih := am_sl_mem ad r (k + 1) i v h
      have e : k + (i + 1) = k + 1 + i := by omega
      rw [e]
      simp only [List.map_cons, lv_args, am_v, Value.category]
      exact List.mem_cons_of_mem _ ih
  | .inr (.inr none) :: r, k, i, v, h => by
    simp only [am_sl] at h
    match i, h with
    | 0, h => simp at h; subst h; simp [lv_args, am_v]
    | i + 1, h =>
      simp only [List.getElem?_cons_succ] at h
      have ih := am_sl_mem ad r (k + 1) i v h
      have e : k + (i + 1) = k + 1 + i := by omega
      rw [e]
      simp only [List.map_cons, lv_args, am_v, Value.category]
      exact List.mem_cons_of_mem _ ih
  | .inr (.inr (some q)) :: r, k, i, v, h => by
    simp only [am_sl] at h
    match i, h with
    | 0, h => simp at h; subst h; simp [lv_args, am_v]
    | i + 1, h =>
      simp only [List.getElem?_cons_succ] at h
      have ih := am_sl_mem ad r (k + 1) i v h
      have e : k + (i + 1) = k + 1 + i := by omega
      rw [e]
      simp only [List.map_cons, lv_args, am_v, Value.category]
      exact List.mem_cons_of_mem _ ih
theorem am_in_L {ad : Nat → Nat} {av : List AV} {nL : Nat} (h : (am_sl av).length ≤ nL) : am_L ad ((lg_sl (av.map (am_v ad)) ++ List.replicate (nL - (lg_sl (av.map (am_v ad))).length) Slot.unset).toArray) nL (am_in av nL) := by
  have hl := lv_entry (av.map (am_v ad)) (n := nL) (by rw [am_sl_len]; exact h)
  refine ⟨hl.1, hl.2.1, ?_, fun i v hi => ?_⟩
  · unfold am_in
    simp
    omega
  · have hi2 : (am_sl av)[i]? = some (some v) := by
      unfold am_in at hi
      rcases Nat.lt_or_ge i (am_sl av).length with q | q
      · rw [List.getElem?_append_left q] at hi
        exact hi
      · rw [List.getElem?_append_right q, List.getElem?_replicate] at hi
        split at hi <;> cases hi
    have := am_sl_mem ad av 0 i v hi2
    rw [Nat.zero_add] at this
    exact hl.2.2 _ this
theorem ct_intro {y : MethodName} {cc : ByteArray} {nL : Nat} {ret : Option FieldType} {lev : Nat} {av : List AV} {M : List AC} {r : Option AV} {M' : List AC} (hy : plainName y.cls = true) (hl : (am_sl av).length ≤ nL)
    (h : ∀ (a : Am) (ad : Nat → Nat), am_X a ad (y, cc, nL, ret, lev) → am_Z a ad r M' 0 0 → GG a ad nL 0 0 0 (am_in av nL) [] M) : Ct (y, cc, nL, ret, lev) av M r M' := by
  intro l D K ad sz
  refine Met.ofW (cc := cc) (maxL := nL) (ret := ret) hy rfl ?_
  intro p e s m args below meth c s₁ B hml hv
  obtain ⟨rfl, hsz, hP, hK, hD0, hSt⟩ := hv
  subst hsz
  have hts := atoms_spec (ws := Cond.code y cc nL ret :: GB) B.pre
  have hD := hD0.self (sz := s.heap.size)
  have hA : ∀ q : Nat, s.heap.size ≤ q → va_A (am_w ad K M) s.heap.size q := fun q h => Or.inr h
  have hX : am_X (p, l, e, am_rm lev 0 0, s, m, (av.map (am_v ad)).toArray, below, meth, c, D, K, va_A (am_w ad K M) s.heap.size, MQ below (am_Q D K ad r M' (va_A (am_w ad K M) s.heap.size)) (av.map (am_v ad)).toArray s 0 0 (va_A (am_w ad K M) s.heap.size)) ad (y, cc, nL, ret, lev) :=
    ⟨B.exec, B.bytes, hml, B.returns, B.notSynchronized, findClass_of_methodNamed B.named, fun w hw => hts w (List.mem_cons_of_mem _ hw), hK, hA, hSt, Nat.le_refl _, Nat.le_refl _, (name_of_methodNamed B.named B.method).1⟩
  have := h _ ad hX ⟨_, rfl, fun H locs t hP hD hS ht hW => ⟨⟨rfl, by rw [ht]; exact hP, va_K.moved hW.alike hK, hD⟩, hS.F ht⟩⟩
  rw [lg_entry_eq]
  exact this s.heap [] _ (Nat.le_refl _) (Nat.le_refl _) hP hD va_S.rf (am_in_L hl)
theorem ca_intro {y : MethodName} {cc : ByteArray} {nL : Nat} {ret : Option FieldType} {lev mc ms : Nat} {av : List AV} {M : List AC} {r : Option AV} {M' : List AC} (hy : plainName y.cls = true) (hl : (am_sl av).length ≤ nL)
    (h : ∀ (a : Am) (ad : Nat → Nat), am_X a ad (y, cc, nL, ret, lev) → mc ≤ a.2.2.2.1.cells → ms ≤ a.2.2.2.1.slots → (∀ ad' : Nat → Nat, (∀ k, k < M.length ∨ 1000 ≤ k → ad' k = ad k) → am_Z a ad' r M' mc ms) → GG a ad nL 0 0 0 (am_in av nL) [] M) : Ca (y, cc, nL, ret, lev) mc ms av M r M' := by
  intro l D K ad sz
  refine Met.ofW (cc := cc) (maxL := nL) (ret := ret) hy rfl ?_
  intro p e s m args below meth c s₁ B hml hv
  obtain ⟨rfl, hsz, hP, hK, hD0, hSt⟩ := hv
  subst hsz
  have hts := atoms_spec (ws := Cond.code y cc nL ret :: GB) B.pre
  have hD := hD0.self (sz := s.heap.size)
  have hA : ∀ q : Nat, s.heap.size ≤ q → va_A (am_w ad K M) s.heap.size q := fun q h => Or.inr h
  have hX : am_X (p, l, e, am_rm lev mc ms, s, m, (av.map (am_v ad)).toArray, below, meth, c, D, K, va_A (am_w ad K M) s.heap.size, MQ below (am_Qa D K ad M.length r M' (va_A (am_w ad K M) s.heap.size)) (av.map (am_v ad)).toArray s mc ms (va_A (am_w ad K M) s.heap.size)) ad (y, cc, nL, ret, lev) :=
    ⟨B.exec, B.bytes, hml, B.returns, B.notSynchronized, findClass_of_methodNamed B.named, fun w hw => hts w (List.mem_cons_of_mem _ hw), hK, hA, hSt, Nat.le_refl _, Nat.le_refl _, (name_of_methodNamed B.named B.method).1⟩
  have := h _ ad hX (Nat.le_refl _) (Nat.le_refl _) (fun ad' hk => ⟨_, rfl, fun H locs t hP hD hS ht hW => ⟨⟨ad', hk, rfl, by rw [ht]; exact hP, va_K.moved hW.alike hK, hD⟩, hS.F ht⟩⟩)
  rw [lg_entry_eq]
  exact this s.heap [] _ (Nat.zero_le _) (Nat.zero_le _) hP hD va_S.rf (am_in_L hl)
/-! returns -/
theorem g_iret {y : MethodName} {cc : ByteArray} {nL : Nat} {ret : Option FieldType} {lev pc cells slots : Nat} {a : Am} {ad : Nat → Nat} {L : AL} {z : Int} {M : List AC} (hX : am_X a ad (y, cc, nL, ret, lev)) (hZ : am_Z a ad (some (.inl z)) M cells slots) (hr0 : ret = some .int) (h : decode cc pc = .ok (.ireturn, 1)) : GG a ad nL cells slots pc L [.inl z] M := by
  obtain ⟨p, l, e, R, s, m, args, below, meth, c, D, K, A, Q⟩ := a
  obtain ⟨hx, hb, hml, hr, hlk, hown, hts, hK, hA, hSt, hfr, hlo, hnm⟩ := hX
  obtain ⟨Qc, rfl, hq⟩ := hZ
  intro H locs ls hc hs hP hD hS hL
  exact W.iret hx hb (hr.trans hr0) (fun t ht hW => hq H locs t hP hD hS ht hW) hS.2.2 h hlk
theorem g_zret {y : MethodName} {cc : ByteArray} {nL : Nat} {ret : Option FieldType} {lev pc cells slots : Nat} {a : Am} {ad : Nat → Nat} {L : AL} {z : Int} {M : List AC} (hX : am_X a ad (y, cc, nL, ret, lev)) (hZ : am_Z a ad (some (.inl z)) M cells slots) {ty : FieldType} (hr0 : ret = some ty) (hn : narrow ty (.int (Int32.ofInt z)) = .int (Int32.ofInt z)) (h : decode cc pc = .ok (.ireturn, 1)) : GG a ad nL cells slots pc L [.inl z] M := by
  obtain ⟨p, l, e, R, s, m, args, below, meth, c, D, K, A, Q⟩ := a
  obtain ⟨hx, hb, hml, hr, hlk, hown, hts, hK, hA, hSt, hfr, hlo, hnm⟩ := hX
  obtain ⟨Qc, rfl, hq⟩ := hZ
  intro H locs ls hc hs hP hD hS hL
  exact W.zret hx hb (hr.trans hr0) hn (fun t ht hW => hq H locs t hP hD hS ht hW) hS.2.2 h hlk
theorem g_vret {y : MethodName} {cc : ByteArray} {nL : Nat} {ret : Option FieldType} {lev pc cells slots : Nat} {a : Am} {ad : Nat → Nat} {L : AL} {M : List AC} (hX : am_X a ad (y, cc, nL, ret, lev)) (hZ : am_Z a ad none M cells slots) (hr0 : ret = none) (h : decode cc pc = .ok (.return_, 1)) : GG a ad nL cells slots pc L [] M := by
  obtain ⟨p, l, e, R, s, m, args, below, meth, c, D, K, A, Q⟩ := a
  obtain ⟨hx, hb, hml, hr, hlk, hown, hts, hK, hA, hSt, hfr, hlo, hnm⟩ := hX
  obtain ⟨Qc, rfl, hq⟩ := hZ
  intro H locs ls hc hs hP hD hS hL
  exact W.vret hx hb (hr.trans hr0) (fun t ht hW => hq H locs t hP hD hS ht hW) hS.2.2 h hlk
theorem g_lret {y : MethodName} {cc : ByteArray} {nL : Nat} {ret : Option FieldType} {lev pc cells slots : Nat} {a : Am} {ad : Nat → Nat} {L : AL} {w : Int64} {M : List AC} (hX : am_X a ad (y, cc, nL, ret, lev)) (hZ : am_Z a ad (some (.inr (.inl w))) M cells slots) (hr0 : ret = some .long) (h : decode cc pc = .ok (.lreturn, 1)) : GG a ad nL cells slots pc L [.inr (.inl w)] M := by
  obtain ⟨p, l, e, R, s, m, args, below, meth, c, D, K, A, Q⟩ := a
  obtain ⟨hx, hb, hml, hr, hlk, hown, hts, hK, hA, hSt, hfr, hlo, hnm⟩ := hX
  obtain ⟨Qc, rfl, hq⟩ := hZ
  intro H locs ls hc hs hP hD hS hL
  exact W.lret hx hb (hr.trans hr0) (fun t ht hW => hq H locs t hP hD hS ht hW) hS.2.2 h hlk
theorem g_aret {y : MethodName} {cc : ByteArray} {nL : Nat} {ret : Option FieldType} {lev pc cells slots : Nat} {a : Am} {ad : Nat → Nat} {L : AL} {k : Nat} {M : List AC} (hX : am_X a ad (y, cc, nL, ret, lev)) (hZ : am_Z a ad (some (.inr (.inr (some k)))) M cells slots) {C : String} (hr0 : ret = some (.object C)) (h : decode cc pc = .ok (.areturn, 1)) : GG a ad nL cells slots pc L [.inr (.inr (some k))] M := by
  obtain ⟨p, l, e, R, s, m, args, below, meth, c, D, K, A, Q⟩ := a
  obtain ⟨hx, hb, hml, hr, hlk, hown, hts, hK, hA, hSt, hfr, hlo, hnm⟩ := hX
  obtain ⟨Qc, rfl, hq⟩ := hZ
  intro H locs ls hc hs hP hD hS hL
  exact W.aret hx hb (hr.trans hr0) (Or.inl ⟨_, rfl⟩) (Or.inr ⟨_, rfl⟩) (fun t ht hW => hq H locs t hP hD hS ht hW) hS.2.2 h hlk
theorem g_widen {a : Am} {ad : Nat → Nat} {nL cells slots pc : Nat} {L : AL} {st : List AV} {M : List AC} (k n : Nat) (h1 : cells ≤ k) (h2 : slots ≤ n) (h3 : k ≤ a.2.2.2.1.cells) (h4 : n ≤ a.2.2.2.1.slots) (h : GG a ad nL k n pc L st M) : GG a ad nL cells slots pc L st M := by
  obtain ⟨p, l, e, R, s, m, args, below, meth, c, D, K, A, Q⟩ := a
  intro H locs ls hc hs hP hD hS hL
  exact W.widen h1 h2 (h H locs ls h3 h4 hP hD hS hL)
/-! calls -/
abbrev Fn : Type := List AV → List AC → Option (Option AV × List AC)
def Fok (mi : Mi) (f : Fn) : Prop := ∀ (av : List AV) (M : List AC) (r : Option AV) (M' : List AC), f av M = some (r, M') → Ct mi av M r M'
def am_mf (mi : Mi) (n : Nat) : Prop := match mi with
  | (y, cc, nL, ret, _) => Cond.code y cc nL ret ∈ GB ∧ Cond.initialized y.cls ∈ GB ∧ (y.cls ≠ "java/lang/invoke/MethodHandle" ∧ y.cls ≠ "java/lang/invoke/VarHandle") ∧ (parseMethodDescriptor y.desc).map (fun d => d.parameters.length) = some n ∧ nL ≤ 18
def am_w8 (st : List AV) : Bool := decide ((st.map (fun v => if am_one v then 1 else 2)).sum ≤ 8)
def tCv (ci n : Nat) (f : Fn) : Tr := fun pc L st M => match st.drop n with
  | .inr (.inr (some q)) :: rest => match M[q]? with
    | some (.inr (c, _)) => if c = ci ∧ am_w8 rest = true then match f (.inr (.inr (some q)) :: (st.take n).reverse) M with
      | some (r, M') => some (pc + 3, L, r.toList ++ rest, M')
      | none => none else none
    | _ => none
  | _ => none
def tCs (n : Nat) (f : Fn) : Tr := fun pc L st M => if n ≤ st.length ∧ am_w8 (st.drop n) = true then match f (st.take n).reverse M with
      | some (r, M') => some (pc + 3, L, r.toList ++ st.drop n, M')
      | none => none else none
def tCt (n : Nat) (f : Fn) : Tr := fun pc L st M => match st.drop n with
  | .inr (.inr (some q)) :: rest => if (q = 1010 ∨ q = 1011) ∧ am_w8 rest = true then match f (.inr (.inr (some q)) :: (st.take n).reverse) M with
      | some (r, M') => some (pc + 3, L, r.toList ++ rest, M')
      | none => none else none
  | _ => none
theorem am_w8_ok {ad : Nat → Nat} {st : List AV} (h : am_w8 st = true) : ((st.map (am_v ad)).map fun v => v.category).sum ≤ 8 := by
  unfold am_w8 at h
  have e : ((st.map (am_v ad)).map fun v => v.category) = st.map (fun v => if am_one v then 1 else 2) := by
    rw [List.map_map]
    apply List.map_congr_left
    intro v _
    rcases v with z | w | (_ | k) <;> rfl
  rw [e]
  exact of_decide_eq_true h
theorem am_frame {p : Program} {l : Launch} {e : Env} {R : Room} {s : State} {m : MethodId} {args : Array Value} {below : List Frame} {meth : Method} {c : Code} {H : Heap} {locs : List Loc} {cells slots : Nat} {Q : State → Prop} {D : va_G} {K : ClassId × ClassId} {A : Nat → Prop} {ad : Nat → Nat} {nL pc : Nat} {ls : Array Slot} {L : AL} {st0 : List Value} {rest : List AV} {r : Option AV} {M M' : List AC} {av : Array Value}
    (hr : va_Run p l e R s m args below meth c H locs cells slots 0 0 (F0 m pc ls st0) (rest.map (am_v ad)) (am_Q D K ad r M' (va_A (am_w ad K M) H.size) av) (va_A (am_w ad K M) H.size))
    (hF : ∀ q, va_A (am_w ad K M) H.size q → A q) (hS : va_S A s.heap H locs) (hL : am_L ad ls nL L) (hc : cells ≤ R.cells) (hs : slots ≤ R.slots)
    (k : GG (p, l, e, R, s, m, args, below, meth, c, D, K, A, Q) ad nL cells slots (pc + 3) L (r.toList ++ rest) M') : W p l e R s m args below meth c H locs cells slots Q (F0 m pc ls st0) := by
  intro T hT X
  obtain ⟨v, st₀, t, T', L1, h0, X', hL1, e1, e2, ⟨⟨hv, hP1, hK1, hD1⟩, hz, hk⟩, st⟩ := hr T hT X
  cases hv
  rw [h0] at hz hk
  rw [← e1] at hP1 hz hk
  have hS1 : va_S A s.heap T'.heap (locs ++ L1) := ⟨Nat.le_trans hS.1 hz, fun q h1 h2 => by rw [hk q (Nat.lt_of_lt_of_le h1 hS.1) (fun z => h2 (hF q z))]; exact hS.2.1 q h1 h2, fun q hq => by
      rcases List.mem_append.mp hq with h | h
      · exact hS.2.2 q h
      · exact hF _ (hL1 q h)⟩
  have w := k T'.heap (locs ++ L1) ls hc hs hP1 (hD1.weaken (fun _ q _ h => hF q.1 h)) hS1 hL
  obtain ⟨t2, a1, b1⟩ := w T' rfl X'
  refine ⟨t2, st t2 ?_, b1⟩
  have e9 : ((r.toList ++ rest).map (am_v ad)) = (r.map (am_v ad)).toList ++ rest.map (am_v ad) := by cases r <;> rfl
  rw [e9] at a1
  exact a1
theorem am_F {ad : Nat → Nat} {K : ClassId × ClassId} {M : List AC} {A : Nat → Prop} {H0 H : Heap} {locs : List Loc} (hD : va_D A (am_w ad K M)) (hS : va_S A H0 H locs) (hA : ∀ q, H0.size ≤ q → A q) : ∀ q, va_A (am_w ad K M) H.size q → A q := by
  intro q h
  rcases h with ⟨k, e, h⟩ | h
  · exact hD.2 k (q, e) h
  · exact hA q (Nat.le_trans hS.1 h)
theorem am_pre {s : State} {D : va_G} {K : ClassId × ClassId} {A : Nat → Prop} {ad : Nat → Nat} {M : List AC} {H : Heap} {locs : List Loc} (av : List AV) (hP : va_P D vwCl (am_w ad K M) H) (hD : va_D A (am_w ad K M)) (hS : va_S A s.heap H locs) (hK : va_K D vwCl (am_ty K) s) (hA : ∀ q, s.heap.size ≤ q → A q) (hSt : am_S ad A s s.heap) :
    FrameBlind (va_Pc (av.map (am_v ad)) (am_B D K ad M H.size)) ∧ ∀ U : State, U.heap = H → s.WarmedH U.vm → va_Pc (av.map (am_v ad)) (am_B D K ad M H.size) (av.map (am_v ad)).toArray U := by
  refine ⟨fun a U g mk q => ?_, fun U hU hW => ?_⟩
  · obtain ⟨q0, q1, qP, qK, qD, qS⟩ := q
    exact ⟨q0, q1, qP, va_K.moved (u := U) (U := U.calling g mk a) (Vm.Alike.refl U.vm) qK, qD, am_S.same (s := U) (U := U.calling g mk a) rfl qS⟩
  · refine ⟨rfl, by rw [hU], by rw [hU]; exact hP, va_K.moved hW.alike hK, hD.weaken (fun _ _ _ _ => trivial), ?_⟩
    rw [hU]
    exact (((hSt.kept hS.2.1).warm hW).narrow (am_F hD hS hA))
theorem am_cb {R : Room} {s : State} {args : Array Value} {y : MethodName} {cc : ByteArray} {nL n lev mc ms : Nat} {ret : Option FieldType} (hts : ∀ w ∈ GB, w.before args s = true) (hm : am_mf (y, cc, nL, ret, lev) n) (h1 : lev + 1 ≤ R.frames) (h2 : 37 * (lev + 1) ≤ R.locals) :
    ((am_rm lev mc ms).cells = mc ∧ (am_rm lev mc ms).slots = ms ∧ (am_rm lev mc ms).frames + 1 ≤ R.frames ∧ 8 + (nL + 11) + (am_rm lev mc ms).locals ≤ R.locals ∧ (∀ w ∈ Cond.code y cc nL ret :: GB, ∀ (a' : Array Value) (U : State), s.WarmedH U.vm → w.before a' U = true) ∧ Cond.code y cc nL ret ∈ Cond.code y cc nL ret :: GB) ∧
  (Cond.code y cc nL ret).before args s = true ∧ (Cond.initialized y.cls).before args s = true ∧ (y.cls ≠ "java/lang/invoke/MethodHandle" ∧ y.cls ≠ "java/lang/invoke/VarHandle") ∧ (∀ sig, parseMethodDescriptor y.desc = some sig → n = sig.parameters.length) := by
  obtain ⟨m1, m2, m3, m4, m5⟩ := hm
  have hw : ∀ w ∈ Cond.code y cc nL ret :: GB, w ∈ GB := fun w hw => by
    rcases List.mem_cons.mp hw with e | e
    · rw [e]; exact m1
    · exact e
  refine ⟨⟨rfl, rfl, h1, by show 8 + (nL + 11) + 37 * lev ≤ R.locals; omega, fun w h a' U hW => word_at hW (gb_good w (hw w h)) (hts w (hw w h)), List.mem_cons_self⟩, hts _ m1, hts _ m2, m3, fun sig h => ?_⟩
  rw [h] at m4
  exact (Option.some.inj m4).symm
theorem sd_cv {y : MethodName} {cc : ByteArray} {nL : Nat} {ret : Option FieldType} {lev pc : Nat} {y' : MethodName} {cc' : ByteArray} {nL' : Nat} {ret' : Option FieldType} {lev' : Nat} {f : Fn} {idx n ci : Nat} {T : u_T} {N : Nat} (hf : Fok (y', cc', nL', ret', lev') f) (hm : am_mf (y', cc', nL', ret', lev') n) (hcl : vwCl[ci]? = some (y'.cls, T, N)) (hl : Cond.methodLink y.cls idx y' ∈ GB) (him : Cond.instanceMethod y' ∈ GB) (hse : Cond.selects y'.cls y' y' ∈ GB) (hlev : lev' < lev) (h : decode cc pc = .ok (.invokevirtual idx, 3)) : Sd (y, cc, nL, ret, lev) pc (tCv ci n f) := by
  rintro ⟨p, l, e, R, s, m, args, below, meth, c, D, K, A, Q⟩ ad cells slots L st M pc' L' st' M' ⟨hx, hb, hml, hr, hlk, hown, hts, hK, hA, hSt, hfr, hlo, hnm⟩ ht k H locs ls hc hs hP hD hS hL
  unfold tCv at ht
  split at ht
  · next q rest hdr =>
    split at ht
    · next c0 fs0 hM =>
      split at ht
      · next hcw =>
        obtain ⟨rfl, hw8⟩ := hcw
        split at ht
        · next r0 M0 hfn =>
          cases ht
          have hlen : n < st.length := by
            rcases Nat.lt_or_ge n st.length with q9 | q9
            · exact q9
            · rw [List.drop_eq_nil_of_le q9] at hdr
              cases hdr
          obtain ⟨b1, b2, b3, b4, b5⟩ := am_cb (R := R) (mc := 0) (ms := 0) hts hm (by omega) (by omega)
          have hpre := am_pre (.inr (.inr (some q)) :: (st.take n).reverse) hP hD hS hK hA hSt
          have hF := am_F hD hS hA
          refine am_frame (rest := rest) (r := r0) (M := M) (M' := M') (va_runV (As := ((st.take n).reverse).map (am_v ad)) ⟨hx, hb, hml, hown, hts⟩ (hf _ _ _ _ hfn l D K ad H.size) ⟨⟨b1.1, b1.2.1, b1.2.2.1, b1.2.2.2.1, b1.2.2.2.2.1, b1.2.2.2.2.2, b2, b3, b4, b5, hts _ hl⟩, hts _ him, hts _ hse⟩ ⟨hpre.1, va_recv hK hP hcl (am_w_at hM), hpre.2⟩ rfl (by simp; omega) (hL.1) ?_ (lv_room (am_w8_ok hw8)) h ⟨hc, hs⟩) hF hS hL hc hs k
          show st.map (am_v ad) = _
          conv => lhs; rw [← List.take_append_drop n st, hdr]
          simp [am_v]
        · cases ht
      · cases ht
    · cases ht
  · cases ht
theorem sd_cs {y : MethodName} {cc : ByteArray} {nL : Nat} {ret : Option FieldType} {lev pc : Nat} {y' : MethodName} {cc' : ByteArray} {nL' : Nat} {ret' : Option FieldType} {lev' : Nat} {f : Fn} {idx n : Nat} (hf : Fok (y', cc', nL', ret', lev') f) (hm : am_mf (y', cc', nL', ret', lev') n) (hl : Cond.methodLink y.cls idx y' ∈ GB) (hst : Cond.static y' ∈ GB) (hlev : lev' < lev) (h : decode cc pc = .ok (.invokestatic idx, 3)) : Sd (y, cc, nL, ret, lev) pc (tCs n f) := by
  rintro ⟨p, l, e, R, s, m, args, below, meth, c, D, K, A, Q⟩ ad cells slots L st M pc' L' st' M' ⟨hx, hb, hml, hr, hlk, hown, hts, hK, hA, hSt, hfr, hlo, hnm⟩ ht k H locs ls hc hs hP hD hS hL
  unfold tCs at ht
  split at ht
  · next hcw =>
    obtain ⟨hlen, hw8⟩ := hcw
    split at ht
    · next r0 M0 hfn =>
      cases ht
      obtain ⟨b1, b2, b3, b4, b5⟩ := am_cb (R := R) (mc := 0) (ms := 0) hts hm (by omega) (by omega)
      have hpre := am_pre ((st.take n).reverse) hP hD hS hK hA hSt
      have hF := am_F hD hS hA
      refine am_frame (rest := st.drop n) (r := r0) (M := M) (M' := M') (va_runS (As := ((st.take n).reverse).map (am_v ad)) ⟨hx, hb, hml, hown, hts⟩ (hf _ _ _ _ hfn l D K ad H.size) ⟨⟨b1.1, b1.2.1, b1.2.2.1, b1.2.2.2.1, b1.2.2.2.2.1, b1.2.2.2.2.2, b2, b3, b4, b5, hts _ hl⟩, hts _ hst⟩ hpre rfl (by simp; omega) (hL.1) ?_ (lv_room (am_w8_ok hw8)) h ⟨hc, hs⟩) hF hS hL hc hs k
      show st.map (am_v ad) = _
      conv => lhs; rw [← List.take_append_drop n st]
      simp
    · cases ht
  · cases ht
theorem sd_csN {y : MethodName} {cc : ByteArray} {nL : Nat} {ret : Option FieldType} {lev pc : Nat} {y' : MethodName} {cc' : ByteArray} {nL' : Nat} {ret' : Option FieldType} {lev' : Nat} {f : Fn} {idx n : Nat} (hf : Fok (y', cc', nL', ret', lev') f) (hm : am_mf (y', cc', nL', ret', lev') n) (hl : Cond.methodLinkNest y.cls idx y' RX5 ∈ am_nest) (hst : Cond.static y' ∈ GB) (hlev : lev' < lev) (h : decode cc pc = .ok (.invokestatic idx, 3)) : Sd (y, cc, nL, ret, lev) pc (tCs n f) := by
  rintro ⟨p, l, e, R, s, m, args, below, meth, c, D, K, A, Q⟩ ad cells slots L st M pc' L' st' M' ⟨hx, hb, hml, hr, hlk, hown, hts, hK, hA, hSt, hfr, hlo, hnm⟩ ht k H locs ls hc hs hP hD hS hL
  unfold tCs at ht
  split at ht
  · next hcw =>
    obtain ⟨hlen, hw8⟩ := hcw
    split at ht
    · next r0 M0 hfn =>
      cases ht
      obtain ⟨b1, b2, b3, b4, b5⟩ := am_cb (R := R) (mc := 0) (ms := 0) hts hm (by omega) (by omega)
      have hpre := am_pre ((st.take n).reverse) hP hD hS hK hA hSt
      have hF := am_F hD hS hA
      refine am_frame (rest := st.drop n) (r := r0) (M := M) (M' := M') (va_runSN (host := RX5) (As := ((st.take n).reverse).map (am_v ad)) ⟨hx, hb, hml, hown, hts⟩ (hf _ _ _ _ hfn l D K ad H.size) ⟨⟨b1, b2, b3, b4, b5, va_Nw.use rfl (hSt.2.2.2.2.2.2.2 _ hl)⟩, hts _ hst, trivial⟩ hpre rfl (by simp; omega) (hL.1) ?_ (lv_room (am_w8_ok hw8)) h ⟨hc, hs⟩) hF hS hL hc hs k
      show st.map (am_v ad) = _
      conv => lhs; rw [← List.take_append_drop n st]
      simp
    · cases ht
  · cases ht
theorem sd_ct {y : MethodName} {cc : ByteArray} {nL : Nat} {ret : Option FieldType} {lev pc : Nat} {y' : MethodName} {cc' : ByteArray} {nL' : Nat} {ret' : Option FieldType} {lev' : Nat} {f : Fn} {idx n : Nat} (hf : Fok (y', cc', nL', ret', lev') f) (hm : am_mf (y', cc', nL', ret', lev') n) (hyc : y'.cls = "java/lang/String") (hl : Cond.methodLink y.cls idx y' ∈ GB) (him : Cond.instanceMethod y' ∈ GB) (hse : Cond.selects "java/lang/String" y' y' ∈ GB) (hlev : lev' < lev) (h : decode cc pc = .ok (.invokevirtual idx, 3)) : Sd (y, cc, nL, ret, lev) pc (tCt n f) := by
  rintro ⟨p, l, e, R, s, m, args, below, meth, c, D, K, A, Q⟩ ad cells slots L st M pc' L' st' M' ⟨hx, hb, hml, hr, hlk, hown, hts, hK, hA, hSt, hfr, hlo, hnm⟩ ht k H locs ls hc hs hP hD hS hL
  unfold tCt at ht
  split at ht
  · next q rest hdr =>
    split at ht
    · next hcw =>
      obtain ⟨hq, hw8⟩ := hcw
      split at ht
      · next r0 M0 hfn =>
        cases ht
        have hlen : n < st.length := by
          rcases Nat.lt_or_ge n st.length with q9 | q9
          · exact q9
          · rw [List.drop_eq_nil_of_le q9] at hdr
            cases hdr
        obtain ⟨b1, b2, b3, b4, b5⟩ := am_cb (R := R) (mc := 0) (ms := 0) hts hm (by omega) (by omega)
        have hpre := am_pre (.inr (.inr (some q)) :: (st.take n).reverse) hP hD hS hK hA hSt
        have hF := am_F hD hS hA
        have hrc : ∃ cell : Cell, H[ad q]? = some cell ∧ cell.vm.isStatics = false ∧ s.vm.findClass "java/lang/String" = some cell.cls := by
          rcases hq with rfl | rfl
          · exact vk_recv (i := 0) hSt.2.2.2.2.2.2.1 (by decide) hS
          · exact vk_recv (i := 1) hSt.2.2.2.2.2.2.1 (by decide) hS
        refine am_frame (rest := rest) (r := r0) (M := M) (M' := M') (va_runV (C := "java/lang/String") (As := ((st.take n).reverse).map (am_v ad)) ⟨hx, hb, hml, hown, hts⟩ (hf _ _ _ _ hfn l D K ad H.size) ⟨⟨b1.1, b1.2.1, b1.2.2.1, b1.2.2.2.1, b1.2.2.2.2.1, b1.2.2.2.2.2, b2, b3, b4, b5, hts _ hl⟩, hts _ him, hts _ hse⟩ ⟨hpre.1, hrc, hpre.2⟩ rfl (by simp; omega) (hL.1) ?_ (lv_room (am_w8_ok hw8)) h ⟨hc, hs⟩) hF hS hL hc hs k
        show st.map (am_v ad) = _
        conv => lhs; rw [← List.take_append_drop n st, hdr]
        simp [am_v]
      · cases ht
    · cases ht
  · cases ht
