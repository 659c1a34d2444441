noncomputable section
/-! contracts over the abstract machine -/
def am_B (D : va_G) (K : ClassId × ClassId) (ad : Nat → Nat) (M : List AC) (sz : Nat) (U : State) : Prop := U.heap.size = sz ∧ va_P D vwCl (am_w ad K M) U.heap ∧ va_K D vwCl (am_ty K) U ∧ va_D (fun _ => True) (am_w ad K M) ∧ am_S ad (va_A (am_w ad K M) sz) U U.heap
def am_Q (D : va_G) (K : ClassId × ClassId) (ad : Nat → Nat) (r : Option AV) (M' : List AC) (A : Nat → Prop) : Array Value → State → Outcome → State → Prop := fun _ st oc t => (oc = .returned (r.map (am_v ad)) ∧ va_P D vwCl (am_w ad K M') t.heap ∧ va_K D vwCl (am_ty K) t ∧ va_D A (am_w ad K M')) ∧ va_F A st t
/-- a method that makes cells: the places that were there keep their addresses -/
def am_Qa (D : va_G) (K : ClassId × ClassId) (ad : Nat → Nat) (n : Nat) (r : Option AV) (M' : List AC) (A : Nat → Prop) : Array Value → State → Outcome → State → Prop := fun _ st oc t => (∃ ad' : Nat → Nat, (∀ k, k < n ∨ 1000 ≤ k → ad' k = ad k) ∧ oc = .returned (r.map (am_v ad')) ∧ va_P D vwCl (am_w ad' K M') t.heap ∧ va_K D vwCl (am_ty K) t ∧ va_D A (am_w ad' K M')) ∧ va_F A st t
abbrev am_rm (lev mc ms : Nat) : Room := { frames := lev, cells := mc, slots := ms, locals := 37 * lev }
def Ct (mi : Mi) (av : List AV) (M : List AC) (r : Option AV) (M' : List AC) : Prop := match mi with
  | (y, cc, nL, ret, lev) => ∀ (l : Launch) (D : va_G) (K : ClassId × ClassId) (ad : Nat → Nat) (sz : Nat), Met l y (.code y cc nL ret :: GB) (am_rm lev 0 0) (va_Pc (av.map (am_v ad)) (am_B D K ad M sz)) (am_Q D K ad r M' (va_A (am_w ad K M) sz)) 0 0 (va_A (am_w ad K M) sz)
def Ca (mi : Mi) (mc ms : Nat) (av : List AV) (M : List AC) (r : Option AV) (M' : List AC) : Prop := match mi with
  | (y, cc, nL, ret, lev) => ∀ (l : Launch) (D : va_G) (K : ClassId × ClassId) (ad : Nat → Nat) (sz : Nat), Met l y (.code y cc nL ret :: GB) (am_rm lev mc ms) (va_Pc (av.map (am_v ad)) (am_B D K ad M sz)) (am_Qa D K ad M.length r M' (va_A (am_w ad K M) sz)) mc ms (va_A (am_w ad K M) sz)
def am_Z (a : Am) (ad : Nat → Nat) (r : Option AV) (M : List AC) (mc ms : Nat) : Prop := match a with
  | (p, l, e, R, s, m, args, below, meth, c, D, K, A, Q) => ∃ Qc : Array Value → State → Outcome → State → Prop, Q = MQ below Qc args s mc ms A ∧ ∀ (H : Heap) (locs : List Loc) (t : State), va_P D vwCl (am_w ad K M) H → va_D A (am_w ad K M) → va_S A s.heap H locs → t.heap = H → s.WarmedH t.vm → Qc args s (.returned (r.map (am_v ad))) t
def am_sl : List AV → AL
  | [] => []
  | .inr (.inl w) :: r => some (.inr (.inl w)) :: none :: am_sl r
  | .inl z :: r => some (.inl z) :: am_sl r
  | .inr (.inr z) :: r => some (.inr (.inr z)) :: am_sl r
def am_in (av : List AV) (nL : Nat) : AL := am_sl av ++ List.replicate (nL - (am_sl av).length) none
theorem am_sl_len (ad : Nat → Nat) : ∀ av : List AV, (lg_sl (av.map (am_v ad))).length = (am_sl av).length
  | [] => rfl
  | .inl z :: r => by
    have ih := am_sl_len ad r
    simp only [lg_sl, List.map_cons, List.flatMap_cons, am_v, Value.category, am_sl, List.length_append, List.length_cons] at ih ⊢
    simp [ih]; omega
  | .inr (.inl z) :: r => by
    have ih := am_sl_len ad r
    simp only [lg_sl, List.map_cons, List.flatMap_cons, am_v, Value.category, am_sl, List.length_append, List.length_cons] at ih ⊢
    simp [ih]; omega
  | .inr (.inr none) :: r => by
    have ih := am_sl_len ad r
    simp only [lg_sl, List.map_cons, List.flatMap_cons, am_v, Value.category, am_sl, List.length_append, List.length_cons] at ih ⊢
    simp [ih]; omega
  | .inr (.inr (some k)) :: r => by
    have ih := am_sl_len ad r
    simp only [lg_sl, List.map_cons, List.flatMap_cons, am_v, Value.category, am_sl, List.length_append, List.length_cons] at ih ⊢
    simp [ih]; omega
theorem am_sl_mem (ad : Nat → Nat) : ∀ (av : List AV) (k i : Nat) (v : AV), (am_sl av)[i]? = some (some v) → (k + i, am_v ad v) ∈ lv_args k (av.map (am_v ad))
  | [], k, i, v, h => by simp [am_sl] at h
  | .inr (.inl w) :: r, k, i, v, h => by
    simp only [am_sl] at h
    match i, h with
    | 0, h => simp at h; subst h; simp [lv_args, am_v]
    | 1, h => simp at h
    | i + 2, h =>
      simp only [List.getElem?_cons_succ] at h
      have ih := am_sl_mem ad r (k + 2) i v h
      have e : k + (i + 2) = k + 2 + i := by omega
      rw [e]
      simp only [List.map_cons, lv_args, am_v, Value.category, if_true]
      exact List.mem_cons_of_mem _ ih
  | .inl z :: r, k, i, v, h => by
    simp only [am_sl] at h
    match i, h with
    | 0, h => simp at h; subst h; simp [lv_args, am_v]
    | i + 1, h =>
      simp only [List.getElem?_cons_succ] at h
      have ih := am_sl_mem ad r (k + 1) i v h
      have e : k + (i + 1) = k + 1 + i := by omega
      rw [e]
      simp only [List.map_cons, lv_args, am_v, Value.category]
      exact List.mem_cons_of_mem _ ih
  | .inr (.inr none) :: r, k, i, v, h => by
    simp only [am_sl] at h
    match i, h with
    | 0, h => simp at h; subst h; simp [lv_args, am_v]
    | i + 1, h =>
      simp only [List.getElem?_cons_succ] at h
      have ih := am_sl_mem ad r (k + 1) i v h
      have e : k + (i + 1) = k + 1 + i := by omega
      rw [e]
      simp only [List.map_cons, lv_args, am_v, Value.category]
      exact List.mem_cons_of_mem _ ih
  | .inr (.inr (some q)) :: r, k, i, v, h => by
    simp only [am_sl] at h
    match i, h with
    | 0, h => simp at h; subst h; simp [lv_args, am_v]
    | i + 1, h =>
      simp only [List.getElem?_cons_succ] at h
      have ih := am_sl_mem ad r (k + 1) i v h
      have e : k + (i + 1) = k + 1 + i := by omega
      rw [e]
      simp only [List.map_cons, lv_args, am_v, Value.category]
      exact List.mem_cons_of_mem _ ih
theorem am_in_L {ad : Nat → Nat} {av : List AV} {nL : Nat} (h : (am_sl av).length ≤ nL) : am_L ad ((lg_sl (av.map (am_v ad)) ++ List.replicate (nL - (lg_sl (av.map (am_v ad))).length) Slot.unset).toArray) nL (am_in av nL) := by
  have hl := lv_entry (av.map (am_v ad)) (n := nL) (by rw [am_sl_len]; exact h)
  refine ⟨hl.1, hl.2.1, ?_, fun i v hi => ?_⟩
  · unfold am_in
    simp
    omega
  · have hi2 : (am_sl av)[i]? = some (some v) := by
      unfold am_in at hi
      rcases Nat.lt_or_ge i (am_sl av).length with q | q
      · rw [List.getElem?_append_left q] at hi
        exact hi
      · rw [List.getElem?_append_right q, List.getElem?_replicate] at hi
        split at hi <;> cases hi
    have := am_sl_mem ad av 0 i v hi2
    rw [Nat.zero_add] at this
    exact hl.2.2 _ this
theorem ct_intro {y : MethodName} {cc : ByteArray} {nL : Nat} {ret : Option FieldType} {lev : Nat} {av : List AV} {M : List AC} {r : Option AV} {M' : List AC} (hy : plainName y.cls = true) (hl : (am_sl av).length ≤ nL)
    (h : ∀ (a : Am) (ad : Nat → Nat), am_X a ad (y, cc, nL, ret, lev) → am_Z a ad r M' 0 0 → GG a ad nL 0 0 0 (am_in av nL) [] M) : Ct (y, cc, nL, ret, lev) av M r M' := by
  intro l D K ad sz
  refine Met.ofW (cc := cc) (maxL := nL) (ret := ret) hy rfl ?_
  intro p e s m args below meth c s₁ B hml hv
  obtain ⟨rfl, hsz, hP, hK, hD0, hSt⟩ := hv
  subst hsz
  have hts := atoms_spec (ws := Cond.code y cc nL ret :: GB) B.pre
  have hD := hD0.self (sz := s.heap.size)
  have hA : ∀ q : Nat, s.heap.size ≤ q → va_A (am_w ad K M) s.heap.size q := fun q h => Or.inr h
  have hX : am_X (p, l, e, am_rm lev 0 0, s, m, (av.map (am_v ad)).toArray, below, meth, c, D, K, va_A (am_w ad K M) s.heap.size, MQ below (am_Q D K ad r M' (va_A (am_w ad K M) s.heap.size)) (av.map (am_v ad)).toArray s 0 0 (va_A (am_w ad K M) s.heap.size)) ad (y, cc, nL, ret, lev) :=
    ⟨B.exec, B.bytes, hml, B.returns, B.notSynchronized, findClass_of_methodNamed B.named, fun w hw => hts w (List.mem_cons_of_mem _ hw), hK, hA, hSt, Nat.le_refl _, Nat.le_refl _, (name_of_methodNamed B.named B.method).1⟩
  have := h _ ad hX ⟨_, rfl, fun H locs t hP hD hS ht hW => ⟨⟨rfl, by rw [ht]; exact hP, va_K.moved hW.alike hK, hD⟩, hS.F ht⟩⟩
  rw [lg_entry_eq]
  exact this s.heap [] _ (Nat.le_refl _) (Nat.le_refl _) hP hD va_S.rf (am_in_L hl)
theorem ca_intro {y : MethodName} {cc : ByteArray} {nL : Nat} {ret : Option FieldType} {lev mc ms : Nat} {av : List AV} {M : List AC} {r : Option AV} {M' : List AC} (hy : plainName y.cls = true) (hl : (am_sl av).length ≤ nL)
    (h : ∀ (a : Am) (ad : Nat → Nat), am_X a ad (y, cc, nL, ret, lev) → mc ≤ a.2.2.2.1.cells → ms ≤ a.2.2.2.1.slots → (∀ ad' : Nat → Nat, (∀ k, k < M.length ∨ 1000 ≤ k → ad' k = ad k) → am_Z a ad' r M' mc ms) → GG a ad nL 0 0 0 (am_in av nL) [] M) : Ca (y, cc, nL, ret, lev) mc ms av M r M' := by
  intro l D K ad sz
  refine Met.ofW (cc := cc) (maxL := nL) (ret := ret) hy rfl ?_
  intro p e s m args below meth c s₁ B hml hv
  obtain ⟨rfl, hsz, hP, hK, hD0, hSt⟩ := hv
  subst hsz
  have hts := atoms_spec (ws := Cond.code y cc nL ret :: GB) B.pre
  have hD := hD0.self (sz := s.heap.size)
  have hA : ∀ q : Nat, s.heap.size ≤ q → va_A (am_w ad K M) s.heap.size q := fun q h => Or.inr h
  have hX : am_X (p, l, e, am_rm lev mc ms, s, m, (av.map (am_v ad)).toArray, below, meth, c, D, K, va_A (am_w ad K M) s.heap.size, MQ below (am_Qa D K ad M.length r M' (va_A (am_w ad K M) s.heap.size)) (av.map (am_v ad)).toArray s mc ms (va_A (am_w ad K M) s.heap.size)) ad (y, cc, nL, ret, lev) :=
    ⟨B.exec, B.bytes, hml, B.returns, B.notSynchronized, findClass_of_methodNamed B.named, fun w hw => hts w (List.mem_cons_of_mem _ hw), hK, hA, hSt, Nat.le_refl _, Nat.le_refl _, (name_of_methodNamed B.named B.method).1⟩
  have := h _ ad hX (Nat.le_refl _) (Nat.le_refl _) (fun ad' hk => ⟨_, rfl, fun H locs t hP hD hS ht hW => ⟨⟨ad', hk, rfl, by rw [ht]; exact hP, va_K.moved hW.alike hK, hD⟩, hS.F ht⟩⟩)
  rw [lg_entry_eq]
  exact this s.heap [] _ (Nat.zero_le _) (Nat.zero_le _) hP hD va_S.rf (am_in_L hl)
/-! returns -/
theorem g_iret {y : MethodName} {cc : ByteArray} {nL : Nat} {ret : Option FieldType} {lev pc cells slots : Nat} {a : Am} {ad : Nat → Nat} {L : AL} {z : Int} {M : List AC} (hX : am_X a ad (y, cc, nL, ret, lev)) (hZ : am_Z a ad (some (.inl z)) M cells slots) (hr0 : ret = some .int) (h : decode cc pc = .ok (.ireturn, 1)) : GG a ad nL cells slots pc L [.inl z] M := by
  obtain ⟨p, l, e, R, s, m, args, below, meth, c, D, K, A, Q⟩ := a
  obtain ⟨hx, hb, hml, hr, hlk, hown, hts, hK, hA, hSt, hfr, hlo, hnm⟩ := hX
  obtain ⟨Qc, rfl, hq⟩ := hZ
  intro H locs ls hc hs hP hD hS hL
  exact W.iret hx hb (hr.trans hr0) (fun t ht hW => hq H locs t hP hD hS ht hW) hS.2.2 h hlk
theorem g_zret {y : MethodName} {cc : ByteArray} {nL : Nat} {ret : Option FieldType} {lev pc cells slots : Nat} {a : Am} {ad : Nat → Nat} {L : AL} {z : Int} {M : List AC} (hX : am_X a ad (y, cc, nL, ret, lev)) (hZ : am_Z a ad (some (.inl z)) M cells slots) {ty : FieldType} (hr0 : ret = some ty) (hn : narrow ty (.int (Int32.ofInt z)) = .int (Int32.ofInt z)) (h : decode cc pc = .ok (.ireturn, 1)) : GG a ad nL cells slots pc L [.inl z] M := by
  obtain ⟨p, l, e, R, s, m, args, below, meth, c, D, K, A, Q⟩ := a
  obtain ⟨hx, hb, hml, hr, hlk, hown, hts, hK, hA, hSt, hfr, hlo, hnm⟩ := hX
  obtain ⟨Qc, rfl, hq⟩ := hZ
  intro H locs ls hc hs hP hD hS hL
  exact W.zret hx hb (hr.trans hr0) hn (fun t ht hW => hq H locs t hP hD hS ht hW) hS.2.2 h hlk
theorem g_vret {y : MethodName} {cc : ByteArray} {nL : Nat} {ret : Option FieldType} {lev pc cells slots : Nat} {a : Am} {ad : Nat → Nat} {L : AL} {M : List AC} (hX : am_X a ad (y, cc, nL, ret, lev)) (hZ : am_Z a ad none M cells slots) (hr0 : ret = none) (h : decode cc pc = .ok (.return_, 1)) : GG a ad nL cells slots pc L [] M := by
  obtain ⟨p, l, e, R, s, m, args, below, meth, c, D, K, A, Q⟩ := a
  obtain ⟨hx, hb, hml, hr, hlk, hown, hts, hK, hA, hSt, hfr, hlo, hnm⟩ := hX
  obtain ⟨Qc, rfl, hq⟩ := hZ
  intro H locs ls hc hs hP hD hS hL
  exact W.vret hx hb (hr.trans hr0) (fun t ht hW => hq H locs t hP hD hS ht hW) hS.2.2 h hlk
theorem g_lret {y : MethodName} {cc : ByteArray} {nL : Nat} {ret : Option FieldType} {lev pc cells slots : Nat} {a : Am} {ad : Nat → Nat} {L : AL} {w : Int64} {M : List AC} (hX : am_X a ad (y, cc, nL, ret, lev)) (hZ : am_Z a ad (some (.inr (.inl w))) M cells slots) (hr0 : ret = some .long) (h : decode cc pc = .ok (.lreturn, 1)) : GG a ad nL cells slots pc L [.inr (.inl w)] M := by
  obtain ⟨p, l, e, R, s, m, args, below, meth, c, D, K, A, Q⟩ := a
  obtain ⟨hx, hb, hml, hr, hlk, hown, hts, hK, hA, hSt, hfr, hlo, hnm⟩ := hX
  obtain ⟨Qc, rfl, hq⟩ := hZ
  intro H locs ls hc hs hP hD hS hL
  exact W.lret hx hb (hr.trans hr0) (fun t ht hW => hq H locs t hP hD hS ht hW) hS.2.2 h hlk
theorem g_aret {y : MethodName} {cc : ByteArray} {nL : Nat} {ret : Option FieldType} {lev pc cells slots : Nat} {a : Am} {ad : Nat → Nat} {L : AL} {k : Nat} {M : List AC} (hX : am_X a ad (y, cc, nL, ret, lev)) (hZ : am_Z a ad (some (.inr (.inr (some k)))) M cells slots) {C : String} (hr0 : ret = some (.object C)) (h : decode cc pc = .ok (.areturn, 1)) : GG a ad nL cells slots pc L [.inr (.inr (some k))] M := by
  obtain ⟨p, l, e, R, s, m, args, below, meth, c, D, K, A, Q⟩ := a
  obtain ⟨hx, hb, hml, hr, hlk, hown, hts, hK, hA, hSt, hfr, hlo, hnm⟩ := hX
  obtain ⟨Qc, rfl, hq⟩ := hZ
  intro H locs ls hc hs hP hD hS hL
  exact W.aret hx hb (hr.trans hr0) (Or.inl ⟨_, rfl⟩) (Or.inr ⟨_, rfl⟩) (fun t ht hW => hq H locs t hP hD hS ht hW) hS.2.2 h hlk
theorem g_widen {a : Am} {ad : Nat → Nat} {nL cells slots pc : Nat} {L : AL} {st : List AV} {M : List AC} (k n : Nat) (h1 : cells ≤ k) (h2 : slots ≤ n) (h3 : k ≤ a.2.2.2.1.cells) (h4 : n ≤ a.2.2.2.1.slots) (h : GG a ad nL k n pc L st M) : GG a ad nL cells slots pc L st M := by
  obtain ⟨p, l, e, R, s, m, args, below, meth, c, D, K, A, Q⟩ := a
  intro H locs ls hc hs hP hD hS hL
  exact W.widen h1 h2 (h H locs ls h3 h4 hP hD hS hL)
/-! calls -/
abbrev Fn : Type := List AV → List AC → Option (Option AV × List AC)
def Fok (mi : Mi) (f : Fn) : Prop := ∀ (av : List AV) (M : List AC) (r : Option AV) (M' : List AC), f av M = some (r, M') → Ct mi av M r M'
def am_mf (mi : Mi) (n : Nat) : Prop := match mi with
  | (y, cc, nL, ret, _) => Cond.code y cc nL ret ∈ GB ∧ Cond.initialized y.cls ∈ GB ∧ (y.cls ≠ "java/lang/invoke/MethodHandle" ∧ y.cls ≠ "java/lang/invoke/VarHandle") ∧ (parseMethodDescriptor y.desc).map (fun d => d.parameters.length) = some n ∧ nL ≤ 18
def am_w8 (st : List AV) : Bool := decide ((st.map (fun v => if am_one v then 1 else 2)).sum ≤ 8)
def tCv (ci n : Nat) (f : Fn) : Tr := fun pc L st M => match st.drop n with
  | .inr (.inr (some q)) :: rest => match M[q]? with
    | some (.inr (c, _)) => if c = ci ∧ am_w8 rest = true then match f (.inr (.inr (some q)) :: (st.take n).reverse) M with
      | some (r, M') => some (pc + 3, L, r.toList ++ rest, M')
      | none => none else none
    | _ => none
  | _ => none
def tCs (n : Nat) (f : Fn) : Tr := fun pc L st M => if n ≤ st.length ∧ am_w8 (st.drop n) = true then match f (st.take n).reverse M with
      | some (r, M') => some (pc + 3, L, r.toList ++ st.drop n, M')
      | none => none else none
def tCt (n : Nat) (f : Fn) : Tr := fun pc L st M => match st.drop n with
  | .inr (.inr (some q)) :: rest => if (q = 1010 ∨ q = 1011) ∧ am_w8 rest = true then match f (.inr (.inr (some q)) :: (st.take n).reverse) M with
      | some (r, M') => some (pc + 3, L, r.toList ++ rest, M')
      | none => none else none
  | _ => none
theorem am_w8_ok {ad : Nat → Nat} {st : List AV} (h : am_w8 st = true) : ((st.map (am_v ad)).map fun v => v.category).sum ≤ 8 := by
  unfold am_w8 at h
  have e : ((st.map (am_v ad)).map fun v => v.category) = st.map (fun v => if am_one v then 1 else 2) := by
    rw [List.map_map]
    apply List.map_congr_left
    intro v _
    rcases v with z | w | (_ | k) <;> rfl
  rw [e]
  exact of_decide_eq_true h
theorem am_frame {p : Program} {l : Launch} {e : Env} {R : Room} {s : State} {m : MethodId} {args : Array Value} {below : List Frame} {meth : Method} {c : Code} {H : Heap} {locs : List Loc} {cells slots : Nat} {Q : State → Prop} {D : va_G} {K : ClassId × ClassId} {A : Nat → Prop} {ad : Nat → Nat} {nL pc : Nat} {ls : Array Slot} {L : AL} {st0 : List Value} {rest : List AV} {r : Option AV} {M M' : List AC} {av : Array Value}
    (hr : va_Run p l e R s m args below meth c H locs cells slots 0 0 (F0 m pc ls st0) (rest.map (am_v ad)) (am_Q D K ad r M' (va_A (am_w ad K M) H.size) av) (va_A (am_w ad K M) H.size))
    (hF : ∀ q, va_A (am_w ad K M) H.size q → A q) (hS : va_S A s.heap H locs) (hL : am_L ad ls nL L) (hc : cells ≤ R.cells) (hs : slots ≤ R.slots)
    (k : GG (p, l, e, R, s, m, args, below, meth, c, D, K, A, Q) ad nL cells slots (pc + 3) L (r.toList ++ rest) M') : W p l e R s m args below meth c H locs cells slots Q (F0 m pc ls st0) := by
  intro T hT X
  obtain ⟨v, st₀, t, T', L1, h0, X', hL1, e1, e2, ⟨⟨hv, hP1, hK1, hD1⟩, hz, hk⟩, st⟩ := hr T hT X
  cases hv
  rw [h0] at hz hk
  rw [← e1] at hP1 hz hk
  have hS1 : va_S A s.heap T'.heap (locs ++ L1) := ⟨Nat.le_trans hS.1 hz, fun q h1 h2 => by rw [hk q (Nat.lt_of_lt_of_le h1 hS.1) (fun z => h2 (hF q z))]; exact hS.2.1 q h1 h2, fun q hq => by
      rcases List.mem_append.mp hq with h | h
      · exact hS.2.2 q h
      · exact hF _ (hL1 q h)⟩
  have w := k T'.heap (locs ++ L1) ls hc hs hP1 (hD1.weaken (fun _ q _ h => hF q.1 h)) hS1 hL
  obtain ⟨t2, a1, b1⟩ := w T' rfl X'
  refine ⟨t2, st t2 ?_, b1⟩
  have e9 : ((r.toList ++ rest).map (am_v ad)) = (r.map (am_v ad)).toList ++ rest.map (am_v ad) := by cases r <;> rfl
  rw [e9] at a1
  exact a1
theorem am_F {ad : Nat → Nat} {K : ClassId × ClassId} {M : List AC} {A : Nat → Prop} {H0 H : Heap} {locs : List Loc} (hD : va_D A (am_w ad K M)) (hS : va_S A H0 H locs) (hA : ∀ q, H0.size ≤ q → A q) : ∀ q, va_A (am_w ad K M) H.size q → A q := by
  intro q h
  rcases h with ⟨k, e, h⟩ | h
  · exact hD.2 k (q, e) h
  · exact hA q (Nat.le_trans hS.1 h)
theorem am_pre {s : State} {D : va_G} {K : ClassId × ClassId} {A : Nat → Prop} {ad : Nat → Nat} {M : List AC} {H : Heap} {locs : List Loc} (av : List AV) (hP : va_P D vwCl (am_w ad K M) H) (hD : va_D A (am_w ad K M)) (hS : va_S A s.heap H locs) (hK : va_K D vwCl (am_ty K) s) (hA : ∀ q, s.heap.size ≤ q → A q) (hSt : am_S ad A s s.heap) :
    FrameBlind (va_Pc (av.map (am_v ad)) (am_B D K ad M H.size)) ∧ ∀ U : State, U.heap = H → s.WarmedH U.vm → va_Pc (av.map (am_v ad)) (am_B D K ad M H.size) (av.map (am_v ad)).toArray U := by
  refine ⟨fun a U g mk q => ?_, fun U hU hW => ?_⟩
  · obtain ⟨q0, q1, qP, qK, qD, qS⟩ := q
    exact ⟨q0, q1, qP, va_K.moved (u := U) (U := U.calling g mk a) (Vm.Alike.refl U.vm) qK, qD, am_S.same (s := U) (U := U.calling g mk a) rfl qS⟩
  · refine ⟨rfl, by rw [hU], by rw [hU]; exact hP, va_K.moved hW.alike hK, hD.weaken (fun _ _ _ _ => trivial), ?_⟩
    rw [hU]
    exact (((hSt.kept hS.2.1).warm hW).narrow (am_F hD hS hA))
theorem am_cb {R : Room} {s : State} {args : Array Value} {y : MethodName} {cc : ByteArray} {nL n lev mc ms : Nat} {ret : Option FieldType} (hts : ∀ w ∈ GB, w.before args s = true) (hm : am_mf (y, cc, nL, ret, lev) n) (h1 : lev + 1 ≤ R.frames) (h2 : 37 * (lev + 1) ≤ R.locals) :
    ((am_rm lev mc ms).cells = mc ∧ (am_rm lev mc ms).slots = ms ∧ (am_rm lev mc ms).frames + 1 ≤ R.frames ∧ 8 + (nL + 11) + (am_rm lev mc ms).locals ≤ R.locals ∧ (∀ w ∈ Cond.code y cc nL ret :: GB, ∀ (a' : Array Value) (U : State), s.WarmedH U.vm → w.before a' U = true) ∧ Cond.code y cc nL ret ∈ Cond.code y cc nL ret :: GB) ∧
  (Cond.code y cc nL ret).before args s = true ∧ (Cond.initialized y.cls).before args s = true ∧ (y.cls ≠ "java/lang/invoke/MethodHandle" ∧ y.cls ≠ "java/lang/invoke/VarHandle") ∧ (∀ sig, parseMethodDescriptor y.desc = some sig → n = sig.parameters.length) := by
  obtain ⟨m1, m2, m3, m4, m5⟩ := hm
  have hw : ∀ w ∈ Cond.code y cc nL ret :: GB, w ∈ GB := fun w hw => by
    rcases List.mem_cons.mp hw with e | e
    · rw [e]; exact m1
    · exact e
  refine ⟨⟨rfl, rfl, h1, by show 8 + (nL + 11) + 37 * lev ≤ R.locals; omega, fun w h a' U hW => word_at hW (gb_good w (hw w h)) (hts w (hw w h)), List.mem_cons_self⟩, hts _ m1, hts _ m2, m3, fun sig h => ?_⟩
  rw [h] at m4
  exact (Option.some.inj m4).symm
theorem sd_cv {y : MethodName} {cc : ByteArray} {nL : Nat} {ret : Option FieldType} {lev pc : Nat} {y' : MethodName} {cc' : ByteArray} {nL' : Nat} {ret' : Option FieldType} {lev' : Nat} {f : Fn} {idx n ci : Nat} {T : u_T} {N : Nat} (hf : Fok (y', cc', nL', ret', lev') f) (hm : am_mf (y', cc', nL', ret', lev') n) (hcl : vwCl[ci]? = some (y'.cls, T, N)) (hl : Cond.methodLink y.cls idx y' ∈ GB) (him : Cond.instanceMethod y' ∈ GB) (hse : Cond.selects y'.cls y' y' ∈ GB) (hlev : lev' < lev) (h : decode cc pc = .ok (.invokevirtual idx, 3)) : Sd (y, cc, nL, ret, lev) pc (tCv ci n f) := by
  rintro ⟨p, l, e, R, s, m, args, below, meth, c, D, K, A, Q⟩ ad cells slots L st M pc' L' st' M' ⟨hx, hb, hml, hr, hlk, hown, hts, hK, hA, hSt, hfr, hlo, hnm⟩ ht k H locs ls hc hs hP hD hS hL
  unfold tCv at ht
  split at ht
  · next q rest hdr =>
    split at ht
    · next c0 fs0 hM =>
      split at ht
      · next hcw =>
        obtain ⟨rfl, hw8⟩ := hcw
        split at ht
        · next r0 M0 hfn =>
          cases ht
          have hlen : n < st.length := by
            rcases Nat.lt_or_ge n st.length with q9 | q9
            · exact q9
            · rw [List.drop_eq_nil_of_le q9] at hdr
              cases hdr
          obtain ⟨b1, b2, b3, b4, b5⟩ := am_cb (R := R) (mc := 0) (ms := 0) hts hm (by omega) (by omega)
          have hpre := am_pre (.inr (.inr (some q)) :: (st.take n).reverse) hP hD hS hK hA hSt
          have hF := am_F hD hS hA
          refine am_frame (rest := rest) (r := r0) (M := M) (M' := M') (va_runV (As := ((st.take n).reverse).map (am_v ad)) ⟨hx, hb, hml, hown, hts⟩ (hf _ _ _ _ hfn l D K ad H.size) ⟨⟨b1.1, b1.2.1, b1.2.2.1, b1.2.2.2.1, b1.2.2.2.2.1, b1.2.2.2.2.2, b2, b3, b4, b5, hts _ hl⟩, hts _ him, hts _ hse⟩ ⟨hpre.1, va_recv hK hP hcl (am_w_at hM), hpre.2⟩ rfl (by simp; omega) (hL.1) ?_ (lv_room (am_w8_ok hw8)) h ⟨hc, hs⟩) hF hS hL hc hs k
          show st.map (am_v ad) = _
          conv => lhs; rw [← List.take_append_drop n st, hdr]
          simp [am_v]
        · cases ht
      · cases ht
    · cases ht
  · cases ht
theorem sd_cs {y : MethodName} {cc : ByteArray} {nL : Nat} {ret : Option FieldType} {lev pc : Nat} {y' : MethodName} {cc' : ByteArray} {nL' : Nat} {ret' : Option FieldType} {lev' : Nat} {f : Fn} {idx n : Nat} (hf : Fok (y', cc', nL', ret', lev') f) (hm : am_mf (y', cc', nL', ret', lev') n) (hl : Cond.methodLink y.cls idx y' ∈ GB) (hst : Cond.static y' ∈ GB) (hlev : lev' < lev) (h : decode cc pc = .ok (.invokestatic idx, 3)) : Sd (y, cc, nL, ret, lev) pc (tCs n f) := by
  rintro ⟨p, l, e, R, s, m, args, below, meth, c, D, K, A, Q⟩ ad cells slots L st M pc' L' st' M' ⟨hx, hb, hml, hr, hlk, hown, hts, hK, hA, hSt, hfr, hlo, hnm⟩ ht k H locs ls hc hs hP hD hS hL
  unfold tCs at ht
  split at ht
  · next hcw =>
    obtain ⟨hlen, hw8⟩ := hcw
    split at ht
    · next r0 M0 hfn =>
      cases ht
      obtain ⟨b1, b2, b3, b4, b5⟩ := am_cb (R := R) (mc := 0) (ms := 0) hts hm (by omega) (by omega)
      have hpre := am_pre ((st.take n).reverse) hP hD hS hK hA hSt
      have hF := am_F hD hS hA
      refine am_frame (rest := st.drop n) (r := r0) (M := M) (M' := M') (va_runS (As := ((st.take n).reverse).map (am_v ad)) ⟨hx, hb, hml, hown, hts⟩ (hf _ _ _ _ hfn l D K ad H.size) ⟨⟨b1.1, b1.2.1, b1.2.2.1, b1.2.2.2.1, b1.2.2.2.2.1, b1.2.2.2.2.2, b2, b3, b4, b5, hts _ hl⟩, hts _ hst⟩ hpre rfl (by simp; omega) (hL.1) ?_ (lv_room (am_w8_ok hw8)) h ⟨hc, hs⟩) hF hS hL hc hs k
      show st.map (am_v ad) = _
      conv => lhs; rw [← List.take_append_drop n st]
      simp
    · cases ht
  · cases ht
theorem sd_csN {y : MethodName} {cc : ByteArray} {nL : Nat} {ret : Option FieldType} {lev pc : Nat} {y' : MethodName} {cc' : ByteArray} {nL' : Nat} {ret' : Option FieldType} {lev' : Nat} {f : Fn} {idx n : Nat} (hf : Fok (y', cc', nL', ret', lev') f) (hm : am_mf (y', cc', nL', ret', lev') n) (hl : Cond.methodLinkNest y.cls idx y' RX5 ∈ am_nest) (hst : Cond.static y' ∈ GB) (hlev : lev' < lev) (h : decode cc pc = .ok (.invokestatic idx, 3)) : Sd (y, cc, nL, ret, lev) pc (tCs n f) := by
  rintro ⟨p, l, e, R, s, m, args, below, meth, c, D, K, A, Q⟩ ad cells slots L st M pc' L' st' M' ⟨hx, hb, hml, hr, hlk, hown, hts, hK, hA, hSt, hfr, hlo, hnm⟩ ht k H locs ls hc hs hP hD hS hL
  unfold tCs at ht
  split at ht
  · next hcw =>
    obtain ⟨hlen, hw8⟩ := hcw
    split at ht
    · next r0 M0 hfn =>
      cases ht
      obtain ⟨b1, b2, b3, b4, b5⟩ := am_cb (R := R) (mc := 0) (ms := 0) hts hm (by omega) (by omega)
      have hpre := am_pre ((st.take n).reverse) hP hD hS hK hA hSt
      have hF := am_F hD hS hA
      refine am_frame (rest := st.drop n) (r := r0) (M := M) (M' := M') (va_runSN (host := RX5) (As := ((st.take n).reverse).map (am_v ad)) ⟨hx, hb, hml, hown, hts⟩ (hf _ _ _ _ hfn l D K ad H.size) ⟨⟨b1, b2, b3, b4, b5, va_Nw.use rfl (hSt.2.2.2.2.2.2.2.1 _ hl)⟩, hts _ hst, trivial⟩ hpre rfl (by simp; omega) (hL.1) ?_ (lv_room (am_w8_ok hw8)) h ⟨hc, hs⟩) hF hS hL hc hs k
      show st.map (am_v ad) = _
      conv => lhs; rw [← List.take_append_drop n st]
      simp
    · cases ht
  · cases ht
theorem sd_ct {y : MethodName} {cc : ByteArray} {nL : Nat} {ret : Option FieldType} {lev pc : Nat} {y' : MethodName} {cc' : ByteArray} {nL' : Nat} {ret' : Option FieldType} {lev' : Nat} {f : Fn} {idx n : Nat} (hf : Fok (y', cc', nL', ret', lev') f) (hm : am_mf (y', cc', nL', ret', lev') n) (hyc : y'.cls = "java/lang/String") (hl : Cond.methodLink y.cls idx y' ∈ GB) (him : Cond.instanceMethod y' ∈ GB) (hse : Cond.selects "java/lang/String" y' y' ∈ GB) (hlev : lev' < lev) (h : decode cc pc = .ok (.invokevirtual idx, 3)) : Sd (y, cc, nL, ret, lev) pc (tCt n f) := by
  rintro ⟨p, l, e, R, s, m, args, below, meth, c, D, K, A, Q⟩ ad cells slots L st M pc' L' st' M' ⟨hx, hb, hml, hr, hlk, hown, hts, hK, hA, hSt, hfr, hlo, hnm⟩ ht k H locs ls hc hs hP hD hS hL
  unfold tCt at ht
  split at ht
  · next q rest hdr =>
    split at ht
    · next hcw =>
      obtain ⟨hq, hw8⟩ := hcw
      split at ht
      · next r0 M0 hfn =>
        cases ht
        have hlen : n < st.length := by
          rcases Nat.lt_or_ge n st.length with q9 | q9
          · exact q9
          · rw [List.drop_eq_nil_of_le q9] at hdr
            cases hdr
        obtain ⟨b1, b2, b3, b4, b5⟩ := am_cb (R := R) (mc := 0) (ms := 0) hts hm (by omega) (by omega)
        have hpre := am_pre (.inr (.inr (some q)) :: (st.take n).reverse) hP hD hS hK hA hSt
        have hF := am_F hD hS hA
        have hrc : ∃ cell : Cell, H[ad q]? = some cell ∧ cell.vm.isStatics = false ∧ s.vm.findClass "java/lang/String" = some cell.cls := by
          rcases hq with rfl | rfl
          · exact vk_recv (i := 0) hSt.2.2.2.2.2.2.1 (by decide) hS
          · exact vk_recv (i := 1) hSt.2.2.2.2.2.2.1 (by decide) hS
        refine am_frame (rest := rest) (r := r0) (M := M) (M' := M') (va_runV (C := "java/lang/String") (As := ((st.take n).reverse).map (am_v ad)) ⟨hx, hb, hml, hown, hts⟩ (hf _ _ _ _ hfn l D K ad H.size) ⟨⟨b1.1, b1.2.1, b1.2.2.1, b1.2.2.2.1, b1.2.2.2.2.1, b1.2.2.2.2.2, b2, b3, b4, b5, hts _ hl⟩, hts _ him, hts _ hse⟩ ⟨hpre.1, hrc, hpre.2⟩ rfl (by simp; omega) (hL.1) ?_ (lv_room (am_w8_ok hw8)) h ⟨hc, hs⟩) hF hS hL hc hs k
        show st.map (am_v ad) = _
        conv => lhs; rw [← List.take_append_drop n st, hdr]
        simp [am_v]
      · cases ht
    · cases ht
  · cases ht
/-- a method's answer, by running its table up to a return -/
def am_r (tb : List (Nat × Tr)) (kd : Option AV → Bool) (rets : List Nat) : Nat → Nat → AL → List AV → List AC → Option (Option AV × List AC)
  | 0, _, _, _, _ => none
  | n + 1, pc, L, st, M => match am_lk tb pc with
    | some t => match t pc L st M with
      | some (pc', L', st', M') => am_r tb kd rets n pc' L' st' M'
      | none => none
    | none => if rets.contains pc then match st with
      | [] => if kd none then some (none, M) else none
      | [v] => if kd (some v) then some (some v, M) else none
      | _ => none else none
def rI (v : Option AV) : Bool := match v with | some (.inl _) => true | _ => false
def rZ (v : Option AV) : Bool := match v with | some (.inl z) => decide (z = 0 ∨ z = 1) | _ => false
def rC (v : Option AV) : Bool := match v with | some (.inl z) => decide (0 ≤ z ∧ z < 256) | _ => false
def rJ (v : Option AV) : Bool := match v with | some (.inr (.inl _)) => true | _ => false
def rV (v : Option AV) : Bool := match v with | none => true | _ => false
def rA (v : Option AV) : Bool := match v with | some (.inr (.inr (some _))) => true | _ => false
/-- a method's returns -/
def Rok (mi : Mi) (kd : Option AV → Bool) (rets : List Nat) : Prop := ∀ pc ∈ rets, ∀ (a : Am) (ad : Nat → Nat) (L : AL) (M : List AC) (v : Option AV) (cells slots : Nat), kd v = true → am_X a ad mi → am_Z a ad v M cells slots → GG a ad mi.2.2.1 cells slots pc L v.toList M
theorem rk_n {mi : Mi} {kd : Option AV → Bool} : Rok mi kd [] := fun _ h => absurd h List.not_mem_nil
theorem rk_i {y : MethodName} {cc : ByteArray} {nL lev pc : Nat} {rets : List Nat} (h : decode cc pc = .ok (.ireturn, 1)) (hr : Rok (y, cc, nL, some .int, lev) rI rets) : Rok (y, cc, nL, some .int, lev) rI (pc :: rets) := by
  intro q hq a ad L M v cells slots hv hX hZ
  rcases List.mem_cons.mp hq with e | e
  · subst e
    rcases v with _ | z | w | (_ | k) <;> first | (cases hv; done) | exact g_iret hX hZ rfl h
  · exact hr q e a ad L M v cells slots hv hX hZ
theorem rk_z {y : MethodName} {cc : ByteArray} {nL lev pc : Nat} {rets : List Nat} (h : decode cc pc = .ok (.ireturn, 1)) (hr : Rok (y, cc, nL, some .boolean, lev) rZ rets) : Rok (y, cc, nL, some .boolean, lev) rZ (pc :: rets) := by
  intro q hq a ad L M v cells slots hv hX hZ
  rcases List.mem_cons.mp hq with e | e
  · subst e
    rcases v with _ | z | w | (_ | k)
    · cases hv
    · have hz : z = 0 ∨ z = 1 := of_decide_eq_true hv
      exact g_zret hX hZ rfl (by rcases hz with rfl | rfl <;> rfl) h
    · cases hv
    · cases hv
    · cases hv
  · exact hr q e a ad L M v cells slots hv hX hZ
theorem rC_nar : ∀ n : Fin 256, narrow .char (.int (Int32.ofInt (n.val : Int))) = .int (Int32.ofInt (n.val : Int)) ∧ (n.val < 128 → narrow .byte (.int (Int32.ofInt (n.val : Int))) = .int (Int32.ofInt (n.val : Int))) := by decide +kernel
theorem rk_c {y : MethodName} {cc : ByteArray} {nL lev pc : Nat} {rets : List Nat} (h : decode cc pc = .ok (.ireturn, 1)) (hr : Rok (y, cc, nL, some .char, lev) rC rets) : Rok (y, cc, nL, some .char, lev) rC (pc :: rets) := by
  intro q hq a ad L M v cells slots hv hX hZ
  rcases List.mem_cons.mp hq with e | e
  · subst e
    rcases v with _ | z | w | (_ | k)
    · cases hv
    · have hz : 0 ≤ z ∧ z < 256 := of_decide_eq_true hv
      have := (rC_nar ⟨z.toNat, by omega⟩).1
      have e9 : ((z.toNat : Nat) : Int) = z := by omega
      dsimp only at this
      rw [e9] at this
      exact g_zret hX hZ rfl this h
    · cases hv
    · cases hv
    · cases hv
  · exact hr q e a ad L M v cells slots hv hX hZ
theorem rk_b {y : MethodName} {cc : ByteArray} {nL lev pc : Nat} {rets : List Nat} (h : decode cc pc = .ok (.ireturn, 1)) (hr : Rok (y, cc, nL, some .byte, lev) rZ rets) : Rok (y, cc, nL, some .byte, lev) rZ (pc :: rets) := by
  intro q hq a ad L M v cells slots hv hX hZ
  rcases List.mem_cons.mp hq with e | e
  · subst e
    rcases v with _ | z | w | (_ | k)
    · cases hv
    · have hz : z = 0 ∨ z = 1 := of_decide_eq_true hv
      exact g_zret hX hZ rfl (by rcases hz with rfl | rfl <;> rfl) h
    · cases hv
    · cases hv
    · cases hv
  · exact hr q e a ad L M v cells slots hv hX hZ
theorem rk_v {y : MethodName} {cc : ByteArray} {nL lev pc : Nat} {rets : List Nat} (h : decode cc pc = .ok (.return_, 1)) (hr : Rok (y, cc, nL, none, lev) rV rets) : Rok (y, cc, nL, none, lev) rV (pc :: rets) := by
  intro q hq a ad L M v cells slots hv hX hZ
  rcases List.mem_cons.mp hq with e | e
  · subst e
    rcases v with _ | z | w | (_ | k) <;> first | (cases hv; done) | exact g_vret hX hZ rfl h
  · exact hr q e a ad L M v cells slots hv hX hZ
theorem rk_j {y : MethodName} {cc : ByteArray} {nL lev pc : Nat} {rets : List Nat} (h : decode cc pc = .ok (.lreturn, 1)) (hr : Rok (y, cc, nL, some .long, lev) rJ rets) : Rok (y, cc, nL, some .long, lev) rJ (pc :: rets) := by
  intro q hq a ad L M v cells slots hv hX hZ
  rcases List.mem_cons.mp hq with e | e
  · subst e
    rcases v with _ | z | w | (_ | k) <;> first | (cases hv; done) | exact g_lret hX hZ rfl h
  · exact hr q e a ad L M v cells slots hv hX hZ
theorem rk_a {y : MethodName} {cc : ByteArray} {nL lev pc : Nat} {C : String} {rets : List Nat} (h : decode cc pc = .ok (.areturn, 1)) (hr : Rok (y, cc, nL, some (.object C), lev) rA rets) : Rok (y, cc, nL, some (.object C), lev) rA (pc :: rets) := by
  intro q hq a ad L M v cells slots hv hX hZ
  rcases List.mem_cons.mp hq with e | e
  · subst e
    rcases v with _ | z | w | (_ | k) <;> first | (cases hv; done) | exact g_aret hX hZ rfl h
  · exact hr q e a ad L M v cells slots hv hX hZ
theorem am_rr {mi : Mi} {tb : List (Nat × Tr)} {kd : Option AV → Bool} {rets : List Nat} (ok : Tok mi tb) (rk : Rok mi kd rets) {a : Am} {ad : Nat → Nat} (hX : am_X a ad mi) {cells slots : Nat} {r : Option AV} {M' : List AC} (hZ : am_Z a ad r M' cells slots) : ∀ (n : Nat) {pc : Nat} {L : AL} {st : List AV} {M : List AC}, am_r tb kd rets n pc L st M = some (r, M') → GG a ad mi.2.2.1 cells slots pc L st M
  | 0, pc, L, st, M, h => by cases h
  | n + 1, pc, L, st, M, h => by
    unfold am_r at h
    split at h
    · next t ht =>
      split at h
      · next pc2 L2 st2 M2 h2 => exact ok pc t ht a ad cells slots L st M pc2 L2 st2 M2 hX h2 (am_rr ok rk hX hZ n h)
      · cases h
    · split at h
      · next hp =>
        have hp : pc ∈ rets := by simpa using hp
        split at h
        · split at h
          · next hk =>
            cases h
            exact rk pc hp a ad L _ none cells slots hk hX hZ
          · cases h
        · split at h
          · next hk =>
            cases h
            exact rk pc hp a ad L _ (some _) cells slots hk hX hZ
          · cases h
        · cases h
      · cases h
theorem ct_of {y : MethodName} {cc : ByteArray} {nL : Nat} {ret : Option FieldType} {lev : Nat} {tb : List (Nat × Tr)} {kd : Option AV → Bool} {rets : List Nat} (ok : Tok (y, cc, nL, ret, lev) tb) (rk : Rok (y, cc, nL, ret, lev) kd rets) (hy : plainName y.cls = true) (fuel : Nat) {av : List AV} {M : List AC} {r : Option AV} {M' : List AC} (hl : (am_sl av).length ≤ nL) (h : am_r tb kd rets fuel 0 (am_in av nL) [] M = some (r, M')) : Ct (y, cc, nL, ret, lev) av M r M' :=
  ct_intro hy hl (fun a ad hX hZ => am_rr ok rk hX hZ fuel h)
/-- a run of the table joins what was proved of its end -/
theorem am_r_n {tb : List (Nat × Tr)} {kd : Option AV → Bool} {rets : List Nat} : ∀ (n k : Nat) {pc : Nat} {L : AL} {st : List AV} {M : List AC} {pc' : Nat} {L' : AL} {st' : List AV} {M' : List AC}, am_n tb n pc L st M = some (pc', L', st', M') → am_r tb kd rets (n + k) pc L st M = am_r tb kd rets k pc' L' st' M'
  | 0, k, pc, L, st, M, pc', L', st', M', h => by
    cases h
    rw [Nat.zero_add]
  | n + 1, k, pc, L, st, M, pc', L', st', M', h => by
    rw [show n + 1 + k = (n + k) + 1 by omega]
    unfold am_n at h
    conv => lhs; unfold am_r
    rcases ht : am_lk tb pc with _ | t
    · rw [ht] at h; cases h
    · rw [ht] at h
      dsimp only at h ⊢
      rcases h2 : t pc L st M with _ | ⟨pc2, L2, st2, M2⟩
      · rw [h2] at h; cases h
      · rw [h2] at h
        dsimp only at h ⊢
        exact am_r_n n k h
/-- more room to run changes no answer -/
theorem am_r_mono {tb : List (Nat × Tr)} {kd : Option AV → Bool} {rets : List Nat} {x : Option AV × List AC} : ∀ (n k : Nat) {pc : Nat} {L : AL} {st : List AV} {M : List AC}, am_r tb kd rets n pc L st M = some x → n ≤ k → am_r tb kd rets k pc L st M = some x
  | 0, k, pc, L, st, M, h, hk => by cases h
  | n + 1, 0, pc, L, st, M, h, hk => by omega
  | n + 1, k + 1, pc, L, st, M, h, hk => by
    unfold am_r at h ⊢
    rcases ht : am_lk tb pc with _ | t
    · rw [ht] at h; exact h
    · rw [ht] at h
      dsimp only at h ⊢
      rcases h2 : t pc L st M with _ | ⟨pc2, L2, st2, M2⟩
      · rw [h2] at h; cases h
      · rw [h2] at h
        dsimp only at h ⊢
        exact am_r_mono n k h (by omega)
theorem sw_ok (pc : Nat) (offs : Array Int) (ts : List Nat) (df : Nat) (h : (List.range ts.length).all (fun j => match offs[j]? with | some off => decide ((pc : Int) + off = (((ts[j]?).getD df : Nat) : Int)) | none => false) = true) : ∀ j : Nat, j < ts.length → ∃ off : Int, offs[j]? = some off ∧ (pc : Int) + off = (((ts[j]?).getD df : Nat) : Int) := by
  intro j hj
  have h1 := List.all_eq_true.mp h j (List.mem_range.mpr hj)
  cases ho : offs[j]? with
  | none => rw [ho] at h1; cases h1
  | some off => rw [ho] at h1; exact ⟨off, rfl, of_decide_eq_true h1⟩
theorem sd_lsw2 {y : MethodName} {cc : ByteArray} {nL : Nat} {ret : Option FieldType} {lev pc : Nat} {dflt o0 o1 : Int} {len t0 t1 df : Nat} (hdf : (pc : Int) + dflt = (df : Int)) (h0 : (pc : Int) + o0 = (t0 : Int)) (h1 : (pc : Int) + o1 = (t1 : Int)) (h : decode cc pc = .ok (.lookupswitch dflt #[(0, o0), (1, o1)], len)) : Sd (y, cc, nL, ret, lev) pc (tTs 0 [t0, t1] df) := by
  rintro ⟨p, l, e, R, s, m, args, below, meth, c, D, K, A, Q⟩ ad cells slots L st M pc' L' st' M' ⟨hx, hb, hml, hr, hlk, hown, hts, hK, hA, hSt, hfr, hlo, hnm⟩ ht k H locs ls hc hs hP hD hS hL
  unfold tTs at ht
  split at ht
  · next a r =>
    cases ht
    have k9 := k H locs ls hc hs hP hD hS hL
    by_cases e0 : wr a = 0
    · refine lv_lookup hx hb h rfl (off := o0) (by rw [wr_eq, e0]; rfl) h0 ?_
      rw [e0] at k9
      exact k9
    · by_cases e1 : wr a = 1
      · refine lv_lookup hx hb h rfl (off := o1) (by rw [wr_eq, e1]; rfl) h1 ?_
        rw [e1] at k9
        exact k9
      · refine lv_lookup hx hb h rfl (off := dflt) (by rw [wr_eq]; simp [Op.lookupswitch.offset, Ne.symm e0, Ne.symm e1, e0, e1]) hdf ?_
        by_cases e2 : wr a < 0
        · rw [if_pos e2] at k9
          exact k9
        · rw [if_neg e2, List.getElem?_eq_none (by simp; omega)] at k9
          exact k9
  · cases ht
/-! the sheet's cells, read -/
abbrev Sh : Type := Int × List Int × List Int × List Int × List Int
def a4 (c : Option AC) : Option (List Int) := match c with
  | some (.inl (false, [x0, x1, x2, x3])) => some [x0, x1, x2, x3]
  | _ => none
def am_j (f : Nat → AL → List AV → List AC → Option (Option AV × List AC)) (o : Option AS) : Option (Option AV × List AC) := match o with
  | some (pc, L, st, M) => f pc L st M
  | none => none
theorem am_js (f : Nat → AL → List AV → List AC → Option (Option AV × List AC)) (pc : Nat) (L : AL) (st : List AV) (M : List AC) : am_j f (some (pc, L, st, M)) = f pc L st M := rfl
theorem am_ji (f : Nat → AL → List AV → List AC → Option (Option AV × List AC)) (c : Prop) [Decidable c] (p q : Nat) (L : AL) (st : List AV) (M : List AC) : am_j f (some (if c then p else q, L, st, M)) = if c then f p L st M else f q L st M := by
  split <;> rfl
def am_e (kd : Option AV → Bool) (st : List AV) (M : List AC) : Option (Option AV × List AC) := match st with
  | [] => if kd none then some (none, M) else none
  | [v] => if kd (some v) then some (some v, M) else none
  | _ => none
def am_fu : Nat := 1000000
def am_fn (rx : Nat → Nat → AL → List AV → List AC → Option (Option AV × List AC)) (nL : Nat) : Fn := fun av M => if (am_sl av).length ≤ nL then rx am_fu 0 (am_in av nL) [] M else none
theorem am_fok {y : MethodName} {cc : ByteArray} {nL : Nat} {ret : Option FieldType} {lev : Nat} {tb : List (Nat × Tr)} {kd : Option AV → Bool} {rets : List Nat} (ok : Tok (y, cc, nL, ret, lev) tb) (rk : Rok (y, cc, nL, ret, lev) kd rets) (hy : plainName y.cls = true) {av : List AV} {M : List AC} {r : Option AV} {M' : List AC} (h : am_fn (am_r tb kd rets) nL av M = some (r, M')) : Ct (y, cc, nL, ret, lev) av M r M' := by
  unfold am_fn at h
  split at h
  · next hl => exact ct_of ok rk hy am_fu hl h
  · cases h
theorem am_fnI {tb : List (Nat × Tr)} {kd : Option AV → Bool} {rets : List Nat} {nL : Nat} {av : List AV} {M : List AC} {x : Option AV × List AC} {n : Nat} (hl : (am_sl av).length ≤ nL) (hn : n ≤ am_fu) (h : am_r tb kd rets n 0 (am_in av nL) [] M = some x) : am_fn (am_r tb kd rets) nL av M = some x := by
  unfold am_fn
  rw [if_pos hl]
  exact am_r_mono n am_fu h hn
theorem wr_1 : wr (1) = 1 := wr_id (by decide) (by decide)
theorem wr_2 : wr (2) = 2 := wr_id (by decide) (by decide)
theorem wr_3 : wr (3) = 3 := wr_id (by decide) (by decide)
theorem wr_4 : wr (4) = 4 := wr_id (by decide) (by decide)
theorem wr_5 : wr (5) = 5 := wr_id (by decide) (by decide)
theorem wr_6 : wr (6) = 6 := wr_id (by decide) (by decide)
theorem wr_7 : wr (7) = 7 := wr_id (by decide) (by decide)
theorem wr_8 : wr (8) = 8 := wr_id (by decide) (by decide)
theorem wr_9 : wr (9) = 9 := wr_id (by decide) (by decide)
theorem wr_10 : wr (10) = 10 := wr_id (by decide) (by decide)
theorem wr_11 : wr (11) = 11 := wr_id (by decide) (by decide)
theorem wr_12 : wr (12) = 12 := wr_id (by decide) (by decide)
theorem wr_13 : wr (13) = 13 := wr_id (by decide) (by decide)
theorem wr_14 : wr (14) = 14 := wr_id (by decide) (by decide)
theorem wr_15 : wr (15) = 15 := wr_id (by decide) (by decide)
theorem wr_16 : wr (16) = 16 := wr_id (by decide) (by decide)
theorem wr_17 : wr (17) = 17 := wr_id (by decide) (by decide)
theorem wr_18 : wr (18) = 18 := wr_id (by decide) (by decide)
theorem wr_19 : wr (19) = 19 := wr_id (by decide) (by decide)
theorem wr_20 : wr (20) = 20 := wr_id (by decide) (by decide)
theorem wr_21 : wr (21) = 21 := wr_id (by decide) (by decide)
theorem wr_22 : wr (22) = 22 := wr_id (by decide) (by decide)
theorem wr_23 : wr (23) = 23 := wr_id (by decide) (by decide)
theorem wr_24 : wr (24) = 24 := wr_id (by decide) (by decide)
theorem wr_25 : wr (25) = 25 := wr_id (by decide) (by decide)
theorem wr_26 : wr (26) = 26 := wr_id (by decide) (by decide)
theorem wr_27 : wr (27) = 27 := wr_id (by decide) (by decide)
theorem wr_28 : wr (28) = 28 := wr_id (by decide) (by decide)
theorem wr_29 : wr (29) = 29 := wr_id (by decide) (by decide)
theorem wr_30 : wr (30) = 30 := wr_id (by decide) (by decide)
theorem wr_31 : wr (31) = 31 := wr_id (by decide) (by decide)
theorem wr_32 : wr (32) = 32 := wr_id (by decide) (by decide)
theorem wr_33 : wr (33) = 33 := wr_id (by decide) (by decide)
theorem wr_34 : wr (34) = 34 := wr_id (by decide) (by decide)
theorem wr_35 : wr (35) = 35 := wr_id (by decide) (by decide)
theorem wr_36 : wr (36) = 36 := wr_id (by decide) (by decide)
theorem wr_37 : wr (37) = 37 := wr_id (by decide) (by decide)
theorem wr_38 : wr (38) = 38 := wr_id (by decide) (by decide)
theorem wr_39 : wr (39) = 39 := wr_id (by decide) (by decide)
theorem wr_40 : wr (40) = 40 := wr_id (by decide) (by decide)
theorem wr_41 : wr (41) = 41 := wr_id (by decide) (by decide)
theorem wr_42 : wr (42) = 42 := wr_id (by decide) (by decide)
theorem wr_43 : wr (43) = 43 := wr_id (by decide) (by decide)
theorem wr_44 : wr (44) = 44 := wr_id (by decide) (by decide)
theorem wr_45 : wr (45) = 45 := wr_id (by decide) (by decide)
theorem wr_46 : wr (46) = 46 := wr_id (by decide) (by decide)
theorem wr_47 : wr (47) = 47 := wr_id (by decide) (by decide)
theorem wr_48 : wr (48) = 48 := wr_id (by decide) (by decide)
theorem wr_49 : wr (49) = 49 := wr_id (by decide) (by decide)
theorem wr_50 : wr (50) = 50 := wr_id (by decide) (by decide)
theorem wr_51 : wr (51) = 51 := wr_id (by decide) (by decide)
theorem wr_52 : wr (52) = 52 := wr_id (by decide) (by decide)
theorem wr_53 : wr (53) = 53 := wr_id (by decide) (by decide)
theorem wr_54 : wr (54) = 54 := wr_id (by decide) (by decide)
theorem wr_55 : wr (55) = 55 := wr_id (by decide) (by decide)
theorem wr_56 : wr (56) = 56 := wr_id (by decide) (by decide)
theorem wr_57 : wr (57) = 57 := wr_id (by decide) (by decide)
theorem wr_58 : wr (58) = 58 := wr_id (by decide) (by decide)
theorem wr_59 : wr (59) = 59 := wr_id (by decide) (by decide)
theorem wr_60 : wr (60) = 60 := wr_id (by decide) (by decide)
theorem wr_61 : wr (61) = 61 := wr_id (by decide) (by decide)
theorem wr_62 : wr (62) = 62 := wr_id (by decide) (by decide)
theorem wr_63 : wr (63) = 63 := wr_id (by decide) (by decide)
theorem wr_99 : wr (99) = 99 := wr_id (by decide) (by decide)
theorem wr_100 : wr (100) = 100 := wr_id (by decide) (by decide)
theorem wr_192 : wr (192) = 192 := wr_id (by decide) (by decide)
theorem wr_255 : wr (255) = 255 := wr_id (by decide) (by decide)
theorem wr_256 : wr (256) = 256 := wr_id (by decide) (by decide)
theorem wr_343 : wr (343) = 343 := wr_id (by decide) (by decide)
theorem wr_999 : wr (999) = 999 := wr_id (by decide) (by decide)
theorem wr_1000 : wr (1000) = 1000 := wr_id (by decide) (by decide)
theorem wr_2401 : wr (2401) = 2401 := wr_id (by decide) (by decide)
theorem wr_2147483647 : wr (2147483647) = 2147483647 := wr_id (by decide) (by decide)
theorem wr_65535 : wr (65535) = 65535 := wr_id (by decide) (by decide)
theorem wr_m1 : wr (-1) = -1 := wr_id (by decide) (by decide)
theorem wr_m2 : wr (-2) = -2 := wr_id (by decide) (by decide)
theorem wr_m3 : wr (-3) = -3 := wr_id (by decide) (by decide)
theorem wr_m4 : wr (-4) = -4 := wr_id (by decide) (by decide)
theorem wr_m9 : wr (-9) = -9 := wr_id (by decide) (by decide)
theorem ak_1000 : am_k 1000 = some am_tens := rfl
theorem ak_1001 : am_k 1001 = some am_sevens := rfl
theorem ak_1002 : am_k 1002 = some am_orders := rfl
theorem ak_0 : am_k 0 = none := rfl
theorem ak_1 : am_k 1 = none := rfl
theorem ak_2 : am_k 2 = none := rfl
theorem ak_3 : am_k 3 = none := rfl
theorem ak_4 : am_k 4 = none := rfl
theorem ak_5 : am_k 5 = none := rfl
theorem ak_6 : am_k 6 = none := rfl
theorem ak_7 : am_k 7 = none := rfl
theorem ak_8 : am_k 8 = none := rfl
theorem ak_9 : am_k 9 = none := rfl
theorem ak_10 : am_k 10 = none := rfl
theorem ak_11 : am_k 11 = none := rfl
theorem ak_12 : am_k 12 = none := rfl
theorem ak_13 : am_k 13 = none := rfl
theorem ak_14 : am_k 14 = none := rfl
theorem ak_15 : am_k 15 = none := rfl
theorem ak_16 : am_k 16 = none := rfl
theorem ak_17 : am_k 17 = none := rfl
theorem ak_18 : am_k 18 = none := rfl
theorem ak_19 : am_k 19 = none := rfl
theorem ak_20 : am_k 20 = none := rfl
theorem ak_21 : am_k 21 = none := rfl
theorem ak_22 : am_k 22 = none := rfl
theorem ak_23 : am_k 23 = none := rfl
theorem ak_24 : am_k 24 = none := rfl
theorem ak_25 : am_k 25 = none := rfl
theorem ak_26 : am_k 26 = none := rfl
theorem ak_27 : am_k 27 = none := rfl
theorem ak_28 : am_k 28 = none := rfl
theorem ak_29 : am_k 29 = none := rfl
theorem ak_30 : am_k 30 = none := rfl
theorem ak_31 : am_k 31 = none := rfl
theorem ak_32 : am_k 32 = none := rfl
theorem ak_33 : am_k 33 = none := rfl
theorem ak_34 : am_k 34 = none := rfl
theorem ak_35 : am_k 35 = none := rfl
theorem ak_36 : am_k 36 = none := rfl
theorem ak_37 : am_k 37 = none := rfl
theorem ak_38 : am_k 38 = none := rfl
theorem ak_39 : am_k 39 = none := rfl
theorem ak_40 : am_k 40 = none := rfl
theorem ak_41 : am_k 41 = none := rfl
theorem ak_42 : am_k 42 = none := rfl
theorem ak_43 : am_k 43 = none := rfl
theorem ak_44 : am_k 44 = none := rfl
theorem ak_45 : am_k 45 = none := rfl
theorem ak_46 : am_k 46 = none := rfl
theorem ak_47 : am_k 47 = none := rfl
theorem wr_10000 : wr (10000) = 10000 := wr_id (by decide) (by decide)
theorem wr_100000 : wr (100000) = 100000 := wr_id (by decide) (by decide)
theorem wr_1000000 : wr (1000000) = 1000000 := wr_id (by decide) (by decide)
theorem wr_10000000 : wr (10000000) = 10000000 := wr_id (by decide) (by decide)
theorem wr_100000000 : wr (100000000) = 100000000 := wr_id (by decide) (by decide)
theorem wr_2400 : wr (2400) = 2400 := wr_id (by decide) (by decide)
theorem wr_9999 : wr (9999) = 9999 := wr_id (by decide) (by decide)
end
