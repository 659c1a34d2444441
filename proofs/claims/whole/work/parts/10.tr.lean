noncomputable section
/-! what the machine stands in, what holds at a point, the judgement GG -/
abbrev Am := Program × Launch × Env × Room × State × MethodId × Array Value × List Frame × Method × Code × va_G × (ClassId × ClassId) × (Nat → Prop) × (State → Prop)
abbrev Mi := MethodName × ByteArray × Nat × Option FieldType × Nat
abbrev am_ty (K : ClassId × ClassId) : List (ClassId × FieldType) := [(K.1, .int), (K.2, .boolean)]
def GG (a : Am) (ad : Nat → Nat) (nL cells slots pc : Nat) (L : AL) (st : List AV) (M : List AC) : Prop := match a with
  | (p, l, e, R, s, m, args, below, meth, c, D, K, A, Q) => ∀ (H : Heap) (locs : List Loc) (ls : Array Slot), cells ≤ R.cells → slots ≤ R.slots → va_P D vwCl (am_w ad K M) H → va_D A (am_w ad K M) → va_S A s.heap H locs → am_L ad ls nL L → W p l e R s m args below meth c H locs cells slots Q (F0 m pc ls (st.map (am_v ad)))
def am_X (a : Am) (ad : Nat → Nat) (mi : Mi) : Prop := match a, mi with
  | (p, l, e, R, s, m, args, below, meth, c, D, K, A, Q), (y, cc, nL, ret, lev) => p.tables.exec = Jvm.exec ∧ c.code = cc ∧ c.maxLocals = nL ∧ meth.sig.returnType = ret ∧ meth.locks = false ∧ s.vm.findClass y.cls = some m.cls ∧ (∀ w ∈ GB, w.before args s = true) ∧ va_K D vwCl (am_ty K) s ∧ (∀ q, s.heap.size ≤ q → A q) ∧ am_S ad A s s.heap ∧ lev ≤ R.frames ∧ 37 * lev ≤ R.locals ∧ meth.name = y.name
def Sd (mi : Mi) (pc : Nat) (t : Tr) : Prop := ∀ (a : Am) (ad : Nat → Nat) (cells slots : Nat) (L : AL) (st : List AV) (M : List AC) (pc' : Nat) (L' : AL) (st' : List AV) (M' : List AC), am_X a ad mi → t pc L st M = some (pc', L', st', M') → GG a ad mi.2.2.1 cells slots pc' L' st' M' → GG a ad mi.2.2.1 cells slots pc L st M
def am_lk : List (Nat × Tr) → Nat → Option Tr
  | [], _ => none
  | (k, t) :: r, n => if n = k then some t else am_lk r n
def Tok (mi : Mi) (tb : List (Nat × Tr)) : Prop := ∀ (pc : Nat) (t : Tr), am_lk tb pc = some t → Sd mi pc t
theorem Tn {mi : Mi} : Tok mi [] := fun _ _ h => by cases h
theorem Tc {mi : Mi} {k : Nat} {t : Tr} {r : List (Nat × Tr)} (h : Sd mi k t) (hr : Tok mi r) : Tok mi ((k, t) :: r) := by
  intro pc u hu
  unfold am_lk at hu
  split at hu
  · next e => cases hu; rw [e]; exact h
  · exact hr pc u hu
def am_n (tb : List (Nat × Tr)) : Nat → Nat → AL → List AV → List AC → Option AS
  | 0, pc, L, st, M => some (pc, L, st, M)
  | n + 1, pc, L, st, M => match am_lk tb pc with
    | some t => match t pc L st M with
      | some (pc', L', st', M') => am_n tb n pc' L' st' M'
      | none => none
    | none => none
theorem am_run {mi : Mi} {tb : List (Nat × Tr)} (ok : Tok mi tb) {a : Am} {ad : Nat → Nat} (hX : am_X a ad mi) {cells slots : Nat} : ∀ (n : Nat) {pc : Nat} {L : AL} {st : List AV} {M : List AC} {pc' : Nat} {L' : AL} {st' : List AV} {M' : List AC}, am_n tb n pc L st M = some (pc', L', st', M') → GG a ad mi.2.2.1 cells slots pc' L' st' M' → GG a ad mi.2.2.1 cells slots pc L st M
  | 0, pc, L, st, M, pc', L', st', M', h, k => by
    cases h
    exact k
  | n + 1, pc, L, st, M, pc', L', st', M', h, k => by
    unfold am_n at h
    split at h
    · next t ht =>
      split at h
      · next pc2 L2 st2 M2 h2 => exact ok pc t ht a ad cells slots L st M pc2 L2 st2 M2 hX h2 (am_run ok hX n h k)
      · cases h
    · cases h
/-! the steps -/
def tIc (n : Int) (len : Nat) : Tr := fun pc L st M => some (pc + len, L, .inl n :: st, M)
def tLc (w : Int64) (len : Nat) : Tr := fun pc L st M => some (pc + len, L, .inr (.inl w) :: st, M)
def tNul : Tr := fun pc L st M => some (pc + 1, L, .inr (.inr none) :: st, M)
def tIld (i len : Nat) : Tr := fun pc L st M => match L[i]? with
  | some (some (.inl z)) => some (pc + len, L, .inl z :: st, M)
  | _ => none
def tLld (i len : Nat) : Tr := fun pc L st M => match L[i]? with
  | some (some (.inr (.inl z))) => some (pc + len, L, .inr (.inl z) :: st, M)
  | _ => none
def tAld (i len : Nat) : Tr := fun pc L st M => match L[i]? with
  | some (some (.inr (.inr (some k)))) => some (pc + len, L, .inr (.inr (some k)) :: st, M)
  | _ => none
def tIst (i len : Nat) : Tr := fun pc L st M => match st with
  | .inl z :: r => if am_nl L i && decide (i < L.length) then some (pc + len, L.set i (some (.inl z)), r, M) else none
  | _ => none
def tLst (i len : Nat) : Tr := fun pc L st M => match st with
  | .inr (.inl z) :: r => if am_nl L i && decide (i + 1 < L.length) then some (pc + len, (L.set i (some (.inr (.inl z)))).set (i + 1) none, r, M) else none
  | _ => none
def tAst (i len : Nat) : Tr := fun pc L st M => match st with
  | .inr (.inr (some k)) :: r => if am_nl L i && decide (i < L.length) then some (pc + len, L.set i (some (.inr (.inr (some k)))), r, M) else none
  | _ => none
def tIinc (i : Nat) (n : Int) : Tr := fun pc L st M => match L[i]? with
  | some (some (.inl z)) => if am_nl L i then some (pc + 3, L.set i (some (.inl (z + n))), st, M) else none
  | _ => none
def tI2 (f : Int → Int → Int) : Tr := fun pc L st M => match st with
  | .inl b :: .inl a :: r => some (pc + 1, L, .inl (f a b) :: r, M)
  | _ => none
def tDv (f : Int → Int → Int) : Tr := fun pc L st M => match st with
  | .inl b :: .inl a :: r => if wr b = 0 then none else some (pc + 1, L, .inl (f (wr a) (wr b)) :: r, M)
  | _ => none
def oAnd (a b : Int) : Int := (Int32.ofInt a &&& Int32.ofInt b).toInt
def oOr (a b : Int) : Int := (Int32.ofInt a ||| Int32.ofInt b).toInt
def oShl (a b : Int) : Int := (Int32.ofInt a <<< (Int32.ofInt b &&& 31)).toInt
def oShr (a b : Int) : Int := (Int32.ofInt a >>> (Int32.ofInt b &&& 31)).toInt
def oUshr (a b : Int) : Int := (((Int32.ofInt a).toUInt32 >>> ((Int32.ofInt b).toUInt32 &&& Int32.toUInt32 31)).toInt32).toInt
def tL2 (f : Int64 → Int64 → Int64) : Tr := fun pc L st M => match st with
  | .inr (.inl b) :: .inr (.inl a) :: r => some (pc + 1, L, .inr (.inl (f a b)) :: r, M)
  | _ => none
def tLrem : Tr := fun pc L st M => match st with
  | .inr (.inl b) :: .inr (.inl a) :: r => if b = 0 then none else some (pc + 1, L, .inr (.inl (a - a / b * b)) :: r, M)
  | _ => none
def oLushr (a : Int64) (b : Int) : Int64 := (a.toUInt64 >>> ((Int32.ofInt b).toInt64.toUInt64 &&& Int64.toUInt64 63)).toInt64
def oLshl (a : Int64) (b : Int) : Int64 := a <<< ((Int32.ofInt b).toInt64 &&& 63)
def tLs (f : Int64 → Int → Int64) : Tr := fun pc L st M => match st with
  | .inl b :: .inr (.inl a) :: r => some (pc + 1, L, .inr (.inl (f a b)) :: r, M)
  | _ => none
def tLcmp : Tr := fun pc L st M => match st with
  | .inr (.inl b) :: .inr (.inl a) :: r => some (pc + 1, L, .inl (if b < a then 1 else if a = b then 0 else -1) :: r, M)
  | _ => none
def tI2l : Tr := fun pc L st M => match st with
  | .inl a :: r => some (pc + 1, L, .inr (.inl (Int32.ofInt a).toInt64) :: r, M)
  | _ => none
def tL2i : Tr := fun pc L st M => match st with
  | .inr (.inl a) :: r => some (pc + 1, L, .inl a.toInt32.toInt :: r, M)
  | _ => none
def tI2c : Tr := fun pc L st M => match st with
  | .inl a :: r => some (pc + 1, L, .inl (((Int32.ofInt a).toUInt32 % 65536).toInt32).toInt :: r, M)
  | _ => none
def am_one (v : AV) : Bool := match v with
  | .inr (.inl _) => false
  | _ => true
def tDup : Tr := fun pc L st M => match st with
  | v :: r => if am_one v then some (pc + 1, L, v :: v :: r, M) else none
  | _ => none
def tDup2 : Tr := fun pc L st M => match st with
  | v :: w :: r => if am_one v && am_one w then some (pc + 1, L, v :: w :: v :: w :: r, M) else none
  | _ => none
def tPop : Tr := fun pc L st M => match st with
  | v :: r => if am_one v then some (pc + 1, L, r, M) else none
  | _ => none
def tGo (tgt : Nat) : Tr := fun _ L st M => some (tgt, L, st, M)
def tIfeq (tgt : Nat) : Tr := fun pc L st M => match st with
  | .inl a :: r => some (if wr a = 0 then tgt else pc + 3, L, r, M)
  | _ => none
def tCmeq (tgt : Nat) : Tr := fun pc L st M => match st with
  | .inl b :: .inl a :: r => some (if wr a = wr b then tgt else pc + 3, L, r, M)
  | _ => none
def tIfne (tgt : Nat) : Tr := fun pc L st M => match st with
  | .inl a :: r => some (if wr a ≠ 0 then tgt else pc + 3, L, r, M)
  | _ => none
def tCmne (tgt : Nat) : Tr := fun pc L st M => match st with
  | .inl b :: .inl a :: r => some (if wr a ≠ wr b then tgt else pc + 3, L, r, M)
  | _ => none
def tIflt (tgt : Nat) : Tr := fun pc L st M => match st with
  | .inl a :: r => some (if wr a < 0 then tgt else pc + 3, L, r, M)
  | _ => none
def tCmlt (tgt : Nat) : Tr := fun pc L st M => match st with
  | .inl b :: .inl a :: r => some (if wr a < wr b then tgt else pc + 3, L, r, M)
  | _ => none
def tIfge (tgt : Nat) : Tr := fun pc L st M => match st with
  | .inl a :: r => some (if 0 ≤ wr a then tgt else pc + 3, L, r, M)
  | _ => none
def tCmge (tgt : Nat) : Tr := fun pc L st M => match st with
  | .inl b :: .inl a :: r => some (if wr b ≤ wr a then tgt else pc + 3, L, r, M)
  | _ => none
def tIfgt (tgt : Nat) : Tr := fun pc L st M => match st with
  | .inl a :: r => some (if 0 < wr a then tgt else pc + 3, L, r, M)
  | _ => none
def tCmgt (tgt : Nat) : Tr := fun pc L st M => match st with
  | .inl b :: .inl a :: r => some (if wr b < wr a then tgt else pc + 3, L, r, M)
  | _ => none
def tIfle (tgt : Nat) : Tr := fun pc L st M => match st with
  | .inl a :: r => some (if wr a ≤ 0 then tgt else pc + 3, L, r, M)
  | _ => none
def tCmle (tgt : Nat) : Tr := fun pc L st M => match st with
  | .inl b :: .inl a :: r => some (if wr a ≤ wr b then tgt else pc + 3, L, r, M)
  | _ => none
def tNu (tgt : Nat) : Tr := fun pc L st M => match st with
  | .inr (.inr none) :: r => some (tgt, L, r, M)
  | .inr (.inr (some _)) :: r => some (pc + 3, L, r, M)
  | _ => none
def tTs (lo : Int) (ts : List Nat) (df : Nat) : Tr := fun _ L st M => match st with
  | .inl a :: r => some (if wr a < lo then df else (ts[(wr a - lo).toNat]?).getD df, L, r, M)
  | _ => none
def tGf (ci k : Nat) : Tr := fun pc L st M => match st with
  | .inr (.inr (some q)) :: r => match M[q]? with
    | some (.inr (c, fs)) => if c = ci then match fs[k]? with
      | some v => some (pc + 3, L, v :: r, M)
      | none => none else none
    | _ => none
  | _ => none
def tPf (kd : AV → Bool) (ci k : Nat) : Tr := fun pc L st M => match st with
  | v :: .inr (.inr (some q)) :: r => match M[q]? with
    | some (.inr (c, fs)) => if decide (c = ci) && kd v && decide (k < fs.length) then some (pc + 3, L, r, M.set q (.inr (c, fs.set k v))) else none
    | _ => none
  | _ => none
def tGs (v : AV) : Tr := fun pc L st M => some (pc + 3, L, v :: st, M)
def tIal : Tr := fun pc L st M => match st with
  | .inl i :: .inr (.inr (some q)) :: r => match am_k q with
    | some l => if 0 ≤ wr i ∧ wr i < l.length then some (pc + 1, L, .inl (l.getD (wr i).toNat 0) :: r, M) else none
    | none => match M[q]? with
      | some (.inl (false, l)) => if 0 ≤ wr i ∧ wr i < l.length then some (pc + 1, L, .inl (l.getD (wr i).toNat 0) :: r, M) else none
      | _ => none
  | _ => none
def tIas : Tr := fun pc L st M => match st with
  | .inl z :: .inl i :: .inr (.inr (some q)) :: r => match M[q]? with
    | some (.inl (false, l)) => if 0 ≤ wr i ∧ wr i < l.length then some (pc + 1, L, r, M.set q (.inl (false, l.set (wr i).toNat z))) else none
    | _ => none
  | _ => none
def tBal : Tr := fun pc L st M => match st with
  | .inl i :: .inr (.inr (some q)) :: r => match M[q]? with
    | some (.inl (true, l)) => if 0 ≤ wr i ∧ wr i < l.length then some (pc + 1, L, .inl (l.getD (wr i).toNat 0) :: r, M) else none
    | _ => none
  | _ => none
def tBas : Tr := fun pc L st M => match st with
  | .inl z :: .inl i :: .inr (.inr (some q)) :: r => match M[q]? with
    | some (.inl (true, l)) => if (0 ≤ wr i ∧ wr i < l.length) ∧ (z = 0 ∨ z = 1) then some (pc + 1, L, r, M.set q (.inl (true, l.set (wr i).toNat z))) else none
    | _ => none
  | _ => none
def tAln : Tr := fun pc L st M => match st with
  | .inr (.inr (some q)) :: r => match am_k q with
    | some l => some (pc + 1, L, .inl l.length :: r, M)
    | none => match M[q]? with
      | some (.inl (_, l)) => some (pc + 1, L, .inl l.length :: r, M)
      | _ => none
  | _ => none
/-! the two texts -/
def am_b (q : Nat) : Option (List Int) := if q = 1012 then some am_b1 else if q = 1013 then some am_b2 else none
def tSv : Tr := fun pc L st M => match st with
  | .inr (.inr (some q)) :: r => if q = 1010 then some (pc + 3, L, .inr (.inr (some 1012)) :: r, M) else if q = 1011 then some (pc + 3, L, .inr (.inr (some 1013)) :: r, M) else none
  | _ => none
def tSc : Tr := fun pc L st M => match st with
  | .inr (.inr (some q)) :: r => if q = 1010 then some (pc + 3, L, .inl 0 :: r, M) else if q = 1011 then some (pc + 3, L, .inl 0 :: r, M) else none
  | _ => none
def tSb : Tr := fun pc L st M => match st with
  | .inl i :: .inr (.inr (some q)) :: r => match am_b q with
    | some l => if 0 ≤ wr i ∧ wr i < l.length then some (pc + 1, L, .inl (l.getD (wr i).toNat 0) :: r, M) else none
    | none => none
  | _ => none
def tSl : Tr := fun pc L st M => match st with
  | .inr (.inr (some q)) :: r => match am_b q with
    | some l => some (pc + 1, L, .inl l.length :: r, M)
    | none => none
  | _ => none
def tSk (q : Nat) : Tr := fun pc L st M => some (pc + 2, L, .inr (.inr (some q)) :: st, M)
end
