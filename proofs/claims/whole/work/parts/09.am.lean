/-! the abstract machine: ints are whole numbers taken modulo 2^32, references are places in a list of cells (from 1000 on: constants) -/
abbrev AV : Type := Int ⊕ (Int64 ⊕ Option Nat)
abbrev AC : Type := (Bool × List Int) ⊕ (Nat × List AV)
abbrev AL : Type := List (Option AV)
abbrev AS : Type := Nat × AL × List AV × List AC
abbrev Tr : Type := Nat → AL → List AV → List AC → Option AS
abbrev vI (z : Int) : AV := .inl z
abbrev vJ (w : Int64) : AV := .inr (.inl w)
abbrev vR (k : Nat) : AV := .inr (.inr (some k))
abbrev vN : AV := .inr (.inr none)
abbrev aI (l : List Int) : AC := .inl (false, l)
abbrev aB (l : List Int) : AC := .inl (true, l)
abbrev aO (c : Nat) (fs : List AV) : AC := .inr (c, fs)
theorem wr_ex (z : Int) : ∃ w : Int, w = (z + 2147483648) % 4294967296 - 2147483648 := ⟨_, rfl⟩
/-- what an int keeps of a whole number (held shut, so that nothing unfolds it) -/
noncomputable def wr (z : Int) : Int := Classical.choose (wr_ex z)
theorem wr_def (z : Int) : wr z = (z + 2147483648) % 4294967296 - 2147483648 := Classical.choose_spec (wr_ex z)
theorem wr_eq (z : Int) : (Int32.ofInt z).toInt = wr z := by
  rw [Int32.toInt_ofInt, Int.bmod_def]
  rw [wr_def]
  simp only [Int32.size]
  split <;> omega
theorem wr_id {z : Int} (h1 : -2147483648 ≤ z) (h2 : z < 2147483648) : wr z = z := by rw [wr_def]; omega
theorem wr_rng (z : Int) : -2147483648 ≤ wr z ∧ wr z < 2147483648 := by rw [wr_def]; omega
theorem wr_wr (z : Int) : wr (wr z) = wr z := wr_id (wr_rng z).1 (wr_rng z).2
theorem of_wr (z : Int) : Int32.ofInt (wr z) = Int32.ofInt z := by rw [← wr_eq, Int32.ofInt_toInt]
theorem of_eq (a b : Int) : Int32.ofInt a = Int32.ofInt b ↔ wr a = wr b := by rw [← Int32.toInt_inj, wr_eq, wr_eq]
theorem of_lt (a b : Int) : Int32.ofInt a < Int32.ofInt b ↔ wr a < wr b := by rw [Int32.lt_iff_toInt_lt, wr_eq, wr_eq]
theorem of_le (a b : Int) : Int32.ofInt a ≤ Int32.ofInt b ↔ wr a ≤ wr b := by rw [Int32.le_iff_toInt_le, wr_eq, wr_eq]
theorem of_z : (0 : Int32) = Int32.ofInt 0 := rfl
theorem wr_0 : wr 0 = 0 := wr_id (by decide) (by decide)
theorem of_in (i : Int) (n : Nat) : vp_in (Int32.ofInt i) n ↔ 0 ≤ wr i ∧ wr i < n := by rw [vp_in_iff, wr_eq]
theorem of_nat (i : Int) : (Int32.ofInt i).toNatClampNeg = (wr i).toNat := by rw [← wr_eq]; rfl
def am_v (ad : Nat → Nat) (v : AV) : Value := match v with
  | .inl z => .int (Int32.ofInt z)
  | .inr (.inl w) => .long w
  | .inr (.inr none) => .null
  | .inr (.inr (some k)) => .ref (ad k)
def am_f (l : List Int) : Nat → Int32 := fun j => Int32.ofInt (l.getD j 0)
def am_c (ad : Nat → Nat) (K : ClassId × ClassId) (c : AC) : va_E := match c with
  | .inl (true, l) => .inl (K.2, l.length, .inl (am_f l))
  | .inl (false, l) => .inl (K.1, l.length, .inl (am_f l))
  | .inr (ci, fs) => .inr (ci, fs.map (am_v ad))
def am_w (ad : Nat → Nat) (K : ClassId × ClassId) (M : List AC) : va_W := M.mapIdx (fun i c => (ad i, am_c ad K c))
theorem am_w_at {ad : Nat → Nat} {K : ClassId × ClassId} {M : List AC} {k : Nat} {c : AC} (h : M[k]? = some c) : (am_w ad K M)[k]? = some (ad k, am_c ad K c) := by
  simp [am_w, List.getElem?_mapIdx, h]
theorem am_w_set {ad : Nat → Nat} {K : ClassId × ClassId} {M : List AC} {k : Nat} {c : AC} : am_w ad K (M.set k c) = (am_w ad K M).set k (ad k, am_c ad K c) := by
  apply List.ext_getElem?
  intro i
  simp only [am_w, List.getElem?_mapIdx, List.getElem?_set, List.length_mapIdx]
  by_cases h : k = i
  · subst h
    by_cases h2 : k < M.length <;> simp [h2]
  · simp [h]
theorem am_w_push {ad : Nat → Nat} {K : ClassId × ClassId} {M : List AC} {c : AC} : am_w ad K (M ++ [c]) = am_w ad K M ++ [(ad M.length, am_c ad K c)] := by
  simp [am_w, List.mapIdx_append]
theorem am_f_set {l : List Int} {i : Nat} {z : Int} (h : i < l.length) : am_f (l.set i z) = upd (am_f l) i (Int32.ofInt z) := by
  funext j
  unfold am_f upd
  by_cases hj : j = i
  · subst hj
    simp [List.getD, h]
  · rw [if_neg hj]
    simp [List.getD, List.getElem?_set_ne (Ne.symm hj)]
def am_L (ad : Nat → Nat) (ls : Array Slot) (nL : Nat) (L : AL) : Prop := ls.size = nL ∧ lv_wf ls ∧ L.length = nL ∧ ∀ (i : Nat) (v : AV), L[i]? = some (some v) → ls[i]? = some (.val (am_v ad v))
def am_pl (ad : Nat → Nat) (L : AL) : List (Nat × Value) := L.zipIdx.filterMap (fun q => q.1.map (fun v => (q.2, am_v ad v)))
theorem am_pl_mem {ad : Nat → Nat} {L : AL} {q : Nat × Value} : q ∈ am_pl ad L ↔ ∃ v : AV, L[q.1]? = some (some v) ∧ q.2 = am_v ad v := by
  unfold am_pl
  rw [List.mem_filterMap]
  constructor
  · rintro ⟨⟨o, i⟩, h1, h2⟩
    rw [List.mem_zipIdx_iff_getElem?] at h1
    cases o with
    | none => cases h2
    | some v =>
      cases h2
      exact ⟨v, h1, rfl⟩
  · rintro ⟨v, h1, h2⟩
    obtain ⟨i, x⟩ := q
    refine ⟨(some v, i), List.mem_zipIdx_iff_getElem?.mpr h1, ?_⟩
    dsimp only at h2
    rw [h2]
    rfl
theorem am_pl_has {ad : Nat → Nat} {ls : Array Slot} {nL : Nat} {L : AL} (h : am_L ad ls nL L) : lv_has ls nL (am_pl ad L) :=
  ⟨h.1, h.2.1, fun q hq => by
    obtain ⟨v, h1, h2⟩ := am_pl_mem.mp hq
    rw [h2]
    exact h.2.2.2 q.1 v h1⟩
def am_nl (L : AL) (i : Nat) : Bool := match i with
  | 0 => true
  | j + 1 => match L[j]? with
    | some (some (.inr (.inl _))) => false
    | _ => true
theorem am_cat (ad : Nat → Nat) (v : AV) : (am_v ad v).category = match v with | .inr (.inl _) => 2 | _ => 1 := by
  rcases v with z | w | (_ | k) <;> rfl
theorem am_nl_cat {ad : Nat → Nat} {L : AL} {i j : Nat} {v : AV} (h : am_nl L i = true) (hj : L[j]? = some (some v)) (e : j + 1 = i) : (am_v ad v).category = 1 := by
  subst e
  simp only [am_nl, hj] at h
  rw [am_cat]
  rcases v with z | w | (_ | k)
  · rfl
  · simp at h
  · rfl
  · rfl
theorem am_L_set1 {ad : Nat → Nat} {ls ls' : Array Slot} {nL : Nat} {L : AL} {i : Nat} {v : AV} (h : am_L ad ls nL L) (hi : am_nl L i = true)
    (h' : lv_has ls' nL ((i, am_v ad v) :: (am_pl ad L).filter (fun q => !(q.1 == i) && !(q.1 + 1 == i && q.2.category == 2)))) : am_L ad ls' nL (L.set i (some v)) := by
  refine ⟨h'.1, h'.2.1, by rw [List.length_set]; exact h.2.2.1, fun j w hj => ?_⟩
  by_cases e : i = j
  · subst e
    have hl : i < L.length := by
      rcases Nat.lt_or_ge i L.length with q | q
      · exact q
      · rw [List.getElem?_eq_none (by rw [List.length_set]; exact q)] at hj
        cases hj
    rw [List.getElem?_set_self hl] at hj
    cases hj
    exact h'.2.2 (i, am_v ad v) List.mem_cons_self
  · rw [List.getElem?_set_ne e] at hj
    refine h'.2.2 (j, am_v ad w) (List.mem_cons_of_mem _ (List.mem_filter.mpr ⟨am_pl_mem.mpr ⟨w, hj, rfl⟩, ?_⟩))
    have e' : ¬ j = i := fun z => e z.symm
    by_cases e2 : j + 1 = i
    · have := am_nl_cat (ad := ad) hi hj e2
      simp [e', this]
    · simp [e', e2]
theorem am_L_set2 {ad : Nat → Nat} {ls ls' : Array Slot} {nL : Nat} {L : AL} {i : Nat} {v : AV} (h : am_L ad ls nL L) (hi : am_nl L i = true)
    (h' : lv_has ls' nL ((i, am_v ad v) :: (am_pl ad L).filter (fun q => !(q.1 == i) && (!(q.1 == i + 1) && !(q.1 + 1 == i && q.2.category == 2))))) : am_L ad ls' nL ((L.set i (some v)).set (i + 1) none) := by
  refine ⟨h'.1, h'.2.1, by rw [List.length_set, List.length_set]; exact h.2.2.1, fun j w hj => ?_⟩
  by_cases e1 : i + 1 = j
  · subst e1
    rcases Nat.lt_or_ge (i + 1) L.length with q | q
    · rw [List.getElem?_set_self (by rw [List.length_set]; exact q)] at hj
      cases hj
    · rw [List.getElem?_eq_none (by rw [List.length_set, List.length_set]; exact q)] at hj
      cases hj
  · rw [List.getElem?_set_ne e1] at hj
    by_cases e : i = j
    · subst e
      have hl : i < L.length := by
        rcases Nat.lt_or_ge i L.length with q | q
        · exact q
        · rw [List.getElem?_eq_none (by rw [List.length_set]; exact q)] at hj
          cases hj
      rw [List.getElem?_set_self hl] at hj
      cases hj
      exact h'.2.2 (i, am_v ad v) List.mem_cons_self
    · rw [List.getElem?_set_ne e] at hj
      refine h'.2.2 (j, am_v ad w) (List.mem_cons_of_mem _ (List.mem_filter.mpr ⟨am_pl_mem.mpr ⟨w, hj, rfl⟩, ?_⟩))
      have e' : ¬ j = i := fun z => e z.symm
      have e1' : ¬ j = i + 1 := fun z => e1 z.symm
      by_cases e2 : j + 1 = i
      · have := am_nl_cat (ad := ad) hi hj e2
        simp [e', e1', this]
      · simp [e', e1', e2]
theorem am_L_lt {ad : Nat → Nat} {ls : Array Slot} {nL : Nat} {L : AL} {i : Nat} {x : Option AV} (h : am_L ad ls nL L) (hi : L[i]? = some x) : i < nL := by
  rw [← h.2.2.1]
  exact (List.getElem?_eq_some_iff.mp hi).1
/-! constants: static arrays at 1000 .., the two texts at 1010, 1011, their bytes at 1012, 1013 -/
def am_tens : List Int := [1, 10, 100, 1000, 10000, 100000, 1000000, 10000000, 100000000]
def am_sevens : List Int := [343, 49, 7, 1]
def am_orders : List Int := [123, 132, 213, 231, 312, 321, 1023, 1032, 1203, 1230, 1302, 1320, 2013, 2031, 2103, 2130, 2301, 2310, 3012, 3021, 3102, 3120, 3201, 3210]
def am_b1 : List Int := [66, 49, 49, 49, 49, 49, 48, 48, 48, 48, 76, 48, 48, 76, 48, 48, 76, 48, 48]
def am_b2 : List Int := [66, 51, 57, 57, 57, 57, 57, 57, 57, 57, 76, 51, 57, 76, 51, 57, 76, 51, 57]
def am_k (k : Nat) : Option (List Int) := if k = 1000 then some am_tens else if k = 1001 then some am_sevens else if k = 1002 then some am_orders else none
def am_nest : List Cond := [.methodLinkNest RX5 19 yX4_init RX5, .methodLinkNest RX5 29 yX0_init RX5, .methodLinkNest RX5 58 yX2_init RX5, .methodLinkNest RX1 28 yX5_asFigures RX5, .methodLinkNest RX1 36 yX5_layFigures RX5, .methodLinkNest RX2 15 yX5_isCorner RX5, .methodLinkNest RX2 26 yX5_figureOf RX5, .fieldLinkNest RX3 54 "FourthCorner" "SEVENS" "[I" RX5]
def am_S (ad : Nat → Nat) (A : Nat → Prop) (U : State) (H : Heap) : Prop :=
  (va_Z "FourthCorner" "TENS" "[I" (.ref (ad 1000)) A U H ∧ va_T .int (ad 1000) 9 (fun j => .int (am_f am_tens j)) A U H) ∧
  (va_Z "FourthCorner" "SEVENS" "[I" (.ref (ad 1001)) A U H ∧ va_T .int (ad 1001) 4 (fun j => .int (am_f am_sevens j)) A U H) ∧
  (va_Z "FourthCorner" "ORDERS" "[I" (.ref (ad 1002)) A U H ∧ va_T .int (ad 1002) 24 (fun j => .int (am_f am_orders j)) A U H) ∧
  va_Z "java/lang/String" "COMPACT_STRINGS" "Z" (.int 1) A U H ∧
  vk_R "FourthCorner" 243 "B111110000L00L00L00" (ad 1010) U ∧ vk_R "FourthCorner" 249 "B399999999L39L39L39" (ad 1011) U ∧
  vk_S 2 [19, 19] [am_b1.map Int32.ofInt, am_b2.map Int32.ofInt] (fun i => ad (1010 + i)) (fun i => ad (1012 + i)) A U H ∧
  (∀ w ∈ am_nest, va_Nw w U) ∧
  (va_Z "jdk/internal/util/Preconditions" "SIOOBE_FORMATTER" "Ljava/util/function/BiFunction;" .null A U H ∨ va_Z "jdk/internal/util/Preconditions" "SIOOBE_FORMATTER" "Ljava/util/function/BiFunction;" (.ref (ad 1020)) A U H)
theorem am_nest_warm {s U : State} (hW : s.WarmedH U.vm) (h : ∀ w ∈ am_nest, va_Nw w s) : ∀ w ∈ am_nest, va_Nw w U := by
  intro w hw
  have h0 := h w hw
  simp only [am_nest, List.mem_cons, List.mem_nil_iff, or_false] at hw
  rcases hw with rfl | rfl | rfl | rfl | rfl | rfl | rfl | rfl
  · exact va_Nw.warmM hW h0
  · exact va_Nw.warmM hW h0
  · exact va_Nw.warmM hW h0
  · exact va_Nw.warmM hW h0
  · exact va_Nw.warmM hW h0
  · exact va_Nw.warmM hW h0
  · exact va_Nw.warmM hW h0
  · exact va_Nw.warmF hW h0
theorem am_nest_on : ∀ w ∈ am_nest, w.onTables = true := by
  intro w hw
  simp only [am_nest, List.mem_cons, List.mem_nil_iff, or_false] at hw
  rcases hw with rfl | rfl | rfl | rfl | rfl | rfl | rfl | rfl <;> rfl
theorem am_S.warm {ad : Nat → Nat} {A : Nat → Prop} {s U : State} {H : Heap} (hW : s.WarmedH U.vm) (h : am_S ad A s H) : am_S ad A U H := by
  obtain ⟨⟨a1, a2⟩, ⟨b1, b2⟩, ⟨c1, c2⟩, d, e1, e2, f, g, z⟩ := h
  exact ⟨⟨a1.moved hW.alike, a2.moved hW.alike⟩, ⟨b1.moved hW.alike, b2.moved hW.alike⟩, ⟨c1.moved hW.alike, c2.moved hW.alike⟩, d.moved hW.alike, e1.warm hW, e2.warm hW, f.moved hW.alike, am_nest_warm hW g, z.imp (fun z => z.moved hW.alike) (fun z => z.moved hW.alike)⟩
theorem am_S.same {ad : Nat → Nat} {A : Nat → Prop} {s U : State} {H : Heap} (hv : U.vm = s.vm) (h : am_S ad A s H) : am_S ad A U H := by
  obtain ⟨⟨a1, a2⟩, ⟨b1, b2⟩, ⟨c1, c2⟩, d, e1, e2, f, g, z⟩ := h
  have hA : s.vm.Alike U.vm := by rw [hv]; exact Vm.Alike.refl _
  exact ⟨⟨a1.moved hA, a2.moved hA⟩, ⟨b1.moved hA, b2.moved hA⟩, ⟨c1.moved hA, c2.moved hA⟩, d.moved hA, e1.same hv, e2.same hv, f.moved hA, fun w hw => va_Nw.same (am_nest_on w hw) hv.symm (g w hw), z.imp (fun z => z.moved hA) (fun z => z.moved hA)⟩
theorem am_S.kept {ad : Nat → Nat} {A : Nat → Prop} {U : State} {H H1 : Heap} (h : am_S ad A U H) (hq : ∀ a : Nat, a < H.size → ¬ A a → H1[a]? = H[a]?) : am_S ad A U H1 := by
  obtain ⟨⟨a1, a2⟩, ⟨b1, b2⟩, ⟨c1, c2⟩, d, e1, e2, f, g, z⟩ := h
  exact ⟨⟨a1.kept hq, a2.kept hq⟩, ⟨b1.kept hq, b2.kept hq⟩, ⟨c1.kept hq, c2.kept hq⟩, d.kept hq, e1, e2, f.kept hq, g, z.imp (fun z => z.kept hq) (fun z => z.kept hq)⟩
theorem am_S.narrow {ad : Nat → Nat} {A B : Nat → Prop} {U : State} {H : Heap} (h : am_S ad A U H) (hAB : ∀ q, B q → A q) : am_S ad B U H := by
  obtain ⟨⟨a1, a2⟩, ⟨b1, b2⟩, ⟨c1, c2⟩, d, e1, e2, f, g, z⟩ := h
  exact ⟨⟨a1.narrow hAB, a2.narrow hAB⟩, ⟨b1.narrow hAB, b2.narrow hAB⟩, ⟨c1.narrow hAB, c2.narrow hAB⟩, d.narrow hAB, e1, e2, f.narrow hAB, g, z.imp (fun z => z.narrow hAB) (fun z => z.narrow hAB)⟩
theorem am_S.cong {ad ad' : Nat → Nat} {A : Nat → Prop} {U : State} {H : Heap} (h : am_S ad A U H) (hk : ∀ k, 1000 ≤ k → ad' k = ad k) : am_S ad' A U H := by
  unfold am_S
  rw [hk 1000 (by omega), hk 1001 (by omega), hk 1002 (by omega), hk 1010 (by omega), hk 1011 (by omega), hk 1020 (by omega), show (fun i => ad' (1010 + i)) = (fun i => ad (1010 + i)) from funext fun i => hk _ (by omega), show (fun i => ad' (1012 + i)) = (fun i => ad (1012 + i)) from funext fun i => hk _ (by omega)]
  exact h
