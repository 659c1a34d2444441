/-! four numbers, a sheet's numbers -/
abbrev F4 : Type := Int × Int × Int × Int
abbrev l4 (q : F4) : List Int := [q.1, q.2.1, q.2.2.1, q.2.2.2]
def g4 (q : F4) (c : Nat) : Int := match c with
  | 0 => q.1
  | 1 => q.2.1
  | 2 => q.2.2.1
  | _ => q.2.2.2
def s4 (q : F4) (c : Nat) (v : Int) : F4 := match c with
  | 0 => (v, q.2.1, q.2.2.1, q.2.2.2)
  | 1 => (q.1, v, q.2.2.1, q.2.2.2)
  | 2 => (q.1, q.2.1, v, q.2.2.2)
  | _ => (q.1, q.2.1, q.2.2.1, v)
abbrev i4 (lo hi : Int) (q : F4) : Prop := (lo ≤ q.1 ∧ q.1 ≤ hi) ∧ (lo ≤ q.2.1 ∧ q.2.1 ≤ hi) ∧ (lo ≤ q.2.2.1 ∧ q.2.2.1 ≤ hi) ∧ (lo ≤ q.2.2.2 ∧ q.2.2.2 ≤ hi)
theorem i4_wr {lo hi : Int} {q : F4} (h : i4 lo hi q) (h1 : -2147483648 ≤ lo) (h2 : hi < 2147483648) : wr q.1 = q.1 ∧ wr q.2.1 = q.2.1 ∧ wr q.2.2.1 = q.2.2.1 ∧ wr q.2.2.2 = q.2.2.2 := by
  obtain ⟨⟨a1, a2⟩, ⟨b1, b2⟩, ⟨c1, c2⟩, d1, d2⟩ := h
  exact ⟨wr_id (by omega) (by omega), wr_id (by omega) (by omega), wr_id (by omega) (by omega), wr_id (by omega) (by omega)⟩
theorem i4_g {lo hi : Int} {q : F4} (h : i4 lo hi q) (c : Nat) : lo ≤ g4 q c ∧ g4 q c ≤ hi := by
  unfold g4
  split
  · exact h.1
  · exact h.2.1
  · exact h.2.2.1
  · exact h.2.2.2
theorem i4_s {lo hi : Int} {q : F4} (h : i4 lo hi q) (c : Nat) {v : Int} (h1 : lo ≤ v) (h2 : v ≤ hi) : i4 lo hi (s4 q c v) := by
  obtain ⟨a, b, c', d⟩ := h
  unfold s4
  split
  · exact ⟨⟨h1, h2⟩, b, c', d⟩
  · exact ⟨a, ⟨h1, h2⟩, c', d⟩
  · exact ⟨a, b, ⟨h1, h2⟩, d⟩
  · exact ⟨a, b, c', ⟨h1, h2⟩⟩
def cn (d b : Int) : Int := if b < d then d - b else 0
def pl (st s d e b c : Int) : Int := if d = 0 ∨ e = 0 then 0 else if 0 < cn d b + cn e c - s then st * (cn d b + cn e c - s) else 0
def pu (st : Int) (s d b : F4) (e : Nat) : Int := match e with
  | 0 => pl st s.1 d.1 d.2.1 b.1 b.2.1
  | 1 => pl st s.2.1 d.2.1 d.2.2.1 b.2.1 b.2.2.1
  | 2 => pl st s.2.2.1 d.2.2.1 d.2.2.2 b.2.2.1 b.2.2.2
  | _ => pl st s.2.2.2 d.2.2.2 d.1 b.2.2.2 b.1
def pa (st : Int) (s d b : F4) (c : Nat) : Int := match c with
  | 0 => pu st s d b 3 + pu st s d b 0
  | 1 => pu st s d b 0 + pu st s d b 1
  | 2 => pu st s d b 1 + pu st s d b 2
  | _ => pu st s d b 2 + pu st s d b 3
def ex (st : Int) (g s d b : F4) (c : Nat) : Int := pa st s d b c - g4 g c * g4 d c
/-- the first of the greatest of four that is more than 0; -9: none -/
def fm (e0 e1 e2 e3 : Int) : Int :=
  let x0 : Int × Int := if 0 < e0 then (0, e0) else (-9, 0)
  let x1 : Int × Int := if x0.2 < e1 then (1, e1) else x0
  let x2 : Int × Int := if x1.2 < e2 then (2, e2) else x1
  (if x2.2 < e3 then (3, e3) else x2).1
def fs (st : Int) (g s d b : F4) : Int := fm (ex st g s d b 0) (ex st g s d b 1) (ex st g s d b 2) (ex st g s d b 3)
def SR (st : Int) (g s d b : F4) : Prop := (1 ≤ st ∧ st ≤ 3) ∧ i4 1 9 g ∧ i4 0 9 s ∧ i4 0 6 d ∧ i4 0 3 b
theorem cn_rng {d b : Int} (h1 : 0 ≤ d ∧ d ≤ 6) (h2 : 0 ≤ b ∧ b ≤ 3) : 0 ≤ cn d b ∧ cn d b ≤ 6 := by unfold cn; split <;> omega
theorem pl_rng {st s d e b c : Int} (hst : 1 ≤ st ∧ st ≤ 3) (hs : 0 ≤ s ∧ s ≤ 9) (hd : 0 ≤ d ∧ d ≤ 6) (he : 0 ≤ e ∧ e ≤ 6) (hb : 0 ≤ b ∧ b ≤ 3) (hc : 0 ≤ c ∧ c ≤ 3) : 0 ≤ pl st s d e b c ∧ pl st s d e b c ≤ 36 := by
  have h1 := cn_rng hd hb
  have h2 := cn_rng he hc
  unfold pl
  generalize cn d b = x at h1 ⊢
  generalize cn e c = y at h2 ⊢
  split
  · omega
  · split
    · obtain rfl | rfl | rfl : st = 1 ∨ st = 2 ∨ st = 3 := by omega
      · omega
      · omega
      · omega
    · omega
theorem pu_rng {st : Int} {g s d b : F4} (h : SR st g s d b) (e : Nat) : 0 ≤ pu st s d b e ∧ pu st s d b e ≤ 36 := by
  obtain ⟨hst, -, hs, hd, hb⟩ := h
  unfold pu
  split
  · exact pl_rng hst hs.1 hd.1 hd.2.1 hb.1 hb.2.1
  · exact pl_rng hst hs.2.1 hd.2.1 hd.2.2.1 hb.2.1 hb.2.2.1
  · exact pl_rng hst hs.2.2.1 hd.2.2.1 hd.2.2.2 hb.2.2.1 hb.2.2.2
  · exact pl_rng hst hs.2.2.2 hd.2.2.2 hd.1 hb.2.2.2 hb.1
theorem pa_rng {st : Int} {g s d b : F4} (h : SR st g s d b) (c : Nat) : 0 ≤ pa st s d b c ∧ pa st s d b c ≤ 72 := by
  have h0 := pu_rng h 0
  have h1 := pu_rng h 1
  have h2 := pu_rng h 2
  have h3 := pu_rng h 3
  unfold pa
  split <;> omega
theorem gd_rng {g d : Int} (hg : 1 ≤ g ∧ g ≤ 9) (hd : 0 ≤ d ∧ d ≤ 6) : 0 ≤ g * d ∧ g * d ≤ 54 := by
  obtain rfl | rfl | rfl | rfl | rfl | rfl | rfl : d = 0 ∨ d = 1 ∨ d = 2 ∨ d = 3 ∨ d = 4 ∨ d = 5 ∨ d = 6 := by omega
  all_goals omega
theorem ex_rng {st : Int} {g s d b : F4} (h : SR st g s d b) (c : Nat) : -54 ≤ ex st g s d b c ∧ ex st g s d b c ≤ 72 := by
  have h0 := pa_rng h c
  have h1 := gd_rng (i4_g h.2.1 c) (i4_g h.2.2.2.1 c)
  unfold ex
  omega
theorem fm_rng (e0 e1 e2 e3 : Int) : fm e0 e1 e2 e3 = -9 ∨ (0 ≤ fm e0 e1 e2 e3 ∧ fm e0 e1 e2 e3 < 4) := by
  unfold fm
  dsimp only
  (repeat' split) <;> simp_all
/-- the cells of a sheet at place k -/
def HS (M : List AC) (k : Nat) (st : Int) (g s d b : F4) : Prop := k + 4 < 1000 ∧ M[k]? = some (aO 4 [vI st, vR (k + 1), vR (k + 2), vR (k + 3), vR (k + 4)]) ∧ M[k + 1]? = some (aI (l4 g)) ∧ M[k + 2]? = some (aI (l4 s)) ∧ M[k + 3]? = some (aI (l4 d)) ∧ M[k + 4]? = some (aI (l4 b))
theorem am_klt {q : Nat} (h : q < 1000) : am_k q = none := by
  unfold am_k
  rw [if_neg (by omega), if_neg (by omega), if_neg (by omega)]
theorem HS.nk {M : List AC} {k : Nat} {st : Int} {g s d b : F4} (h : HS M k st g s d b) : am_k (k + 1) = none ∧ am_k (k + 2) = none ∧ am_k (k + 3) = none ∧ am_k (k + 4) = none :=
  ⟨am_klt (by have := h.1; omega), am_klt (by have := h.1; omega), am_klt (by have := h.1; omega), am_klt (by have := h.1; omega)⟩
theorem SR.wr {st : Int} {g s d b : F4} (h : SR st g s d b) : wr st = st ∧ (wr g.1 = g.1 ∧ wr g.2.1 = g.2.1 ∧ wr g.2.2.1 = g.2.2.1 ∧ wr g.2.2.2 = g.2.2.2) ∧ (wr s.1 = s.1 ∧ wr s.2.1 = s.2.1 ∧ wr s.2.2.1 = s.2.2.1 ∧ wr s.2.2.2 = s.2.2.2) ∧ (wr d.1 = d.1 ∧ wr d.2.1 = d.2.1 ∧ wr d.2.2.1 = d.2.2.1 ∧ wr d.2.2.2 = d.2.2.2) ∧ (wr b.1 = b.1 ∧ wr b.2.1 = b.2.1 ∧ wr b.2.2.1 = b.2.2.1 ∧ wr b.2.2.2 = b.2.2.2) :=
  ⟨wr_id (by have := h.1; omega) (by have := h.1; omega), i4_wr h.2.1 (by decide) (by decide), i4_wr h.2.2.1 (by decide) (by decide), i4_wr h.2.2.2.1 (by decide) (by decide), i4_wr h.2.2.2.2 (by decide) (by decide)⟩
theorem c4 {c : Int} (h : 0 ≤ c ∧ c < 4) : c = 0 ∨ c = 1 ∨ c = 2 ∨ c = 3 := by omega
theorem len_of {M : List AC} {q : Nat} {c : AC} (h : M[q]? = some c) : q < M.length := (List.getElem?_eq_some_iff.mp h).1
theorem set_same {M : List AC} {i : Nat} {c : AC} (h : M[i]? = some c) : M.set i c = M := by
  apply List.ext_getElem?
  intro j
  by_cases e : i = j
  · subst e
    rw [List.getElem?_set_self (len_of h), h]
  · rw [List.getElem?_set_ne e]
theorem HS.setD {M : List AC} {k : Nat} {st : Int} {g s d b : F4} (h : HS M k st g s d b) (d' : F4) : HS (M.set (k + 3) (aI (l4 d'))) k st g s d' b := by
  obtain ⟨hk, h0, h1, h2, h3, h4⟩ := h
  exact ⟨hk, by rw [List.getElem?_set_ne (by omega)]; exact h0, by rw [List.getElem?_set_ne (by omega)]; exact h1, by rw [List.getElem?_set_ne (by omega)]; exact h2, List.getElem?_set_self (len_of h3), by rw [List.getElem?_set_ne (by omega)]; exact h4⟩
theorem SR.setD {st : Int} {g s d b : F4} (h : SR st g s d b) (c : Nat) {v : Int} (h1 : 0 ≤ v) (h2 : v ≤ 6) : SR st g s (s4 d c v) b := ⟨h.1, h.2.1, h.2.2.1, i4_s h.2.2.2.1 c h1 h2, h.2.2.2.2⟩
def Ru (f : Nat → Nat → AL → List AV → List AC → Option (Option AV × List AC)) (N pc : Nat) (L : AL) (st : List AV) (M : List AC) (x : Option AV × List AC) : Prop := ∃ n, n ≤ N ∧ f n pc L st M = some x
theorem am_fnR {tb : List (Nat × Tr)} {kd : Option AV → Bool} {rets : List Nat} {nL N : Nat} {av : List AV} {M : List AC} {x : Option AV × List AC} (hl : (am_sl av).length ≤ nL) (hn : N ≤ am_fu) (h : Ru (am_r tb kd rets) N 0 (am_in av nL) [] M x) : am_fn (am_r tb kd rets) nL av M = some x := by
  obtain ⟨n, h1, h2⟩ := h
  exact am_fnI hl (Nat.le_trans h1 hn) h2
/-- slipping, at most n times -/
def sl (st : Int) (g s b : F4) : Nat → F4 → Int → F4 × Int
  | 0, d, z => (d, z)
  | n + 1, d, z => if fs st g s d b = -9 then (d, z) else sl st g s b n (s4 d (fs st g s d b).toNat 0) (oOr z (oShl 1 (fs st g s d b)))
/-- rising to a row -/
def ri (st : Int) (g s b : F4) : Nat → F4 → F4 × Int
  | 0, d => (d, 0)
  | n + 1, d => if fs st g s d b = -9 then (d, 1) else if 6 ≤ g4 d (fs st g s d b).toNat then (d, 0) else ri st g s b n (s4 d (fs st g s d b).toNat (g4 d (fs st g s d b).toNat + 1))
def sm (f : Int → Int) : Nat → Int → Int
  | 0, _ => 0
  | n + 1, i => f i + sm f n (i + 1)
theorem ss {M : List AC} {i j : Nat} {a b : AC} (h : i ≠ j) : (M.set j a).set i b = (M.set i b).set j a := List.set_comm a b (Ne.symm h)
