noncomputable section
/-! runs that make cells -/
abbrev TrA : Type := Nat → AL → List AV → List AC → Option (AS × Nat × Nat)
abbrev FnA : Type := List AV → List AC → Option (Option AV × List AC × Nat × Nat)
def tL (t : Tr) : TrA := fun pc L st M => match t pc L st M with
  | some q => some (q, 0, 0)
  | none => none
def am_lkA : List (Nat × TrA) → Nat → Option TrA
  | [], _ => none
  | (k, t) :: r, n => if n = k then some t else am_lkA r n
def SdG (a : Am) (mi : Mi) (G : (Nat → Nat) → Prop) (pc : Nat) (t : TrA) : Prop := ∀ (ad : Nat → Nat) (cells slots : Nat) (L : AL) (st : List AV) (M : List AC) (pc' : Nat) (L' : AL) (st' : List AV) (M' : List AC) (dc ds : Nat), am_X a ad mi → G ad → t pc L st M = some ((pc', L', st', M'), dc, ds) → cells + dc ≤ a.2.2.2.1.cells → slots + ds ≤ a.2.2.2.1.slots → (∀ ad' : Nat → Nat, (∀ j, j < M.length ∨ 1000 ≤ j → ad' j = ad j) → am_X a ad' mi → GG a ad' mi.2.2.1 (cells + dc) (slots + ds) pc' L' st' M') → GG a ad mi.2.2.1 cells slots pc L st M
def TokG (a : Am) (mi : Mi) (G : (Nat → Nat) → Prop) (tb : List (Nat × TrA)) : Prop := ∀ (pc : Nat) (t : TrA), am_lkA tb pc = some t → SdG a mi G pc t
theorem TnG {a : Am} {mi : Mi} {G : (Nat → Nat) → Prop} : TokG a mi G [] := fun _ _ h => by cases h
theorem TcG {a : Am} {mi : Mi} {G : (Nat → Nat) → Prop} {k : Nat} {t : TrA} {r : List (Nat × TrA)} (h : SdG a mi G k t) (hr : TokG a mi G r) : TokG a mi G ((k, t) :: r) := by
  intro pc u hu
  unfold am_lkA at hu
  split at hu
  · next e => cases hu; rw [e]; exact h
  · exact hr pc u hu
theorem sd_L {a : Am} {mi : Mi} {G : (Nat → Nat) → Prop} {pc : Nat} {t : Tr} (h : Sd mi pc t) : SdG a mi G pc (tL t) := by
  intro ad cells slots L st M pc' L' st' M' dc ds hX hG ht hc hs k
  unfold tL at ht
  split at ht
  · next q hq =>
    cases ht
    exact h a ad cells slots L st M pc' L' st' M' hX hq (k ad (fun _ _ => rfl) hX)
  · cases ht
def am_ra (n0 : Nat) (tb : List (Nat × TrA)) (kd : Option AV → Bool) (rets : List Nat) : Nat → Nat → AL → List AV → List AC → Nat → Nat → Option (Option AV × List AC × Nat × Nat)
  | 0, _, _, _, _, _, _ => none
  | n + 1, pc, L, st, M, c, s => match am_lkA tb pc with
    | some t => if n0 ≤ M.length then match t pc L st M with
      | some ((pc', L', st', M'), dc, ds) => am_ra n0 tb kd rets n pc' L' st' M' (c + dc) (s + ds)
      | none => none else none
    | none => if rets.contains pc then match st with
      | [] => if kd none then some (none, M, c, s) else none
      | [v] => if kd (some v) then some (some v, M, c, s) else none
      | _ => none else none
theorem am_ra_up {n0 : Nat} {tb : List (Nat × TrA)} {kd : Option AV → Bool} {rets : List Nat} {r : Option AV} {M' : List AC} {C S : Nat} : ∀ (n : Nat) {pc : Nat} {L : AL} {st : List AV} {M : List AC} {c s : Nat}, am_ra n0 tb kd rets n pc L st M c s = some (r, M', C, S) → c ≤ C ∧ s ≤ S
  | 0, pc, L, st, M, c, s, h => by cases h
  | n + 1, pc, L, st, M, c, s, h => by
    unfold am_ra at h
    split at h
    · split at h
      · split at h
        · have := am_ra_up n h
          omega
        · cases h
      · cases h
    · split at h
      · split at h
        · split at h
          · cases h; exact ⟨Nat.le_refl _, Nat.le_refl _⟩
          · cases h
        · split at h
          · cases h; exact ⟨Nat.le_refl _, Nat.le_refl _⟩
          · cases h
        · cases h
      · cases h
theorem am_rra {a : Am} {mi : Mi} {G : (Nat → Nat) → Prop} {n0 : Nat} {tb : List (Nat × TrA)} {kd : Option AV → Bool} {rets : List Nat} {ad0 : Nat → Nat} {r : Option AV} {M' : List AC} {C S : Nat} (hG : ∀ ad, (∀ j, j < n0 ∨ 1000 ≤ j → ad j = ad0 j) → G ad) (ok : TokG a mi G tb) (hC : C ≤ a.2.2.2.1.cells) (hS : S ≤ a.2.2.2.1.slots) (hRet : ∀ (ad' : Nat → Nat) (pc : Nat) (L : AL), (∀ j, j < n0 ∨ 1000 ≤ j → ad' j = ad0 j) → am_X a ad' mi → pc ∈ rets → kd r = true → GG a ad' mi.2.2.1 C S pc L r.toList M') : ∀ (n : Nat) {pc : Nat} {L : AL} {st : List AV} {M : List AC} {c s : Nat} {ad : Nat → Nat}, (∀ j, j < n0 ∨ 1000 ≤ j → ad j = ad0 j) → am_X a ad mi → am_ra n0 tb kd rets n pc L st M c s = some (r, M', C, S) → GG a ad mi.2.2.1 c s pc L st M
  | 0, pc, L, st, M, c, s, ad, hA, hX, h => by cases h
  | n + 1, pc, L, st, M, c, s, ad, hA, hX, h => by
    unfold am_ra at h
    split at h
    · next t ht =>
      split at h
      · next hn0 =>
        split at h
        · next pc2 L2 st2 M2 dc ds h2 =>
          have hu := am_ra_up n h
          refine ok pc t ht ad c s L st M pc2 L2 st2 M2 dc ds hX (hG ad hA) h2 (by omega) (by omega) (fun ad' hk hX' => ?_)
          exact am_rra hG ok hC hS hRet n (fun j hj => (hk j (by omega)).trans (hA j hj)) hX' h
        · cases h
      · cases h
    · split at h
      · next hp =>
        have hp : pc ∈ rets := by simpa using hp
        split at h
        · split at h
          · next hk =>
            cases h
            exact hRet ad pc L hA hX hp hk
          · cases h
        · split at h
          · next hk =>
            cases h
            exact hRet ad pc L hA hX hp hk
          · cases h
        · cases h
      · cases h
theorem am_ra_mono {n0 : Nat} {tb : List (Nat × TrA)} {kd : Option AV → Bool} {rets : List Nat} {x : Option AV × List AC × Nat × Nat} : ∀ (n k : Nat) {pc : Nat} {L : AL} {st : List AV} {M : List AC} {c s : Nat}, am_ra n0 tb kd rets n pc L st M c s = some x → n ≤ k → am_ra n0 tb kd rets k pc L st M c s = some x
  | 0, k, pc, L, st, M, c, s, h, hk => by cases h
  | n + 1, 0, pc, L, st, M, c, s, h, hk => by omega
  | n + 1, k + 1, pc, L, st, M, c, s, h, hk => by
    unfold am_ra at h ⊢
    rcases ht : am_lkA tb pc with _ | t
    · rw [ht] at h; exact h
    · rw [ht] at h
      dsimp only at h ⊢
      split at h
      · next hn0 =>
        rw [if_pos hn0]
        rcases h2 : t pc L st M with _ | ⟨⟨pc2, L2, st2, M2⟩, dc, ds⟩
        · rw [h2] at h; cases h
        · rw [h2] at h
          dsimp only at h ⊢
          exact am_ra_mono n k h (by omega)
      · cases h
def am_jB {R : Type} (f : Nat → AL → List AV → List AC → Option R) (o : Option AS) : Option R := match o with
  | some (pc, L, st, M) => f pc L st M
  | none => none
theorem am_jBs {R : Type} (f : Nat → AL → List AV → List AC → Option R) (pc : Nat) (L : AL) (st : List AV) (M : List AC) : am_jB f (some (pc, L, st, M)) = f pc L st M := rfl
def am_jC {R : Type} (f : Nat → AL → List AV → List AC → Nat → Nat → Option R) (o : Option (AS × Nat × Nat)) (c s : Nat) : Option R := match o with
  | some ((pc, L, st, M), dc, ds) => f pc L st M (c + dc) (s + ds)
  | none => none
theorem am_jCs {R : Type} (f : Nat → AL → List AV → List AC → Nat → Nat → Option R) (pc : Nat) (L : AL) (st : List AV) (M : List AC) (dc ds c s : Nat) : am_jC f (some ((pc, L, st, M), dc, ds)) c s = f pc L st M (c + dc) (s + ds) := rfl
def am_eA (kd : Option AV → Bool) (st : List AV) (M : List AC) (c s : Nat) : Option (Option AV × List AC × Nat × Nat) := match st with
  | [] => if kd none then some (none, M, c, s) else none
  | [v] => if kd (some v) then some (some v, M, c, s) else none
  | _ => none
theorem ra_L {n0 : Nat} {tb : List (Nat × TrA)} {kd : Option AV → Bool} {rets : List Nat} {pc : Nat} {t : Tr} (h : am_lkA tb pc = some (tL t)) (n : Nat) (L : AL) (st : List AV) (M : List AC) (c s : Nat) : am_ra n0 tb kd rets (n + 1) pc L st M c s = if n0 ≤ M.length then am_jB (fun pc L st M => am_ra n0 tb kd rets n pc L st M c s) (t pc L st M) else none := by
  conv => lhs; unfold am_ra
  rw [h]
  dsimp only
  unfold tL
  rcases t pc L st M with _ | ⟨pc2, L2, st2, M2⟩ <;> rfl
theorem ra_A {n0 : Nat} {tb : List (Nat × TrA)} {kd : Option AV → Bool} {rets : List Nat} {pc : Nat} {t : TrA} (h : am_lkA tb pc = some t) (n : Nat) (L : AL) (st : List AV) (M : List AC) (c s : Nat) : am_ra n0 tb kd rets (n + 1) pc L st M c s = if n0 ≤ M.length then am_jC (am_ra n0 tb kd rets n) (t pc L st M) c s else none := by
  conv => lhs; unfold am_ra
  rw [h]
  dsimp only
  rcases t pc L st M with _ | ⟨⟨pc2, L2, st2, M2⟩, dc, ds⟩ <;> rfl
theorem ra_R {n0 : Nat} {tb : List (Nat × TrA)} {kd : Option AV → Bool} {rets : List Nat} {pc : Nat} (h : am_lkA tb pc = none) (hr : rets.contains pc = true) (n : Nat) (L : AL) (st : List AV) (M : List AC) (c s : Nat) : am_ra n0 tb kd rets (n + 1) pc L st M c s = am_eA kd st M c s := by
  conv => lhs; unfold am_ra
  rw [h]
  dsimp only
  rw [hr]
  rfl
def am_fnA (tb : List (Nat × TrA)) (kd : Option AV → Bool) (rets : List Nat) (nL : Nat) : FnA := fun av M => if (am_sl av).length ≤ nL then am_ra M.length tb kd rets am_fu 0 (am_in av nL) [] M 0 0 else none
def FokA (mi : Mi) (f : FnA) : Prop := ∀ (av : List AV) (M : List AC) (r : Option AV) (M' : List AC) (dc ds : Nat), f av M = some (r, M', dc, ds) → Ca mi dc ds av M r M'
theorem am_fokA {y : MethodName} {cc : ByteArray} {nL : Nat} {ret : Option FieldType} {lev : Nat} {tb : List (Nat × TrA)} {kd : Option AV → Bool} {rets : List Nat} (ok : ∀ a : Am, TokG a (y, cc, nL, ret, lev) (fun _ => True) tb) (rk : Rok (y, cc, nL, ret, lev) kd rets) (hy : plainName y.cls = true) : FokA (y, cc, nL, ret, lev) (am_fnA tb kd rets nL) := by
  intro av M r M' dc ds h
  unfold am_fnA at h
  split at h
  · next hl =>
    refine ca_intro hy hl (fun a ad hX hc hs hZ => ?_)
    exact am_rra (ad0 := ad) (fun _ _ => trivial) (ok a) hc hs (fun ad' pc L hA hX' hp hk => rk pc hp a ad' L M' r dc ds hk hX' (hZ ad' hA)) am_fu (fun _ _ => rfl) hX h
  · cases h
theorem am_fnAI {tb : List (Nat × TrA)} {kd : Option AV → Bool} {rets : List Nat} {nL : Nat} {av : List AV} {M : List AC} {x : Option AV × List AC × Nat × Nat} {n : Nat} (hl : (am_sl av).length ≤ nL) (hn : n ≤ am_fu) (h : am_ra M.length tb kd rets n 0 (am_in av nL) [] M 0 0 = some x) : am_fnA tb kd rets nL av M = some x := by
  unfold am_fnA
  rw [if_pos hl]
  exact am_ra_mono n am_fu h hn
/-! the steps that make cells -/
def tNew (ci N : Nat) (fs : List AV) : TrA := fun pc L st M => if am_ok M.length L st M && decide (M.length < 1000) then some ((pc + 3, L, vR M.length :: st, M ++ [aO ci fs]), 1, N) else none
theorem sd_new {a : Am} {y : MethodName} {cc : ByteArray} {nL : Nat} {ret : Option FieldType} {lev : Nat} {G : (Nat → Nat) → Prop} {pc idx : Nat} {ci N : Nat} {C : String} {T : u_T} (hcl : vwCl[ci]? = some (C, T, N)) (hin : ∀ w ∈ u_ws C T N, w ∈ GB) (ty : Nat → FieldType) (hty : ∀ k, k < N → parseFieldDescriptor (T k).2.2.1 = some (ty k)) (hcs : Cond.classLink y.cls idx C ∈ GB) (his : Cond.instantiable C N ∈ GB) (hini : Cond.initialized C ∈ GB) (fs : List AV) (hfs : ∀ (ad : Nat → Nat) (j : Nat), j < N → defaultValue (ty j) = vp_V (fs.map (am_v ad)) j) (hnr : fs.all am_nr = true) (h : decode cc pc = .ok (.new idx, 3)) : SdG a (y, cc, nL, ret, lev) G pc (tNew ci N fs) := by
  intro ad cells slots L st M pc' L' st' M' dc ds hX hG ht hc hs k
  unfold tNew at ht
  split at ht
  · next hq =>
    rw [Bool.and_eq_true] at hq
    cases ht
    exact g_new hX hcl hin ty hty hcs his hini fs hfs hnr hq.1 (of_decide_eq_true hq.2) hc hs h k
  · cases ht
def tNewa (bo : Bool) : TrA := fun pc L st M => match st with
  | .inl n :: r => if am_ok M.length L r M && decide (M.length < 1000) && decide (0 ≤ wr n ∧ wr n ≤ 10000) then some ((pc + 2, L, vR M.length :: r, M ++ [.inl (bo, List.replicate (wr n).toNat 0)]), 1, (wr n).toNat) else none
  | _ => none
theorem sd_newa {a : Am} {y : MethodName} {cc : ByteArray} {nL : Nat} {ret : Option FieldType} {lev : Nat} {G : (Nat → Nat) → Prop} {pc : Nat} (bo : Bool) {atype : ArrayType} (hat : newarray.typeOf atype = if bo then .boolean else .int) (h : decode cc pc = .ok (.newarray atype, 2)) : SdG a (y, cc, nL, ret, lev) G pc (tNewa bo) := by
  intro ad cells slots L st M pc' L' st' M' dc ds hX hG ht hc hs k
  unfold tNewa at ht
  split at ht
  · next n r =>
    split at ht
    · next hq =>
      rw [Bool.and_eq_true, Bool.and_eq_true] at hq
      cases ht
      have h2 := of_decide_eq_true hq.2
      exact g_newa bo hat n (wr n).toNat (by omega) (by omega) hX hq.1.1 (of_decide_eq_true hq.1.2) hc hs h k
    · cases ht
  · cases ht
/-- a constructor called -/
def tCi (n : Nat) (f : FnA) : TrA := fun pc L st M => match st.drop n with
  | .inr (.inr (some q)) :: rest => if am_w8 rest && (L.all (am_lk2 M.length) && rest.all (am_rk M.length)) then match f (.inr (.inr (some q)) :: (st.take n).reverse) M with
      | some (r, M', dc, ds) => some ((pc + 3, L, r.toList ++ rest, M'), dc, ds)
      | none => none else none
  | _ => none
theorem am_st {ad : Nat → Nat} {st rest : List AV} {n q : Nat} (hdr : st.drop n = .inr (.inr (some q)) :: rest) : st.map (am_v ad) = (((st.take n).reverse).map (am_v ad)).reverse ++ Value.ref (ad q) :: rest.map (am_v ad) := by
  conv => lhs; rw [← List.take_append_drop n st, hdr]
  simp [am_v]
theorem sd_ci {a : Am} {y : MethodName} {cc : ByteArray} {nL : Nat} {ret : Option FieldType} {lev : Nat} {G : (Nat → Nat) → Prop} {pc : Nat} {y' : MethodName} {cc' : ByteArray} {nL' lev' : Nat} {f : FnA} {idx n : Nat} (hf : FokA (y', cc', nL', none, lev') f) (hm : am_mf (y', cc', nL', none, lev') n) (hl : Cond.methodLink y.cls idx y' ∈ GB) (hnm : y'.name = "<init>") (him : Cond.instanceMethod y' ∈ GB) (hlev : lev' < lev) (h : decode cc pc = .ok (.invokespecial idx, 3)) : SdG a (y, cc, nL, ret, lev) G pc (tCi n f) := by
  intro ad cells slots L st M pc' L' st' M' dc ds hX hG ht hc hs k
  have hX0 := hX
  obtain ⟨p, l, e, R, s, m, args, below, meth, c, D, K, A, Q⟩ := a
  obtain ⟨hx, hb, hml, hr, hlk, hown, hts, hK, hA, hSt, hfr, hlo, hnm0⟩ := hX
  intro H locs ls hc0 hs0 hP hD hS hL
  unfold tCi at ht
  split at ht
  · next q rest hdr =>
    split at ht
    · next hq =>
      rw [Bool.and_eq_true, Bool.and_eq_true] at hq
      split at ht
      · next r0 M0 dc0 ds0 hfn =>
        cases ht
        have hlen : n < st.length := by
          rcases Nat.lt_or_ge n st.length with q9 | q9
          · exact q9
          · rw [List.drop_eq_nil_of_le q9] at hdr
            cases hdr
        obtain ⟨b1, b2, b3, b4, b5⟩ := am_cb (R := R) (mc := dc) (ms := ds) hts hm (by omega) (by omega)
        have hpre := am_pre (.inr (.inr (some q)) :: (st.take n).reverse) hP hD hS hK hA hSt
        have hF := am_F hD hS hA
        exact am_frameA (rest := rest) (r := r0) (M := M) (M' := M') hX0 (va_runI (As := ((st.take n).reverse).map (am_v ad)) ⟨hx, hb, hml, hown, hts⟩ (hf _ _ _ _ _ _ hfn l D K ad H.size) ⟨⟨b1.1, b1.2.1, b1.2.2.1, b1.2.2.2.1, b1.2.2.2.2.1, b1.2.2.2.2.2, b2, b3, b4, b5, hts _ hl⟩, hnm, hts _ him⟩ hpre rfl (by simp; omega) (hL.1) (am_st hdr) (lv_room (am_w8_ok hq.1)) h ⟨hc, hs⟩) hF hS hL hc hs hq.2.1 hq.2.2 k
      · cases ht
    · cases ht
  · cases ht
theorem sd_ciN {a : Am} {y : MethodName} {cc : ByteArray} {nL : Nat} {ret : Option FieldType} {lev : Nat} {G : (Nat → Nat) → Prop} {pc : Nat} {y' : MethodName} {cc' : ByteArray} {nL' lev' : Nat} {f : FnA} {idx n : Nat} (hf : FokA (y', cc', nL', none, lev') f) (hm : am_mf (y', cc', nL', none, lev') n) (hl : Cond.methodLinkNest y.cls idx y' RX5 ∈ am_nest) (hnm : y'.name = "<init>") (him : Cond.instanceMethod y' ∈ GB) (hlev : lev' < lev) (h : decode cc pc = .ok (.invokespecial idx, 3)) : SdG a (y, cc, nL, ret, lev) G pc (tCi n f) := by
  intro ad cells slots L st M pc' L' st' M' dc ds hX hG ht hc hs k
  have hX0 := hX
  obtain ⟨p, l, e, R, s, m, args, below, meth, c, D, K, A, Q⟩ := a
  obtain ⟨hx, hb, hml, hr, hlk, hown, hts, hK, hA, hSt, hfr, hlo, hnm0⟩ := hX
  intro H locs ls hc0 hs0 hP hD hS hL
  unfold tCi at ht
  split at ht
  · next q rest hdr =>
    split at ht
    · next hq =>
      rw [Bool.and_eq_true, Bool.and_eq_true] at hq
      split at ht
      · next r0 M0 dc0 ds0 hfn =>
        cases ht
        have hlen : n < st.length := by
          rcases Nat.lt_or_ge n st.length with q9 | q9
          · exact q9
          · rw [List.drop_eq_nil_of_le q9] at hdr
            cases hdr
        obtain ⟨b1, b2, b3, b4, b5⟩ := am_cb (R := R) (mc := dc) (ms := ds) hts hm (by omega) (by omega)
        have hpre := am_pre (.inr (.inr (some q)) :: (st.take n).reverse) hP hD hS hK hA hSt
        have hF := am_F hD hS hA
        exact am_frameA (rest := rest) (r := r0) (M := M) (M' := M') hX0 (va_runIN (host := RX5) (As := ((st.take n).reverse).map (am_v ad)) ⟨hx, hb, hml, hown, hts⟩ (hf _ _ _ _ _ _ hfn l D K ad H.size) ⟨⟨b1, b2, b3, b4, b5, va_Nw.use rfl (hSt.2.2.2.2.2.2.2.1 _ hl)⟩, hnm, hts _ him⟩ hpre rfl (by simp; omega) (hL.1) (am_st hdr) (lv_room (am_w8_ok hq.1)) h ⟨hc, hs⟩) hF hS hL hc hs hq.2.1 hq.2.2 k
      · cases ht
    · cases ht
  · cases ht
/-- a method called that makes cells -/
def tCva (ci n : Nat) (f : FnA) : TrA := fun pc L st M => match st.drop n with
  | .inr (.inr (some q)) :: rest => match M[q]? with
    | some (.inr (c, _)) => if decide (c = ci) && (am_w8 rest && (L.all (am_lk2 M.length) && rest.all (am_rk M.length))) then match f (.inr (.inr (some q)) :: (st.take n).reverse) M with
      | some (r, M', dc, ds) => some ((pc + 3, L, r.toList ++ rest, M'), dc, ds)
      | none => none else none
    | _ => none
  | _ => none
theorem sd_cva {a : Am} {y : MethodName} {cc : ByteArray} {nL : Nat} {ret : Option FieldType} {lev : Nat} {G : (Nat → Nat) → Prop} {pc : Nat} {y' : MethodName} {cc' : ByteArray} {nL' : Nat} {ret' : Option FieldType} {lev' : Nat} {f : FnA} {idx n ci : Nat} {T : u_T} {N : Nat} (hf : FokA (y', cc', nL', ret', lev') f) (hm : am_mf (y', cc', nL', ret', lev') n) (hcl : vwCl[ci]? = some (y'.cls, T, N)) (hl : Cond.methodLink y.cls idx y' ∈ GB) (him : Cond.instanceMethod y' ∈ GB) (hse : Cond.selects y'.cls y' y' ∈ GB) (hlev : lev' < lev) (h : decode cc pc = .ok (.invokevirtual idx, 3)) : SdG a (y, cc, nL, ret, lev) G pc (tCva ci n f) := by
  intro ad cells slots L st M pc' L' st' M' dc ds hX hG ht hc hs k
  have hX0 := hX
  obtain ⟨p, l, e, R, s, m, args, below, meth, c, D, K, A, Q⟩ := a
  obtain ⟨hx, hb, hml, hr, hlk, hown, hts, hK, hA, hSt, hfr, hlo, hnm0⟩ := hX
  intro H locs ls hc0 hs0 hP hD hS hL
  unfold tCva at ht
  split at ht
  · next q rest hdr =>
    split at ht
    · next c0 fs0 hM =>
      split at ht
      · next hq =>
        rw [Bool.and_eq_true, Bool.and_eq_true, Bool.and_eq_true] at hq
        obtain ⟨hci, hq⟩ := hq
        have hci := of_decide_eq_true hci
        subst hci
        split at ht
        · next r0 M0 dc0 ds0 hfn =>
          cases ht
          have hlen : n < st.length := by
            rcases Nat.lt_or_ge n st.length with q9 | q9
            · exact q9
            · rw [List.drop_eq_nil_of_le q9] at hdr
              cases hdr
          obtain ⟨b1, b2, b3, b4, b5⟩ := am_cb (R := R) (mc := dc) (ms := ds) hts hm (by omega) (by omega)
          have hpre := am_pre (.inr (.inr (some q)) :: (st.take n).reverse) hP hD hS hK hA hSt
          have hF := am_F hD hS hA
          exact am_frameA (rest := rest) (r := r0) (M := M) (M' := M') hX0 (va_runV (As := ((st.take n).reverse).map (am_v ad)) ⟨hx, hb, hml, hown, hts⟩ (hf _ _ _ _ _ _ hfn l D K ad H.size) ⟨⟨b1.1, b1.2.1, b1.2.2.1, b1.2.2.2.1, b1.2.2.2.2.1, b1.2.2.2.2.2, b2, b3, b4, b5, hts _ hl⟩, hts _ him, hts _ hse⟩ ⟨hpre.1, va_recv hK hP hcl (am_w_at hM), hpre.2⟩ rfl (by simp; omega) (hL.1) (am_st hdr) (lv_room (am_w8_ok hq.1)) h ⟨hc, hs⟩) hF hS hL hc hs hq.2.1 hq.2.2 k
        · cases ht
      · cases ht
    · cases ht
  · cases ht
end
