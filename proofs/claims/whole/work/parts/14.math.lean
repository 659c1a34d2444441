noncomputable section
def tMx : Tr := fun pc L st M => match st with
  | .inl b :: .inl a :: r => if am_w8 r then some (pc + 3, L, .inl (if wr a < wr b then b else a) :: r, M) else none
  | _ => none
def tMn : Tr := fun pc L st M => match st with
  | .inl b :: .inl a :: r => if am_w8 r then some (pc + 3, L, .inl (if wr b < wr a then b else a) :: r, M) else none
  | _ => none
theorem sd_mx {y : MethodName} {cc : ByteArray} {nL : Nat} {ret : Option FieldType} {lev pc idx : Nat} (hl : Cond.methodLink y.cls idx yJ9_max_7cf53 ∈ GB) (h : decode cc pc = .ok (.invokestatic idx, 3)) : Sd (y, cc, nL, ret, lev + 1) pc tMx := by
  rintro ⟨p, l, e, R, s, m, args, below, meth, c, D, K, A, Q⟩ ad cells slots L st M pc' L' st' M' ⟨hx, hb, hml, hr, hlk, hown, hts, hK, hA, hSt, hfr, hlo, hnm⟩ ht k H locs ls hc hs hP hD hS hL
  unfold tMx at ht
  split at ht
  · next b a r =>
    split at ht
    · next hw =>
      cases ht
      have h8 := am_w8_ok (ad := ad) hw
      refine va_mmax hx hb (hml.trans hL.1.symm) hown (hts _ hl) (hts _ w_st_J9_max_7cf53) (hts _ w_in_J9) (hts _ w_co_J9_max_7cf53) (by omega) (by omega) hc hs h ?_
      have k9 := k H locs ls hc hs hP hD hS hL
      have e9 : (if Int32.ofInt a < Int32.ofInt b then Int32.ofInt b else Int32.ofInt a) = Int32.ofInt (if wr a < wr b then b else a) := by
        by_cases q : wr a < wr b
        · rw [if_pos ((of_lt a b).mpr q), if_pos q]
        · rw [if_neg (fun z => q ((of_lt a b).mp z)), if_neg q]
      rw [e9]
      exact k9
    · cases ht
  · cases ht
theorem sd_mn {y : MethodName} {cc : ByteArray} {nL : Nat} {ret : Option FieldType} {lev pc idx : Nat} (hl : Cond.methodLink y.cls idx yJ9_min_7cf53 ∈ GB) (h : decode cc pc = .ok (.invokestatic idx, 3)) : Sd (y, cc, nL, ret, lev + 1) pc tMn := by
  rintro ⟨p, l, e, R, s, m, args, below, meth, c, D, K, A, Q⟩ ad cells slots L st M pc' L' st' M' ⟨hx, hb, hml, hr, hlk, hown, hts, hK, hA, hSt, hfr, hlo, hnm⟩ ht k H locs ls hc hs hP hD hS hL
  unfold tMn at ht
  split at ht
  · next b a r =>
    split at ht
    · next hw =>
      cases ht
      have h8 := am_w8_ok (ad := ad) hw
      refine va_mmin hx hb (hml.trans hL.1.symm) hown (hts _ hl) (hts _ w_st_J9_min_7cf53) (hts _ w_in_J9) (hts _ w_co_J9_min_7cf53) (by omega) (by omega) hc hs h ?_
      have k9 := k H locs ls hc hs hP hD hS hL
      have e9 : ∀ (q1 : Prop) [Decidable q1], (q1 ↔ wr b < wr a) → (if q1 then Int32.ofInt b else Int32.ofInt a) = Int32.ofInt (if wr b < wr a then b else a) := by
        intro q1 _ hq
        by_cases q : wr b < wr a
        · rw [if_pos (hq.mpr q), if_pos q]
        · rw [if_neg (fun z => q (hq.mp z)), if_neg q]
      first
        | (rw [e9 (Int32.ofInt b < Int32.ofInt a) (of_lt b a)]; exact k9)
        | (exact k9)
    · cases ht
  · cases ht
end
