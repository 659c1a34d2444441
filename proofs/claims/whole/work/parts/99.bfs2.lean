noncomputable section
theorem oAnd_or (x u w : Int) (h : oAnd u w = 0) : oAnd (oOr x u) w = oAnd x w := by
  unfold oAnd oOr at *
  rw [Int32.ofInt_toInt]
  congr 1
  have h2 : Int32.ofInt u &&& Int32.ofInt w = 0 := Int32.toInt_inj.mp h
  apply Int32.toBitVec_inj.mp
  have h3 : (Int32.ofInt u).toBitVec &&& (Int32.ofInt w).toBitVec = 0 := congrArg Int32.toBitVec h2
  rw [Int32.toBitVec_and, Int32.toBitVec_or, BitVec.and_or_distrib_right, h3, Int32.toBitVec_and]
  simp
theorem oAnd_0 (w : Int) : oAnd 0 w = 0 := by
  unfold oAnd
  have : Int32.ofInt 0 &&& Int32.ofInt w = 0 := by
    apply Int32.toBitVec_inj.mp
    rw [Int32.toBitVec_and]
    show (0 : BitVec 32) &&& _ = 0
    simp
  rw [this]
  rfl
theorem bt_ne {a b a' b' : Int} (h : 0 ≤ a ∧ a ≤ b ∧ b < 4) (h' : 0 ≤ a' ∧ a' ≤ b' ∧ b' < 4) (hne : ¬ (a = a' ∧ b = b')) : oAnd (bt a b) (bt a' b') = 0 := by
  have key : ∀ x y z w : Fin 4, ¬ (x = z ∧ y = w) → oAnd (bt (x.val : Int) (y.val : Int)) (bt (z.val : Int) (w.val : Int)) = 0 := by decide +kernel
  have := key ⟨a.toNat, by omega⟩ ⟨b.toNat, by omega⟩ ⟨a'.toNat, by omega⟩ ⟨b'.toNat, by omega⟩ (by
    intro z
    apply hne
    have z1 := congrArg Fin.val z.1
    have z2 := congrArg Fin.val z.2
    dsimp only at z1 z2
    omega)
  dsimp only at this
  rw [show ((a.toNat : Nat) : Int) = a by omega, show ((b.toNat : Nat) : Int) = b by omega, show ((a'.toNat : Nat) : Int) = a' by omega, show ((b'.toNat : Nat) : Int) = b' by omega] at this
  exact this
/-- what is spent is come to -/
def VS (st : Int) (g s b : F4) (C : S3) : Prop := ∀ x a o : Int, 0 ≤ x ∧ x < 2401 → 0 ≤ a ∧ a ≤ o ∧ o < 4 → ¬ oAnd (C.2.2.2.getD (rst x a o).toNat 0) (bt a o) = 0 → ∀ p q : Int, 0 ≤ p → p ≤ 6 → 0 ≤ q → q ≤ (if a = o then 0 else 6) → ¬ C.2.2.1.getD (tgs st g s b (rst x a o) a o p q).toNat 0 = 0
theorem ad3_P (C : S3) (t v : Int) : (ad3 C t v).2.2.2 = C.2.2.2 := by
  unfold ad3
  split <;> rfl
theorem sq3_P (st : Int) (g s b : F4) (x r a o p : Int) : ∀ (n : Nat) (q : Int) (C : S3), (sq3 st g s b x r a o p n q C).2.2.2 = C.2.2.2
  | 0, _, _ => rfl
  | n + 1, q, C => by rw [sq3, sq3_P st g s b x r a o p n, ad3_P]
theorem sp3_P (st : Int) (g s b : F4) (x r a o : Int) : ∀ (n : Nat) (p : Int) (C : S3), (sp3 st g s b x r a o n p C).2.2.2 = C.2.2.2
  | 0, _, _ => rfl
  | n + 1, p, C => by rw [sp3, sp3_P st g s b x r a o n, sq3_P]
theorem VS_up {st : Int} {g s b : F4} {C C' : S3} {x a o : Int} (hx : 0 ≤ x ∧ x < 2401) (hab : 0 ≤ a ∧ a ≤ o ∧ o < 4) (hl : C.2.2.2.length = 2401) (hV : VS st g s b C) (hP : C'.2.2.2 = C.2.2.2.set (rst x a o).toNat (oOr (C.2.2.2.getD (rst x a o).toNat 0) (bt a o))) (hT : ∀ u : Nat, ¬ C.2.2.1.getD u 0 = 0 → ¬ C'.2.2.1.getD u 0 = 0) (hN : ∀ p q : Int, 0 ≤ p → p ≤ 6 → 0 ≤ q → q ≤ (if a = o then 0 else 6) → ¬ C'.2.2.1.getD (tgs st g s b (rst x a o) a o p q).toNat 0 = 0) : VS st g s b C' := by
  intro x' a' o' hx' hab' hb p q p0 p6 q0 q6
  rw [hP] at hb
  have hr := rst_rng (a := a) (b := o) hx
  by_cases e : (rst x a o).toNat = (rst x' a' o').toNat
  · have er : rst x' a' o' = rst x a o := by
      have hr' := rst_rng (a := a') (b := o') hx'
      omega
    by_cases e2 : a = a' ∧ o = o'
    · obtain ⟨rfl, rfl⟩ := e2
      rw [er]
      exact hN p q p0 p6 q0 q6
    · rw [← e, gd_self (by omega), oAnd_or _ _ _ (bt_ne hab hab' e2), e] at hb
      exact hT _ (hV x' a' o' hx' hab' hb p q p0 p6 q0 q6)
  · rw [gd_ne e] at hb
    exact hT _ (hV x' a' o' hx' hab' hb p q p0 p6 q0 q6)
theorem WI.sp {st : Int} {g s b : F4} {tw x0 : Int} {S : S6} {C : S3} (h : WI st g s b tw x0 S C) (i : Nat) (v : Int) : WI st g s b tw x0 S (C.1, C.2.1, C.2.2.1, C.2.2.2.set i v) := ⟨h.1, h.2.1, h.2.2.1.sp i v, h.2.2.2.1, h.2.2.2.2⟩
theorem cmT_no {S : S6} {t : Int} (h : ¬ S.1.getD t.toNat 0 = -9) (p mv : Int) : cmT S t p mv = S := by
  unfold cmT
  rw [if_neg h]
theorem g1d_no {st : Int} {g s b : F4} {x c : Int} {S : S6} : ∀ (n : Nat) (p : Int), (∀ p' : Int, p ≤ p' → p' < p + n → ¬ S.1.getD (tg1 st g s b x c p').toNat 0 = -9) → g1d st g s b x c n p S = S
  | 0, _, _ => rfl
  | n + 1, p, h => by
    rw [g1d, cmT_no (h p (by omega) (by omega)), ite_self]
    exact g1d_no n (p + 1) (fun p' a b => h p' (by omega) (by omega))
theorem g2b_no {st : Int} {g s b : F4} {x c o : Int} {S : S6} : ∀ (n : Nat) (p : Int), (∀ p' : Int, p ≤ p' → p' < p + n → ¬ S.1.getD (tg2 st g s b x c o p').toNat 0 = -9) → g2b st g s b x c o n p S = S
  | 0, _, _ => rfl
  | n + 1, p, h => by
    rw [g2b, cmT_no (h p (by omega) (by omega))]
    exact g2b_no n (p + 1) (fun p' a b => h p' (by omega) (by omega))
theorem one_spr {st : Int} {g s b : F4} {x0 x c : Int} (hx : 0 ≤ x ∧ x < 2401) (hc : 0 ≤ c ∧ c < 4) (hsx : fs st g s (su x) b = -9) {S : S6} {C : S3} (h : WI st g s b 0 x0 S C) (hf : 0 ≤ S.1.getD x.toNat 0) (hV : VS st g s b C) : WI st g s b 0 x0 (g1d st g s b x c 7 0 S) (spr st g s b x c c C) ∧ VS st g s b (spr st g s b x c c C) := by
  unfold spr
  by_cases hz : oAnd (C.2.2.2.getD (rst x c c).toNat 0) (bt c c) = 0
  · rw [if_pos hz]
    obtain ⟨a1, a2, a3⟩ := one_go (x0 := x0) hx hc hsx 7 0 S _ (by omega) (by omega) (h.sp (rst x c c).toNat (oOr (C.2.2.2.getD (rst x c c).toNat 0) (bt c c))) hf
    refine ⟨a1, VS_up hx ⟨hc.1, Int.le_refl _, hc.2⟩ h.2.2.1.1.2.2 hV (sp3_P _ _ _ _ _ _ _ _ _ _ _) a2 (fun p q p0 p6 q0 q6 => ?_)⟩
    rw [if_pos rfl] at q6
    have e : q = 0 := by omega
    rw [e]
    exact a3 p p0 (by omega)
  · rw [if_neg hz]
    refine ⟨?_, hV⟩
    rw [g1d_no 7 0 (fun p' b1 b2 => ?_)]
    · exact h
    · have hv := hV x c c hx ⟨hc.1, Int.le_refl _, hc.2⟩ hz p' 0 b1 (by omega) (by omega) (by rw [if_pos rfl]; omega)
      rw [tgs_1 st g s b hx hc ⟨b1, by omega⟩] at hv
      have ht := tg1_rng st g s b (c := c) hx (p := p') ⟨b1, by omega⟩
      exact fun z => hv ((h.2.2.2.1.2.2.1 _ (by omega)).mp z)
theorem two_spr {st : Int} {g s b : F4} {x0 x a o : Int} (hx : 0 ≤ x ∧ x < 2401) (ha : 0 ≤ a ∧ a < o) (ho : o < 4) {S : S6} {C : S3} (h : WI st g s b 1 x0 S C) (hf : 0 ≤ S.1.getD x.toNat 0) (hV : VS st g s b C) : WI st g s b 1 x0 (g2b st g s b x a o 49 0 S) (spr st g s b x a o C) ∧ VS st g s b (spr st g s b x a o C) := by
  unfold spr
  have hab : 0 ≤ a ∧ a ≤ o ∧ o < 4 := by omega
  by_cases hz : oAnd (C.2.2.2.getD (rst x a o).toNat 0) (bt a o) = 0
  · rw [if_pos hz]
    obtain ⟨a1, a2, a3⟩ := two_go (x0 := x0) hx ha ho 7 0 S _ (by omega) (by omega) (h.sp (rst x a o).toNat (oOr (C.2.2.2.getD (rst x a o).toNat 0) (bt a o))) hf
    refine ⟨a1, VS_up hx hab h.2.2.1.1.2.2 hV (sp3_P _ _ _ _ _ _ _ _ _ _ _) a2 (fun p q p0 p6 q0 q6 => ?_)⟩
    rw [if_neg (by omega)] at q6
    exact a3 p q p0 (by omega) q0 q6
  · rw [if_neg hz]
    refine ⟨?_, hV⟩
    rw [g2b_no 49 0 (fun p' b1 b2 => ?_)]
    · exact h
    · have hv := hV x a o hx hab hz (p' / 7) (p' % 7) (by omega) (by omega) (by omega) (by rw [if_neg (by omega)]; omega)
      rw [tgs_2 st g s b hx ha ho (by omega) (by omega), show 7 * (p' / 7) + p' % 7 = p' by omega] at hv
      have ht := tg2_rng st g s b (c := a) (o := o) hx (p := p') ⟨b1, by omega⟩
      exact fun z => hv ((h.2.2.2.1.2.2.1 _ (by omega)).mp z)
theorem one_all {st : Int} {g s b : F4} {x0 x : Int} (hx : 0 ≤ x ∧ x < 2401) (hsx : fs st g s (su x) b = -9) : ∀ (n : Nat) (c : Int) (S : S6) (C : S3), 0 ≤ c → c + n = 4 → WI st g s b 0 x0 S C → 0 ≤ S.1.getD x.toNat 0 → VS st g s b C → WI st g s b 0 x0 (g1c st g s b x n c S) (xa3 st g s b 0 x n c C) ∧ VS st g s b (xa3 st g s b 0 x n c C)
  | 0, c, S, C, hc, hn, h, hf, hV => ⟨h, hV⟩
  | n + 1, c, S, C, hc, hn, h, hf, hV => by
    rw [g1c, xa3, if_neg (by decide), if_neg (by decide), xb3, xb3]
    obtain ⟨a1, a2⟩ := one_spr (x0 := x0) hx (c := c) ⟨hc, by omega⟩ hsx h hf hV
    exact one_all hx hsx n (c + 1) _ _ (by omega) (by omega) a1 (g1d_K st g s b hx 7 0 S (by omega) (by omega) ⟨h.1, hf⟩).2 a2
theorem two_o {st : Int} {g s b : F4} {x0 x a : Int} (hx : 0 ≤ x ∧ x < 2401) (ha : 0 ≤ a) : ∀ (n : Nat) (o : Int) (S : S6) (C : S3), a < o → o + n = 4 → WI st g s b 1 x0 S C → 0 ≤ S.1.getD x.toNat 0 → VS st g s b C → WI st g s b 1 x0 (g2o st g s b x a n o S) (xb3 st g s b x a n o C) ∧ VS st g s b (xb3 st g s b x a n o C)
  | 0, o, S, C, ho, hn, h, hf, hV => ⟨h, hV⟩
  | n + 1, o, S, C, ho, hn, h, hf, hV => by
    rw [g2o, xb3]
    obtain ⟨a1, a2⟩ := two_spr (x0 := x0) hx ⟨ha, ho⟩ (by omega) h hf hV
    exact two_o hx ha n (o + 1) _ _ (by omega) (by omega) a1 (g2b_K st g s b hx 49 0 S (by omega) (by omega) ⟨h.1, hf⟩).2 a2
theorem two_all {st : Int} {g s b : F4} {x0 x : Int} (hx : 0 ≤ x ∧ x < 2401) : ∀ (n : Nat) (c : Int) (S : S6) (C : S3), 0 ≤ c → c + n = 3 → WI st g s b 1 x0 S C → 0 ≤ S.1.getD x.toNat 0 → VS st g s b C → WI st g s b 1 x0 (g2c st g s b x n c S) (xa3 st g s b 1 x (n + 1) c C) ∧ VS st g s b (xa3 st g s b 1 x (n + 1) c C)
  | 0, c, S, C, hc, hn, h, hf, hV => by
    have e : c = 3 := by omega
    subst e
    rw [g2c, xa3, if_pos rfl, if_pos rfl, xa3, show ((3 : Int) - 3).toNat = 0 from rfl, xb3]
    exact ⟨h, hV⟩
  | n + 1, c, S, C, hc, hn, h, hf, hV => by
    rw [g2c, xa3, if_pos rfl, if_pos rfl]
    obtain ⟨a1, a2⟩ := two_o (x0 := x0) hx (a := c) hc (3 - c).toNat (c + 1) S C (by omega) (by omega) h hf hV
    exact two_all hx n (c + 1) _ _ (by omega) (by omega) a1 (g2o_K st g s b hx _ _ S ⟨h.1, hf⟩).2 a2
theorem bf_eq {st : Int} {g s b : F4} {x0 m tw : Int} (htw : tw = 0 ∨ tw = 1) : ∀ (n : Nat) (k : Int) (S : S6) (C : S3), 0 ≤ k → WI st g s b tw x0 S C → VS st g s b C → (bf6 st g s b m tw n k S).2 = (bf3 st g s b m tw n k C).2 ∧ WI st g s b tw x0 (bf6 st g s b m tw n k S).1 (bf3 st g s b m tw n k C).1
  | 0, k, S, C, hk, h, hV => ⟨rfl, h⟩
  | n + 1, k, S, C, hk, h, hV => by
    rw [bf6, bf3]
    have r1 := h.2.2.2.1.1
    by_cases hkl : k < S.2.2.2.2
    · have eQ := h.2.2.2.1.2.1 k.toNat (by omega)
      rw [if_pos hkl, if_pos (show k < C.2.1 by omega), eQ]
      obtain ⟨hx, hK⟩ := h.1.K ⟨hk, hkl⟩
      have hsx := h.2.2.2.2 k.toNat (by omega)
      generalize S.2.2.2.1.getD k.toNat 0 = x at hx hK hsx ⊢
      split
      · exact ⟨rfl, h⟩
      · rcases htw with rfl | rfl
        · rw [show bx6 st g s b 0 x S = g1c st g s b x 4 0 S from if_neg (by decide)]
          obtain ⟨a1, a2⟩ := one_all (x0 := x0) hx hsx 4 0 S C (by omega) (by omega) h hK.2 hV
          exact bf_eq (Or.inl rfl) n (k + 1) _ _ (by omega) a1 a2
        · rw [show bx6 st g s b 1 x S = g2c st g s b x 3 0 S from if_pos rfl]
          obtain ⟨a1, a2⟩ := two_all (x0 := x0) hx 3 0 S C (by omega) (by omega) h hK.2 hV
          exact bf_eq (Or.inr rfl) n (k + 1) _ _ (by omega) a1 a2
    · rw [if_neg hkl, if_neg (show ¬ k < C.2.1 by omega)]
      exact ⟨rfl, h⟩
theorem S0_WI {st : Int} {g s b d : F4} {tw : Int} (hd : i4 0 6 d) (hs : fs st g s d b = -9) {B P L Q : List Int} (k2 : B.length = 2401) (k3 : P.length = 2401) (k4 : L.length = 2401) (k1 : Q.length = 2401) : WI st g s b tw (so d) (S0 (so d) B P L) (S0c (so d) Q) ∧ VS st g s b (S0c (so d) Q) := by
  have hx := so_rng hd
  have hsu := su_so hd
  generalize so d = x at hx hsu ⊢
  have hl : x.toNat < F9.length := by rw [F9_len]; omega
  have hl2 : x.toNat < Z24.length := by rw [Z24_len]; omega
  refine ⟨⟨S0_I6 hx k2 k3 k4, S0_T6, S0c_I3 hx k1, ⟨rfl, ?_, ?_, ?_, ?_, ?_, ?_⟩, ?_⟩, ?_⟩
  · intro i hi
    unfold S0 at hi
    dsimp only at hi
    have e : i = 0 := by omega
    subst e
    unfold S0 S0c
    dsimp only
    rw [gd_self (by omega), gd_self (by omega)]
  · intro t ht
    unfold S0 S0c
    dsimp only
    by_cases e : x.toNat = t
    · subst e
      rw [gd_self hl, gd_self hl2]
      exact ⟨fun z => absurd z (by decide), fun z => absurd z (by decide)⟩
    · rw [gd_ne e, gd_ne e, F9_get, Z24_get, if_pos ht]
      exact ⟨fun _ => rfl, fun _ => rfl⟩
  · intro t ht hf
    unfold S0 at hf
    dsimp only at hf
    by_cases e : x.toNat = t
    · subst e
      rw [gd_self hl] at hf
      exact absurd hf (by decide)
    · rw [gd_ne e, F9_get, if_pos ht] at hf
      exact absurd hf (by decide)
  · show (F9.set x.toNat 0).getD x.toNat 0 = 0
    exact gd_self hl
  · intro t ht hf
    unfold S0 at hf
    dsimp only at hf
    by_cases e : x.toNat = t
    · exact e.symm
    · rw [gd_ne e, F9_get, if_pos ht] at hf
      exact absurd hf (by decide)
  · show (Q.set 0 x).getD 0 0 = x
    exact gd_self (by omega)
  · intro i hi
    unfold S0 at hi ⊢
    dsimp only at hi ⊢
    have e : i = 0 := by omega
    subst e
    rw [gd_self (by omega), hsu]
    exact hs
  · intro x' a o _ _ hb
    exfalso
    apply hb
    show oAnd (Z24.getD _ 0) _ = 0
    rw [Z24_get]
    exact oAnd_0 _
/-! the way back -/
theorem pr_eq {st : Int} {g s b : F4} {tw x0 : Int} {S : S6} {C : S3} (h : WI st g s b tw x0 S C) {e : Int} (he : 0 ≤ e ∧ e < 2401) (hf : 0 < S.1.getD e.toNat 0) : pr3 C.2.2.1 e = S.2.2.1.getD e.toNat 0 ∧ (tw = 0 → (C.2.2.1.getD e.toNat 0 - 1).tmod 100 = S.2.1.getD e.toNat 0) := by
  obtain ⟨w, h1, h2, h3⟩ := h.2.2.2.1.2.2.2.1 e.toNat (by omega) hf
  have hP := (h.2.1 e.toNat (by omega) hf).1
  unfold pr3
  rw [h1]
  generalize S.2.2.1.getD e.toNat 0 = p at hP ⊢
  constructor
  · rw [Int.tdiv_eq_ediv_of_nonneg (by omega)]
    omega
  · intro z
    rw [h3 z, Int.tmod_eq_emod_of_nonneg (by omega)]
    omega
theorem sts_eq {st : Int} {g s b : F4} {tw x0 : Int} {S : S6} {C : S3} (h : WI st g s b tw x0 S C) (hx0 : 0 ≤ x0 ∧ x0 < 2401) : ∀ (k n : Nat) (c e : Int), 0 ≤ e ∧ e < 2401 → S.1.getD e.toNat 0 = k → k ≤ n → sts x0 C.2.2.1 n c e = c + k
  | 0, n, c, e, he, hk, hn => by
    have e1 : e.toNat = x0.toNat := h.2.2.2.1.2.2.2.2.2.1 e.toNat (by omega) hk
    have e2 : e = x0 := by omega
    cases n with
    | zero => rw [sts]; exact (Int.add_zero c).symm
    | succ n => rw [sts, if_pos e2]; exact (Int.add_zero c).symm
  | k + 1, n, c, e, he, hk, hn => by
    match n, hn with
    | n + 1, hn =>
      have hf : 0 < S.1.getD e.toNat 0 := by rw [hk]; omega
      have ne : ¬ e = x0 := by
        intro z
        rw [z, h.2.2.2.1.2.2.2.2.1] at hf
        exact absurd hf (by decide)
      obtain ⟨hP, hq⟩ := h.2.1 e.toNat (by omega) hf
      rw [sts, if_neg ne, (pr_eq h he hf).1, sts_eq h hx0 k n (c + 1) _ hP (by rw [hq, hk]; omega) (by omega)]
      omega
theorem wk_eq {st : Int} {g s b : F4} {tw x0 : Int} {S : S6} {C : S3} (h : WI st g s b tw x0 S C) : ∀ (n : Nat) (e : Int), 0 ≤ e ∧ e < 2401 → (n : Int) < S.1.getD e.toNat 0 → wk3 C.2.2.1 n e = wk6 S.2.2.1 n e ∧ (0 ≤ wk6 S.2.2.1 n e ∧ wk6 S.2.2.1 n e < 2401) ∧ 0 < S.1.getD (wk6 S.2.2.1 n e).toNat 0
  | 0, e, he, hn => ⟨rfl, he, hn⟩
  | n + 1, e, he, hn => by
    have hf : 0 < S.1.getD e.toNat 0 := by omega
    obtain ⟨hP, hq⟩ := h.2.1 e.toNat (by omega) hf
    rw [wk3, wk6, (pr_eq h he hf).1]
    exact wk_eq h n _ hP (by rw [hq]; omega)
theorem few_eq {st : Int} {g s b d : F4} {m tw : Int} (htw : tw = 0 ∨ tw = 1) (hd : i4 0 6 d) (hs : fs st g s d b = -9) {B P L Q : List Int} (k2 : B.length = 2401) (k3 : P.length = 2401) (k4 : L.length = 2401) (k1 : Q.length = 2401) : few (bf6 st g s b m tw 2401 0 (S0 (so d) B P L)) = fw3 (bf3 st g s b m tw 2401 0 (S0c (so d) Q)) ∧ (tw = 0 → ∀ i : Int, fwa (bf6 st g s b m tw 2401 0 (S0 (so d) B P L)) i = fa3 (bf3 st g s b m tw 2401 0 (S0c (so d) Q)) i) := by
  obtain ⟨hW, hV⟩ := S0_WI (tw := tw) hd hs k2 k3 k4 k1
  have hx := so_rng hd
  obtain ⟨e1, h⟩ := bf_eq (m := m) htw 2401 0 _ _ (by omega) hW hV
  obtain ⟨-, -, hR⟩ := bf6_ok st g s b m tw 2401 0 _ (by omega) hW.1 hW.2.1
  generalize bf6 st g s b m tw 2401 0 (S0 (so d) B P L) = U at e1 h hR ⊢
  generalize bf3 st g s b m tw 2401 0 (S0c (so d) Q) = V at e1 h ⊢
  have hQ0 := h.2.2.2.1.2.2.2.2.2.2
  generalize so d = x0 at h hx hQ0
  unfold few fw3 fwa fa3
  rw [← e1]
  rcases hR with e | ⟨he, hf⟩
  · rw [if_pos e, if_pos e]
    exact ⟨rfl, fun _ i => by rw [if_pos e, if_pos e]⟩
  · have ne : ¬ U.2 = -9 := by omega
    rw [if_neg ne, if_neg ne, hQ0]
    have hle := h.1.le
    have hlt := (h.1.2.1 U.2.toNat).resolve_left (fun z => by rw [z] at hf; exact absurd hf (by decide))
    have hst : sts x0 V.1.2.2.1 2401 0 U.2 = U.1.1.getD U.2.toNat 0 := by
      rw [sts_eq h hx (U.1.1.getD U.2.toNat 0).toNat 2401 0 U.2 he (by omega) (by omega)]
      omega
    refine ⟨hst.symm, fun z i => ?_⟩
    rw [if_neg ne, if_neg ne, hst]
    by_cases hi : 0 ≤ i ∧ i ≤ U.1.1.getD U.2.toNat 0 - 1
    · rw [if_pos hi, if_pos (by omega)]
      obtain ⟨w1, w2, w3⟩ := wk_eq h (U.1.1.getD U.2.toNat 0 - 1 - i).toNat U.2 he (by omega)
      rw [w1, (pr_eq h w2 w3).2 z]
    · rw [if_neg hi, if_neg (by omega)]
end
