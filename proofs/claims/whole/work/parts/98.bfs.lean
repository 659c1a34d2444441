noncomputable section
/-! both searches come to the same -/
theorem s4_same {d : F4} {c : Nat} : s4 d c (g4 d c) = d := by
  match c with
  | 0 => rfl
  | 1 => rfl
  | 2 => rfl
  | n + 3 => rfl
theorem tgs_1 (st : Int) (g s b : F4) {x c p : Int} (hx : 0 ≤ x ∧ x < 2401) (hc : 0 ≤ c ∧ c < 4) (hp : 0 ≤ p ∧ p ≤ 6) : tgs st g s b (rst x c c) c c p 0 = tg1 st g s b x c p := by
  unfold tgs tg1
  rw [rst_eq hx]
  have hu := su_rng hx
  obtain ⟨s0, s1, s2, s3⟩ := sv_4
  generalize su x = u at hu ⊢
  have key : so (s4 (s4 u c.toNat 0) c.toNat 0) + p * sv c + 0 * sv c = so (s4 u c.toNat p) := by
    obtain ⟨u1, u2, u3, u4⟩ := u
    rcases c4 hc with rfl | rfl | rfl | rfl <;>
    simp only [s0, s1, s2, s3, so, s4, Int.toNat_zero, Int.toNat_one, show Int.toNat 2 = 2 from rfl, show Int.toNat 3 = 3 from rfl] <;> omega
  rw [key, su_so (i4_s hu _ hp.1 hp.2)]
theorem tgs_2 (st : Int) (g s b : F4) {x a o p q : Int} (hx : 0 ≤ x ∧ x < 2401) (ha : 0 ≤ a ∧ a < o) (ho : o < 4) (hp : 0 ≤ p ∧ p ≤ 6) (hq : 0 ≤ q ∧ q ≤ 6) : tgs st g s b (rst x a o) a o p q = tg2 st g s b x a o (7 * p + q) := by
  unfold tgs tg2
  rw [rst_eq hx]
  have hu := su_rng hx
  obtain ⟨s0, s1, s2, s3⟩ := sv_4
  rw [show (7 * p + q) / 7 = p by omega, show (7 * p + q) % 7 = q by omega]
  generalize su x = u at hu ⊢
  have key : so (s4 (s4 u a.toNat 0) o.toNat 0) + p * sv a + q * sv o = so (s4 (s4 u a.toNat p) o.toNat q) := by
    obtain ⟨u1, u2, u3, u4⟩ := u
    have hco : (a = 0 ∧ o = 1) ∨ (a = 0 ∧ o = 2) ∨ (a = 0 ∧ o = 3) ∨ (a = 1 ∧ o = 2) ∨ (a = 1 ∧ o = 3) ∨ (a = 2 ∧ o = 3) := by omega
    rcases hco with ⟨rfl, rfl⟩ | ⟨rfl, rfl⟩ | ⟨rfl, rfl⟩ | ⟨rfl, rfl⟩ | ⟨rfl, rfl⟩ | ⟨rfl, rfl⟩ <;>
    simp only [s0, s1, s2, s3, so, s4, Int.toNat_zero, Int.toNat_one, show Int.toNat 2 = 2 from rfl, show Int.toNat 3 = 3 from rfl] <;> omega
  rw [key, su_so (i4_s (i4_s hu _ hp.1 hp.2) _ hq.1 hq.2)]
def R6 (tw x0 : Int) (S : S6) (C : S3) : Prop := C.2.1 = S.2.2.2.2 ∧ (∀ i : Nat, (i : Int) < S.2.2.2.2 → C.1.getD i 0 = S.2.2.2.1.getD i 0) ∧ (∀ t : Nat, t < 2401 → (S.1.getD t 0 = -9 ↔ C.2.2.1.getD t 0 = 0)) ∧ (∀ t : Nat, t < 2401 → 0 < S.1.getD t 0 → ∃ w : Int, C.2.2.1.getD t 0 = 100 * S.2.2.1.getD t 0 + w + 1 ∧ (0 ≤ w ∧ w < 100) ∧ (tw = 0 → S.2.1.getD t 0 = w)) ∧ (S.1.getD x0.toNat 0 = 0 ∧ (∀ t : Nat, t < 2401 → S.1.getD t 0 = 0 → t = x0.toNat) ∧ C.1.getD 0 0 = x0)
def ST (st : Int) (g s b : F4) (S : S6) : Prop := ∀ i : Nat, (i : Int) < S.2.2.2.2 → fs st g s (su (S.2.2.2.1.getD i 0)) b = -9
/-- what holds of both searches -/
def WI (st : Int) (g s b : F4) (tw x0 : Int) (S : S6) (C : S3) : Prop := I6 S ∧ T6 S ∧ I3 C ∧ R6 tw x0 S C ∧ ST st g s b S
theorem WI.ad {st : Int} {g s b : F4} {tw x0 : Int} {S : S6} {C : S3} (h : WI st g s b tw x0 S C) {x t mv w : Int} (hx : 0 ≤ x ∧ x < 2401) (ht : 0 ≤ t ∧ t < 2401) (hfx : 0 ≤ S.1.getD x.toNat 0) (hw : 0 ≤ w ∧ w < 100) (hmv : tw = 0 → mv = w) (hst : fs st g s (su t) b = -9) : WI st g s b tw x0 (cmT S t x mv) (ad3 C t (100 * x + w + 1)) ∧ ¬ (ad3 C t (100 * x + w + 1)).2.2.1.getD t.toNat 0 = 0 := by
  obtain ⟨hI, hT, hC, hR, hS⟩ := h
  have hQ := Q6.cm hx ⟨⟨hI, hfx⟩, hT⟩ ht mv
  have hC2 := hC.ad (t := t) (v := 100 * x + w + 1) ht (by omega)
  obtain ⟨r1, r2, r3, r4, r5, r6, r7⟩ := hR
  have htl : t.toNat < 2401 := by omega
  by_cases hz : S.1.getD t.toNat 0 = -9
  · have hlt := hI.lt ht hz
    have hz2 := (r3 t.toNat htl).mp hz
    have e1 : cmT S t x mv = (S.1.set t.toNat (S.1.getD x.toNat 0 + 1), S.2.1.set t.toNat mv, S.2.2.1.set t.toNat x, S.2.2.2.1.set S.2.2.2.2.toNat t, S.2.2.2.2 + 1) := by unfold cmT; rw [if_pos hz]
    have e2 : ad3 C t (100 * x + w + 1) = (C.1.set C.2.1.toNat t, C.2.1 + 1, C.2.2.1.set t.toNat (100 * x + w + 1), C.2.2.2) := by unfold ad3; rw [if_pos ⟨hz2, by omega⟩]
    obtain ⟨⟨l1, l2, l3, l4'⟩, -, i3, -⟩ := id hI
    obtain ⟨⟨m1, m2, m3⟩, -⟩ := id hC
    rw [e1] at hQ ⊢
    rw [e2] at hC2 ⊢
    have hx0 : t.toNat ≠ x0.toNat := by intro q; rw [q] at hz; rw [hz] at r5; exact absurd r5 (by decide)
    have nn : ¬ (100 * x + w + 1 = 0) := by omega
    have nf : ¬ (S.1.getD x.toNat 0 + 1 = -9) := by omega
    have nf0 : ¬ (S.1.getD x.toNat 0 + 1 = 0) := by omega
    refine ⟨⟨hQ.1.1, hQ.2, hC2, ⟨?_, ?_, ?_, ?_, ?_, ?_, ?_⟩, ?_⟩, ?_⟩
    · show C.2.1 + 1 = S.2.2.2.2 + 1
      rw [r1]
    · intro i hi
      dsimp only at hi ⊢
      rw [r1]
      by_cases hi2 : S.2.2.2.2.toNat = i
      · subst hi2
        rw [gd_self (by omega), gd_self (by omega)]
      · rw [gd_ne hi2, gd_ne hi2]
        exact r2 i (by omega)
    · intro u hu
      dsimp only
      by_cases e : t.toNat = u
      · subst e
        rw [gd_self (by omega), gd_self (by omega)]
        exact ⟨fun z => absurd z nf, fun z => absurd z nn⟩
      · rw [gd_ne e, gd_ne e]
        exact r3 u hu
    · intro u hu hf
      dsimp only at hf ⊢
      by_cases e : t.toNat = u
      · subst e
        rw [gd_self (by omega), gd_self (by omega), gd_self (by omega)]
        exact ⟨w, rfl, hw, hmv⟩
      · rw [gd_ne e] at hf
        rw [gd_ne e, gd_ne e, gd_ne e]
        exact r4 u hu hf
    · show (S.1.set t.toNat (S.1.getD x.toNat 0 + 1)).getD x0.toNat 0 = 0
      rw [gd_ne hx0]
      exact r5
    · intro u hu hf
      dsimp only at hf
      by_cases e : t.toNat = u
      · subst e
        rw [gd_self (by omega)] at hf
        exact absurd hf nf0
      · rw [gd_ne e] at hf
        exact r6 u hu hf
    · show (C.1.set C.2.1.toNat t).getD 0 0 = x0
      rw [gd_ne (by omega)]
      exact r7
    · intro i hi
      dsimp only at hi ⊢
      by_cases hi2 : S.2.2.2.2.toNat = i
      · subst hi2
        rw [gd_self (by omega)]
        exact hst
      · rw [gd_ne hi2]
        exact hS i (by omega)
    · show ¬ (C.2.2.1.set t.toNat (100 * x + w + 1)).getD t.toNat 0 = 0
      rw [gd_self (by omega)]
      exact nn
  · have hz2 : ¬ C.2.2.1.getD t.toNat 0 = 0 := fun z => hz ((r3 t.toNat htl).mpr z)
    have e1 : cmT S t x mv = S := by unfold cmT; rw [if_neg hz]
    have e2 : ad3 C t (100 * x + w + 1) = C := by unfold ad3; rw [if_neg (fun z => hz2 z.1)]
    rw [e1, e2]
    exact ⟨⟨hI, hT, hC, ⟨r1, r2, r3, r4, r5, r6, r7⟩, hS⟩, hz2⟩
theorem ad3_T {C : S3} {t v : Int} (hv : ¬ v = 0) {u : Nat} (h : ¬ C.2.2.1.getD u 0 = 0) : ¬ (ad3 C t v).2.2.1.getD u 0 = 0 := by
  unfold ad3
  split
  · next e =>
    dsimp only
    by_cases e2 : t.toNat = u
    · subst e2
      exact absurd e.1 h
    · rw [gd_ne e2]
      exact h
  · exact h
theorem tg1_set (st : Int) (g s b : F4) {x c p : Int} (hx : 0 ≤ x ∧ x < 2401) (hp : 0 ≤ p ∧ p ≤ 6) : fs st g s (su (tg1 st g s b x c p)) b = -9 := by
  unfold tg1
  rw [su_so (sl_i4 st g s b 4 _ 0 (i4_s (su_rng hx) _ hp.1 hp.2))]
  exact sl_4 st g s b _ 0
theorem tg2_set (st : Int) (g s b : F4) {x c o p : Int} (hx : 0 ≤ x ∧ x < 2401) (hp : 0 ≤ p ∧ p < 49) : fs st g s (su (tg2 st g s b x c o p)) b = -9 := by
  unfold tg2
  rw [su_so (sl_i4 st g s b 4 _ 0 (i4_s (i4_s (su_rng hx) _ (by omega) (by omega)) _ (by omega) (by omega)))]
  exact sl_4 st g s b _ 0
/-- one corner, unspent -/
theorem one_go {st : Int} {g s b : F4} {x0 x c : Int} (hx : 0 ≤ x ∧ x < 2401) (hc : 0 ≤ c ∧ c < 4) (hsx : fs st g s (su x) b = -9) : ∀ (n : Nat) (p : Int) (S : S6) (C : S3), 0 ≤ p → p + n = 7 → WI st g s b 0 x0 S C → 0 ≤ S.1.getD x.toNat 0 →
    WI st g s b 0 x0 (g1d st g s b x c n p S) (sp3 st g s b x (rst x c c) c c n p C) ∧ (∀ u : Nat, ¬ C.2.2.1.getD u 0 = 0 → ¬ (sp3 st g s b x (rst x c c) c c n p C).2.2.1.getD u 0 = 0) ∧ (∀ p' : Int, p ≤ p' → p' < p + n → ¬ (sp3 st g s b x (rst x c c) c c n p C).2.2.1.getD (tgs st g s b (rst x c c) c c p' 0).toNat 0 = 0)
  | 0, p, S, C, hp, hn, h, hf => ⟨h, fun _ z => z, fun p' a b => by omega⟩
  | n + 1, p, S, C, hp, hn, h, hf => by
    rw [g1d, sp3, if_pos rfl, sq3, sq3]
    have etg := tgs_1 st g s b (p := p) hx hc (by omega)
    have nv : ¬ (100 * x + 10 * c + p + 1 = 0) := by omega
    have key : WI st g s b 0 x0 (if g4 (su x) c.toNat = p then S else cmT S (tg1 st g s b x c p) x (10 * c + p)) (ad3 C (tgs st g s b (rst x c c) c c p 0) (100 * x + 10 * c + p + 1)) ∧ ¬ (ad3 C (tgs st g s b (rst x c c) c c p 0) (100 * x + 10 * c + p + 1)).2.2.1.getD (tgs st g s b (rst x c c) c c p 0).toNat 0 = 0 ∧ 0 ≤ (if g4 (su x) c.toNat = p then S else cmT S (tg1 st g s b x c p) x (10 * c + p)).1.getD x.toNat 0 := by
      rw [etg]
      by_cases hg : g4 (su x) c.toNat = p
      · rw [if_pos hg]
        have e : tg1 st g s b x c p = x := by
          unfold tg1
          rw [← hg, s4_same, sl_id hsx, so_su hx]
        rw [e]
        have hTx : ¬ C.2.2.1.getD x.toNat 0 = 0 := by
          intro z
          have := (h.2.2.2.1.2.2.1 x.toNat (by omega)).mpr z
          rw [this] at hf
          exact absurd hf (by decide)
        have e2 : ad3 C x (100 * x + 10 * c + p + 1) = C := by unfold ad3; rw [if_neg (fun z => hTx z.1)]
        rw [e2]
        exact ⟨h, hTx, hf⟩
      · rw [if_neg hg]
        have ht := tg1_rng st g s b (c := c) hx (p := p) ⟨hp, by omega⟩
        have h1 := h.ad hx ht hf (mv := 10 * c + p) (w := 10 * c + p) (by omega) (fun _ => rfl) (tg1_set st g s b hx ⟨hp, by omega⟩)
        rw [show 100 * x + (10 * c + p) + 1 = 100 * x + 10 * c + p + 1 by omega] at h1
        refine ⟨h1.1, h1.2, ?_⟩
        rw [cmT_keep hf]
        exact hf
    obtain ⟨k1, k2, k3⟩ := key
    obtain ⟨a1, a2, a3⟩ := one_go hx hc hsx n (p + 1) _ _ (by omega) (by omega) k1 k3
    refine ⟨a1, fun u hu => a2 u (ad3_T nv hu), fun p' b1 b2 => ?_⟩
    by_cases e : p' = p
    · rw [e]
      exact a2 _ k2
    · exact a3 p' (by omega) (by omega)
/-- two corners, unspent -/
theorem two_in {st : Int} {g s b : F4} {x0 x a o p : Int} (hx : 0 ≤ x ∧ x < 2401) (ha : 0 ≤ a ∧ a < o) (ho : o < 4) (hp : 0 ≤ p ∧ p ≤ 6) : ∀ (n : Nat) (q : Int) (S : S6) (C : S3), 0 ≤ q → q + n = 7 → WI st g s b 1 x0 S C → 0 ≤ S.1.getD x.toNat 0 →
    WI st g s b 1 x0 (g2b st g s b x a o n (7 * p + q) S) (sq3 st g s b x (rst x a o) a o p n q C) ∧ (∀ u : Nat, ¬ C.2.2.1.getD u 0 = 0 → ¬ (sq3 st g s b x (rst x a o) a o p n q C).2.2.1.getD u 0 = 0) ∧ (∀ q' : Int, q ≤ q' → q' < q + n → ¬ (sq3 st g s b x (rst x a o) a o p n q C).2.2.1.getD (tgs st g s b (rst x a o) a o p q').toNat 0 = 0) ∧ 0 ≤ (g2b st g s b x a o n (7 * p + q) S).1.getD x.toNat 0
  | 0, q, S, C, hq, hn, h, hf => ⟨h, fun _ z => z, fun p' a b => by omega, hf⟩
  | n + 1, q, S, C, hq, hn, h, hf => by
    rw [g2b, sq3]
    have etg := tgs_2 st g s b (p := p) (q := q) hx ha ho hp (by omega)
    have nv : ¬ (100 * x + 10 * a + p + 1 = 0) := by omega
    have ht := tg2_rng st g s b (c := a) (o := o) hx (p := 7 * p + q) (by omega)
    have h1 := h.ad hx ht hf (mv := 0) (w := 10 * a + p) (by omega) (fun z => absurd z (by decide)) (tg2_set st g s b hx (by omega))
    rw [show 100 * x + (10 * a + p) + 1 = 100 * x + 10 * a + p + 1 by omega] at h1
    have hf1 : 0 ≤ (cmT S (tg2 st g s b x a o (7 * p + q)) x 0).1.getD x.toNat 0 := by rw [cmT_keep hf]; exact hf
    rw [← etg] at h1 hf1 ⊢
    obtain ⟨a1, a2, a3, a4⟩ := two_in hx ha ho hp n (q + 1) _ _ (by omega) (by omega) h1.1 hf1
    rw [show 7 * p + (q + 1) = 7 * p + q + 1 by omega] at a1 a4
    refine ⟨a1, fun u hu => a2 u (ad3_T nv hu), fun q' b1 b2 => ?_, a4⟩
    by_cases e : q' = q
    · rw [e]
      exact a2 _ h1.2
    · exact a3 q' (by omega) (by omega)
theorem g2b_split (st : Int) (g s b : F4) (x c o : Int) : ∀ (n k : Nat) (p : Int) (S : S6), g2b st g s b x c o (n + k) p S = g2b st g s b x c o k (p + n) (g2b st g s b x c o n p S)
  | 0, k, p, S => by
    rw [Nat.zero_add, g2b]
    congr 1
    omega
  | n + 1, k, p, S => by
    rw [show n + 1 + k = (n + k) + 1 by omega, g2b, g2b, g2b_split st g s b x c o n k (p + 1)]
    congr 1
    omega
theorem two_go {st : Int} {g s b : F4} {x0 x a o : Int} (hx : 0 ≤ x ∧ x < 2401) (ha : 0 ≤ a ∧ a < o) (ho : o < 4) : ∀ (n : Nat) (p : Int) (S : S6) (C : S3), 0 ≤ p → p + n = 7 → WI st g s b 1 x0 S C → 0 ≤ S.1.getD x.toNat 0 →
    WI st g s b 1 x0 (g2b st g s b x a o (7 * n) (7 * p) S) (sp3 st g s b x (rst x a o) a o n p C) ∧ (∀ u : Nat, ¬ C.2.2.1.getD u 0 = 0 → ¬ (sp3 st g s b x (rst x a o) a o n p C).2.2.1.getD u 0 = 0) ∧ (∀ p' q' : Int, p ≤ p' → p' < p + n → 0 ≤ q' → q' ≤ 6 → ¬ (sp3 st g s b x (rst x a o) a o n p C).2.2.1.getD (tgs st g s b (rst x a o) a o p' q').toNat 0 = 0)
  | 0, p, S, C, hp, hn, h, hf => ⟨h, fun _ z => z, fun p' q' a b => by omega⟩
  | n + 1, p, S, C, hp, hn, h, hf => by
    obtain ⟨i1, i2, i3, i4'⟩ := two_in (x0 := x0) hx ha ho (p := p) ⟨hp, by omega⟩ 7 0 S C (by omega) (by omega) h hf
    rw [Int.add_zero] at i1 i4'
    rw [sp3, if_neg (by omega), show 7 * (n + 1) = 7 + 7 * n by omega, g2b_split]
    obtain ⟨a1, a2, a3⟩ := two_go (x0 := x0) hx ha ho n (p + 1) _ _ (by omega) (by omega) i1 i4'
    rw [show 7 * (p + 1) = 7 * p + ((7 : Nat) : Int) by omega] at a1
    refine ⟨a1, fun u hu => a2 u (i2 u hu), fun p' q' b1 b2 b3 b4 => ?_⟩
    by_cases e : p' = p
    · rw [e]
      exact a2 _ (i3 q' (by omega) (by omega))
    · exact a3 p' q' (by omega) (by omega) b3 b4
end
