noncomputable section
/-! rows: rising finds the least one -/
theorem uf_fg {d : F4} (h : i4 0 9 d) : uf (fg d) = d := by
  obtain ⟨a, b, c, e⟩ := d
  obtain ⟨h1, h2, h3, h4⟩ := h
  dsimp only at *
  unfold uf fg
  dsimp only
  have e1 : (10 * (10 * (10 * a + b) + c) + e) / 1000 % 10 = a := by omega
  have e2 : (10 * (10 * (10 * a + b) + c) + e) / 100 % 10 = b := by omega
  have e3 : (10 * (10 * (10 * a + b) + c) + e) / 10 % 10 = c := by omega
  have e4 : (10 * (10 * (10 * a + b) + c) + e) % 10 = e := by omega
  rw [e1, e2, e3, e4]
theorem fm_no (e0 e1 e2 e3 : Int) : fm e0 e1 e2 e3 = -9 ↔ e0 ≤ 0 ∧ e1 ≤ 0 ∧ e2 ≤ 0 ∧ e3 ≤ 0 := by
  unfold fm
  dsimp only
  constructor
  · intro h
    (repeat' split at h) <;> simp_all <;> omega
  · rintro ⟨h0, h1, h2, h3⟩
    have a0 : ¬ 0 < e0 := by omega
    have a1 : ¬ 0 < e1 := by omega
    have a2 : ¬ 0 < e2 := by omega
    have a3 : ¬ 0 < e3 := by omega
    simp only [a0, a1, a2, a3, if_false]
theorem fs_no (st : Int) (g s d b : F4) : fs st g s d b = -9 ↔ ∀ c : Nat, c < 4 → ex st g s d b c ≤ 0 := by
  unfold fs
  rw [fm_no]
  constructor
  · rintro ⟨h0, h1, h2, h3⟩ c hc
    match c, hc with
    | 0, _ => exact h0
    | 1, _ => exact h1
    | 2, _ => exact h2
    | 3, _ => exact h3
  · intro h
    exact ⟨h 0 (by decide), h 1 (by decide), h 2 (by decide), h 3 (by decide)⟩
theorem fs_ex (st : Int) (g s d b : F4) (h : ¬ fs st g s d b = -9) : 0 < ex st g s d b (fs st g s d b).toNat := by
  have hr := fs_rng st g s d b h
  have hp := fm_pos (ex st g s d b 0) (ex st g s d b 1) (ex st g s d b 2) (ex st g s d b 3)
  change (fs st g s d b = 0 → _) ∧ (fs st g s d b = 1 → _) ∧ (fs st g s d b = 2 → _) ∧ (fs st g s d b = 3 → _) at hp
  rcases c4 hr with e | e | e | e
  · rw [e]; exact hp.1 e
  · rw [e]; exact hp.2.1 e
  · rw [e]; exact hp.2.2.1 e
  · rw [e]; exact hp.2.2.2 e
def le4 (d e : F4) : Prop := d.1 ≤ e.1 ∧ d.2.1 ≤ e.2.1 ∧ d.2.2.1 ≤ e.2.2.1 ∧ d.2.2.2 ≤ e.2.2.2
theorem cn_mono {d e b : Int} (h : d ≤ e) : cn d b ≤ cn e b := by
  unfold cn
  split <;> split <;> omega
theorem pl_mono {st s d e d' e' b c : Int} (hst : 1 ≤ st) (h1 : 1 ≤ d) (h2 : 1 ≤ e) (hd : d ≤ d') (he : e ≤ e') : pl st s d e b c ≤ pl st s d' e' b c := by
  have a := cn_mono (b := b) hd
  have a2 := cn_mono (b := c) he
  unfold pl
  rw [if_neg (show ¬ (d = 0 ∨ e = 0) by omega), if_neg (show ¬ (d' = 0 ∨ e' = 0) by omega)]
  generalize cn d b = x at a ⊢
  generalize cn d' b = x' at a ⊢
  generalize cn e c = y at a2 ⊢
  generalize cn e' c = y' at a2 ⊢
  split
  · rw [if_pos (by omega)]
    exact Int.mul_le_mul_of_nonneg_left (by omega) (by omega)
  · split
    · exact Int.mul_nonneg (by omega) (by omega)
    · exact Int.le_refl _
theorem ex_mono {st : Int} {g s d e b : F4} (hst : 1 ≤ st) (hd : i4 1 6 d) (hle : le4 d e) (c : Nat) (hc : c < 4) (heq : g4 d c = g4 e c) : ex st g s d b c ≤ ex st g s e b c := by
  obtain ⟨⟨a1, -⟩, ⟨a2, -⟩, ⟨a3, -⟩, a4, -⟩ := hd
  obtain ⟨l1, l2, l3, l4'⟩ := hle
  have p0 : pu st s d b 0 ≤ pu st s e b 0 := pl_mono hst a1 a2 l1 l2
  have p1 : pu st s d b 1 ≤ pu st s e b 1 := pl_mono hst a2 a3 l2 l3
  have p2 : pu st s d b 2 ≤ pu st s e b 2 := pl_mono hst a3 a4 l3 l4'
  have p3 : pu st s d b 3 ≤ pu st s e b 3 := pl_mono hst a4 a1 l4' l1
  unfold ex
  rw [heq]
  match c, hc with
  | 0, _ => simp only [pa]; omega
  | 1, _ => simp only [pa]; omega
  | 2, _ => simp only [pa]; omega
  | 3, _ => simp only [pa]; omega
/-- a row of m -/
def RW (st : Int) (g s b : F4) (m : Int) (d : F4) : Prop := i4 m 6 d ∧ fs st g s d b = -9
def s4m (d : F4) : Int := d.1 + d.2.1 + d.2.2.1 + d.2.2.2
theorem le4_g {d e : F4} (h : le4 d e) (c : Nat) : g4 d c ≤ g4 e c := by
  unfold g4
  split
  · exact h.1
  · exact h.2.1
  · exact h.2.2.1
  · exact h.2.2.2
theorem le4_s {d e : F4} (h : le4 d e) (c : Nat) (hc : g4 d c < g4 e c) : le4 (s4 d c (g4 d c + 1)) e := by
  obtain ⟨a, b, c', d'⟩ := h
  match c, hc with
  | 0, hc => exact ⟨(show d.1 + 1 ≤ e.1 from hc), b, c', d'⟩
  | 1, hc => exact ⟨a, (show d.2.1 + 1 ≤ e.2.1 from hc), c', d'⟩
  | 2, hc => exact ⟨a, b, (show d.2.2.1 + 1 ≤ e.2.2.1 from hc), d'⟩
  | n + 3, hc => exact ⟨a, b, c', (show d.2.2.2 + 1 ≤ e.2.2.2 from hc)⟩
theorem s4m_s (d : F4) (c : Nat) : s4m (s4 d c (g4 d c + 1)) = s4m d + 1 := by
  match c with
  | 0 => show d.1 + 1 + d.2.1 + d.2.2.1 + d.2.2.2 = d.1 + d.2.1 + d.2.2.1 + d.2.2.2 + 1; omega
  | 1 => show d.1 + (d.2.1 + 1) + d.2.2.1 + d.2.2.2 = d.1 + d.2.1 + d.2.2.1 + d.2.2.2 + 1; omega
  | 2 => show d.1 + d.2.1 + (d.2.2.1 + 1) + d.2.2.2 = d.1 + d.2.1 + d.2.2.1 + d.2.2.2 + 1; omega
  | n + 3 => show d.1 + d.2.1 + d.2.2.1 + (d.2.2.2 + 1) = d.1 + d.2.1 + d.2.2.1 + d.2.2.2 + 1; omega
theorem ri_spec {st : Int} {g s b : F4} {m : Int} (hst : 1 ≤ st) (hm : 1 ≤ m) : ∀ (n : Nat) (d : F4), i4 m 6 d → (∀ e, RW st g s b m e → le4 d e) → 24 - s4m d < n → ((ri st g s b n d).2 = 1 ∧ RW st g s b m (ri st g s b n d).1 ∧ ∀ e, RW st g s b m e → le4 (ri st g s b n d).1 e) ∨ ((ri st g s b n d).2 = 0 ∧ ∀ e, ¬ RW st g s b m e)
  | 0, d, hd, hall, hn => by
    exfalso
    obtain ⟨a, b, c, e⟩ := hd
    unfold s4m at hn
    omega
  | n + 1, d, hd, hall, hn => by
    rw [ri]
    by_cases hf : fs st g s d b = -9
    · rw [if_pos hf]
      exact Or.inl ⟨rfl, ⟨hd, hf⟩, hall⟩
    · rw [if_neg hf]
      have hr := fs_rng st g s d b hf
      have hex := fs_ex st g s d b hf
      have hc4 : (fs st g s d b).toNat < 4 := by omega
      generalize (fs st g s d b).toNat = c at hex hc4 ⊢
      have hd1 : i4 1 6 d := ⟨⟨by have := hd.1.1; omega, hd.1.2⟩, ⟨by have := hd.2.1.1; omega, hd.2.1.2⟩, ⟨by have := hd.2.2.1.1; omega, hd.2.2.1.2⟩, ⟨by have := hd.2.2.2.1; omega, hd.2.2.2.2⟩⟩
      have hg := i4_g hd c
      have hlt : ∀ e, RW st g s b m e → g4 d c < g4 e c := by
        intro e he
        have h1 := le4_g (hall e he) c
        rcases Int.lt_or_le (g4 d c) (g4 e c) with h | h
        · exact h
        · exfalso
          have heq : g4 d c = g4 e c := by omega
          have h2 := ex_mono (s := s) (g := g) (b := b) hst hd1 (hall e he) c hc4 heq
          have h3 := (fs_no st g s e b).mp he.2 c hc4
          omega
      split
      · next h6 =>
        refine Or.inr ⟨rfl, fun e he => ?_⟩
        have h1 := hlt e he
        have h2 := (i4_g he.1 c).2
        omega
      · next h6 =>
        refine ri_spec hst hm n _ (i4_s hd c (by omega) (by omega)) (fun e he => le4_s (hall e he) c (hlt e he)) ?_
        rw [s4m_s]
        omega
theorem rio_spec {st : Int} {g s b : F4} {m : Int} (hst : 1 ≤ st) (hm : 1 ≤ m ∧ m ≤ 6) : ((rio st g s b m).2 = 1 ∧ RW st g s b m (rio st g s b m).1 ∧ ∀ e, RW st g s b m e → le4 (rio st g s b m).1 e) ∨ ((rio st g s b m).2 = 0 ∧ ∀ e, ¬ RW st g s b m e) := by
  refine ri_spec hst hm.1 25 (m, m, m, m) ⟨⟨Int.le_refl _, hm.2⟩, ⟨Int.le_refl _, hm.2⟩, ⟨Int.le_refl _, hm.2⟩, Int.le_refl _, hm.2⟩ (fun e he => ⟨he.1.1.1, he.1.2.1.1, he.1.2.2.1.1, he.1.2.2.2.1⟩) ?_
  unfold s4m
  dsimp only
  omega
theorem so_su {x : Int} (h : 0 ≤ x ∧ x < 2401) : so (su x) = x := by
  unfold so su
  dsimp only
  omega
theorem so_le {d e : F4} (h : le4 d e) : so d ≤ so e := by
  obtain ⟨a, b, c, f⟩ := h
  unfold so
  omega
/-- is the state x a row of m -/
abbrev rS (st : Int) (g s b : F4) (m x : Int) : Prop := (m ≤ (su x).1 ∧ m ≤ (su x).2.1 ∧ m ≤ (su x).2.2.1 ∧ m ≤ (su x).2.2.2) ∧ fs st g s (su x) b = -9
theorem rS_RW {st : Int} {g s b : F4} {m x : Int} (hx : 0 ≤ x ∧ x < 2401) : rS st g s b m x ↔ RW st g s b m (su x) := by
  obtain ⟨⟨-, a⟩, ⟨-, b'⟩, ⟨-, c⟩, -, e⟩ := su_rng hx
  constructor
  · rintro ⟨⟨h1, h2, h3, h4⟩, h5⟩
    exact ⟨⟨⟨h1, a⟩, ⟨h2, b'⟩, ⟨h3, c⟩, h4, e⟩, h5⟩
  · rintro ⟨⟨h1, h2, h3, h4⟩, h5⟩
    exact ⟨⟨h1.1, h2.1, h3.1, h4.1⟩, h5⟩
theorem fr_none {st : Int} {g s b : F4} {m : Int} : ∀ (n : Nat) (x : Int) (q : Int × Int), (∀ y : Int, x ≤ y → y < x + n → ¬ rS st g s b m y) → fr st g s b m n x q = q
  | 0, _, _, _ => rfl
  | n + 1, x, q, h => by
    rw [fr, if_neg (h x (by omega) (by omega))]
    exact fr_none n (x + 1) q (fun y h1 h2 => h y (by omega) (by omega))
theorem fr_keep {st : Int} {g s b : F4} {m : Int} : ∀ (n : Nat) (x : Int) (q : Int × Int), 0 < q.1 → (fr st g s b m n x q).2 = q.2 ∧ 0 < (fr st g s b m n x q).1
  | 0, _, _, h => ⟨rfl, h⟩
  | n + 1, x, q, h => by
    rw [fr]
    split
    · have := fr_keep (st := st) (g := g) (s := s) (b := b) (m := m) n (x + 1) (q.1 + 1, if q.1 = 0 then fg (su x) else q.2) (by dsimp only; omega)
      rw [if_neg (by omega)] at this
      rw [if_neg (by omega)]
      exact this
    · exact fr_keep n (x + 1) q h
theorem fr_first {st : Int} {g s b : F4} {m y0 : Int} (h0 : rS st g s b m y0) : ∀ (n : Nat) (x : Int) (q : Int × Int), q.1 = 0 → x ≤ y0 → y0 < x + n → (∀ y : Int, x ≤ y → y < y0 → ¬ rS st g s b m y) → (fr st g s b m n x q).2 = fg (su y0) ∧ 0 < (fr st g s b m n x q).1
  | 0, x, q, hq, h1, h2, h => by omega
  | n + 1, x, q, hq, h1, h2, h => by
    rw [fr]
    by_cases e : x = y0
    · subst e
      rw [if_pos h0, if_pos hq]
      exact fr_keep n (x + 1) (q.1 + 1, fg (su x)) (by dsimp only; omega)
    · rw [if_neg (h x (by omega) (by omega))]
      exact fr_first h0 n (x + 1) q hq (by omega) (by omega) (fun y a b => h y (by omega) b)
/-- rising and looking through all states find the same -/
theorem rio_fr {st : Int} {g s b : F4} {m : Int} (hst : 1 ≤ st) (hm : 1 ≤ m ∧ m ≤ 6) : ((rio st g s b m).2 = 1 ∧ 0 < (fr0 st g s b m).1 ∧ (fr0 st g s b m).2 = fg (rio st g s b m).1) ∨ ((rio st g s b m).2 = 0 ∧ fr0 st g s b m = (0, -9)) := by
  rcases rio_spec (g := g) (s := s) (b := b) hst hm with ⟨h1, h2, h3⟩ | ⟨h1, h2⟩
  · left
    have hL6 : i4 0 6 (rio st g s b m).1 := ⟨⟨by have := h2.1.1.1; omega, h2.1.1.2⟩, ⟨by have := h2.1.2.1.1; omega, h2.1.2.1.2⟩, ⟨by have := h2.1.2.2.1.1; omega, h2.1.2.2.1.2⟩, ⟨by have := h2.1.2.2.2.1; omega, h2.1.2.2.2.2⟩⟩
    have hy := so_rng hL6
    have hsu := su_so hL6
    have hr0 : rS st g s b m (so (rio st g s b m).1) := (rS_RW hy).mpr (by rw [hsu]; exact h2)
    have := fr_first hr0 2401 0 (0, -9) rfl hy.1 (by omega) (fun y a c hh => by
      have hR := (rS_RW (st := st) (g := g) (s := s) (b := b) (m := m) (x := y) ⟨a, by omega⟩).mp hh
      have hle := so_le (h3 _ hR)
      rw [so_su ⟨a, by omega⟩] at hle
      omega)
    rw [hsu] at this
    exact ⟨h1, this.2, this.1⟩
  · right
    refine ⟨h1, fr_none 2401 0 (0, -9) (fun y a c hh => ?_)⟩
    exact h2 _ ((rS_RW (st := st) (g := g) (s := s) (b := b) (m := m) (x := y) ⟨a, by omega⟩).mp hh)
end
