noncomputable section
theorem sm_cong {f h : Int → Int} : ∀ (n : Nat) (x : Int), (∀ i : Int, x ≤ i → i < x + n → f i = h i) → sm f n x = sm h n x
  | 0, _, _ => rfl
  | n + 1, x, e => by
    rw [sm, sm, e x (by omega) (by omega), sm_cong n (x + 1) (fun i a b => e i (by omega) (by omega))]
theorem sm_split (f : Int → Int) : ∀ (n k : Nat) (x : Int), sm f (n + k) x = sm f n x + sm f k (x + n)
  | 0, k, x => by
    rw [sm, Nat.zero_add, Int.zero_add]
    congr 1
    omega
  | n + 1, k, x => by
    have e : x + 1 + (n : Int) = x + ((n + 1 : Nat) : Int) := by omega
    rw [show n + 1 + k = (n + k) + 1 by omega, sm, sm, sm_split f n k (x + 1), e, Int.add_assoc]
theorem sm_zero (f : Int → Int) : ∀ (n : Nat) (x : Int), (∀ i : Int, x ≤ i → i < x + n → f i = 0) → sm f n x = 0
  | 0, _, _ => rfl
  | n + 1, x, e => by
    rw [sm, e x (by omega) (by omega), sm_zero f n (x + 1) (fun i a b => e i (by omega) (by omega))]
    rfl
/-- a sum in blocks of n -/
theorem sm_block (f : Int → Int) (n : Nat) (x0 : Int) : ∀ (k : Nat) (i : Int), sm f (k * n) (x0 + n * i) = sm (fun i => sm f n (x0 + n * i)) k i
  | 0, _ => by
    rw [Nat.zero_mul]
    rfl
  | k + 1, i => by
    rw [sm, ← sm_block f n x0 k (i + 1), Nat.succ_mul, Nat.add_comm (k * n) n, sm_split]
    congr 2
    rw [Int.mul_add, Int.mul_one]
    omega
def jS (st : Int) (g s b : F4) (m x : Int) : Int := if rS st g s b m x then 1 else 0
theorem fr_sm {st : Int} {g s b : F4} {m : Int} : ∀ (n : Nat) (x : Int) (q : Int × Int), (fr st g s b m n x q).1 = q.1 + sm (jS st g s b m) n x
  | 0, _, q => by simp [fr, sm]
  | n + 1, x, q => by
    rw [fr, sm, jS]
    split
    · rw [fr_sm n (x + 1)]
      dsimp only
      omega
    · rw [fr_sm n (x + 1)]
      omega
theorem sm_from {f : Int → Int} {m : Int} (hm : 0 ≤ m ∧ m ≤ 7) (h : ∀ i : Int, 0 ≤ i → i < m → f i = 0) : sm f 7 0 = sm f (7 - m).toNat m := by
  rw [show (7 : Nat) = m.toNat + (7 - m).toNat by omega, sm_split, sm_zero f m.toNat 0 (fun i a b => h i a (by omega)), Int.zero_add]
  congr 1
  omega
theorem so4 (a c e f : Int) : 343 * a + 49 * c + 7 * e + f = so (a, c, e, f) := rfl
theorem rw4_fr {st : Int} {g s b : F4} {m : Int} (hm : 1 ≤ m ∧ m ≤ 6) : rw4 st g s b m = (fr0 st g s b m).1 := by
  unfold fr0
  rw [fr_sm]
  dsimp only
  rw [Int.zero_add]
  have J4 : ∀ a c e f : Int, (0 ≤ a ∧ a ≤ 6) → (0 ≤ c ∧ c ≤ 6) → (0 ≤ e ∧ e ≤ 6) → (0 ≤ f ∧ f ≤ 6) → jS st g s b m (343 * a + 49 * c + 7 * e + f) = if (m ≤ a ∧ m ≤ c ∧ m ≤ e ∧ m ≤ f) ∧ fs st g s (a, c, e, f) b = -9 then 1 else 0 := by
    intro a c e f ha hc he hf
    unfold jS rS
    rw [so4, su_so ⟨ha, hc, he, hf⟩]
  have b1 := sm_block (jS st g s b m) 343 0 7 0
  have e1 : sm (jS st g s b m) 2401 0 = sm (fun a => sm (jS st g s b m) 343 (0 + (343 : Nat) * a)) 7 0 := b1
  rw [e1]
  unfold rw4
  rw [sm_from (f := fun a => sm (jS st g s b m) 343 (0 + (343 : Nat) * a)) (m := m) (by omega) ?_]
  · refine (sm_cong _ _ (fun a a1 a2 => ?_)).symm
    have b2 := sm_block (jS st g s b m) 49 (0 + (343 : Nat) * a) 7 0
    have e2 : sm (jS st g s b m) 343 (0 + (343 : Nat) * a) = sm (fun c => sm (jS st g s b m) 49 (0 + (343 : Nat) * a + (49 : Nat) * c)) 7 0 := by
      rw [← b2]
      congr 1
      omega
    rw [e2, sm_from (m := m) (by omega) ?_]
    · refine sm_cong _ _ (fun c c1 c2 => ?_)
      have b3 := sm_block (jS st g s b m) 7 (0 + (343 : Nat) * a + (49 : Nat) * c) 7 0
      have e3 : sm (jS st g s b m) 49 (0 + (343 : Nat) * a + (49 : Nat) * c) = sm (fun e => sm (jS st g s b m) 7 (0 + (343 : Nat) * a + (49 : Nat) * c + (7 : Nat) * e)) 7 0 := by
        rw [← b3]
        congr 1
        omega
      rw [e3, sm_from (m := m) (by omega) ?_]
      · refine sm_cong _ _ (fun e e1 e2 => ?_)
        have b4 := sm_block (jS st g s b m) 1 (0 + (343 : Nat) * a + (49 : Nat) * c + (7 : Nat) * e) 7 0
        have e4 : sm (jS st g s b m) 7 (0 + (343 : Nat) * a + (49 : Nat) * c + (7 : Nat) * e) = sm (fun f => jS st g s b m (343 * a + 49 * c + 7 * e + f)) 7 0 := by
          have : sm (jS st g s b m) (7 * 1) (0 + (343 : Nat) * a + (49 : Nat) * c + (7 : Nat) * e + (1 : Nat) * 0) = sm (jS st g s b m) 7 (0 + (343 : Nat) * a + (49 : Nat) * c + (7 : Nat) * e) := by congr 1; omega
          rw [← this, b4]
          refine sm_cong _ _ (fun f f1 f2 => ?_)
          show jS st g s b m _ + 0 = _
          rw [Int.add_zero]
          congr 1
          omega
        rw [e4, sm_from (m := m) (by omega) ?_]
        · refine sm_cong _ _ (fun f f1 f2 => ?_)
          rw [J4 a c e f (by omega) (by omega) (by omega) (by omega), hd]
          by_cases h : fs st g s (a, c, e, f) b = -9
          · rw [if_pos h, if_pos ⟨⟨a1, c1, e1, f1⟩, h⟩]
          · rw [if_neg h, if_neg (fun z => h z.2)]
        · intro f f1 f2
          rw [J4 a c e f (by omega) (by omega) (by omega) (by omega), if_neg (fun z => by omega)]
      · intro e e1 e2
        exact sm_zero _ _ _ (fun y y1 y2 => by
          rw [show y = 343 * a + 49 * c + 7 * e + (y - (343 * a + 49 * c + 7 * e)) by omega, J4 a c e _ (by omega) (by omega) (by omega) (by omega), if_neg (fun z => by omega)])
    · intro c c1 c2
      exact sm_zero _ _ _ (fun y y1 y2 => by
        rw [show y = 343 * a + 49 * c + 7 * ((y - (343 * a + 49 * c)) / 7) + (y - (343 * a + 49 * c)) % 7 by omega, J4 a c _ _ (by omega) (by omega) (by omega) (by omega), if_neg (fun z => by omega)])
  · intro a a1 a2
    exact sm_zero _ _ _ (fun y y1 y2 => by
      rw [show y = 343 * a + 49 * ((y - 343 * a) / 49) + 7 * ((y - 343 * a) / 7 % 7) + (y - 343 * a) % 7 by omega, J4 a _ _ _ (by omega) (by omega) (by omega) (by omega), if_neg (fun z => by omega)])
theorem dp5_dpt {st : Int} {g s b : F4} (hst : 1 ≤ st) : ∀ (n : Nat) (q : Int × Int), n ≤ 6 → dp5 st g s b n = (dpt st g s b n q).1
  | 0, _, _ => rfl
  | n + 1, q, hn => by
    rw [dp5, dpt]
    rcases rio_fr (g := g) (s := s) (b := b) (m := (n : Int) + 1) hst (by omega) with ⟨h1, h2, -⟩ | ⟨h1, h2⟩
    · rw [if_pos h1, if_pos h2]
    · rw [if_neg (by rw [h1]; decide), if_neg (by rw [h2]; decide)]
      exact dp5_dpt hst n _ (by omega)
theorem dp5_dpx {st : Int} {g s b : F4} (hst : 1 ≤ st) : dp5 st g s b 6 = dpx st g s b := dp5_dpt hst 6 (0, -9) (by decide)
theorem ws5_wsh {st : Int} {g b : F4} {m : Int} (hst : 1 ≤ st) (hm : 1 ≤ m ∧ m ≤ 6) : ∀ (n : Nat) (t : Int) (s : F4), ws5 st g b m n t s = wsh st g b m n t s
  | 0, _, _ => rfl
  | n + 1, t, s => by
    rw [ws5, wsh]
    rcases rio_fr (g := g) (s := s) (b := b) hst hm with ⟨h1, h2, -⟩ | ⟨h1, h2⟩
    · rw [if_neg (by rw [h1]; decide), if_neg (by omega)]
      exact ws5_wsh hst hm n (t + 1) (wz4 s)
    · rw [if_pos h1, if_pos (by rw [h2])]
theorem bsm_12 (o : Int) : bsm (bo o) ≤ 12 := by
  obtain ⟨a, b, c, d⟩ := bo_rng o
  unfold bsm
  omega
theorem bd5_bdg {st : Int} {g s : F4} {m : Int} (hst : 1 ≤ st) (hm : 1 ≤ m ∧ m ≤ 6) : ∀ (n : Nat) (o best l5 l6 : Int), (l5 = l6 ∨ (12 < l5 ∧ 12 < l6)) → bd5 st g s m n o best l5 = bdg st g s m n o best l6
  | 0, _, _, _, _, _ => rfl
  | n + 1, o, best, l5, l6, h => by
    rw [bd5, bdg]
    have h12 := bsm_12 o
    have hl : bsm (bo o) < l5 ↔ bsm (bo o) < l6 := by omega
    rcases rio_fr (g := g) (s := s) (b := bo o) hst hm with ⟨h1, h2, -⟩ | ⟨h1, h2⟩
    · by_cases h3 : bsm (bo o) < l5
      · rw [if_pos ⟨h3, h1⟩, if_pos ⟨hl.mp h3, h2⟩]
        exact bd5_bdg hst hm n (o + 1) _ _ _ (Or.inl rfl)
      · rw [if_neg (fun z => h3 z.1), if_neg (fun z => h3 (hl.mpr z.1))]
        exact bd5_bdg hst hm n (o + 1) _ _ _ h
    · rw [if_neg (fun z => absurd (h1.symm.trans z.2) (by decide)), if_neg (fun z => by rw [h2] at z; exact absurd z.2 (by decide))]
      exact bd5_bdg hst hm n (o + 1) _ _ _ h
/-! orders -/
def cfo (E : Int → Int) (e : Int) : List Int → Int × Int → Int × Int
  | [], q => q
  | a :: l, q => if E a = e then cfo E e l (q.1 + 1, if q.1 = 0 then a else q.2) else cfo E e l q
theorem ot6_cfo (st : Int) (g s b : F4) (x e : Int) : ∀ (n : Nat) (o : Int) (q : Int × Int), 0 ≤ o → o + n ≤ 256 → ot6 st g s b x e n o q = cfo (E5 st g s b x) e (vo n o) q
  | 0, _, _, _, _ => rfl
  | n + 1, o, q, ho, hn => by
    rw [ot6, vo]
    by_cases hs : os o = 15
    · have hE : fg (pon st g s b x (c6 o) 4 0 (0, 0, 0, 0)) = E5 st g s b x (to4 o) := by
        unfold E5
        rw [pon_cong st g s b x (cf' := c5 (to4 o)) 4 0 (0, 0, 0, 0) (fun j j1 j2 => (c6_e ⟨ho, by omega⟩ hs ⟨j1, by omega⟩).2)]
      rw [if_pos hs, hE, cfo]
      by_cases h : E5 st g s b x (to4 o) = e
      · rw [if_pos ⟨hs, h⟩, if_pos h]
        exact ot6_cfo st g s b x e n (o + 1) _ (by omega) (by omega)
      · rw [if_neg (fun z => h z.2), if_neg h]
        exact ot6_cfo st g s b x e n (o + 1) _ (by omega) (by omega)
    · rw [if_neg hs, if_neg (fun z => hs z.1)]
      exact ot6_cfo st g s b x e n (o + 1) q (by omega) (by omega)
theorem vo_256 : vo 256 0 = am_orders := by decide +kernel
theorem cfo_1 (E : Int → Int) (e : Int) : ∀ (l : List Int) (q : Int × Int), (cfo E e l q).1 = oc5 E e l q.1
  | [], _ => rfl
  | a :: l, q => by
    rw [cfo, oc5]
    split
    · rw [cfo_1 E e l]
    · rw [cfo_1 E e l, Int.add_zero]
theorem cfo_keep (E : Int → Int) (e : Int) : ∀ (l : List Int) (q : Int × Int), 0 < q.1 → (cfo E e l q).2 = q.2
  | [], _, _ => rfl
  | a :: l, q, h => by
    rw [cfo]
    split
    · rw [cfo_keep E e l _ (by dsimp only; omega)]
      dsimp only
      rw [if_neg (by omega)]
    · exact cfo_keep E e l q h
theorem cfo_2 (E : Int → Int) (e : Int) : ∀ l : List Int, (cfo E e l (0, -9)).2 = of5 E e l
  | [] => rfl
  | a :: l => by
    rw [cfo, of5]
    split
    · rw [cfo_keep E e l _ (show (0 : Int) < 0 + 1 by decide)]
      simp
    · exact cfo_2 E e l
theorem ot6_oc (st : Int) (g s b : F4) (x e : Int) : (ot6 st g s b x e 256 0 (0, -9)).1 = oc5 (E5 st g s b x) e am_orders 0 ∧ (ot6 st g s b x e 256 0 (0, -9)).2 = of5 (E5 st g s b x) e am_orders := by
  rw [ot6_cfo st g s b x e 256 0 (0, -9) (by decide) (by decide), vo_256]
  exact ⟨cfo_1 _ _ _ _, cfo_2 _ _ _⟩
theorem crs_in {G : Int → Int} {a : Int} {l : List Int} {q : Int × Int × Int} (h : G a < q.2.2) : crs G (a :: l) q = crs G l (1, a, G a) := by
  rw [crs, if_pos h]
theorem crs_eq {r : Int} (hr : 1 ≤ r ∧ r ≤ 5) : crs (gq r) (vo 256 0) (0, -9, 999) = crs (gq r) am_orders (0, -9, 2147483647) := by
  rw [vo_256]
  have h := gq_rng hr 123
  unfold am_orders
  rw [crs_in (q := (0, -9, 999)) (show gq r 123 < 999 by omega), crs_in (q := (0, -9, 2147483647)) (show gq r 123 < 2147483647 by omega)]
/-! drums -/
theorem dkn_iff (x : Int) : ∀ (n : Nat) (k : Int), dkn x n k = 1 ↔ ∀ j : Int, k ≤ j → j < k + n → x / pw j % 10 < 4
  | 0, k => ⟨fun _ j h1 h2 => by omega, fun _ => rfl⟩
  | n + 1, k => by
    rw [dkn]
    have ih := dkn_iff x n (k + 1)
    constructor
    · intro h j h1 h2
      split at h
      · next hd =>
        by_cases e : j = k
        · rw [e]; exact hd
        · exact ih.mp h j (by omega) (by omega)
      · cases h
    · intro h
      rw [if_pos (h k (by omega) (by omega))]
      exact ih.mpr (fun j h1 h2 => h j (by omega) (by omega))
theorem pw_F : ∀ n k : Fin 9, n.val ≤ k.val → pw (n.val : Int) ≤ pw (k.val : Int) := by decide +kernel
theorem pw_mono {n k : Int} (h : 0 ≤ n ∧ n ≤ k ∧ k ≤ 8) : pw n ≤ pw k := by
  have := pw_F ⟨n.toNat, by omega⟩ ⟨k.toNat, by omega⟩ (by dsimp only; omega)
  dsimp only at this
  rw [show ((n.toNat : Nat) : Int) = n by omega, show ((k.toNat : Nat) : Int) = k by omega] at this
  exact this
theorem dk_eq {x n : Int} (hn : 0 ≤ n ∧ n ≤ 8) (hx : 0 ≤ x ∧ x ≤ pw n - 1) : dkn x 8 0 = 1 ↔ dk5 x n n.toNat 0 = 1 := by
  rw [dkn_iff, dk5_all]
  constructor
  · intro h j h1 h2
    exact h (n - 1 - j) (by omega) (by omega)
  · intro h k h1 h2
    by_cases hk : k < n
    · have := h (n - 1 - k) (by omega) (by omega)
      rw [show n - 1 - (n - 1 - k) = k by omega] at this
      exact this
    · have h3 := pw_mono (n := n) (k := k) (by omega)
      rw [Int.ediv_eq_zero_of_lt hx.1 (by omega)]
      decide
/-! slipping ends -/
theorem sl_end (st : Int) (g s b : F4) : ∀ (n : Nat) (d : F4) (z : Int), cz d ≤ n → fs st g s (sl st g s b n d z).1 b = -9
  | n, d, z, hn => by
    by_cases hf : fs st g s d b = -9
    · have e : sl st g s b n d z = (d, z) := by
        cases n with
        | zero => rfl
        | succ n => rw [sl, if_pos hf]
      rw [e]
      exact hf
    · have hcz := cz_set (fs_on st g s d b hf)
      match n, hn with
      | 0, hn => omega
      | n + 1, hn =>
        rw [sl, if_neg hf]
        exact sl_end st g s b n _ _ (by omega)
theorem sl_4 (st : Int) (g s b d : F4) (z : Int) : fs st g s (sl st g s b 4 d z).1 b = -9 := sl_end st g s b 4 d z (cz_le d)
theorem sl_id {st : Int} {g s b d : F4} (h : fs st g s d b = -9) (n : Nat) (z : Int) : sl st g s b n d z = (d, z) := by
  cases n with
  | zero => rfl
  | succ n => rw [sl, if_pos h]
end
