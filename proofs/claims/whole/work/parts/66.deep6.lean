noncomputable section
theorem fr_rng (st : Int) (g s b : F4) (m : Int) : ∀ (n : Nat) (x : Int) (q : Int × Int), q.1 ≤ (fr st g s b m n x q).1 ∧ (fr st g s b m n x q).1 ≤ q.1 + n
  | 0, _, q => by
    simp only [fr]
    exact ⟨Int.le_refl _, by omega⟩
  | n + 1, x, q => by
    rw [fr]
    split
    · have h := fr_rng st g s b m n (x + 1) (q.1 + 1, if q.1 = 0 then fg (su x) else q.2)
      dsimp only at h
      generalize (fr st g s b m n (x + 1) (q.1 + 1, if q.1 = 0 then fg (su x) else q.2)).1 = z at h ⊢
      omega
    · have h := fr_rng st g s b m n (x + 1) q
      generalize (fr st g s b m n (x + 1) q).1 = z at h ⊢
      omega
theorem fr0_rng (st : Int) (g s b : F4) (m : Int) : 0 ≤ (fr0 st g s b m).1 ∧ (fr0 st g s b m).1 ≤ 2401 := by
  have h := fr_rng st g s b m 2401 0 (0, -9)
  unfold fr0
  generalize (fr st g s b m 2401 0 (0, -9)).1 = z at h ⊢
  dsimp only at h
  omega
/-- the deepest m with a row, and what the last look found -/
def dpt (st : Int) (g s b : F4) : Nat → Int × Int → Int × Int × Int
  | 0, q => (0, q)
  | n + 1, _ => if 0 < (fr0 st g s b ((n : Int) + 1)).1 then ((n : Int) + 1, fr0 st g s b ((n : Int) + 1)) else dpt st g s b n (fr0 st g s b ((n : Int) + 1))
end
