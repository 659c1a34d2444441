noncomputable section
theorem rdq_ex (w : Int64) : ∃ z : Int, z = (oLushr w 33 - oLushr w 33 / 6 * 6).toInt32.toInt := ⟨_, rfl⟩
/-- a depth less one by the seed (held shut) -/
def rdq (w : Int64) : Int := Classical.choose (rdq_ex w)
theorem rdq_def (w : Int64) : rdq w = (oLushr w 33 - oLushr w 33 / 6 * 6).toInt32.toInt := Classical.choose_spec (rdq_ex w)
theorem nxs_ex (w : Int64) : ∃ z : Int64, z = w * 6364136223846793005 + 1442695040888963407 := ⟨_, rfl⟩
def nxs (w : Int64) : Int64 := Classical.choose (nxs_ex w)
theorem nxs_def (w : Int64) : nxs w = w * 6364136223846793005 + 1442695040888963407 := Classical.choose_spec (nxs_ex w)
theorem lu_rng (x : Int64) : ∃ n : Nat, n < 2147483648 ∧ (oLushr x 33).toInt = (n : Int) := by
  have hlt := UInt64.toNat_lt x.toUInt64
  refine ⟨x.toUInt64.toNat / 2 ^ 33, by omega, ?_⟩
  unfold oLushr
  have e : ((Int32.ofInt 33).toInt64.toUInt64 &&& Int64.toUInt64 63) = 33 := by decide +kernel
  rw [e]
  show (x.toUInt64 >>> 33).toBitVec.toInt = _
  have h : (x.toUInt64 >>> 33).toBitVec.toNat = x.toUInt64.toNat / 2 ^ 33 := by
    show (x.toUInt64 >>> 33).toNat = _
    rw [UInt64.toNat_shiftRight, Nat.shiftRight_eq_div_pow]
    rfl
  rw [BitVec.toInt_eq_toNat_of_lt (by rw [h]; omega), h]
theorem rdq_rng (x : Int64) : 0 ≤ rdq x ∧ rdq x ≤ 5 := by
  obtain ⟨n, hn, e⟩ := lu_rng x
  rw [rdq_def]
  generalize oLushr x 33 = u at e ⊢
  have h6 : (6 : Int64).toInt = 6 := by decide +kernel
  have hd : (n : Int).tdiv 6 = ((n / 6 : Nat) : Int) := by rw [Int.tdiv_eq_ediv_of_nonneg (by omega)]; rfl
  have e1 : (u / 6).toInt = ((n / 6 : Nat) : Int) := by
    rw [Int64.toInt_div, e, h6, hd]
    exact Int.bmod_eq_of_le (by omega) (by omega)
  have e2 : (u / 6 * 6).toInt = ((n / 6 : Nat) : Int) * 6 := by
    rw [Int64.toInt_mul, e1, h6]
    exact Int.bmod_eq_of_le (by omega) (by omega)
  have e3 : (u - u / 6 * 6).toInt = ((n % 6 : Nat) : Int) := by
    rw [Int64.toInt_sub, e2, e]
    rw [Int.bmod_eq_of_le (by omega) (by omega)]
    omega
  rw [Int64.toInt_toInt32, e3, Int.bmod_eq_of_le (by omega) (by omega)]
  omega
/-- n corners from c on put on to depths by the seed -/
def wdi (st : Int) (g s b : F4) : Nat → Nat → F4 × Int64 → F4 × Int64
  | 0, _, q => q
  | n + 1, c, q => wdi st g s b n (c + 1) ((sl st g s b 4 (s4 q.1 c (rdq (nxs q.2) + 1)) 0).1, nxs q.2)
def dp1 (d : F4) : Int := if 1 ≤ d.1 ∧ 1 ≤ d.2.1 ∧ 1 ≤ d.2.2.1 ∧ 1 ≤ d.2.2.2 then 1 else 0
/-- n beds of the ward: how many stay whole, the seed behind them -/
def wrd (st : Int) (g s b : F4) : Nat → Int × Int64 → Int × Int64
  | 0, q => q
  | n + 1, q => wrd st g s b n (q.1 + dp1 (wdi st g s b 4 0 ((0, 0, 0, 0), q.2)).1, (wdi st g s b 4 0 ((0, 0, 0, 0), q.2)).2)
theorem wdi_i4 (st : Int) (g s b : F4) : ∀ (n c : Nat) (q : F4 × Int64), i4 0 6 q.1 → i4 0 6 (wdi st g s b n c q).1
  | 0, _, _, h => h
  | n + 1, c, q, h => by
    rw [wdi]
    have r := rdq_rng (nxs q.2)
    exact wdi_i4 st g s b n (c + 1) _ (sl_i4 st g s b 4 _ 0 (i4_s h _ (by omega) (by omega)))
end
