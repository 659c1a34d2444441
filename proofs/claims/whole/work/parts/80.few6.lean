noncomputable section
/-- who is come to at some distance is come from one nearer by one -/
def T6 (S : S6) : Prop := ∀ t : Nat, t < 2401 → 0 < S.1.getD t 0 → (0 ≤ S.2.2.1.getD t 0 ∧ S.2.2.1.getD t 0 < 2401) ∧ S.1.getD (S.2.2.1.getD t 0).toNat 0 = S.1.getD t 0 - 1
def Q6 (x : Int) (S : S6) : Prop := K6 x S ∧ T6 S
theorem Q6.cm {x : Int} {S : S6} (hx : 0 ≤ x ∧ x < 2401) (h : Q6 x S) {t : Int} (ht : 0 ≤ t ∧ t < 2401) (mv : Int) : Q6 x (cmT S t x mv) := by
  refine ⟨h.1.cm ht mv, ?_⟩
  obtain ⟨⟨hI, hp⟩, hT⟩ := h
  obtain ⟨⟨l1, l2, l3, l4'⟩, -⟩ := hI
  unfold cmT
  split
  · next e =>
    intro u hu hf
    dsimp only at hf ⊢
    have htl : t.toNat < S.1.length := by rw [l1]; omega
    have htl3 : t.toNat < S.2.2.1.length := by rw [l3]; omega
    have hxt : t.toNat ≠ x.toNat := by
      intro q
      rw [q] at e
      rw [e] at hp
      exact absurd hp (by decide)
    by_cases hut : t.toNat = u
    · subst hut
      rw [gd_self htl] at hf ⊢
      rw [gd_self htl3]
      refine ⟨hx, ?_⟩
      rw [gd_ne hxt]
      omega
    · rw [gd_ne hut] at hf ⊢
      rw [gd_ne hut]
      obtain ⟨a, b⟩ := hT u hu hf
      refine ⟨a, ?_⟩
      rw [gd_ne]
      · exact b
      · intro q
        rw [← q, e] at b
        generalize S.1.getD u 0 = z at b hf
        omega
  · exact hT
theorem g1d_Q (st : Int) (g s b : F4) {x c : Int} (hx : 0 ≤ x ∧ x < 2401) : ∀ (n : Nat) (p : Int) (S : S6), 0 ≤ p → p + n = 7 → Q6 x S → Q6 x (g1d st g s b x c n p S)
  | 0, _, _, _, _, h => h
  | n + 1, p, S, hp, hn, h => by
    rw [g1d]
    refine g1d_Q st g s b hx n (p + 1) _ (by omega) (by omega) ?_
    split
    · exact h
    · exact h.cm hx (tg1_rng st g s b hx ⟨hp, by omega⟩) _
theorem g1c_Q (st : Int) (g s b : F4) {x : Int} (hx : 0 ≤ x ∧ x < 2401) : ∀ (n : Nat) (c : Int) (S : S6), Q6 x S → Q6 x (g1c st g s b x n c S)
  | 0, _, _, h => h
  | n + 1, c, S, h => by
    rw [g1c]
    exact g1c_Q st g s b hx n (c + 1) _ (g1d_Q st g s b hx 7 0 S (by omega) (by omega) h)
theorem g2b_Q (st : Int) (g s b : F4) {x c o : Int} (hx : 0 ≤ x ∧ x < 2401) : ∀ (n : Nat) (p : Int) (S : S6), 0 ≤ p → p + n = 49 → Q6 x S → Q6 x (g2b st g s b x c o n p S)
  | 0, _, _, _, _, h => h
  | n + 1, p, S, hp, hn, h => by
    rw [g2b]
    exact g2b_Q st g s b hx n (p + 1) _ (by omega) (by omega) (h.cm hx (tg2_rng st g s b hx ⟨hp, by omega⟩) _)
theorem g2o_Q (st : Int) (g s b : F4) {x c : Int} (hx : 0 ≤ x ∧ x < 2401) : ∀ (n : Nat) (o : Int) (S : S6), Q6 x S → Q6 x (g2o st g s b x c n o S)
  | 0, _, _, h => h
  | n + 1, o, S, h => by
    rw [g2o]
    exact g2o_Q st g s b hx n (o + 1) _ (g2b_Q st g s b hx 49 0 S (by omega) (by omega) h)
theorem g2c_Q (st : Int) (g s b : F4) {x : Int} (hx : 0 ≤ x ∧ x < 2401) : ∀ (n : Nat) (c : Int) (S : S6), Q6 x S → Q6 x (g2c st g s b x n c S)
  | 0, _, _, h => h
  | n + 1, c, S, h => by
    rw [g2c]
    exact g2c_Q st g s b hx n (c + 1) _ (g2o_Q st g s b hx _ _ S h)
theorem bx6_Q (st : Int) (g s b : F4) {x : Int} (hx : 0 ≤ x ∧ x < 2401) (tw : Int) {S : S6} (h : Q6 x S) : Q6 x (bx6 st g s b tw x S) := by
  unfold bx6
  split
  · exact g2c_Q st g s b hx 3 0 S h
  · exact g1c_Q st g s b hx 4 0 S h
theorem bf6_ok (st : Int) (g s b : F4) (m tw : Int) : ∀ (n : Nat) (k : Int) (S : S6), 0 ≤ k → I6 S → T6 S → I6 (bf6 st g s b m tw n k S).1 ∧ T6 (bf6 st g s b m tw n k S).1 ∧ ((bf6 st g s b m tw n k S).2 = -9 ∨ ((0 ≤ (bf6 st g s b m tw n k S).2 ∧ (bf6 st g s b m tw n k S).2 < 2401) ∧ 0 ≤ (bf6 st g s b m tw n k S).1.1.getD (bf6 st g s b m tw n k S).2.toNat 0))
  | 0, _, S, hk, hI, hT => ⟨hI, hT, Or.inl rfl⟩
  | n + 1, k, S, hk, hI, hT => by
    rw [bf6]
    split
    · next hkl =>
      obtain ⟨hx, hK⟩ := hI.K ⟨hk, hkl⟩
      split
      · exact ⟨hI, hT, Or.inr ⟨hx, hK.2⟩⟩
      · have hQ := bx6_Q st g s b hx tw ⟨hK, hT⟩
        exact bf6_ok st g s b m tw n (k + 1) _ (by omega) hQ.1.1 hQ.2
    · exact ⟨hI, hT, Or.inl rfl⟩
theorem S0_T6 {x : Int} {B P L : List Int} : T6 (S0 x B P L) := by
  intro t ht hf
  unfold S0 at hf
  dsimp only at hf
  by_cases hi : x.toNat = t
  · subst hi
    rw [gd_self (by rw [F9_len]; exact ht)] at hf
    exact absurd hf (by decide)
  · rw [gd_ne hi, F9_get, if_pos ht] at hf
    exact absurd hf (by decide)
theorem U6_same {M : List AC} {st lk len ac nx rf lr en lm : Int} {sd : Int64} (h0 : M[26]? = some (mo st lk len ac nx rf lr en lm sd)) {d b s : F4} (h32 : M[32]? = some (aI (l4 d))) (h33 : M[33]? = some (aI (l4 b))) (h34 : M[34]? = some (aI (l4 s))) {A B P L : List Int} (h36 : M[36]? = some (aI A)) (h37 : M[37]? = some (aI B)) (h38 : M[38]? = some (aI P)) (h39 : M[39]? = some (aI L)) : U6 ((M.set 33 (aI (l4 b))).set 34 (aI (l4 s))) st lk len ac nx rf lr en sd d (A, B, P, L, lm) = M := by
  rw [set_same h33, set_same h34]
  unfold U6
  dsimp only
  rw [set_same h0, set_same h32, set_same h36, set_same h37, set_same h38, set_same h39]
def L6 (S : S6) : Prop := S.1.length = 2401 ∧ S.2.1.length = 2401 ∧ S.2.2.1.length = 2401 ∧ S.2.2.2.1.length = 2401
def few (q : S6 × Int) : Int := if q.2 = -9 then -9 else q.1.1.getD q.2.toNat 0
abbrev mi_X6_fewest : Mi := (yX6_fewest, cX6_fewest, 2, some .int, 10)
theorem mf_X6_fewest : am_mf mi_X6_fewest 1 := ⟨w_co_X6_fewest, w_in_X6, ⟨by decide +kernel, by decide +kernel⟩, by decide +kernel, by decide⟩
def tb_X6_fewest : List (Nat × Tr) := [(0, tIld 1 1), (1, tI2l), (2, tLc 1 1), (3, tLc 6 3), (6, tCs 3 fn_X6_in), (9, tIfne 15), (12, tIc (-2) 2), (15, tAld 0 1), (16, tIld 1 1), (17, tIc 0 1), (18, tCv 6 2 fn_X6_find), (21, tAld 0 1), (22, tGf 6 20), (25, tIc (-9) 2), (27, tCmne 35), (30, tIc (-9) 2), (32, tGo 44), (35, tAld 0 1), (36, tGf 6 16), (39, tAld 0 1), (40, tGf 6 20), (43, tIal)]
theorem ok_X6_fewest : Tok mi_X6_fewest tb_X6_fewest :=
  Tc (sd_iload_n dX6_fewest_0) <|
  Tc (sd_i2l dX6_fewest_1) <|
  Tc (sd_lconst rfl dX6_fewest_2) <|
  Tc (sd_ldc2 w_cl_X6_123 dX6_fewest_3) <|
  Tc (sd_cs fok_X6_in mf_X6_in w_ml_X6_65 w_st_X6_in (by decide) dX6_fewest_6) <|
  Tc (sd_if_ne (by decide) dX6_fewest_9) <|
  Tc (sd_bipush (by decide +kernel) dX6_fewest_12) <|
  Tc (sd_aload_n dX6_fewest_15) <|
  Tc (sd_iload_n dX6_fewest_16) <|
  Tc (sd_iconst rfl dX6_fewest_17) <|
  Tc (sd_cv (T := TX6) fok_X6_find mf_X6_find rfl w_ml_X6_193 w_im_X6_find w_se_X6_find (by decide) dX6_fewest_18) <|
  Tc (sd_aload_n dX6_fewest_21) <|
  Tc (sd_getf (T := TX6) rfl giX6 (by decide) w_fl_X6_180 dX6_fewest_22) <|
  Tc (sd_bipush (by decide +kernel) dX6_fewest_25) <|
  Tc (sd_cm_ne (by decide) dX6_fewest_27) <|
  Tc (sd_bipush (by decide +kernel) dX6_fewest_30) <|
  Tc (sd_goto (by decide) dX6_fewest_32) <|
  Tc (sd_aload_n dX6_fewest_35) <|
  Tc (sd_getf (T := TX6) rfl giX6 (by decide) w_fl_X6_37 dX6_fewest_36) <|
  Tc (sd_aload_n dX6_fewest_39) <|
  Tc (sd_getf (T := TX6) rfl giX6 (by decide) w_fl_X6_180 dX6_fewest_40) <|
  Tc (sd_ial dX6_fewest_43) <|
  Tn
theorem rk_X6_fewest : Rok mi_X6_fewest rI [14, 44] := rk_i dX6_fewest_14 <| rk_i dX6_fewest_44 <| rk_n
def rx_X6_fewest : Nat → Nat → AL → List AV → List AC → Option (Option AV × List AC) := am_r tb_X6_fewest rI [14, 44]
theorem rs_X6_fewest_0 (n : Nat) (L : AL) (st : List AV) (M : List AC) : rx_X6_fewest (n + 1) 0 L st M = am_j (rx_X6_fewest n) ((tIld 1 1) 0 L st M) := rfl
theorem rs_X6_fewest_1 (n : Nat) (L : AL) (st : List AV) (M : List AC) : rx_X6_fewest (n + 1) 1 L st M = am_j (rx_X6_fewest n) (tI2l 1 L st M) := rfl
theorem rs_X6_fewest_2 (n : Nat) (L : AL) (st : List AV) (M : List AC) : rx_X6_fewest (n + 1) 2 L st M = am_j (rx_X6_fewest n) ((tLc 1 1) 2 L st M) := rfl
theorem rs_X6_fewest_3 (n : Nat) (L : AL) (st : List AV) (M : List AC) : rx_X6_fewest (n + 1) 3 L st M = am_j (rx_X6_fewest n) ((tLc 6 3) 3 L st M) := rfl
theorem rs_X6_fewest_6 (n : Nat) (L : AL) (st : List AV) (M : List AC) : rx_X6_fewest (n + 1) 6 L st M = am_j (rx_X6_fewest n) ((tCs 3 fn_X6_in) 6 L st M) := rfl
theorem rs_X6_fewest_9 (n : Nat) (L : AL) (st : List AV) (M : List AC) : rx_X6_fewest (n + 1) 9 L st M = am_j (rx_X6_fewest n) ((tIfne 15) 9 L st M) := rfl
theorem rs_X6_fewest_12 (n : Nat) (L : AL) (st : List AV) (M : List AC) : rx_X6_fewest (n + 1) 12 L st M = am_j (rx_X6_fewest n) ((tIc (-2) 2) 12 L st M) := rfl
theorem rs_X6_fewest_15 (n : Nat) (L : AL) (st : List AV) (M : List AC) : rx_X6_fewest (n + 1) 15 L st M = am_j (rx_X6_fewest n) ((tAld 0 1) 15 L st M) := rfl
theorem rs_X6_fewest_16 (n : Nat) (L : AL) (st : List AV) (M : List AC) : rx_X6_fewest (n + 1) 16 L st M = am_j (rx_X6_fewest n) ((tIld 1 1) 16 L st M) := rfl
theorem rs_X6_fewest_17 (n : Nat) (L : AL) (st : List AV) (M : List AC) : rx_X6_fewest (n + 1) 17 L st M = am_j (rx_X6_fewest n) ((tIc 0 1) 17 L st M) := rfl
theorem rs_X6_fewest_18 (n : Nat) (L : AL) (st : List AV) (M : List AC) : rx_X6_fewest (n + 1) 18 L st M = am_j (rx_X6_fewest n) ((tCv 6 2 fn_X6_find) 18 L st M) := rfl
theorem rs_X6_fewest_21 (n : Nat) (L : AL) (st : List AV) (M : List AC) : rx_X6_fewest (n + 1) 21 L st M = am_j (rx_X6_fewest n) ((tAld 0 1) 21 L st M) := rfl
theorem rs_X6_fewest_22 (n : Nat) (L : AL) (st : List AV) (M : List AC) : rx_X6_fewest (n + 1) 22 L st M = am_j (rx_X6_fewest n) ((tGf 6 20) 22 L st M) := rfl
theorem rs_X6_fewest_25 (n : Nat) (L : AL) (st : List AV) (M : List AC) : rx_X6_fewest (n + 1) 25 L st M = am_j (rx_X6_fewest n) ((tIc (-9) 2) 25 L st M) := rfl
theorem rs_X6_fewest_27 (n : Nat) (L : AL) (st : List AV) (M : List AC) : rx_X6_fewest (n + 1) 27 L st M = am_j (rx_X6_fewest n) ((tCmne 35) 27 L st M) := rfl
theorem rs_X6_fewest_30 (n : Nat) (L : AL) (st : List AV) (M : List AC) : rx_X6_fewest (n + 1) 30 L st M = am_j (rx_X6_fewest n) ((tIc (-9) 2) 30 L st M) := rfl
theorem rs_X6_fewest_32 (n : Nat) (L : AL) (st : List AV) (M : List AC) : rx_X6_fewest (n + 1) 32 L st M = am_j (rx_X6_fewest n) ((tGo 44) 32 L st M) := rfl
theorem rs_X6_fewest_35 (n : Nat) (L : AL) (st : List AV) (M : List AC) : rx_X6_fewest (n + 1) 35 L st M = am_j (rx_X6_fewest n) ((tAld 0 1) 35 L st M) := rfl
theorem rs_X6_fewest_36 (n : Nat) (L : AL) (st : List AV) (M : List AC) : rx_X6_fewest (n + 1) 36 L st M = am_j (rx_X6_fewest n) ((tGf 6 16) 36 L st M) := rfl
theorem rs_X6_fewest_39 (n : Nat) (L : AL) (st : List AV) (M : List AC) : rx_X6_fewest (n + 1) 39 L st M = am_j (rx_X6_fewest n) ((tAld 0 1) 39 L st M) := rfl
theorem rs_X6_fewest_40 (n : Nat) (L : AL) (st : List AV) (M : List AC) : rx_X6_fewest (n + 1) 40 L st M = am_j (rx_X6_fewest n) ((tGf 6 20) 40 L st M) := rfl
theorem rs_X6_fewest_43 (n : Nat) (L : AL) (st : List AV) (M : List AC) : rx_X6_fewest (n + 1) 43 L st M = am_j (rx_X6_fewest n) (tIal 43 L st M) := rfl
theorem rs_X6_fewest_14 (n : Nat) (L : AL) (st : List AV) (M : List AC) : rx_X6_fewest (n + 1) 14 L st M = am_e rI st M := rfl
theorem rs_X6_fewest_44 (n : Nat) (L : AL) (st : List AV) (M : List AC) : rx_X6_fewest (n + 1) 44 L st M = am_e rI st M := rfl
theorem ri_X6_fewest (c : Prop) [Decidable c] (p q n : Nat) (L : AL) (st : List AV) (M : List AC) : rx_X6_fewest n (if c then p else q) L st M = if c then rx_X6_fewest n p L st M else rx_X6_fewest n q L st M := by split <;> rfl
theorem rm_X6_fewest {n k pc : Nat} {L : AL} {st : List AV} {M : List AC} {x : Option AV × List AC} (h : rx_X6_fewest n pc L st M = some x) (hk : n ≤ k) : rx_X6_fewest k pc L st M = some x := am_r_mono n k h hk
def fn_X6_fewest : Fn := am_fn rx_X6_fewest 2
theorem fok_X6_fewest : Fok mi_X6_fewest fn_X6_fewest := fun _ _ _ _ h => am_fok ok_X6_fewest rk_X6_fewest rfl h
theorem sp_X6_fewest {M : List AC} {st lk len ac nx rf lr en lm : Int} {sd : Int64} (h0 : M[26]? = some (mo st lk len ac nx rf lr en lm sd)) {g d b s d' b' s' : F4} (h27 : M[27]? = some (aI (l4 g))) (h28 : M[28]? = some (aI (nw d b s))) (h32 : M[32]? = some (aI (l4 d'))) (h33 : M[33]? = some (aI (l4 b'))) (h34 : M[34]? = some (aI (l4 s'))) (hr : SR st g s d b) {A B P L : List Int} (h36 : M[36]? = some (aI A)) (h37 : M[37]? = some (aI B)) (h38 : M[38]? = some (aI P)) (h39 : M[39]? = some (aI L)) (k1 : A.length = 2401) (k2 : B.length = 2401) (k3 : P.length = 2401) (k4 : L.length = 2401) (hM : 42 < M.length) (m : Int) (hm : -2147483648 ≤ m ∧ m < 2147483648) : ∃ (en1 : Int) (d1 b1 s1 : F4) (S1 : S6), L6 S1 ∧ fn_X6_fewest [vR 26, vI m] M = some (some (vI (if 1 ≤ m ∧ m ≤ 6 then few (bf6 st g s b m 0 2401 0 (S0 (so d) B P L)) else -2)), U6 ((M.set 33 (aI (l4 b1))).set 34 (aI (l4 s1))) st lk len ac nx rf lr en1 sd d1 S1) := by
  have wm : wr m = m := wr_id (by omega) (by omega)
  by_cases hm1 : 1 ≤ m ∧ m ≤ 6
  · obtain ⟨d1, q⟩ := sp_X6_find h0 h27 h28 h32 h33 h34 hr h36 h37 h38 h39 k1 k2 k3 k4 hM m 0 hm1 (Or.inl rfl)
    have hok := bf6_ok st g s b m 0 2401 0 (S0 (so d) B P L) (by omega) (S0_I6 (so_rng hr.2.2.2.1) k2 k3 k4) S0_T6
    have hH : H6 ((M.set 33 (aI (l4 b))).set 34 (aI (l4 s))) g b s := ⟨by rw [List.length_set, List.length_set]; exact hM, by simp [-List.getElem?_eq_getElem, h27], by simp [-List.getElem?_eq_getElem, gs h33], by simp [-List.getElem?_eq_getElem, gs h34]⟩
    rw [if_pos hm1]
    generalize bf6 st g s b m 0 2401 0 (S0 (so d) B P L) = R at q hok ⊢
    obtain ⟨hI, hT, hR⟩ := hok
    refine ⟨R.2, d1, b, s, R.1, hI.1, ?_⟩
    obtain ⟨u26, -, -, -, -, u36, -⟩ := U6_at hH st lk len ac nx rf lr R.2 sd d1 R.1
    have l1 := hI.1.1
    unfold few
    generalize U6 ((M.set 33 (aI (l4 b))).set 34 (aI (l4 s))) st lk len ac nx rf lr R.2 sd d1 R.1 = V at q u26 u36 ⊢
    simp only [mo] at u26
    rcases hR with e | ⟨e, e2⟩
    · rw [if_pos e]
      rw [e] at u26
      (refine am_fnI (tb := tb_X6_fewest) (n := 60) (Nat.le_of_ble_eq_true rfl) (Nat.le_of_ble_eq_true rfl) ?_; show rx_X6_fewest 60 0 _ _ _ = _)
      simp [↓ri_X6_fewest, rs_X6_fewest_0, rs_X6_fewest_1, rs_X6_fewest_2, rs_X6_fewest_3, rs_X6_fewest_6, rs_X6_fewest_9, rs_X6_fewest_12, rs_X6_fewest_15, rs_X6_fewest_16, rs_X6_fewest_17, rs_X6_fewest_18, rs_X6_fewest_21, rs_X6_fewest_22, rs_X6_fewest_25, rs_X6_fewest_27, rs_X6_fewest_30, rs_X6_fewest_32, rs_X6_fewest_35, rs_X6_fewest_36, rs_X6_fewest_39, rs_X6_fewest_40, rs_X6_fewest_43, rs_X6_fewest_14, rs_X6_fewest_44, -List.getElem?_eq_getElem, am_js, am_e, am_in, am_sl, rI, rZ, rV, rJ, rA, rC, kI, kJ, kR, am_one, am_nl, am_w8, tIc, tLc, tNul, tIld, tLld, tAld, tIst, tLst, tAst, tIinc, tI2, tDv, tL2, tLrem, tLs, tLcmp, tI2l, tL2i, tI2c, tDup, tDup2, tPop, tGo, tIfeq, tIfne, tIflt, tIfge, tIfgt, tIfle, tCmeq, tCmne, tCmlt, tCmge, tCmgt, tCmle, tNu, tTs, tGf, tPf, tGs, tIal, tIas, tBal, tBas, tAln, tSv, tSc, tSb, tSl, tSk, tCv, tCs, tCt, tMx, tMn, wr_10000, wr_100000, wr_1000000, wr_10000000, wr_100000000, wr_2400, wr_9999, wr_0, wr_1, wr_2, wr_3, wr_4, wr_5, wr_6, wr_7, wr_8, wr_9, wr_10, wr_11, wr_12, wr_13, wr_14, wr_15, wr_16, wr_17, wr_18, wr_19, wr_20, wr_21, wr_22, wr_23, wr_24, wr_25, wr_26, wr_27, wr_28, wr_29, wr_30, wr_31, wr_32, wr_33, wr_34, wr_35, wr_36, wr_37, wr_38, wr_39, wr_40, wr_41, wr_42, wr_43, wr_44, wr_45, wr_46, wr_47, wr_48, wr_49, wr_50, wr_51, wr_52, wr_53, wr_54, wr_55, wr_56, wr_57, wr_58, wr_59, wr_60, wr_61, wr_62, wr_63, wr_99, wr_100, wr_192, wr_255, wr_256, wr_343, wr_999, wr_1000, wr_2401, wr_2147483647, wr_65535, wr_m1, wr_m2, wr_m3, wr_m4, wr_m9, ak_1000, ak_1001, ak_1002, ak_0, ak_1, ak_2, ak_3, ak_4, ak_5, ak_6, ak_7, ak_8, ak_9, ak_10, ak_11, ak_12, ak_13, ak_14, ak_15, ak_16, ak_17, ak_18, ak_19, ak_20, ak_21, ak_22, ak_23, ak_24, ak_25, ak_26, ak_27, ak_28, ak_29, ak_30, ak_31, ak_32, ak_33, ak_34, ak_35, ak_36, ak_37, ak_38, ak_39, ak_40, ak_41, ak_42, ak_43, ak_44, ak_45, ak_46, ak_47, sp_X6_in, -Int32.toInt_ofInt, -not_and, wr_eq, jt_0, jt_1, jt_2, jt_3, jt_4, jt_5, jt_6, jt_8, jt_12, jt_30, jt_48, jt_49, jt_51, jt_57, jt_255, jt_9999, wm, hm1, h0, mo, q, u26]
    · have we : wr R.2 = R.2 := wr_id (by omega) (by omega)
      have ne : ¬ R.2 = -9 := by omega
      rw [if_neg ne]
      generalize R.2 = r at q u26 e e2 we ne ⊢
      (refine am_fnI (tb := tb_X6_fewest) (n := 60) (Nat.le_of_ble_eq_true rfl) (Nat.le_of_ble_eq_true rfl) ?_; show rx_X6_fewest 60 0 _ _ _ = _)
      simp [↓ri_X6_fewest, rs_X6_fewest_0, rs_X6_fewest_1, rs_X6_fewest_2, rs_X6_fewest_3, rs_X6_fewest_6, rs_X6_fewest_9, rs_X6_fewest_12, rs_X6_fewest_15, rs_X6_fewest_16, rs_X6_fewest_17, rs_X6_fewest_18, rs_X6_fewest_21, rs_X6_fewest_22, rs_X6_fewest_25, rs_X6_fewest_27, rs_X6_fewest_30, rs_X6_fewest_32, rs_X6_fewest_35, rs_X6_fewest_36, rs_X6_fewest_39, rs_X6_fewest_40, rs_X6_fewest_43, rs_X6_fewest_14, rs_X6_fewest_44, -List.getElem?_eq_getElem, am_js, am_e, am_in, am_sl, rI, rZ, rV, rJ, rA, rC, kI, kJ, kR, am_one, am_nl, am_w8, tIc, tLc, tNul, tIld, tLld, tAld, tIst, tLst, tAst, tIinc, tI2, tDv, tL2, tLrem, tLs, tLcmp, tI2l, tL2i, tI2c, tDup, tDup2, tPop, tGo, tIfeq, tIfne, tIflt, tIfge, tIfgt, tIfle, tCmeq, tCmne, tCmlt, tCmge, tCmgt, tCmle, tNu, tTs, tGf, tPf, tGs, tIal, tIas, tBal, tBas, tAln, tSv, tSc, tSb, tSl, tSk, tCv, tCs, tCt, tMx, tMn, wr_10000, wr_100000, wr_1000000, wr_10000000, wr_100000000, wr_2400, wr_9999, wr_0, wr_1, wr_2, wr_3, wr_4, wr_5, wr_6, wr_7, wr_8, wr_9, wr_10, wr_11, wr_12, wr_13, wr_14, wr_15, wr_16, wr_17, wr_18, wr_19, wr_20, wr_21, wr_22, wr_23, wr_24, wr_25, wr_26, wr_27, wr_28, wr_29, wr_30, wr_31, wr_32, wr_33, wr_34, wr_35, wr_36, wr_37, wr_38, wr_39, wr_40, wr_41, wr_42, wr_43, wr_44, wr_45, wr_46, wr_47, wr_48, wr_49, wr_50, wr_51, wr_52, wr_53, wr_54, wr_55, wr_56, wr_57, wr_58, wr_59, wr_60, wr_61, wr_62, wr_63, wr_99, wr_100, wr_192, wr_255, wr_256, wr_343, wr_999, wr_1000, wr_2401, wr_2147483647, wr_65535, wr_m1, wr_m2, wr_m3, wr_m4, wr_m9, ak_1000, ak_1001, ak_1002, ak_0, ak_1, ak_2, ak_3, ak_4, ak_5, ak_6, ak_7, ak_8, ak_9, ak_10, ak_11, ak_12, ak_13, ak_14, ak_15, ak_16, ak_17, ak_18, ak_19, ak_20, ak_21, ak_22, ak_23, ak_24, ak_25, ak_26, ak_27, ak_28, ak_29, ak_30, ak_31, ak_32, ak_33, ak_34, ak_35, ak_36, ak_37, ak_38, ak_39, ak_40, ak_41, ak_42, ak_43, ak_44, ak_45, ak_46, ak_47, sp_X6_in, -Int32.toInt_ofInt, -not_and, wr_eq, jt_0, jt_1, jt_2, jt_3, jt_4, jt_5, jt_6, jt_8, jt_12, jt_30, jt_48, jt_49, jt_51, jt_57, jt_255, jt_9999, -List.getD_eq_getElem?_getD, wm, hm1, h0, mo, q, u26, u36, we, ne, l1, e]
  · rw [if_neg hm1]
    refine ⟨en, d', b', s', (A, B, P, L, lm), ⟨k1, k2, k3, k4⟩, ?_⟩
    rw [U6_same h0 h32 h33 h34 h36 h37 h38 h39]
    (refine am_fnI (tb := tb_X6_fewest) (n := 60) (Nat.le_of_ble_eq_true rfl) (Nat.le_of_ble_eq_true rfl) ?_; show rx_X6_fewest 60 0 _ _ _ = _)
    simp [↓ri_X6_fewest, rs_X6_fewest_0, rs_X6_fewest_1, rs_X6_fewest_2, rs_X6_fewest_3, rs_X6_fewest_6, rs_X6_fewest_9, rs_X6_fewest_12, rs_X6_fewest_15, rs_X6_fewest_16, rs_X6_fewest_17, rs_X6_fewest_18, rs_X6_fewest_21, rs_X6_fewest_22, rs_X6_fewest_25, rs_X6_fewest_27, rs_X6_fewest_30, rs_X6_fewest_32, rs_X6_fewest_35, rs_X6_fewest_36, rs_X6_fewest_39, rs_X6_fewest_40, rs_X6_fewest_43, rs_X6_fewest_14, rs_X6_fewest_44, -List.getElem?_eq_getElem, am_js, am_e, am_in, am_sl, rI, rZ, rV, rJ, rA, rC, kI, kJ, kR, am_one, am_nl, am_w8, tIc, tLc, tNul, tIld, tLld, tAld, tIst, tLst, tAst, tIinc, tI2, tDv, tL2, tLrem, tLs, tLcmp, tI2l, tL2i, tI2c, tDup, tDup2, tPop, tGo, tIfeq, tIfne, tIflt, tIfge, tIfgt, tIfle, tCmeq, tCmne, tCmlt, tCmge, tCmgt, tCmle, tNu, tTs, tGf, tPf, tGs, tIal, tIas, tBal, tBas, tAln, tSv, tSc, tSb, tSl, tSk, tCv, tCs, tCt, tMx, tMn, wr_10000, wr_100000, wr_1000000, wr_10000000, wr_100000000, wr_2400, wr_9999, wr_0, wr_1, wr_2, wr_3, wr_4, wr_5, wr_6, wr_7, wr_8, wr_9, wr_10, wr_11, wr_12, wr_13, wr_14, wr_15, wr_16, wr_17, wr_18, wr_19, wr_20, wr_21, wr_22, wr_23, wr_24, wr_25, wr_26, wr_27, wr_28, wr_29, wr_30, wr_31, wr_32, wr_33, wr_34, wr_35, wr_36, wr_37, wr_38, wr_39, wr_40, wr_41, wr_42, wr_43, wr_44, wr_45, wr_46, wr_47, wr_48, wr_49, wr_50, wr_51, wr_52, wr_53, wr_54, wr_55, wr_56, wr_57, wr_58, wr_59, wr_60, wr_61, wr_62, wr_63, wr_99, wr_100, wr_192, wr_255, wr_256, wr_343, wr_999, wr_1000, wr_2401, wr_2147483647, wr_65535, wr_m1, wr_m2, wr_m3, wr_m4, wr_m9, ak_1000, ak_1001, ak_1002, ak_0, ak_1, ak_2, ak_3, ak_4, ak_5, ak_6, ak_7, ak_8, ak_9, ak_10, ak_11, ak_12, ak_13, ak_14, ak_15, ak_16, ak_17, ak_18, ak_19, ak_20, ak_21, ak_22, ak_23, ak_24, ak_25, ak_26, ak_27, ak_28, ak_29, ak_30, ak_31, ak_32, ak_33, ak_34, ak_35, ak_36, ak_37, ak_38, ak_39, ak_40, ak_41, ak_42, ak_43, ak_44, ak_45, ak_46, ak_47, sp_X6_in, -Int32.toInt_ofInt, -not_and, wr_eq, jt_0, jt_1, jt_2, jt_3, jt_4, jt_5, jt_6, jt_8, jt_12, jt_30, jt_48, jt_49, jt_51, jt_57, jt_255, jt_9999, wm, hm1]
abbrev mi_X6_byTwo : Mi := (yX6_byTwo, cX6_byTwo, 2, some .int, 10)
theorem mf_X6_byTwo : am_mf mi_X6_byTwo 1 := ⟨w_co_X6_byTwo, w_in_X6, ⟨by decide +kernel, by decide +kernel⟩, by decide +kernel, by decide⟩
def tb_X6_byTwo : List (Nat × Tr) := [(0, tIld 1 1), (1, tI2l), (2, tLc 1 1), (3, tLc 6 3), (6, tCs 3 fn_X6_in), (9, tIfne 15), (12, tIc (-2) 2), (15, tAld 0 1), (16, tIld 1 1), (17, tIc 1 1), (18, tCv 6 2 fn_X6_find), (21, tAld 0 1), (22, tGf 6 20), (25, tIc (-9) 2), (27, tCmne 35), (30, tIc (-9) 2), (32, tGo 44), (35, tAld 0 1), (36, tGf 6 16), (39, tAld 0 1), (40, tGf 6 20), (43, tIal)]
theorem ok_X6_byTwo : Tok mi_X6_byTwo tb_X6_byTwo :=
  Tc (sd_iload_n dX6_byTwo_0) <|
  Tc (sd_i2l dX6_byTwo_1) <|
  Tc (sd_lconst rfl dX6_byTwo_2) <|
  Tc (sd_ldc2 w_cl_X6_123 dX6_byTwo_3) <|
  Tc (sd_cs fok_X6_in mf_X6_in w_ml_X6_65 w_st_X6_in (by decide) dX6_byTwo_6) <|
  Tc (sd_if_ne (by decide) dX6_byTwo_9) <|
  Tc (sd_bipush (by decide +kernel) dX6_byTwo_12) <|
  Tc (sd_aload_n dX6_byTwo_15) <|
  Tc (sd_iload_n dX6_byTwo_16) <|
  Tc (sd_iconst rfl dX6_byTwo_17) <|
  Tc (sd_cv (T := TX6) fok_X6_find mf_X6_find rfl w_ml_X6_193 w_im_X6_find w_se_X6_find (by decide) dX6_byTwo_18) <|
  Tc (sd_aload_n dX6_byTwo_21) <|
  Tc (sd_getf (T := TX6) rfl giX6 (by decide) w_fl_X6_180 dX6_byTwo_22) <|
  Tc (sd_bipush (by decide +kernel) dX6_byTwo_25) <|
  Tc (sd_cm_ne (by decide) dX6_byTwo_27) <|
  Tc (sd_bipush (by decide +kernel) dX6_byTwo_30) <|
  Tc (sd_goto (by decide) dX6_byTwo_32) <|
  Tc (sd_aload_n dX6_byTwo_35) <|
  Tc (sd_getf (T := TX6) rfl giX6 (by decide) w_fl_X6_37 dX6_byTwo_36) <|
  Tc (sd_aload_n dX6_byTwo_39) <|
  Tc (sd_getf (T := TX6) rfl giX6 (by decide) w_fl_X6_180 dX6_byTwo_40) <|
  Tc (sd_ial dX6_byTwo_43) <|
  Tn
theorem rk_X6_byTwo : Rok mi_X6_byTwo rI [14, 44] := rk_i dX6_byTwo_14 <| rk_i dX6_byTwo_44 <| rk_n
def rx_X6_byTwo : Nat → Nat → AL → List AV → List AC → Option (Option AV × List AC) := am_r tb_X6_byTwo rI [14, 44]
theorem rs_X6_byTwo_0 (n : Nat) (L : AL) (st : List AV) (M : List AC) : rx_X6_byTwo (n + 1) 0 L st M = am_j (rx_X6_byTwo n) ((tIld 1 1) 0 L st M) := rfl
theorem rs_X6_byTwo_1 (n : Nat) (L : AL) (st : List AV) (M : List AC) : rx_X6_byTwo (n + 1) 1 L st M = am_j (rx_X6_byTwo n) (tI2l 1 L st M) := rfl
theorem rs_X6_byTwo_2 (n : Nat) (L : AL) (st : List AV) (M : List AC) : rx_X6_byTwo (n + 1) 2 L st M = am_j (rx_X6_byTwo n) ((tLc 1 1) 2 L st M) := rfl
theorem rs_X6_byTwo_3 (n : Nat) (L : AL) (st : List AV) (M : List AC) : rx_X6_byTwo (n + 1) 3 L st M = am_j (rx_X6_byTwo n) ((tLc 6 3) 3 L st M) := rfl
theorem rs_X6_byTwo_6 (n : Nat) (L : AL) (st : List AV) (M : List AC) : rx_X6_byTwo (n + 1) 6 L st M = am_j (rx_X6_byTwo n) ((tCs 3 fn_X6_in) 6 L st M) := rfl
theorem rs_X6_byTwo_9 (n : Nat) (L : AL) (st : List AV) (M : List AC) : rx_X6_byTwo (n + 1) 9 L st M = am_j (rx_X6_byTwo n) ((tIfne 15) 9 L st M) := rfl
theorem rs_X6_byTwo_12 (n : Nat) (L : AL) (st : List AV) (M : List AC) : rx_X6_byTwo (n + 1) 12 L st M = am_j (rx_X6_byTwo n) ((tIc (-2) 2) 12 L st M) := rfl
theorem rs_X6_byTwo_15 (n : Nat) (L : AL) (st : List AV) (M : List AC) : rx_X6_byTwo (n + 1) 15 L st M = am_j (rx_X6_byTwo n) ((tAld 0 1) 15 L st M) := rfl
theorem rs_X6_byTwo_16 (n : Nat) (L : AL) (st : List AV) (M : List AC) : rx_X6_byTwo (n + 1) 16 L st M = am_j (rx_X6_byTwo n) ((tIld 1 1) 16 L st M) := rfl
theorem rs_X6_byTwo_17 (n : Nat) (L : AL) (st : List AV) (M : List AC) : rx_X6_byTwo (n + 1) 17 L st M = am_j (rx_X6_byTwo n) ((tIc 1 1) 17 L st M) := rfl
theorem rs_X6_byTwo_18 (n : Nat) (L : AL) (st : List AV) (M : List AC) : rx_X6_byTwo (n + 1) 18 L st M = am_j (rx_X6_byTwo n) ((tCv 6 2 fn_X6_find) 18 L st M) := rfl
theorem rs_X6_byTwo_21 (n : Nat) (L : AL) (st : List AV) (M : List AC) : rx_X6_byTwo (n + 1) 21 L st M = am_j (rx_X6_byTwo n) ((tAld 0 1) 21 L st M) := rfl
theorem rs_X6_byTwo_22 (n : Nat) (L : AL) (st : List AV) (M : List AC) : rx_X6_byTwo (n + 1) 22 L st M = am_j (rx_X6_byTwo n) ((tGf 6 20) 22 L st M) := rfl
theorem rs_X6_byTwo_25 (n : Nat) (L : AL) (st : List AV) (M : List AC) : rx_X6_byTwo (n + 1) 25 L st M = am_j (rx_X6_byTwo n) ((tIc (-9) 2) 25 L st M) := rfl
theorem rs_X6_byTwo_27 (n : Nat) (L : AL) (st : List AV) (M : List AC) : rx_X6_byTwo (n + 1) 27 L st M = am_j (rx_X6_byTwo n) ((tCmne 35) 27 L st M) := rfl
theorem rs_X6_byTwo_30 (n : Nat) (L : AL) (st : List AV) (M : List AC) : rx_X6_byTwo (n + 1) 30 L st M = am_j (rx_X6_byTwo n) ((tIc (-9) 2) 30 L st M) := rfl
theorem rs_X6_byTwo_32 (n : Nat) (L : AL) (st : List AV) (M : List AC) : rx_X6_byTwo (n + 1) 32 L st M = am_j (rx_X6_byTwo n) ((tGo 44) 32 L st M) := rfl
theorem rs_X6_byTwo_35 (n : Nat) (L : AL) (st : List AV) (M : List AC) : rx_X6_byTwo (n + 1) 35 L st M = am_j (rx_X6_byTwo n) ((tAld 0 1) 35 L st M) := rfl
theorem rs_X6_byTwo_36 (n : Nat) (L : AL) (st : List AV) (M : List AC) : rx_X6_byTwo (n + 1) 36 L st M = am_j (rx_X6_byTwo n) ((tGf 6 16) 36 L st M) := rfl
theorem rs_X6_byTwo_39 (n : Nat) (L : AL) (st : List AV) (M : List AC) : rx_X6_byTwo (n + 1) 39 L st M = am_j (rx_X6_byTwo n) ((tAld 0 1) 39 L st M) := rfl
theorem rs_X6_byTwo_40 (n : Nat) (L : AL) (st : List AV) (M : List AC) : rx_X6_byTwo (n + 1) 40 L st M = am_j (rx_X6_byTwo n) ((tGf 6 20) 40 L st M) := rfl
theorem rs_X6_byTwo_43 (n : Nat) (L : AL) (st : List AV) (M : List AC) : rx_X6_byTwo (n + 1) 43 L st M = am_j (rx_X6_byTwo n) (tIal 43 L st M) := rfl
theorem rs_X6_byTwo_14 (n : Nat) (L : AL) (st : List AV) (M : List AC) : rx_X6_byTwo (n + 1) 14 L st M = am_e rI st M := rfl
theorem rs_X6_byTwo_44 (n : Nat) (L : AL) (st : List AV) (M : List AC) : rx_X6_byTwo (n + 1) 44 L st M = am_e rI st M := rfl
theorem ri_X6_byTwo (c : Prop) [Decidable c] (p q n : Nat) (L : AL) (st : List AV) (M : List AC) : rx_X6_byTwo n (if c then p else q) L st M = if c then rx_X6_byTwo n p L st M else rx_X6_byTwo n q L st M := by split <;> rfl
theorem rm_X6_byTwo {n k pc : Nat} {L : AL} {st : List AV} {M : List AC} {x : Option AV × List AC} (h : rx_X6_byTwo n pc L st M = some x) (hk : n ≤ k) : rx_X6_byTwo k pc L st M = some x := am_r_mono n k h hk
def fn_X6_byTwo : Fn := am_fn rx_X6_byTwo 2
theorem fok_X6_byTwo : Fok mi_X6_byTwo fn_X6_byTwo := fun _ _ _ _ h => am_fok ok_X6_byTwo rk_X6_byTwo rfl h
theorem sp_X6_byTwo {M : List AC} {st lk len ac nx rf lr en lm : Int} {sd : Int64} (h0 : M[26]? = some (mo st lk len ac nx rf lr en lm sd)) {g d b s d' b' s' : F4} (h27 : M[27]? = some (aI (l4 g))) (h28 : M[28]? = some (aI (nw d b s))) (h32 : M[32]? = some (aI (l4 d'))) (h33 : M[33]? = some (aI (l4 b'))) (h34 : M[34]? = some (aI (l4 s'))) (hr : SR st g s d b) {A B P L : List Int} (h36 : M[36]? = some (aI A)) (h37 : M[37]? = some (aI B)) (h38 : M[38]? = some (aI P)) (h39 : M[39]? = some (aI L)) (k1 : A.length = 2401) (k2 : B.length = 2401) (k3 : P.length = 2401) (k4 : L.length = 2401) (hM : 42 < M.length) (m : Int) (hm : -2147483648 ≤ m ∧ m < 2147483648) : ∃ (en1 : Int) (d1 b1 s1 : F4) (S1 : S6), L6 S1 ∧ fn_X6_byTwo [vR 26, vI m] M = some (some (vI (if 1 ≤ m ∧ m ≤ 6 then few (bf6 st g s b m 1 2401 0 (S0 (so d) B P L)) else -2)), U6 ((M.set 33 (aI (l4 b1))).set 34 (aI (l4 s1))) st lk len ac nx rf lr en1 sd d1 S1) := by
  have wm : wr m = m := wr_id (by omega) (by omega)
  by_cases hm1 : 1 ≤ m ∧ m ≤ 6
  · obtain ⟨d1, q⟩ := sp_X6_find h0 h27 h28 h32 h33 h34 hr h36 h37 h38 h39 k1 k2 k3 k4 hM m 1 hm1 (Or.inr rfl)
    have hok := bf6_ok st g s b m 1 2401 0 (S0 (so d) B P L) (by omega) (S0_I6 (so_rng hr.2.2.2.1) k2 k3 k4) S0_T6
    have hH : H6 ((M.set 33 (aI (l4 b))).set 34 (aI (l4 s))) g b s := ⟨by rw [List.length_set, List.length_set]; exact hM, by simp [-List.getElem?_eq_getElem, h27], by simp [-List.getElem?_eq_getElem, gs h33], by simp [-List.getElem?_eq_getElem, gs h34]⟩
    rw [if_pos hm1]
    generalize bf6 st g s b m 1 2401 0 (S0 (so d) B P L) = R at q hok ⊢
    obtain ⟨hI, hT, hR⟩ := hok
    refine ⟨R.2, d1, b, s, R.1, hI.1, ?_⟩
    obtain ⟨u26, -, -, -, -, u36, -⟩ := U6_at hH st lk len ac nx rf lr R.2 sd d1 R.1
    have l1 := hI.1.1
    unfold few
    generalize U6 ((M.set 33 (aI (l4 b))).set 34 (aI (l4 s))) st lk len ac nx rf lr R.2 sd d1 R.1 = V at q u26 u36 ⊢
    simp only [mo] at u26
    rcases hR with e | ⟨e, e2⟩
    · rw [if_pos e]
      rw [e] at u26
      (refine am_fnI (tb := tb_X6_byTwo) (n := 60) (Nat.le_of_ble_eq_true rfl) (Nat.le_of_ble_eq_true rfl) ?_; show rx_X6_byTwo 60 0 _ _ _ = _)
      simp [↓ri_X6_byTwo, rs_X6_byTwo_0, rs_X6_byTwo_1, rs_X6_byTwo_2, rs_X6_byTwo_3, rs_X6_byTwo_6, rs_X6_byTwo_9, rs_X6_byTwo_12, rs_X6_byTwo_15, rs_X6_byTwo_16, rs_X6_byTwo_17, rs_X6_byTwo_18, rs_X6_byTwo_21, rs_X6_byTwo_22, rs_X6_byTwo_25, rs_X6_byTwo_27, rs_X6_byTwo_30, rs_X6_byTwo_32, rs_X6_byTwo_35, rs_X6_byTwo_36, rs_X6_byTwo_39, rs_X6_byTwo_40, rs_X6_byTwo_43, rs_X6_byTwo_14, rs_X6_byTwo_44, -List.getElem?_eq_getElem, am_js, am_e, am_in, am_sl, rI, rZ, rV, rJ, rA, rC, kI, kJ, kR, am_one, am_nl, am_w8, tIc, tLc, tNul, tIld, tLld, tAld, tIst, tLst, tAst, tIinc, tI2, tDv, tL2, tLrem, tLs, tLcmp, tI2l, tL2i, tI2c, tDup, tDup2, tPop, tGo, tIfeq, tIfne, tIflt, tIfge, tIfgt, tIfle, tCmeq, tCmne, tCmlt, tCmge, tCmgt, tCmle, tNu, tTs, tGf, tPf, tGs, tIal, tIas, tBal, tBas, tAln, tSv, tSc, tSb, tSl, tSk, tCv, tCs, tCt, tMx, tMn, wr_10000, wr_100000, wr_1000000, wr_10000000, wr_100000000, wr_2400, wr_9999, wr_0, wr_1, wr_2, wr_3, wr_4, wr_5, wr_6, wr_7, wr_8, wr_9, wr_10, wr_11, wr_12, wr_13, wr_14, wr_15, wr_16, wr_17, wr_18, wr_19, wr_20, wr_21, wr_22, wr_23, wr_24, wr_25, wr_26, wr_27, wr_28, wr_29, wr_30, wr_31, wr_32, wr_33, wr_34, wr_35, wr_36, wr_37, wr_38, wr_39, wr_40, wr_41, wr_42, wr_43, wr_44, wr_45, wr_46, wr_47, wr_48, wr_49, wr_50, wr_51, wr_52, wr_53, wr_54, wr_55, wr_56, wr_57, wr_58, wr_59, wr_60, wr_61, wr_62, wr_63, wr_99, wr_100, wr_192, wr_255, wr_256, wr_343, wr_999, wr_1000, wr_2401, wr_2147483647, wr_65535, wr_m1, wr_m2, wr_m3, wr_m4, wr_m9, ak_1000, ak_1001, ak_1002, ak_0, ak_1, ak_2, ak_3, ak_4, ak_5, ak_6, ak_7, ak_8, ak_9, ak_10, ak_11, ak_12, ak_13, ak_14, ak_15, ak_16, ak_17, ak_18, ak_19, ak_20, ak_21, ak_22, ak_23, ak_24, ak_25, ak_26, ak_27, ak_28, ak_29, ak_30, ak_31, ak_32, ak_33, ak_34, ak_35, ak_36, ak_37, ak_38, ak_39, ak_40, ak_41, ak_42, ak_43, ak_44, ak_45, ak_46, ak_47, sp_X6_in, -Int32.toInt_ofInt, -not_and, wr_eq, jt_0, jt_1, jt_2, jt_3, jt_4, jt_5, jt_6, jt_8, jt_12, jt_30, jt_48, jt_49, jt_51, jt_57, jt_255, jt_9999, wm, hm1, h0, mo, q, u26]
    · have we : wr R.2 = R.2 := wr_id (by omega) (by omega)
      have ne : ¬ R.2 = -9 := by omega
      rw [if_neg ne]
      generalize R.2 = r at q u26 e e2 we ne ⊢
      (refine am_fnI (tb := tb_X6_byTwo) (n := 60) (Nat.le_of_ble_eq_true rfl) (Nat.le_of_ble_eq_true rfl) ?_; show rx_X6_byTwo 60 0 _ _ _ = _)
      simp [↓ri_X6_byTwo, rs_X6_byTwo_0, rs_X6_byTwo_1, rs_X6_byTwo_2, rs_X6_byTwo_3, rs_X6_byTwo_6, rs_X6_byTwo_9, rs_X6_byTwo_12, rs_X6_byTwo_15, rs_X6_byTwo_16, rs_X6_byTwo_17, rs_X6_byTwo_18, rs_X6_byTwo_21, rs_X6_byTwo_22, rs_X6_byTwo_25, rs_X6_byTwo_27, rs_X6_byTwo_30, rs_X6_byTwo_32, rs_X6_byTwo_35, rs_X6_byTwo_36, rs_X6_byTwo_39, rs_X6_byTwo_40, rs_X6_byTwo_43, rs_X6_byTwo_14, rs_X6_byTwo_44, -List.getElem?_eq_getElem, am_js, am_e, am_in, am_sl, rI, rZ, rV, rJ, rA, rC, kI, kJ, kR, am_one, am_nl, am_w8, tIc, tLc, tNul, tIld, tLld, tAld, tIst, tLst, tAst, tIinc, tI2, tDv, tL2, tLrem, tLs, tLcmp, tI2l, tL2i, tI2c, tDup, tDup2, tPop, tGo, tIfeq, tIfne, tIflt, tIfge, tIfgt, tIfle, tCmeq, tCmne, tCmlt, tCmge, tCmgt, tCmle, tNu, tTs, tGf, tPf, tGs, tIal, tIas, tBal, tBas, tAln, tSv, tSc, tSb, tSl, tSk, tCv, tCs, tCt, tMx, tMn, wr_10000, wr_100000, wr_1000000, wr_10000000, wr_100000000, wr_2400, wr_9999, wr_0, wr_1, wr_2, wr_3, wr_4, wr_5, wr_6, wr_7, wr_8, wr_9, wr_10, wr_11, wr_12, wr_13, wr_14, wr_15, wr_16, wr_17, wr_18, wr_19, wr_20, wr_21, wr_22, wr_23, wr_24, wr_25, wr_26, wr_27, wr_28, wr_29, wr_30, wr_31, wr_32, wr_33, wr_34, wr_35, wr_36, wr_37, wr_38, wr_39, wr_40, wr_41, wr_42, wr_43, wr_44, wr_45, wr_46, wr_47, wr_48, wr_49, wr_50, wr_51, wr_52, wr_53, wr_54, wr_55, wr_56, wr_57, wr_58, wr_59, wr_60, wr_61, wr_62, wr_63, wr_99, wr_100, wr_192, wr_255, wr_256, wr_343, wr_999, wr_1000, wr_2401, wr_2147483647, wr_65535, wr_m1, wr_m2, wr_m3, wr_m4, wr_m9, ak_1000, ak_1001, ak_1002, ak_0, ak_1, ak_2, ak_3, ak_4, ak_5, ak_6, ak_7, ak_8, ak_9, ak_10, ak_11, ak_12, ak_13, ak_14, ak_15, ak_16, ak_17, ak_18, ak_19, ak_20, ak_21, ak_22, ak_23, ak_24, ak_25, ak_26, ak_27, ak_28, ak_29, ak_30, ak_31, ak_32, ak_33, ak_34, ak_35, ak_36, ak_37, ak_38, ak_39, ak_40, ak_41, ak_42, ak_43, ak_44, ak_45, ak_46, ak_47, sp_X6_in, -Int32.toInt_ofInt, -not_and, wr_eq, jt_0, jt_1, jt_2, jt_3, jt_4, jt_5, jt_6, jt_8, jt_12, jt_30, jt_48, jt_49, jt_51, jt_57, jt_255, jt_9999, -List.getD_eq_getElem?_getD, wm, hm1, h0, mo, q, u26, u36, we, ne, l1, e]
  · rw [if_neg hm1]
    refine ⟨en, d', b', s', (A, B, P, L, lm), ⟨k1, k2, k3, k4⟩, ?_⟩
    rw [U6_same h0 h32 h33 h34 h36 h37 h38 h39]
    (refine am_fnI (tb := tb_X6_byTwo) (n := 60) (Nat.le_of_ble_eq_true rfl) (Nat.le_of_ble_eq_true rfl) ?_; show rx_X6_byTwo 60 0 _ _ _ = _)
    simp [↓ri_X6_byTwo, rs_X6_byTwo_0, rs_X6_byTwo_1, rs_X6_byTwo_2, rs_X6_byTwo_3, rs_X6_byTwo_6, rs_X6_byTwo_9, rs_X6_byTwo_12, rs_X6_byTwo_15, rs_X6_byTwo_16, rs_X6_byTwo_17, rs_X6_byTwo_18, rs_X6_byTwo_21, rs_X6_byTwo_22, rs_X6_byTwo_25, rs_X6_byTwo_27, rs_X6_byTwo_30, rs_X6_byTwo_32, rs_X6_byTwo_35, rs_X6_byTwo_36, rs_X6_byTwo_39, rs_X6_byTwo_40, rs_X6_byTwo_43, rs_X6_byTwo_14, rs_X6_byTwo_44, -List.getElem?_eq_getElem, am_js, am_e, am_in, am_sl, rI, rZ, rV, rJ, rA, rC, kI, kJ, kR, am_one, am_nl, am_w8, tIc, tLc, tNul, tIld, tLld, tAld, tIst, tLst, tAst, tIinc, tI2, tDv, tL2, tLrem, tLs, tLcmp, tI2l, tL2i, tI2c, tDup, tDup2, tPop, tGo, tIfeq, tIfne, tIflt, tIfge, tIfgt, tIfle, tCmeq, tCmne, tCmlt, tCmge, tCmgt, tCmle, tNu, tTs, tGf, tPf, tGs, tIal, tIas, tBal, tBas, tAln, tSv, tSc, tSb, tSl, tSk, tCv, tCs, tCt, tMx, tMn, wr_10000, wr_100000, wr_1000000, wr_10000000, wr_100000000, wr_2400, wr_9999, wr_0, wr_1, wr_2, wr_3, wr_4, wr_5, wr_6, wr_7, wr_8, wr_9, wr_10, wr_11, wr_12, wr_13, wr_14, wr_15, wr_16, wr_17, wr_18, wr_19, wr_20, wr_21, wr_22, wr_23, wr_24, wr_25, wr_26, wr_27, wr_28, wr_29, wr_30, wr_31, wr_32, wr_33, wr_34, wr_35, wr_36, wr_37, wr_38, wr_39, wr_40, wr_41, wr_42, wr_43, wr_44, wr_45, wr_46, wr_47, wr_48, wr_49, wr_50, wr_51, wr_52, wr_53, wr_54, wr_55, wr_56, wr_57, wr_58, wr_59, wr_60, wr_61, wr_62, wr_63, wr_99, wr_100, wr_192, wr_255, wr_256, wr_343, wr_999, wr_1000, wr_2401, wr_2147483647, wr_65535, wr_m1, wr_m2, wr_m3, wr_m4, wr_m9, ak_1000, ak_1001, ak_1002, ak_0, ak_1, ak_2, ak_3, ak_4, ak_5, ak_6, ak_7, ak_8, ak_9, ak_10, ak_11, ak_12, ak_13, ak_14, ak_15, ak_16, ak_17, ak_18, ak_19, ak_20, ak_21, ak_22, ak_23, ak_24, ak_25, ak_26, ak_27, ak_28, ak_29, ak_30, ak_31, ak_32, ak_33, ak_34, ak_35, ak_36, ak_37, ak_38, ak_39, ak_40, ak_41, ak_42, ak_43, ak_44, ak_45, ak_46, ak_47, sp_X6_in, -Int32.toInt_ofInt, -not_and, wr_eq, jt_0, jt_1, jt_2, jt_3, jt_4, jt_5, jt_6, jt_8, jt_12, jt_30, jt_48, jt_49, jt_51, jt_57, jt_255, jt_9999, wm, hm1]
/-- back along the trail -/
def wk6 (P : List Int) : Nat → Int → Int
  | 0, x => x
  | n + 1, x => wk6 P n (P.getD x.toNat 0)
def fwa (q : S6 × Int) (i : Int) : Int := if q.2 = -9 then -9 else if 0 ≤ i ∧ i ≤ q.1.1.getD q.2.toNat 0 - 1 then q.1.2.1.getD (wk6 q.1.2.2.1 (q.1.1.getD q.2.toNat 0 - 1 - i).toNat q.2).toNat 0 else -9
abbrev mi_X6_fewestAt : Mi := (yX6_fewestAt, cX6_fewestAt, 4, some .int, 10)
theorem mf_X6_fewestAt : am_mf mi_X6_fewestAt 2 := ⟨w_co_X6_fewestAt, w_in_X6, ⟨by decide +kernel, by decide +kernel⟩, by decide +kernel, by decide⟩
def tb_X6_fewestAt : List (Nat × Tr) := [(0, tIld 1 1), (1, tI2l), (2, tLc 1 1), (3, tLc 6 3), (6, tCs 3 fn_X6_in), (9, tIfne 15), (12, tIc (-2) 2), (15, tAld 0 1), (16, tIld 1 1), (17, tIc 0 1), (18, tCv 6 2 fn_X6_find), (21, tAld 0 1), (22, tGf 6 20), (25, tIc (-9) 2), (27, tCmeq 51), (30, tIld 2 1), (31, tI2l), (32, tLc 0 1), (33, tAld 0 1), (34, tGf 6 16), (37, tAld 0 1), (38, tGf 6 20), (41, tIal), (42, tIc 1 1), (43, tI2 (fun a b => a - b)), (44, tI2l), (45, tCs 3 fn_X6_in), (48, tIfne 54), (51, tIc (-9) 2), (54, tAld 0 1), (55, tGf 6 20), (58, tIst 3 1), (59, tAld 0 1), (60, tGf 6 16), (63, tIld 3 1), (64, tIal), (65, tIld 2 1), (66, tIc 1 1), (67, tI2 (fun a b => a + b)), (68, tCmle 81), (71, tAld 0 1), (72, tGf 6 18), (75, tIld 3 1), (76, tIal), (77, tIst 3 1), (78, tGo 59), (81, tAld 0 1), (82, tGf 6 17), (85, tIld 3 1), (86, tIal)]
theorem ok_X6_fewestAt : Tok mi_X6_fewestAt tb_X6_fewestAt :=
  Tc (sd_iload_n dX6_fewestAt_0) <|
  Tc (sd_i2l dX6_fewestAt_1) <|
  Tc (sd_lconst rfl dX6_fewestAt_2) <|
  Tc (sd_ldc2 w_cl_X6_123 dX6_fewestAt_3) <|
  Tc (sd_cs fok_X6_in mf_X6_in w_ml_X6_65 w_st_X6_in (by decide) dX6_fewestAt_6) <|
  Tc (sd_if_ne (by decide) dX6_fewestAt_9) <|
  Tc (sd_bipush (by decide +kernel) dX6_fewestAt_12) <|
  Tc (sd_aload_n dX6_fewestAt_15) <|
  Tc (sd_iload_n dX6_fewestAt_16) <|
  Tc (sd_iconst rfl dX6_fewestAt_17) <|
  Tc (sd_cv (T := TX6) fok_X6_find mf_X6_find rfl w_ml_X6_193 w_im_X6_find w_se_X6_find (by decide) dX6_fewestAt_18) <|
  Tc (sd_aload_n dX6_fewestAt_21) <|
  Tc (sd_getf (T := TX6) rfl giX6 (by decide) w_fl_X6_180 dX6_fewestAt_22) <|
  Tc (sd_bipush (by decide +kernel) dX6_fewestAt_25) <|
  Tc (sd_cm_eq (by decide) dX6_fewestAt_27) <|
  Tc (sd_iload_n dX6_fewestAt_30) <|
  Tc (sd_i2l dX6_fewestAt_31) <|
  Tc (sd_lconst rfl dX6_fewestAt_32) <|
  Tc (sd_aload_n dX6_fewestAt_33) <|
  Tc (sd_getf (T := TX6) rfl giX6 (by decide) w_fl_X6_37 dX6_fewestAt_34) <|
  Tc (sd_aload_n dX6_fewestAt_37) <|
  Tc (sd_getf (T := TX6) rfl giX6 (by decide) w_fl_X6_180 dX6_fewestAt_38) <|
  Tc (sd_ial dX6_fewestAt_41) <|
  Tc (sd_iconst rfl dX6_fewestAt_42) <|
  Tc (sd_isub dX6_fewestAt_43) <|
  Tc (sd_i2l dX6_fewestAt_44) <|
  Tc (sd_cs fok_X6_in mf_X6_in w_ml_X6_65 w_st_X6_in (by decide) dX6_fewestAt_45) <|
  Tc (sd_if_ne (by decide) dX6_fewestAt_48) <|
  Tc (sd_bipush (by decide +kernel) dX6_fewestAt_51) <|
  Tc (sd_aload_n dX6_fewestAt_54) <|
  Tc (sd_getf (T := TX6) rfl giX6 (by decide) w_fl_X6_180 dX6_fewestAt_55) <|
  Tc (sd_istore_n dX6_fewestAt_58) <|
  Tc (sd_aload_n dX6_fewestAt_59) <|
  Tc (sd_getf (T := TX6) rfl giX6 (by decide) w_fl_X6_37 dX6_fewestAt_60) <|
  Tc (sd_iload_n dX6_fewestAt_63) <|
  Tc (sd_ial dX6_fewestAt_64) <|
  Tc (sd_iload_n dX6_fewestAt_65) <|
  Tc (sd_iconst rfl dX6_fewestAt_66) <|
  Tc (sd_iadd dX6_fewestAt_67) <|
  Tc (sd_cm_le (by decide) dX6_fewestAt_68) <|
  Tc (sd_aload_n dX6_fewestAt_71) <|
  Tc (sd_getf (T := TX6) rfl giX6 (by decide) w_fl_X6_43 dX6_fewestAt_72) <|
  Tc (sd_iload_n dX6_fewestAt_75) <|
  Tc (sd_ial dX6_fewestAt_76) <|
  Tc (sd_istore_n dX6_fewestAt_77) <|
  Tc (sd_goto (by decide) dX6_fewestAt_78) <|
  Tc (sd_aload_n dX6_fewestAt_81) <|
  Tc (sd_getf (T := TX6) rfl giX6 (by decide) w_fl_X6_40 dX6_fewestAt_82) <|
  Tc (sd_iload_n dX6_fewestAt_85) <|
  Tc (sd_ial dX6_fewestAt_86) <|
  Tn
theorem rk_X6_fewestAt : Rok mi_X6_fewestAt rI [14, 53, 87] := rk_i dX6_fewestAt_14 <| rk_i dX6_fewestAt_53 <| rk_i dX6_fewestAt_87 <| rk_n
def rx_X6_fewestAt : Nat → Nat → AL → List AV → List AC → Option (Option AV × List AC) := am_r tb_X6_fewestAt rI [14, 53, 87]
theorem rs_X6_fewestAt_0 (n : Nat) (L : AL) (st : List AV) (M : List AC) : rx_X6_fewestAt (n + 1) 0 L st M = am_j (rx_X6_fewestAt n) ((tIld 1 1) 0 L st M) := rfl
theorem rs_X6_fewestAt_1 (n : Nat) (L : AL) (st : List AV) (M : List AC) : rx_X6_fewestAt (n + 1) 1 L st M = am_j (rx_X6_fewestAt n) (tI2l 1 L st M) := rfl
theorem rs_X6_fewestAt_2 (n : Nat) (L : AL) (st : List AV) (M : List AC) : rx_X6_fewestAt (n + 1) 2 L st M = am_j (rx_X6_fewestAt n) ((tLc 1 1) 2 L st M) := rfl
theorem rs_X6_fewestAt_3 (n : Nat) (L : AL) (st : List AV) (M : List AC) : rx_X6_fewestAt (n + 1) 3 L st M = am_j (rx_X6_fewestAt n) ((tLc 6 3) 3 L st M) := rfl
theorem rs_X6_fewestAt_6 (n : Nat) (L : AL) (st : List AV) (M : List AC) : rx_X6_fewestAt (n + 1) 6 L st M = am_j (rx_X6_fewestAt n) ((tCs 3 fn_X6_in) 6 L st M) := rfl
theorem rs_X6_fewestAt_9 (n : Nat) (L : AL) (st : List AV) (M : List AC) : rx_X6_fewestAt (n + 1) 9 L st M = am_j (rx_X6_fewestAt n) ((tIfne 15) 9 L st M) := rfl
theorem rs_X6_fewestAt_12 (n : Nat) (L : AL) (st : List AV) (M : List AC) : rx_X6_fewestAt (n + 1) 12 L st M = am_j (rx_X6_fewestAt n) ((tIc (-2) 2) 12 L st M) := rfl
theorem rs_X6_fewestAt_15 (n : Nat) (L : AL) (st : List AV) (M : List AC) : rx_X6_fewestAt (n + 1) 15 L st M = am_j (rx_X6_fewestAt n) ((tAld 0 1) 15 L st M) := rfl
theorem rs_X6_fewestAt_16 (n : Nat) (L : AL) (st : List AV) (M : List AC) : rx_X6_fewestAt (n + 1) 16 L st M = am_j (rx_X6_fewestAt n) ((tIld 1 1) 16 L st M) := rfl
theorem rs_X6_fewestAt_17 (n : Nat) (L : AL) (st : List AV) (M : List AC) : rx_X6_fewestAt (n + 1) 17 L st M = am_j (rx_X6_fewestAt n) ((tIc 0 1) 17 L st M) := rfl
theorem rs_X6_fewestAt_18 (n : Nat) (L : AL) (st : List AV) (M : List AC) : rx_X6_fewestAt (n + 1) 18 L st M = am_j (rx_X6_fewestAt n) ((tCv 6 2 fn_X6_find) 18 L st M) := rfl
theorem rs_X6_fewestAt_21 (n : Nat) (L : AL) (st : List AV) (M : List AC) : rx_X6_fewestAt (n + 1) 21 L st M = am_j (rx_X6_fewestAt n) ((tAld 0 1) 21 L st M) := rfl
theorem rs_X6_fewestAt_22 (n : Nat) (L : AL) (st : List AV) (M : List AC) : rx_X6_fewestAt (n + 1) 22 L st M = am_j (rx_X6_fewestAt n) ((tGf 6 20) 22 L st M) := rfl
theorem rs_X6_fewestAt_25 (n : Nat) (L : AL) (st : List AV) (M : List AC) : rx_X6_fewestAt (n + 1) 25 L st M = am_j (rx_X6_fewestAt n) ((tIc (-9) 2) 25 L st M) := rfl
theorem rs_X6_fewestAt_27 (n : Nat) (L : AL) (st : List AV) (M : List AC) : rx_X6_fewestAt (n + 1) 27 L st M = am_j (rx_X6_fewestAt n) ((tCmeq 51) 27 L st M) := rfl
theorem rs_X6_fewestAt_30 (n : Nat) (L : AL) (st : List AV) (M : List AC) : rx_X6_fewestAt (n + 1) 30 L st M = am_j (rx_X6_fewestAt n) ((tIld 2 1) 30 L st M) := rfl
theorem rs_X6_fewestAt_31 (n : Nat) (L : AL) (st : List AV) (M : List AC) : rx_X6_fewestAt (n + 1) 31 L st M = am_j (rx_X6_fewestAt n) (tI2l 31 L st M) := rfl
theorem rs_X6_fewestAt_32 (n : Nat) (L : AL) (st : List AV) (M : List AC) : rx_X6_fewestAt (n + 1) 32 L st M = am_j (rx_X6_fewestAt n) ((tLc 0 1) 32 L st M) := rfl
theorem rs_X6_fewestAt_33 (n : Nat) (L : AL) (st : List AV) (M : List AC) : rx_X6_fewestAt (n + 1) 33 L st M = am_j (rx_X6_fewestAt n) ((tAld 0 1) 33 L st M) := rfl
theorem rs_X6_fewestAt_34 (n : Nat) (L : AL) (st : List AV) (M : List AC) : rx_X6_fewestAt (n + 1) 34 L st M = am_j (rx_X6_fewestAt n) ((tGf 6 16) 34 L st M) := rfl
theorem rs_X6_fewestAt_37 (n : Nat) (L : AL) (st : List AV) (M : List AC) : rx_X6_fewestAt (n + 1) 37 L st M = am_j (rx_X6_fewestAt n) ((tAld 0 1) 37 L st M) := rfl
theorem rs_X6_fewestAt_38 (n : Nat) (L : AL) (st : List AV) (M : List AC) : rx_X6_fewestAt (n + 1) 38 L st M = am_j (rx_X6_fewestAt n) ((tGf 6 20) 38 L st M) := rfl
theorem rs_X6_fewestAt_41 (n : Nat) (L : AL) (st : List AV) (M : List AC) : rx_X6_fewestAt (n + 1) 41 L st M = am_j (rx_X6_fewestAt n) (tIal 41 L st M) := rfl
theorem rs_X6_fewestAt_42 (n : Nat) (L : AL) (st : List AV) (M : List AC) : rx_X6_fewestAt (n + 1) 42 L st M = am_j (rx_X6_fewestAt n) ((tIc 1 1) 42 L st M) := rfl
theorem rs_X6_fewestAt_43 (n : Nat) (L : AL) (st : List AV) (M : List AC) : rx_X6_fewestAt (n + 1) 43 L st M = am_j (rx_X6_fewestAt n) ((tI2 (fun a b => a - b)) 43 L st M) := rfl
theorem rs_X6_fewestAt_44 (n : Nat) (L : AL) (st : List AV) (M : List AC) : rx_X6_fewestAt (n + 1) 44 L st M = am_j (rx_X6_fewestAt n) (tI2l 44 L st M) := rfl
theorem rs_X6_fewestAt_45 (n : Nat) (L : AL) (st : List AV) (M : List AC) : rx_X6_fewestAt (n + 1) 45 L st M = am_j (rx_X6_fewestAt n) ((tCs 3 fn_X6_in) 45 L st M) := rfl
theorem rs_X6_fewestAt_48 (n : Nat) (L : AL) (st : List AV) (M : List AC) : rx_X6_fewestAt (n + 1) 48 L st M = am_j (rx_X6_fewestAt n) ((tIfne 54) 48 L st M) := rfl
theorem rs_X6_fewestAt_51 (n : Nat) (L : AL) (st : List AV) (M : List AC) : rx_X6_fewestAt (n + 1) 51 L st M = am_j (rx_X6_fewestAt n) ((tIc (-9) 2) 51 L st M) := rfl
theorem rs_X6_fewestAt_54 (n : Nat) (L : AL) (st : List AV) (M : List AC) : rx_X6_fewestAt (n + 1) 54 L st M = am_j (rx_X6_fewestAt n) ((tAld 0 1) 54 L st M) := rfl
theorem rs_X6_fewestAt_55 (n : Nat) (L : AL) (st : List AV) (M : List AC) : rx_X6_fewestAt (n + 1) 55 L st M = am_j (rx_X6_fewestAt n) ((tGf 6 20) 55 L st M) := rfl
theorem rs_X6_fewestAt_58 (n : Nat) (L : AL) (st : List AV) (M : List AC) : rx_X6_fewestAt (n + 1) 58 L st M = am_j (rx_X6_fewestAt n) ((tIst 3 1) 58 L st M) := rfl
theorem rs_X6_fewestAt_59 (n : Nat) (L : AL) (st : List AV) (M : List AC) : rx_X6_fewestAt (n + 1) 59 L st M = am_j (rx_X6_fewestAt n) ((tAld 0 1) 59 L st M) := rfl
theorem rs_X6_fewestAt_60 (n : Nat) (L : AL) (st : List AV) (M : List AC) : rx_X6_fewestAt (n + 1) 60 L st M = am_j (rx_X6_fewestAt n) ((tGf 6 16) 60 L st M) := rfl
theorem rs_X6_fewestAt_63 (n : Nat) (L : AL) (st : List AV) (M : List AC) : rx_X6_fewestAt (n + 1) 63 L st M = am_j (rx_X6_fewestAt n) ((tIld 3 1) 63 L st M) := rfl
theorem rs_X6_fewestAt_64 (n : Nat) (L : AL) (st : List AV) (M : List AC) : rx_X6_fewestAt (n + 1) 64 L st M = am_j (rx_X6_fewestAt n) (tIal 64 L st M) := rfl
theorem rs_X6_fewestAt_65 (n : Nat) (L : AL) (st : List AV) (M : List AC) : rx_X6_fewestAt (n + 1) 65 L st M = am_j (rx_X6_fewestAt n) ((tIld 2 1) 65 L st M) := rfl
theorem rs_X6_fewestAt_66 (n : Nat) (L : AL) (st : List AV) (M : List AC) : rx_X6_fewestAt (n + 1) 66 L st M = am_j (rx_X6_fewestAt n) ((tIc 1 1) 66 L st M) := rfl
theorem rs_X6_fewestAt_67 (n : Nat) (L : AL) (st : List AV) (M : List AC) : rx_X6_fewestAt (n + 1) 67 L st M = am_j (rx_X6_fewestAt n) ((tI2 (fun a b => a + b)) 67 L st M) := rfl
theorem rs_X6_fewestAt_68 (n : Nat) (L : AL) (st : List AV) (M : List AC) : rx_X6_fewestAt (n + 1) 68 L st M = am_j (rx_X6_fewestAt n) ((tCmle 81) 68 L st M) := rfl
theorem rs_X6_fewestAt_71 (n : Nat) (L : AL) (st : List AV) (M : List AC) : rx_X6_fewestAt (n + 1) 71 L st M = am_j (rx_X6_fewestAt n) ((tAld 0 1) 71 L st M) := rfl
theorem rs_X6_fewestAt_72 (n : Nat) (L : AL) (st : List AV) (M : List AC) : rx_X6_fewestAt (n + 1) 72 L st M = am_j (rx_X6_fewestAt n) ((tGf 6 18) 72 L st M) := rfl
theorem rs_X6_fewestAt_75 (n : Nat) (L : AL) (st : List AV) (M : List AC) : rx_X6_fewestAt (n + 1) 75 L st M = am_j (rx_X6_fewestAt n) ((tIld 3 1) 75 L st M) := rfl
theorem rs_X6_fewestAt_76 (n : Nat) (L : AL) (st : List AV) (M : List AC) : rx_X6_fewestAt (n + 1) 76 L st M = am_j (rx_X6_fewestAt n) (tIal 76 L st M) := rfl
theorem rs_X6_fewestAt_77 (n : Nat) (L : AL) (st : List AV) (M : List AC) : rx_X6_fewestAt (n + 1) 77 L st M = am_j (rx_X6_fewestAt n) ((tIst 3 1) 77 L st M) := rfl
theorem rs_X6_fewestAt_78 (n : Nat) (L : AL) (st : List AV) (M : List AC) : rx_X6_fewestAt (n + 1) 78 L st M = am_j (rx_X6_fewestAt n) ((tGo 59) 78 L st M) := rfl
theorem rs_X6_fewestAt_81 (n : Nat) (L : AL) (st : List AV) (M : List AC) : rx_X6_fewestAt (n + 1) 81 L st M = am_j (rx_X6_fewestAt n) ((tAld 0 1) 81 L st M) := rfl
theorem rs_X6_fewestAt_82 (n : Nat) (L : AL) (st : List AV) (M : List AC) : rx_X6_fewestAt (n + 1) 82 L st M = am_j (rx_X6_fewestAt n) ((tGf 6 17) 82 L st M) := rfl
theorem rs_X6_fewestAt_85 (n : Nat) (L : AL) (st : List AV) (M : List AC) : rx_X6_fewestAt (n + 1) 85 L st M = am_j (rx_X6_fewestAt n) ((tIld 3 1) 85 L st M) := rfl
theorem rs_X6_fewestAt_86 (n : Nat) (L : AL) (st : List AV) (M : List AC) : rx_X6_fewestAt (n + 1) 86 L st M = am_j (rx_X6_fewestAt n) (tIal 86 L st M) := rfl
theorem rs_X6_fewestAt_14 (n : Nat) (L : AL) (st : List AV) (M : List AC) : rx_X6_fewestAt (n + 1) 14 L st M = am_e rI st M := rfl
theorem rs_X6_fewestAt_53 (n : Nat) (L : AL) (st : List AV) (M : List AC) : rx_X6_fewestAt (n + 1) 53 L st M = am_e rI st M := rfl
theorem rs_X6_fewestAt_87 (n : Nat) (L : AL) (st : List AV) (M : List AC) : rx_X6_fewestAt (n + 1) 87 L st M = am_e rI st M := rfl
theorem ri_X6_fewestAt (c : Prop) [Decidable c] (p q n : Nat) (L : AL) (st : List AV) (M : List AC) : rx_X6_fewestAt n (if c then p else q) L st M = if c then rx_X6_fewestAt n p L st M else rx_X6_fewestAt n q L st M := by split <;> rfl
theorem rm_X6_fewestAt {n k pc : Nat} {L : AL} {st : List AV} {M : List AC} {x : Option AV × List AC} (h : rx_X6_fewestAt n pc L st M = some x) (hk : n ≤ k) : rx_X6_fewestAt k pc L st M = some x := am_r_mono n k h hk
def fn_X6_fewestAt : Fn := am_fn rx_X6_fewestAt 4
theorem fok_X6_fewestAt : Fok mi_X6_fewestAt fn_X6_fewestAt := fun _ _ _ _ h => am_fok ok_X6_fewestAt rk_X6_fewestAt rfl h
theorem lp_X6_fewestAt {V : List AC} {st lk len ac nx rf lr en : Int} {sd : Int64} {S : S6} (v26 : V[26]? = some (mo st lk len ac nx rf lr en S.2.2.2.2 sd)) (v36 : V[36]? = some (aI S.1)) (v37 : V[37]? = some (aI S.2.1)) (v38 : V[38]? = some (aI S.2.2.1)) (hI : I6 S) (hT : T6 S) (m i : Int) (hi : 0 ≤ i ∧ i < 2401) : ∀ (n : Nat) (x : Int), 0 ≤ x ∧ x < 2401 → S.1.getD x.toNat 0 = i + 1 + n →
    Ru rx_X6_fewestAt (40 * n + 30) 59 [some (vR 26), some (vI m), some (vI i), some (vI x)] [] V (some (vI (S.2.1.getD (wk6 S.2.2.1 n x).toNat 0)), V)
  | 0, x, hx, hf => by
    obtain ⟨⟨l1, l2, l3, l4'⟩, -⟩ := hI
    have wx : wr x = x := by clear hf; exact wr_id (by omega) (by omega)
    have wi : wr (i + 1) = i + 1 := by clear hf; exact wr_id (by omega) (by omega)
    have hf' : S.1.getD x.toNat 0 = i + 1 := by rw [hf]; exact Int.add_zero _
    refine ⟨29 + 1, by clear hf hf'; omega, ?_⟩
    rw [rs_X6_fewestAt_59, wk6]
    clear hf
    simp only [mo] at v26
    simp [↓ri_X6_fewestAt, rs_X6_fewestAt_0, rs_X6_fewestAt_1, rs_X6_fewestAt_2, rs_X6_fewestAt_3, rs_X6_fewestAt_6, rs_X6_fewestAt_9, rs_X6_fewestAt_12, rs_X6_fewestAt_15, rs_X6_fewestAt_16, rs_X6_fewestAt_17, rs_X6_fewestAt_18, rs_X6_fewestAt_21, rs_X6_fewestAt_22, rs_X6_fewestAt_25, rs_X6_fewestAt_27, rs_X6_fewestAt_30, rs_X6_fewestAt_31, rs_X6_fewestAt_32, rs_X6_fewestAt_33, rs_X6_fewestAt_34, rs_X6_fewestAt_37, rs_X6_fewestAt_38, rs_X6_fewestAt_41, rs_X6_fewestAt_42, rs_X6_fewestAt_43, rs_X6_fewestAt_44, rs_X6_fewestAt_45, rs_X6_fewestAt_48, rs_X6_fewestAt_51, rs_X6_fewestAt_54, rs_X6_fewestAt_55, rs_X6_fewestAt_58, rs_X6_fewestAt_60, rs_X6_fewestAt_63, rs_X6_fewestAt_64, rs_X6_fewestAt_65, rs_X6_fewestAt_66, rs_X6_fewestAt_67, rs_X6_fewestAt_68, rs_X6_fewestAt_71, rs_X6_fewestAt_72, rs_X6_fewestAt_75, rs_X6_fewestAt_76, rs_X6_fewestAt_77, rs_X6_fewestAt_78, rs_X6_fewestAt_81, rs_X6_fewestAt_82, rs_X6_fewestAt_85, rs_X6_fewestAt_86, rs_X6_fewestAt_14, rs_X6_fewestAt_53, rs_X6_fewestAt_87, -List.getElem?_eq_getElem, am_js, am_e, am_in, am_sl, rI, rZ, rV, rJ, rA, rC, kI, kJ, kR, am_one, am_nl, am_w8, tIc, tLc, tNul, tIld, tLld, tAld, tIst, tLst, tAst, tIinc, tI2, tDv, tL2, tLrem, tLs, tLcmp, tI2l, tL2i, tI2c, tDup, tDup2, tPop, tGo, tIfeq, tIfne, tIflt, tIfge, tIfgt, tIfle, tCmeq, tCmne, tCmlt, tCmge, tCmgt, tCmle, tNu, tTs, tGf, tPf, tGs, tIal, tIas, tBal, tBas, tAln, tSv, tSc, tSb, tSl, tSk, tCv, tCs, tCt, tMx, tMn, wr_10000, wr_100000, wr_1000000, wr_10000000, wr_100000000, wr_2400, wr_9999, wr_0, wr_1, wr_2, wr_3, wr_4, wr_5, wr_6, wr_7, wr_8, wr_9, wr_10, wr_11, wr_12, wr_13, wr_14, wr_15, wr_16, wr_17, wr_18, wr_19, wr_20, wr_21, wr_22, wr_23, wr_24, wr_25, wr_26, wr_27, wr_28, wr_29, wr_30, wr_31, wr_32, wr_33, wr_34, wr_35, wr_36, wr_37, wr_38, wr_39, wr_40, wr_41, wr_42, wr_43, wr_44, wr_45, wr_46, wr_47, wr_48, wr_49, wr_50, wr_51, wr_52, wr_53, wr_54, wr_55, wr_56, wr_57, wr_58, wr_59, wr_60, wr_61, wr_62, wr_63, wr_99, wr_100, wr_192, wr_255, wr_256, wr_343, wr_999, wr_1000, wr_2401, wr_2147483647, wr_65535, wr_m1, wr_m2, wr_m3, wr_m4, wr_m9, ak_1000, ak_1001, ak_1002, ak_0, ak_1, ak_2, ak_3, ak_4, ak_5, ak_6, ak_7, ak_8, ak_9, ak_10, ak_11, ak_12, ak_13, ak_14, ak_15, ak_16, ak_17, ak_18, ak_19, ak_20, ak_21, ak_22, ak_23, ak_24, ak_25, ak_26, ak_27, ak_28, ak_29, ak_30, ak_31, ak_32, ak_33, ak_34, ak_35, ak_36, ak_37, ak_38, ak_39, ak_40, ak_41, ak_42, ak_43, ak_44, ak_45, ak_46, ak_47, -List.getD_eq_getElem?_getD, v26, v36, v37, l1, l2, wx, wi, hx, hf']
  | n + 1, x, hx, hf => by
    obtain ⟨hp, hq⟩ := hT x.toNat (by clear hf; omega) (by rw [hf]; omega)
    have hle := hI.le
    have hlt := (hI.2.1 x.toNat).resolve_left (by rw [hf]; omega)
    obtain ⟨⟨l1, l2, l3, l4'⟩, -⟩ := id hI
    have wx : wr x = x := by clear hf hq; exact wr_id (by omega) (by omega)
    have wi : wr (i + 1) = i + 1 := by clear hf hq; exact wr_id (by omega) (by omega)
    rw [hf] at hq hlt
    have wf : wr (i + 1 + ((n + 1 : Nat) : Int)) = i + 1 + ((n + 1 : Nat) : Int) := by clear hf hq; exact wr_id (by omega) (by omega)
    have gf : ¬ i + 1 + ((n + 1 : Nat) : Int) ≤ i + 1 := by clear hf hq; omega
    have hq' : S.1.getD (S.2.2.1.getD x.toNat 0).toNat 0 = i + 1 + n := by rw [hq]; clear hf hq; omega
    obtain ⟨k, hk, h⟩ := lp_X6_fewestAt v26 v36 v37 v38 hI hT m i hi n (S.2.2.1.getD x.toNat 0) hp hq'
    refine ⟨k + 39 + 1, by clear hf hq hq'; omega, ?_⟩
    rw [rs_X6_fewestAt_59, wk6]
    generalize S.2.1.getD (wk6 S.2.2.1 n (S.2.2.1.getD x.toNat 0)).toNat 0 = y at h ⊢
    simp only [mo] at v26
    clear hq hq' hp hlt
    generalize i + 1 + ((n + 1 : Nat) : Int) = f at hf wf gf
    generalize hpx : S.2.2.1.getD x.toNat 0 = px at h
    simp [↓ri_X6_fewestAt, rs_X6_fewestAt_0, rs_X6_fewestAt_1, rs_X6_fewestAt_2, rs_X6_fewestAt_3, rs_X6_fewestAt_6, rs_X6_fewestAt_9, rs_X6_fewestAt_12, rs_X6_fewestAt_15, rs_X6_fewestAt_16, rs_X6_fewestAt_17, rs_X6_fewestAt_18, rs_X6_fewestAt_21, rs_X6_fewestAt_22, rs_X6_fewestAt_25, rs_X6_fewestAt_27, rs_X6_fewestAt_30, rs_X6_fewestAt_31, rs_X6_fewestAt_32, rs_X6_fewestAt_33, rs_X6_fewestAt_34, rs_X6_fewestAt_37, rs_X6_fewestAt_38, rs_X6_fewestAt_41, rs_X6_fewestAt_42, rs_X6_fewestAt_43, rs_X6_fewestAt_44, rs_X6_fewestAt_45, rs_X6_fewestAt_48, rs_X6_fewestAt_51, rs_X6_fewestAt_54, rs_X6_fewestAt_55, rs_X6_fewestAt_58, rs_X6_fewestAt_60, rs_X6_fewestAt_63, rs_X6_fewestAt_64, rs_X6_fewestAt_65, rs_X6_fewestAt_66, rs_X6_fewestAt_67, rs_X6_fewestAt_68, rs_X6_fewestAt_71, rs_X6_fewestAt_72, rs_X6_fewestAt_75, rs_X6_fewestAt_76, rs_X6_fewestAt_77, rs_X6_fewestAt_78, rs_X6_fewestAt_81, rs_X6_fewestAt_82, rs_X6_fewestAt_85, rs_X6_fewestAt_86, rs_X6_fewestAt_14, rs_X6_fewestAt_53, rs_X6_fewestAt_87, -List.getElem?_eq_getElem, am_js, am_e, am_in, am_sl, rI, rZ, rV, rJ, rA, rC, kI, kJ, kR, am_one, am_nl, am_w8, tIc, tLc, tNul, tIld, tLld, tAld, tIst, tLst, tAst, tIinc, tI2, tDv, tL2, tLrem, tLs, tLcmp, tI2l, tL2i, tI2c, tDup, tDup2, tPop, tGo, tIfeq, tIfne, tIflt, tIfge, tIfgt, tIfle, tCmeq, tCmne, tCmlt, tCmge, tCmgt, tCmle, tNu, tTs, tGf, tPf, tGs, tIal, tIas, tBal, tBas, tAln, tSv, tSc, tSb, tSl, tSk, tCv, tCs, tCt, tMx, tMn, wr_10000, wr_100000, wr_1000000, wr_10000000, wr_100000000, wr_2400, wr_9999, wr_0, wr_1, wr_2, wr_3, wr_4, wr_5, wr_6, wr_7, wr_8, wr_9, wr_10, wr_11, wr_12, wr_13, wr_14, wr_15, wr_16, wr_17, wr_18, wr_19, wr_20, wr_21, wr_22, wr_23, wr_24, wr_25, wr_26, wr_27, wr_28, wr_29, wr_30, wr_31, wr_32, wr_33, wr_34, wr_35, wr_36, wr_37, wr_38, wr_39, wr_40, wr_41, wr_42, wr_43, wr_44, wr_45, wr_46, wr_47, wr_48, wr_49, wr_50, wr_51, wr_52, wr_53, wr_54, wr_55, wr_56, wr_57, wr_58, wr_59, wr_60, wr_61, wr_62, wr_63, wr_99, wr_100, wr_192, wr_255, wr_256, wr_343, wr_999, wr_1000, wr_2401, wr_2147483647, wr_65535, wr_m1, wr_m2, wr_m3, wr_m4, wr_m9, ak_1000, ak_1001, ak_1002, ak_0, ak_1, ak_2, ak_3, ak_4, ak_5, ak_6, ak_7, ak_8, ak_9, ak_10, ak_11, ak_12, ak_13, ak_14, ak_15, ak_16, ak_17, ak_18, ak_19, ak_20, ak_21, ak_22, ak_23, ak_24, ak_25, ak_26, ak_27, ak_28, ak_29, ak_30, ak_31, ak_32, ak_33, ak_34, ak_35, ak_36, ak_37, ak_38, ak_39, ak_40, ak_41, ak_42, ak_43, ak_44, ak_45, ak_46, ak_47, -List.getD_eq_getElem?_getD, v26, v36, v38, l1, l3, wx, wi, hx, hf, wf, gf, hpx]
    exact rm_X6_fewestAt h (by clear hf hpx; omega)
theorem sp_X6_fewestAt {M : List AC} {st lk len ac nx rf lr en lm : Int} {sd : Int64} (h0 : M[26]? = some (mo st lk len ac nx rf lr en lm sd)) {g d b s d' b' s' : F4} (h27 : M[27]? = some (aI (l4 g))) (h28 : M[28]? = some (aI (nw d b s))) (h32 : M[32]? = some (aI (l4 d'))) (h33 : M[33]? = some (aI (l4 b'))) (h34 : M[34]? = some (aI (l4 s'))) (hr : SR st g s d b) {A B P L : List Int} (h36 : M[36]? = some (aI A)) (h37 : M[37]? = some (aI B)) (h38 : M[38]? = some (aI P)) (h39 : M[39]? = some (aI L)) (k1 : A.length = 2401) (k2 : B.length = 2401) (k3 : P.length = 2401) (k4 : L.length = 2401) (hM : 42 < M.length) (m i : Int) (hm : -2147483648 ≤ m ∧ m < 2147483648) (hi : -2147483648 ≤ i ∧ i < 2147483648) : ∃ (en1 : Int) (d1 b1 s1 : F4) (S1 : S6), L6 S1 ∧ fn_X6_fewestAt [vR 26, vI m, vI i] M = some (some (vI (if 1 ≤ m ∧ m ≤ 6 then fwa (bf6 st g s b m 0 2401 0 (S0 (so d) B P L)) i else -2)), U6 ((M.set 33 (aI (l4 b1))).set 34 (aI (l4 s1))) st lk len ac nx rf lr en1 sd d1 S1) := by
  have wm : wr m = m := wr_id (by omega) (by omega)
  have wi : wr i = i := wr_id (by omega) (by omega)
  by_cases hm1 : 1 ≤ m ∧ m ≤ 6
  · obtain ⟨d1, q⟩ := sp_X6_find h0 h27 h28 h32 h33 h34 hr h36 h37 h38 h39 k1 k2 k3 k4 hM m 0 hm1 (Or.inl rfl)
    have hok := bf6_ok st g s b m 0 2401 0 (S0 (so d) B P L) (by omega) (S0_I6 (so_rng hr.2.2.2.1) k2 k3 k4) S0_T6
    have hH : H6 ((M.set 33 (aI (l4 b))).set 34 (aI (l4 s))) g b s := ⟨by rw [List.length_set, List.length_set]; exact hM, by simp [-List.getElem?_eq_getElem, h27], by simp [-List.getElem?_eq_getElem, gs h33], by simp [-List.getElem?_eq_getElem, gs h34]⟩
    rw [if_pos hm1]
    generalize bf6 st g s b m 0 2401 0 (S0 (so d) B P L) = R at q hok ⊢
    obtain ⟨hI, hT, hR⟩ := hok
    refine ⟨R.2, d1, b, s, R.1, hI.1, ?_⟩
    obtain ⟨u26, -, -, -, -, u36, u37, u38, -⟩ := U6_at hH st lk len ac nx rf lr R.2 sd d1 R.1
    have l1 := hI.1.1
    unfold fwa
    generalize U6 ((M.set 33 (aI (l4 b))).set 34 (aI (l4 s))) st lk len ac nx rf lr R.2 sd d1 R.1 = V at q u26 u36 u37 u38 ⊢
    rcases hR with e | ⟨e, e2⟩
    · rw [if_pos e]
      rw [e] at u26
      simp only [mo] at u26
      (refine am_fnI (tb := tb_X6_fewestAt) (n := 60) (Nat.le_of_ble_eq_true rfl) (Nat.le_of_ble_eq_true rfl) ?_; show rx_X6_fewestAt 60 0 _ _ _ = _)
      simp [↓ri_X6_fewestAt, rs_X6_fewestAt_0, rs_X6_fewestAt_1, rs_X6_fewestAt_2, rs_X6_fewestAt_3, rs_X6_fewestAt_6, rs_X6_fewestAt_9, rs_X6_fewestAt_12, rs_X6_fewestAt_15, rs_X6_fewestAt_16, rs_X6_fewestAt_17, rs_X6_fewestAt_18, rs_X6_fewestAt_21, rs_X6_fewestAt_22, rs_X6_fewestAt_25, rs_X6_fewestAt_27, rs_X6_fewestAt_30, rs_X6_fewestAt_31, rs_X6_fewestAt_32, rs_X6_fewestAt_33, rs_X6_fewestAt_34, rs_X6_fewestAt_37, rs_X6_fewestAt_38, rs_X6_fewestAt_41, rs_X6_fewestAt_42, rs_X6_fewestAt_43, rs_X6_fewestAt_44, rs_X6_fewestAt_45, rs_X6_fewestAt_48, rs_X6_fewestAt_51, rs_X6_fewestAt_54, rs_X6_fewestAt_55, rs_X6_fewestAt_58, rs_X6_fewestAt_59, rs_X6_fewestAt_60, rs_X6_fewestAt_63, rs_X6_fewestAt_64, rs_X6_fewestAt_65, rs_X6_fewestAt_66, rs_X6_fewestAt_67, rs_X6_fewestAt_68, rs_X6_fewestAt_71, rs_X6_fewestAt_72, rs_X6_fewestAt_75, rs_X6_fewestAt_76, rs_X6_fewestAt_77, rs_X6_fewestAt_78, rs_X6_fewestAt_81, rs_X6_fewestAt_82, rs_X6_fewestAt_85, rs_X6_fewestAt_86, rs_X6_fewestAt_14, rs_X6_fewestAt_53, rs_X6_fewestAt_87, -List.getElem?_eq_getElem, am_js, am_e, am_in, am_sl, rI, rZ, rV, rJ, rA, rC, kI, kJ, kR, am_one, am_nl, am_w8, tIc, tLc, tNul, tIld, tLld, tAld, tIst, tLst, tAst, tIinc, tI2, tDv, tL2, tLrem, tLs, tLcmp, tI2l, tL2i, tI2c, tDup, tDup2, tPop, tGo, tIfeq, tIfne, tIflt, tIfge, tIfgt, tIfle, tCmeq, tCmne, tCmlt, tCmge, tCmgt, tCmle, tNu, tTs, tGf, tPf, tGs, tIal, tIas, tBal, tBas, tAln, tSv, tSc, tSb, tSl, tSk, tCv, tCs, tCt, tMx, tMn, wr_10000, wr_100000, wr_1000000, wr_10000000, wr_100000000, wr_2400, wr_9999, wr_0, wr_1, wr_2, wr_3, wr_4, wr_5, wr_6, wr_7, wr_8, wr_9, wr_10, wr_11, wr_12, wr_13, wr_14, wr_15, wr_16, wr_17, wr_18, wr_19, wr_20, wr_21, wr_22, wr_23, wr_24, wr_25, wr_26, wr_27, wr_28, wr_29, wr_30, wr_31, wr_32, wr_33, wr_34, wr_35, wr_36, wr_37, wr_38, wr_39, wr_40, wr_41, wr_42, wr_43, wr_44, wr_45, wr_46, wr_47, wr_48, wr_49, wr_50, wr_51, wr_52, wr_53, wr_54, wr_55, wr_56, wr_57, wr_58, wr_59, wr_60, wr_61, wr_62, wr_63, wr_99, wr_100, wr_192, wr_255, wr_256, wr_343, wr_999, wr_1000, wr_2401, wr_2147483647, wr_65535, wr_m1, wr_m2, wr_m3, wr_m4, wr_m9, ak_1000, ak_1001, ak_1002, ak_0, ak_1, ak_2, ak_3, ak_4, ak_5, ak_6, ak_7, ak_8, ak_9, ak_10, ak_11, ak_12, ak_13, ak_14, ak_15, ak_16, ak_17, ak_18, ak_19, ak_20, ak_21, ak_22, ak_23, ak_24, ak_25, ak_26, ak_27, ak_28, ak_29, ak_30, ak_31, ak_32, ak_33, ak_34, ak_35, ak_36, ak_37, ak_38, ak_39, ak_40, ak_41, ak_42, ak_43, ak_44, ak_45, ak_46, ak_47, sp_X6_in, -Int32.toInt_ofInt, -not_and, wr_eq, jt_0, jt_1, jt_2, jt_3, jt_4, jt_5, jt_6, jt_8, jt_12, jt_30, jt_48, jt_49, jt_51, jt_57, jt_255, jt_9999, wm, hm1, h0, mo, q, u26]
    · have we : wr R.2 = R.2 := wr_id (by omega) (by omega)
      have ne : ¬ R.2 = -9 := by omega
      rw [if_neg ne]
      have hfl := (hI.2.1 R.2.toNat).resolve_left (by intro z; rw [z] at e2; exact absurd e2 (by decide))
      have hle := hI.le
      generalize hff : R.1.1.getD R.2.toNat 0 = f at e2 hfl ⊢
      have wb : (f - 1).bmod 4294967296 = f - 1 := by clear hff; exact Int.bmod_eq_of_le (by omega) (by omega)
      have wf : wr f = f := by clear hff; exact wr_id (by omega) (by omega)
      have wf1 : wr (f - 1) = f - 1 := by clear hff; exact wr_id (by omega) (by omega)
      by_cases hif : 0 ≤ i ∧ i ≤ f - 1
      · rw [if_pos hif]
        obtain ⟨k, hk, h⟩ := lp_X6_fewestAt u26 u36 u37 u38 hI hT m i (by clear hff; omega) (f - 1 - i).toNat R.2 e (by rw [hff]; clear hff; omega)
        generalize R.1.2.1.getD (wk6 R.1.2.2.1 (f - 1 - i).toNat R.2).toNat 0 = y at h ⊢
        generalize R.2 = r at q u26 e we ne hff h
        simp only [mo] at u26
        (refine am_fnR (tb := tb_X6_fewestAt) (N := 200000) (Nat.le_of_ble_eq_true rfl) (Nat.le_of_ble_eq_true rfl) ?_; show Ru rx_X6_fewestAt 200000 0 _ _ _ _)
        refine ⟨k + 60, by clear hff; omega, ?_⟩
        simp [↓ri_X6_fewestAt, rs_X6_fewestAt_0, rs_X6_fewestAt_1, rs_X6_fewestAt_2, rs_X6_fewestAt_3, rs_X6_fewestAt_6, rs_X6_fewestAt_9, rs_X6_fewestAt_12, rs_X6_fewestAt_15, rs_X6_fewestAt_16, rs_X6_fewestAt_17, rs_X6_fewestAt_18, rs_X6_fewestAt_21, rs_X6_fewestAt_22, rs_X6_fewestAt_25, rs_X6_fewestAt_27, rs_X6_fewestAt_30, rs_X6_fewestAt_31, rs_X6_fewestAt_32, rs_X6_fewestAt_33, rs_X6_fewestAt_34, rs_X6_fewestAt_37, rs_X6_fewestAt_38, rs_X6_fewestAt_41, rs_X6_fewestAt_42, rs_X6_fewestAt_43, rs_X6_fewestAt_44, rs_X6_fewestAt_45, rs_X6_fewestAt_48, rs_X6_fewestAt_51, rs_X6_fewestAt_54, rs_X6_fewestAt_55, rs_X6_fewestAt_58, rs_X6_fewestAt_60, rs_X6_fewestAt_63, rs_X6_fewestAt_64, rs_X6_fewestAt_65, rs_X6_fewestAt_66, rs_X6_fewestAt_67, rs_X6_fewestAt_68, rs_X6_fewestAt_71, rs_X6_fewestAt_72, rs_X6_fewestAt_75, rs_X6_fewestAt_76, rs_X6_fewestAt_77, rs_X6_fewestAt_78, rs_X6_fewestAt_81, rs_X6_fewestAt_82, rs_X6_fewestAt_85, rs_X6_fewestAt_86, rs_X6_fewestAt_14, rs_X6_fewestAt_53, rs_X6_fewestAt_87, -List.getElem?_eq_getElem, am_js, am_e, am_in, am_sl, rI, rZ, rV, rJ, rA, rC, kI, kJ, kR, am_one, am_nl, am_w8, tIc, tLc, tNul, tIld, tLld, tAld, tIst, tLst, tAst, tIinc, tI2, tDv, tL2, tLrem, tLs, tLcmp, tI2l, tL2i, tI2c, tDup, tDup2, tPop, tGo, tIfeq, tIfne, tIflt, tIfge, tIfgt, tIfle, tCmeq, tCmne, tCmlt, tCmge, tCmgt, tCmle, tNu, tTs, tGf, tPf, tGs, tIal, tIas, tBal, tBas, tAln, tSv, tSc, tSb, tSl, tSk, tCv, tCs, tCt, tMx, tMn, wr_10000, wr_100000, wr_1000000, wr_10000000, wr_100000000, wr_2400, wr_9999, wr_0, wr_1, wr_2, wr_3, wr_4, wr_5, wr_6, wr_7, wr_8, wr_9, wr_10, wr_11, wr_12, wr_13, wr_14, wr_15, wr_16, wr_17, wr_18, wr_19, wr_20, wr_21, wr_22, wr_23, wr_24, wr_25, wr_26, wr_27, wr_28, wr_29, wr_30, wr_31, wr_32, wr_33, wr_34, wr_35, wr_36, wr_37, wr_38, wr_39, wr_40, wr_41, wr_42, wr_43, wr_44, wr_45, wr_46, wr_47, wr_48, wr_49, wr_50, wr_51, wr_52, wr_53, wr_54, wr_55, wr_56, wr_57, wr_58, wr_59, wr_60, wr_61, wr_62, wr_63, wr_99, wr_100, wr_192, wr_255, wr_256, wr_343, wr_999, wr_1000, wr_2401, wr_2147483647, wr_65535, wr_m1, wr_m2, wr_m3, wr_m4, wr_m9, ak_1000, ak_1001, ak_1002, ak_0, ak_1, ak_2, ak_3, ak_4, ak_5, ak_6, ak_7, ak_8, ak_9, ak_10, ak_11, ak_12, ak_13, ak_14, ak_15, ak_16, ak_17, ak_18, ak_19, ak_20, ak_21, ak_22, ak_23, ak_24, ak_25, ak_26, ak_27, ak_28, ak_29, ak_30, ak_31, ak_32, ak_33, ak_34, ak_35, ak_36, ak_37, ak_38, ak_39, ak_40, ak_41, ak_42, ak_43, ak_44, ak_45, ak_46, ak_47, sp_X6_in, -Int32.toInt_ofInt, -not_and, wr_eq, jt_0, jt_1, jt_2, jt_3, jt_4, jt_5, jt_6, jt_8, jt_12, jt_30, jt_48, jt_49, jt_51, jt_57, jt_255, jt_9999, -List.getD_eq_getElem?_getD, wm, wi, hm1, h0, mo, q, u26, u36, we, ne, l1, e, hff, wb, wf, wf1, hif]
        exact rm_X6_fewestAt h (Nat.le_add_right _ _)
      · rw [if_neg hif]
        generalize R.2 = r at q u26 e we ne hff
        simp only [mo] at u26
        (refine am_fnI (tb := tb_X6_fewestAt) (n := 90) (Nat.le_of_ble_eq_true rfl) (Nat.le_of_ble_eq_true rfl) ?_; show rx_X6_fewestAt 90 0 _ _ _ = _)
        simp [↓ri_X6_fewestAt, rs_X6_fewestAt_0, rs_X6_fewestAt_1, rs_X6_fewestAt_2, rs_X6_fewestAt_3, rs_X6_fewestAt_6, rs_X6_fewestAt_9, rs_X6_fewestAt_12, rs_X6_fewestAt_15, rs_X6_fewestAt_16, rs_X6_fewestAt_17, rs_X6_fewestAt_18, rs_X6_fewestAt_21, rs_X6_fewestAt_22, rs_X6_fewestAt_25, rs_X6_fewestAt_27, rs_X6_fewestAt_30, rs_X6_fewestAt_31, rs_X6_fewestAt_32, rs_X6_fewestAt_33, rs_X6_fewestAt_34, rs_X6_fewestAt_37, rs_X6_fewestAt_38, rs_X6_fewestAt_41, rs_X6_fewestAt_42, rs_X6_fewestAt_43, rs_X6_fewestAt_44, rs_X6_fewestAt_45, rs_X6_fewestAt_48, rs_X6_fewestAt_51, rs_X6_fewestAt_54, rs_X6_fewestAt_55, rs_X6_fewestAt_58, rs_X6_fewestAt_59, rs_X6_fewestAt_60, rs_X6_fewestAt_63, rs_X6_fewestAt_64, rs_X6_fewestAt_65, rs_X6_fewestAt_66, rs_X6_fewestAt_67, rs_X6_fewestAt_68, rs_X6_fewestAt_71, rs_X6_fewestAt_72, rs_X6_fewestAt_75, rs_X6_fewestAt_76, rs_X6_fewestAt_77, rs_X6_fewestAt_78, rs_X6_fewestAt_81, rs_X6_fewestAt_82, rs_X6_fewestAt_85, rs_X6_fewestAt_86, rs_X6_fewestAt_14, rs_X6_fewestAt_53, rs_X6_fewestAt_87, -List.getElem?_eq_getElem, am_js, am_e, am_in, am_sl, rI, rZ, rV, rJ, rA, rC, kI, kJ, kR, am_one, am_nl, am_w8, tIc, tLc, tNul, tIld, tLld, tAld, tIst, tLst, tAst, tIinc, tI2, tDv, tL2, tLrem, tLs, tLcmp, tI2l, tL2i, tI2c, tDup, tDup2, tPop, tGo, tIfeq, tIfne, tIflt, tIfge, tIfgt, tIfle, tCmeq, tCmne, tCmlt, tCmge, tCmgt, tCmle, tNu, tTs, tGf, tPf, tGs, tIal, tIas, tBal, tBas, tAln, tSv, tSc, tSb, tSl, tSk, tCv, tCs, tCt, tMx, tMn, wr_10000, wr_100000, wr_1000000, wr_10000000, wr_100000000, wr_2400, wr_9999, wr_0, wr_1, wr_2, wr_3, wr_4, wr_5, wr_6, wr_7, wr_8, wr_9, wr_10, wr_11, wr_12, wr_13, wr_14, wr_15, wr_16, wr_17, wr_18, wr_19, wr_20, wr_21, wr_22, wr_23, wr_24, wr_25, wr_26, wr_27, wr_28, wr_29, wr_30, wr_31, wr_32, wr_33, wr_34, wr_35, wr_36, wr_37, wr_38, wr_39, wr_40, wr_41, wr_42, wr_43, wr_44, wr_45, wr_46, wr_47, wr_48, wr_49, wr_50, wr_51, wr_52, wr_53, wr_54, wr_55, wr_56, wr_57, wr_58, wr_59, wr_60, wr_61, wr_62, wr_63, wr_99, wr_100, wr_192, wr_255, wr_256, wr_343, wr_999, wr_1000, wr_2401, wr_2147483647, wr_65535, wr_m1, wr_m2, wr_m3, wr_m4, wr_m9, ak_1000, ak_1001, ak_1002, ak_0, ak_1, ak_2, ak_3, ak_4, ak_5, ak_6, ak_7, ak_8, ak_9, ak_10, ak_11, ak_12, ak_13, ak_14, ak_15, ak_16, ak_17, ak_18, ak_19, ak_20, ak_21, ak_22, ak_23, ak_24, ak_25, ak_26, ak_27, ak_28, ak_29, ak_30, ak_31, ak_32, ak_33, ak_34, ak_35, ak_36, ak_37, ak_38, ak_39, ak_40, ak_41, ak_42, ak_43, ak_44, ak_45, ak_46, ak_47, sp_X6_in, -Int32.toInt_ofInt, -not_and, wr_eq, jt_0, jt_1, jt_2, jt_3, jt_4, jt_5, jt_6, jt_8, jt_12, jt_30, jt_48, jt_49, jt_51, jt_57, jt_255, jt_9999, -List.getD_eq_getElem?_getD, wm, wi, hm1, h0, mo, q, u26, u36, we, ne, l1, e, hff, wb, wf, wf1, hif]
  · rw [if_neg hm1]
    refine ⟨en, d', b', s', (A, B, P, L, lm), ⟨k1, k2, k3, k4⟩, ?_⟩
    rw [U6_same h0 h32 h33 h34 h36 h37 h38 h39]
    (refine am_fnI (tb := tb_X6_fewestAt) (n := 60) (Nat.le_of_ble_eq_true rfl) (Nat.le_of_ble_eq_true rfl) ?_; show rx_X6_fewestAt 60 0 _ _ _ = _)
    simp [↓ri_X6_fewestAt, rs_X6_fewestAt_0, rs_X6_fewestAt_1, rs_X6_fewestAt_2, rs_X6_fewestAt_3, rs_X6_fewestAt_6, rs_X6_fewestAt_9, rs_X6_fewestAt_12, rs_X6_fewestAt_15, rs_X6_fewestAt_16, rs_X6_fewestAt_17, rs_X6_fewestAt_18, rs_X6_fewestAt_21, rs_X6_fewestAt_22, rs_X6_fewestAt_25, rs_X6_fewestAt_27, rs_X6_fewestAt_30, rs_X6_fewestAt_31, rs_X6_fewestAt_32, rs_X6_fewestAt_33, rs_X6_fewestAt_34, rs_X6_fewestAt_37, rs_X6_fewestAt_38, rs_X6_fewestAt_41, rs_X6_fewestAt_42, rs_X6_fewestAt_43, rs_X6_fewestAt_44, rs_X6_fewestAt_45, rs_X6_fewestAt_48, rs_X6_fewestAt_51, rs_X6_fewestAt_54, rs_X6_fewestAt_55, rs_X6_fewestAt_58, rs_X6_fewestAt_59, rs_X6_fewestAt_60, rs_X6_fewestAt_63, rs_X6_fewestAt_64, rs_X6_fewestAt_65, rs_X6_fewestAt_66, rs_X6_fewestAt_67, rs_X6_fewestAt_68, rs_X6_fewestAt_71, rs_X6_fewestAt_72, rs_X6_fewestAt_75, rs_X6_fewestAt_76, rs_X6_fewestAt_77, rs_X6_fewestAt_78, rs_X6_fewestAt_81, rs_X6_fewestAt_82, rs_X6_fewestAt_85, rs_X6_fewestAt_86, rs_X6_fewestAt_14, rs_X6_fewestAt_53, rs_X6_fewestAt_87, -List.getElem?_eq_getElem, am_js, am_e, am_in, am_sl, rI, rZ, rV, rJ, rA, rC, kI, kJ, kR, am_one, am_nl, am_w8, tIc, tLc, tNul, tIld, tLld, tAld, tIst, tLst, tAst, tIinc, tI2, tDv, tL2, tLrem, tLs, tLcmp, tI2l, tL2i, tI2c, tDup, tDup2, tPop, tGo, tIfeq, tIfne, tIflt, tIfge, tIfgt, tIfle, tCmeq, tCmne, tCmlt, tCmge, tCmgt, tCmle, tNu, tTs, tGf, tPf, tGs, tIal, tIas, tBal, tBas, tAln, tSv, tSc, tSb, tSl, tSk, tCv, tCs, tCt, tMx, tMn, wr_10000, wr_100000, wr_1000000, wr_10000000, wr_100000000, wr_2400, wr_9999, wr_0, wr_1, wr_2, wr_3, wr_4, wr_5, wr_6, wr_7, wr_8, wr_9, wr_10, wr_11, wr_12, wr_13, wr_14, wr_15, wr_16, wr_17, wr_18, wr_19, wr_20, wr_21, wr_22, wr_23, wr_24, wr_25, wr_26, wr_27, wr_28, wr_29, wr_30, wr_31, wr_32, wr_33, wr_34, wr_35, wr_36, wr_37, wr_38, wr_39, wr_40, wr_41, wr_42, wr_43, wr_44, wr_45, wr_46, wr_47, wr_48, wr_49, wr_50, wr_51, wr_52, wr_53, wr_54, wr_55, wr_56, wr_57, wr_58, wr_59, wr_60, wr_61, wr_62, wr_63, wr_99, wr_100, wr_192, wr_255, wr_256, wr_343, wr_999, wr_1000, wr_2401, wr_2147483647, wr_65535, wr_m1, wr_m2, wr_m3, wr_m4, wr_m9, ak_1000, ak_1001, ak_1002, ak_0, ak_1, ak_2, ak_3, ak_4, ak_5, ak_6, ak_7, ak_8, ak_9, ak_10, ak_11, ak_12, ak_13, ak_14, ak_15, ak_16, ak_17, ak_18, ak_19, ak_20, ak_21, ak_22, ak_23, ak_24, ak_25, ak_26, ak_27, ak_28, ak_29, ak_30, ak_31, ak_32, ak_33, ak_34, ak_35, ak_36, ak_37, ak_38, ak_39, ak_40, ak_41, ak_42, ak_43, ak_44, ak_45, ak_46, ak_47, sp_X6_in, -Int32.toInt_ofInt, -not_and, wr_eq, jt_0, jt_1, jt_2, jt_3, jt_4, jt_5, jt_6, jt_8, jt_12, jt_30, jt_48, jt_49, jt_51, jt_57, jt_255, jt_9999, wm, hm1]
end
