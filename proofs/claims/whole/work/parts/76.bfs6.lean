noncomputable section
/-! the reference's search: far, byWhat, from, line, how many stand in line -/
abbrev S6 : Type := List Int × List Int × List Int × List Int × Int
def cmT (S : S6) (t p mv : Int) : S6 := if S.1.getD t.toNat 0 = -9 then (S.1.set t.toNat (S.1.getD p.toNat 0 + 1), S.2.1.set t.toNat mv, S.2.2.1.set t.toNat p, S.2.2.2.1.set S.2.2.2.2.toNat t, S.2.2.2.2 + 1) else S
theorem gd_self {l : List Int} {i : Nat} {v : Int} (h : i < l.length) : (l.set i v).getD i 0 = v := by
  simp [List.getD, h]
theorem gd_ne {l : List Int} {i j : Nat} {v : Int} (h : i ≠ j) : (l.set i v).getD j 0 = l.getD j 0 := by
  simp [List.getD, List.getElem?_set_ne h]
/-- how many are come to -/
def cv : List Int → Nat
  | [] => 0
  | z :: l => (if z = -9 then 0 else 1) + cv l
theorem cv_le : ∀ l : List Int, cv l ≤ l.length
  | [] => Nat.le_refl 0
  | z :: l => by
    have := cv_le l
    simp only [cv, List.length_cons]
    split <;> omega
theorem cv_lt : ∀ (l : List Int) (i : Nat), i < l.length → l.getD i 0 = -9 → cv l < l.length
  | [], i, h, _ => by simp at h
  | z :: l, 0, h, e => by
    have := cv_le l
    simp only [List.getD_cons_zero] at e
    simp only [cv, List.length_cons, e, if_true]
    omega
  | z :: l, i + 1, h, e => by
    simp only [List.getD_cons_succ] at e
    have := cv_lt l i (by simpa using h) e
    simp only [cv, List.length_cons]
    split <;> omega
theorem cv_set : ∀ (l : List Int) (i : Nat) (v : Int), i < l.length → l.getD i 0 = -9 → ¬ v = -9 → cv (l.set i v) = cv l + 1
  | [], i, v, h, _, _ => by simp at h
  | z :: l, 0, v, h, e, hv => by
    simp only [List.getD_cons_zero] at e
    simp only [List.set_cons_zero, cv, e, if_true, hv, if_false]
    omega
  | z :: l, i + 1, v, h, e, hv => by
    simp only [List.getD_cons_succ] at e
    have := cv_set l i v (by simpa using h) e hv
    simp only [List.set_cons_succ, cv, this]
    omega
def I6 (S : S6) : Prop := (S.1.length = 2401 ∧ S.2.1.length = 2401 ∧ S.2.2.1.length = 2401 ∧ S.2.2.2.1.length = 2401) ∧ (∀ i : Nat, S.1.getD i 0 = -9 ∨ (0 ≤ S.1.getD i 0 ∧ S.1.getD i 0 < S.2.2.2.2)) ∧ 1 ≤ S.2.2.2.2 ∧ cv S.1 = S.2.2.2.2.toNat ∧ (∀ i : Nat, (i : Int) < S.2.2.2.2 → (0 ≤ S.2.2.2.1.getD i 0 ∧ S.2.2.2.1.getD i 0 < 2401) ∧ ¬ S.1.getD (S.2.2.2.1.getD i 0).toNat 0 = -9)
theorem I6.le {S : S6} (h : I6 S) : S.2.2.2.2 ≤ 2401 := by
  have h1 := cv_le S.1
  rw [h.2.2.2.1, h.1.1] at h1
  have := h.2.2.1
  generalize S.2.2.2.2 = m at h1 this ⊢
  omega
theorem I6.lt {S : S6} (h : I6 S) {t : Int} (ht : 0 ≤ t ∧ t < 2401) (e : S.1.getD t.toNat 0 = -9) : S.2.2.2.2 < 2401 := by
  have hl : t.toNat < S.1.length := by rw [h.1.1]; omega
  have h1 := cv_lt S.1 t.toNat hl e
  rw [h.2.2.2.1, h.1.1] at h1
  have := h.2.2.1
  generalize S.2.2.2.2 = m at h1 this ⊢
  omega
theorem I6.cm {S : S6} (h : I6 S) {t p : Int} (ht : 0 ≤ t ∧ t < 2401) (hp : 0 ≤ S.1.getD p.toNat 0) (mv : Int) : I6 (cmT S t p mv) := by
  unfold cmT
  split
  · next e =>
    have hlt := h.lt ht e
    obtain ⟨F, B, P, L, m⟩ := S
    obtain ⟨⟨l1, l2, l3, l4⟩, h2, h3, h4, h5⟩ := h
    dsimp only at *
    have hfp : F.getD p.toNat 0 < m := by
      rcases h2 p.toNat with q | q
      · rw [q] at hp; exact absurd hp (by decide)
      · exact q.2
    generalize F.getD p.toNat 0 = v at hp hfp ⊢
    have htl : t.toNat < F.length := by rw [l1]; omega
    have hml : m.toNat < L.length := by rw [l4]; omega
    refine ⟨⟨?_, ?_, ?_, ?_⟩, ?_, ?_, ?_, ?_⟩
    · rw [List.length_set]; exact l1
    · rw [List.length_set]; exact l2
    · rw [List.length_set]; exact l3
    · rw [List.length_set]; exact l4
    · intro i
      dsimp only
      by_cases hi : t.toNat = i
      · subst hi
        rw [gd_self htl]
        exact Or.inr ⟨by omega, by omega⟩
      · rw [gd_ne hi]
        rcases h2 i with q | q
        · exact Or.inl q
        · exact Or.inr ⟨q.1, by have := q.2; generalize F.getD i 0 = z at this ⊢; omega⟩
    · dsimp only; omega
    · dsimp only
      rw [cv_set F t.toNat (v + 1) htl e (by omega), h4]
      omega
    · intro i hi
      dsimp only at hi ⊢
      by_cases him : m.toNat = i
      · subst him
        rw [gd_self hml]
        refine ⟨ht, ?_⟩
        rw [gd_self htl]
        omega
      · rw [gd_ne him]
        obtain ⟨r, q⟩ := h5 i (by omega)
        refine ⟨r, ?_⟩
        by_cases hx : t.toNat = (L.getD i 0).toNat
        · rw [hx] at htl ⊢
          rw [gd_self htl]
          omega
        · rw [gd_ne hx]
          exact q
  · exact h
theorem cmT_keep {S : S6} {x : Nat} (hx : 0 ≤ S.1.getD x 0) (t p mv : Int) : (cmT S t p mv).1.getD x 0 = S.1.getD x 0 := by
  unfold cmT
  split
  · next e =>
    dsimp only
    rw [gd_ne]
    intro q
    rw [q] at e
    rw [e] at hx
    exact absurd hx (by decide)
  · rfl
def K6 (x : Int) (S : S6) : Prop := I6 S ∧ 0 ≤ S.1.getD x.toNat 0
theorem K6.cm {x : Int} {S : S6} (h : K6 x S) {t : Int} (ht : 0 ≤ t ∧ t < 2401) (mv : Int) : K6 x (cmT S t x mv) := ⟨h.1.cm ht h.2 mv, by rw [cmT_keep h.2]; exact h.2⟩
theorem so_rng {d : F4} (h : i4 0 6 d) : 0 ≤ so d ∧ so d < 2401 := by
  obtain ⟨a, b, c, e⟩ := h
  unfold so
  omega
/-- the memory in a search -/
def U6 (M : List AC) (st lk len ac nx rf lr en : Int) (sd : Int64) (d : F4) (S : S6) : List AC := (((((M.set 26 (mo st lk len ac nx rf lr en S.2.2.2.2 sd)).set 32 (aI (l4 d))).set 36 (aI S.1)).set 37 (aI S.2.1)).set 38 (aI S.2.2.1)).set 39 (aI S.2.2.2.1)
theorem U6_32 {M : List AC} {st lk len ac nx rf lr en : Int} {sd : Int64} {d d' : F4} {S : S6} : (U6 M st lk len ac nx rf lr en sd d S).set 32 (aI (l4 d')) = U6 M st lk len ac nx rf lr en sd d' S := by
  simp [U6, ss (i := 26) (j := 32) (by decide), ss (i := 26) (j := 36) (by decide), ss (i := 26) (j := 37) (by decide), ss (i := 26) (j := 38) (by decide), ss (i := 26) (j := 39) (by decide), ss (i := 32) (j := 36) (by decide), ss (i := 32) (j := 37) (by decide), ss (i := 32) (j := 38) (by decide), ss (i := 32) (j := 39) (by decide), ss (i := 36) (j := 37) (by decide), ss (i := 36) (j := 38) (by decide), ss (i := 36) (j := 39) (by decide), ss (i := 37) (j := 38) (by decide), ss (i := 37) (j := 39) (by decide), ss (i := 38) (j := 39) (by decide)]
theorem U6_26 {M : List AC} {st lk len ac nx rf lr en en' : Int} {sd : Int64} {d : F4} {S : S6} : (U6 M st lk len ac nx rf lr en sd d S).set 26 (mo st lk len ac nx rf lr en' S.2.2.2.2 sd) = U6 M st lk len ac nx rf lr en' sd d S := by
  simp [U6, ss (i := 26) (j := 32) (by decide), ss (i := 26) (j := 36) (by decide), ss (i := 26) (j := 37) (by decide), ss (i := 26) (j := 38) (by decide), ss (i := 26) (j := 39) (by decide), ss (i := 32) (j := 36) (by decide), ss (i := 32) (j := 37) (by decide), ss (i := 32) (j := 38) (by decide), ss (i := 32) (j := 39) (by decide), ss (i := 36) (j := 37) (by decide), ss (i := 36) (j := 38) (by decide), ss (i := 36) (j := 39) (by decide), ss (i := 37) (j := 38) (by decide), ss (i := 37) (j := 39) (by decide), ss (i := 38) (j := 39) (by decide)]
theorem U6_U6 {M : List AC} {st lk len ac nx rf lr en en' : Int} {sd : Int64} {d d' : F4} {S S' : S6} : U6 (U6 M st lk len ac nx rf lr en sd d S) st lk len ac nx rf lr en' sd d' S' = U6 M st lk len ac nx rf lr en' sd d' S' := by
  simp [U6, ss (i := 26) (j := 32) (by decide), ss (i := 26) (j := 36) (by decide), ss (i := 26) (j := 37) (by decide), ss (i := 26) (j := 38) (by decide), ss (i := 26) (j := 39) (by decide), ss (i := 32) (j := 36) (by decide), ss (i := 32) (j := 37) (by decide), ss (i := 32) (j := 38) (by decide), ss (i := 32) (j := 39) (by decide), ss (i := 36) (j := 37) (by decide), ss (i := 36) (j := 38) (by decide), ss (i := 36) (j := 39) (by decide), ss (i := 37) (j := 38) (by decide), ss (i := 37) (j := 39) (by decide), ss (i := 38) (j := 39) (by decide)]
/-- the memory has its cells -/
def H6 (M : List AC) (g b s : F4) : Prop := 42 < M.length ∧ M[27]? = some (aI (l4 g)) ∧ M[33]? = some (aI (l4 b)) ∧ M[34]? = some (aI (l4 s))
theorem U6_at {M : List AC} {g b s : F4} (h : H6 M g b s) (st lk len ac nx rf lr en : Int) (sd : Int64) (d : F4) (S : S6) : (U6 M st lk len ac nx rf lr en sd d S)[26]? = some (mo st lk len ac nx rf lr en S.2.2.2.2 sd) ∧ (U6 M st lk len ac nx rf lr en sd d S)[27]? = some (aI (l4 g)) ∧ (U6 M st lk len ac nx rf lr en sd d S)[32]? = some (aI (l4 d)) ∧ (U6 M st lk len ac nx rf lr en sd d S)[33]? = some (aI (l4 b)) ∧ (U6 M st lk len ac nx rf lr en sd d S)[34]? = some (aI (l4 s)) ∧ (U6 M st lk len ac nx rf lr en sd d S)[36]? = some (aI S.1) ∧ (U6 M st lk len ac nx rf lr en sd d S)[37]? = some (aI S.2.1) ∧ (U6 M st lk len ac nx rf lr en sd d S)[38]? = some (aI S.2.2.1) ∧ (U6 M st lk len ac nx rf lr en sd d S)[39]? = some (aI S.2.2.2.1) := by
  obtain ⟨hl, h27, h33, h34⟩ := h
  have a : 26 < M.length := by omega
  have b : 32 < M.length := by omega
  have c : 36 < M.length := by omega
  have e : 37 < M.length := by omega
  have f : 38 < M.length := by omega
  have g : 39 < M.length := by omega
  unfold U6
  refine ⟨?_, ?_, ?_, ?_, ?_, ?_, ?_, ?_, ?_⟩ <;> simp [-List.getElem?_eq_getElem, h27, h33, h34, a, b, c, e, f, g]
abbrev mi_X6_come : Mi := (yX6_come, cX6_come, 4, none, 7)
theorem mf_X6_come : am_mf mi_X6_come 2 := ⟨w_co_X6_come, w_in_X6, ⟨by decide +kernel, by decide +kernel⟩, by decide +kernel, by decide⟩
def tb_X6_come : List (Nat × Tr) := [(0, tAld 0 1), (1, tCv 6 0 fn_X6_slips), (4, tPop), (5, tAld 0 1), (6, tCv 6 0 fn_X6_stateOf), (9, tIst 3 1), (10, tAld 0 1), (11, tGf 6 16), (14, tIld 3 1), (15, tIal), (16, tIc (-9) 2), (18, tCmne 69), (21, tAld 0 1), (22, tGf 6 16), (25, tIld 3 1), (26, tAld 0 1), (27, tGf 6 16), (30, tIld 1 1), (31, tIal), (32, tIc 1 1), (33, tI2 (fun a b => a + b)), (34, tIas), (35, tAld 0 1), (36, tGf 6 17), (39, tIld 3 1), (40, tIld 2 1), (41, tIas), (42, tAld 0 1), (43, tGf 6 18), (46, tIld 3 1), (47, tIld 1 1), (48, tIas), (49, tAld 0 1), (50, tGf 6 19), (53, tAld 0 1), (54, tGf 6 21), (57, tIld 3 1), (58, tIas), (59, tAld 0 1), (60, tDup), (61, tGf 6 21), (64, tIc 1 1), (65, tI2 (fun a b => a + b)), (66, tPf kI 6 21)]
theorem ok_X6_come : Tok mi_X6_come tb_X6_come :=
  Tc (sd_aload_n dX6_come_0) <|
  Tc (sd_cv (T := TX6) fok_X6_slips mf_X6_slips rfl w_ml_X6_135 w_im_X6_slips w_se_X6_slips (by decide) dX6_come_1) <|
  Tc (sd_pop dX6_come_4) <|
  Tc (sd_aload_n dX6_come_5) <|
  Tc (sd_cv (T := TX6) fok_X6_stateOf mf_X6_stateOf rfl w_ml_X6_174 w_im_X6_stateOf w_se_X6_stateOf (by decide) dX6_come_6) <|
  Tc (sd_istore_n dX6_come_9) <|
  Tc (sd_aload_n dX6_come_10) <|
  Tc (sd_getf (T := TX6) rfl giX6 (by decide) w_fl_X6_37 dX6_come_11) <|
  Tc (sd_iload_n dX6_come_14) <|
  Tc (sd_ial dX6_come_15) <|
  Tc (sd_bipush (by decide +kernel) dX6_come_16) <|
  Tc (sd_cm_ne (by decide) dX6_come_18) <|
  Tc (sd_aload_n dX6_come_21) <|
  Tc (sd_getf (T := TX6) rfl giX6 (by decide) w_fl_X6_37 dX6_come_22) <|
  Tc (sd_iload_n dX6_come_25) <|
  Tc (sd_aload_n dX6_come_26) <|
  Tc (sd_getf (T := TX6) rfl giX6 (by decide) w_fl_X6_37 dX6_come_27) <|
  Tc (sd_iload_n dX6_come_30) <|
  Tc (sd_ial dX6_come_31) <|
  Tc (sd_iconst rfl dX6_come_32) <|
  Tc (sd_iadd dX6_come_33) <|
  Tc (sd_ias dX6_come_34) <|
  Tc (sd_aload_n dX6_come_35) <|
  Tc (sd_getf (T := TX6) rfl giX6 (by decide) w_fl_X6_40 dX6_come_36) <|
  Tc (sd_iload_n dX6_come_39) <|
  Tc (sd_iload_n dX6_come_40) <|
  Tc (sd_ias dX6_come_41) <|
  Tc (sd_aload_n dX6_come_42) <|
  Tc (sd_getf (T := TX6) rfl giX6 (by decide) w_fl_X6_43 dX6_come_43) <|
  Tc (sd_iload_n dX6_come_46) <|
  Tc (sd_iload_n dX6_come_47) <|
  Tc (sd_ias dX6_come_48) <|
  Tc (sd_aload_n dX6_come_49) <|
  Tc (sd_getf (T := TX6) rfl giX6 (by decide) w_fl_X6_46 dX6_come_50) <|
  Tc (sd_aload_n dX6_come_53) <|
  Tc (sd_getf (T := TX6) rfl giX6 (by decide) w_fl_X6_177 dX6_come_54) <|
  Tc (sd_iload_n dX6_come_57) <|
  Tc (sd_ias dX6_come_58) <|
  Tc (sd_aload_n dX6_come_59) <|
  Tc (sd_dup dX6_come_60) <|
  Tc (sd_getf (T := TX6) rfl giX6 (by decide) w_fl_X6_177 dX6_come_61) <|
  Tc (sd_iconst rfl dX6_come_64) <|
  Tc (sd_iadd dX6_come_65) <|
  Tc (sd_putf (T := TX6) rfl giX6 (by decide) w_fl_X6_177 tyX6 tyX6_ok nmX6 (kI_ok) rfl dX6_come_66) <|
  Tn
theorem rk_X6_come : Rok mi_X6_come rV [69] := rk_v dX6_come_69 <| rk_n
def rx_X6_come : Nat → Nat → AL → List AV → List AC → Option (Option AV × List AC) := am_r tb_X6_come rV [69]
theorem rs_X6_come_0 (n : Nat) (L : AL) (st : List AV) (M : List AC) : rx_X6_come (n + 1) 0 L st M = am_j (rx_X6_come n) ((tAld 0 1) 0 L st M) := rfl
theorem rs_X6_come_1 (n : Nat) (L : AL) (st : List AV) (M : List AC) : rx_X6_come (n + 1) 1 L st M = am_j (rx_X6_come n) ((tCv 6 0 fn_X6_slips) 1 L st M) := rfl
theorem rs_X6_come_4 (n : Nat) (L : AL) (st : List AV) (M : List AC) : rx_X6_come (n + 1) 4 L st M = am_j (rx_X6_come n) (tPop 4 L st M) := rfl
theorem rs_X6_come_5 (n : Nat) (L : AL) (st : List AV) (M : List AC) : rx_X6_come (n + 1) 5 L st M = am_j (rx_X6_come n) ((tAld 0 1) 5 L st M) := rfl
theorem rs_X6_come_6 (n : Nat) (L : AL) (st : List AV) (M : List AC) : rx_X6_come (n + 1) 6 L st M = am_j (rx_X6_come n) ((tCv 6 0 fn_X6_stateOf) 6 L st M) := rfl
theorem rs_X6_come_9 (n : Nat) (L : AL) (st : List AV) (M : List AC) : rx_X6_come (n + 1) 9 L st M = am_j (rx_X6_come n) ((tIst 3 1) 9 L st M) := rfl
theorem rs_X6_come_10 (n : Nat) (L : AL) (st : List AV) (M : List AC) : rx_X6_come (n + 1) 10 L st M = am_j (rx_X6_come n) ((tAld 0 1) 10 L st M) := rfl
theorem rs_X6_come_11 (n : Nat) (L : AL) (st : List AV) (M : List AC) : rx_X6_come (n + 1) 11 L st M = am_j (rx_X6_come n) ((tGf 6 16) 11 L st M) := rfl
theorem rs_X6_come_14 (n : Nat) (L : AL) (st : List AV) (M : List AC) : rx_X6_come (n + 1) 14 L st M = am_j (rx_X6_come n) ((tIld 3 1) 14 L st M) := rfl
theorem rs_X6_come_15 (n : Nat) (L : AL) (st : List AV) (M : List AC) : rx_X6_come (n + 1) 15 L st M = am_j (rx_X6_come n) (tIal 15 L st M) := rfl
theorem rs_X6_come_16 (n : Nat) (L : AL) (st : List AV) (M : List AC) : rx_X6_come (n + 1) 16 L st M = am_j (rx_X6_come n) ((tIc (-9) 2) 16 L st M) := rfl
theorem rs_X6_come_18 (n : Nat) (L : AL) (st : List AV) (M : List AC) : rx_X6_come (n + 1) 18 L st M = am_j (rx_X6_come n) ((tCmne 69) 18 L st M) := rfl
theorem rs_X6_come_21 (n : Nat) (L : AL) (st : List AV) (M : List AC) : rx_X6_come (n + 1) 21 L st M = am_j (rx_X6_come n) ((tAld 0 1) 21 L st M) := rfl
theorem rs_X6_come_22 (n : Nat) (L : AL) (st : List AV) (M : List AC) : rx_X6_come (n + 1) 22 L st M = am_j (rx_X6_come n) ((tGf 6 16) 22 L st M) := rfl
theorem rs_X6_come_25 (n : Nat) (L : AL) (st : List AV) (M : List AC) : rx_X6_come (n + 1) 25 L st M = am_j (rx_X6_come n) ((tIld 3 1) 25 L st M) := rfl
theorem rs_X6_come_26 (n : Nat) (L : AL) (st : List AV) (M : List AC) : rx_X6_come (n + 1) 26 L st M = am_j (rx_X6_come n) ((tAld 0 1) 26 L st M) := rfl
theorem rs_X6_come_27 (n : Nat) (L : AL) (st : List AV) (M : List AC) : rx_X6_come (n + 1) 27 L st M = am_j (rx_X6_come n) ((tGf 6 16) 27 L st M) := rfl
theorem rs_X6_come_30 (n : Nat) (L : AL) (st : List AV) (M : List AC) : rx_X6_come (n + 1) 30 L st M = am_j (rx_X6_come n) ((tIld 1 1) 30 L st M) := rfl
theorem rs_X6_come_31 (n : Nat) (L : AL) (st : List AV) (M : List AC) : rx_X6_come (n + 1) 31 L st M = am_j (rx_X6_come n) (tIal 31 L st M) := rfl
theorem rs_X6_come_32 (n : Nat) (L : AL) (st : List AV) (M : List AC) : rx_X6_come (n + 1) 32 L st M = am_j (rx_X6_come n) ((tIc 1 1) 32 L st M) := rfl
theorem rs_X6_come_33 (n : Nat) (L : AL) (st : List AV) (M : List AC) : rx_X6_come (n + 1) 33 L st M = am_j (rx_X6_come n) ((tI2 (fun a b => a + b)) 33 L st M) := rfl
theorem rs_X6_come_34 (n : Nat) (L : AL) (st : List AV) (M : List AC) : rx_X6_come (n + 1) 34 L st M = am_j (rx_X6_come n) (tIas 34 L st M) := rfl
theorem rs_X6_come_35 (n : Nat) (L : AL) (st : List AV) (M : List AC) : rx_X6_come (n + 1) 35 L st M = am_j (rx_X6_come n) ((tAld 0 1) 35 L st M) := rfl
theorem rs_X6_come_36 (n : Nat) (L : AL) (st : List AV) (M : List AC) : rx_X6_come (n + 1) 36 L st M = am_j (rx_X6_come n) ((tGf 6 17) 36 L st M) := rfl
theorem rs_X6_come_39 (n : Nat) (L : AL) (st : List AV) (M : List AC) : rx_X6_come (n + 1) 39 L st M = am_j (rx_X6_come n) ((tIld 3 1) 39 L st M) := rfl
theorem rs_X6_come_40 (n : Nat) (L : AL) (st : List AV) (M : List AC) : rx_X6_come (n + 1) 40 L st M = am_j (rx_X6_come n) ((tIld 2 1) 40 L st M) := rfl
theorem rs_X6_come_41 (n : Nat) (L : AL) (st : List AV) (M : List AC) : rx_X6_come (n + 1) 41 L st M = am_j (rx_X6_come n) (tIas 41 L st M) := rfl
theorem rs_X6_come_42 (n : Nat) (L : AL) (st : List AV) (M : List AC) : rx_X6_come (n + 1) 42 L st M = am_j (rx_X6_come n) ((tAld 0 1) 42 L st M) := rfl
theorem rs_X6_come_43 (n : Nat) (L : AL) (st : List AV) (M : List AC) : rx_X6_come (n + 1) 43 L st M = am_j (rx_X6_come n) ((tGf 6 18) 43 L st M) := rfl
theorem rs_X6_come_46 (n : Nat) (L : AL) (st : List AV) (M : List AC) : rx_X6_come (n + 1) 46 L st M = am_j (rx_X6_come n) ((tIld 3 1) 46 L st M) := rfl
theorem rs_X6_come_47 (n : Nat) (L : AL) (st : List AV) (M : List AC) : rx_X6_come (n + 1) 47 L st M = am_j (rx_X6_come n) ((tIld 1 1) 47 L st M) := rfl
theorem rs_X6_come_48 (n : Nat) (L : AL) (st : List AV) (M : List AC) : rx_X6_come (n + 1) 48 L st M = am_j (rx_X6_come n) (tIas 48 L st M) := rfl
theorem rs_X6_come_49 (n : Nat) (L : AL) (st : List AV) (M : List AC) : rx_X6_come (n + 1) 49 L st M = am_j (rx_X6_come n) ((tAld 0 1) 49 L st M) := rfl
theorem rs_X6_come_50 (n : Nat) (L : AL) (st : List AV) (M : List AC) : rx_X6_come (n + 1) 50 L st M = am_j (rx_X6_come n) ((tGf 6 19) 50 L st M) := rfl
theorem rs_X6_come_53 (n : Nat) (L : AL) (st : List AV) (M : List AC) : rx_X6_come (n + 1) 53 L st M = am_j (rx_X6_come n) ((tAld 0 1) 53 L st M) := rfl
theorem rs_X6_come_54 (n : Nat) (L : AL) (st : List AV) (M : List AC) : rx_X6_come (n + 1) 54 L st M = am_j (rx_X6_come n) ((tGf 6 21) 54 L st M) := rfl
theorem rs_X6_come_57 (n : Nat) (L : AL) (st : List AV) (M : List AC) : rx_X6_come (n + 1) 57 L st M = am_j (rx_X6_come n) ((tIld 3 1) 57 L st M) := rfl
theorem rs_X6_come_58 (n : Nat) (L : AL) (st : List AV) (M : List AC) : rx_X6_come (n + 1) 58 L st M = am_j (rx_X6_come n) (tIas 58 L st M) := rfl
theorem rs_X6_come_59 (n : Nat) (L : AL) (st : List AV) (M : List AC) : rx_X6_come (n + 1) 59 L st M = am_j (rx_X6_come n) ((tAld 0 1) 59 L st M) := rfl
theorem rs_X6_come_60 (n : Nat) (L : AL) (st : List AV) (M : List AC) : rx_X6_come (n + 1) 60 L st M = am_j (rx_X6_come n) (tDup 60 L st M) := rfl
theorem rs_X6_come_61 (n : Nat) (L : AL) (st : List AV) (M : List AC) : rx_X6_come (n + 1) 61 L st M = am_j (rx_X6_come n) ((tGf 6 21) 61 L st M) := rfl
theorem rs_X6_come_64 (n : Nat) (L : AL) (st : List AV) (M : List AC) : rx_X6_come (n + 1) 64 L st M = am_j (rx_X6_come n) ((tIc 1 1) 64 L st M) := rfl
theorem rs_X6_come_65 (n : Nat) (L : AL) (st : List AV) (M : List AC) : rx_X6_come (n + 1) 65 L st M = am_j (rx_X6_come n) ((tI2 (fun a b => a + b)) 65 L st M) := rfl
theorem rs_X6_come_66 (n : Nat) (L : AL) (st : List AV) (M : List AC) : rx_X6_come (n + 1) 66 L st M = am_j (rx_X6_come n) ((tPf kI 6 21) 66 L st M) := rfl
theorem rs_X6_come_69 (n : Nat) (L : AL) (st : List AV) (M : List AC) : rx_X6_come (n + 1) 69 L st M = am_e rV st M := rfl
theorem ri_X6_come (c : Prop) [Decidable c] (p q n : Nat) (L : AL) (st : List AV) (M : List AC) : rx_X6_come n (if c then p else q) L st M = if c then rx_X6_come n p L st M else rx_X6_come n q L st M := by split <;> rfl
theorem rm_X6_come {n k pc : Nat} {L : AL} {st : List AV} {M : List AC} {x : Option AV × List AC} (h : rx_X6_come n pc L st M = some x) (hk : n ≤ k) : rx_X6_come k pc L st M = some x := am_r_mono n k h hk
def fn_X6_come : Fn := am_fn rx_X6_come 4
theorem fok_X6_come : Fok mi_X6_come fn_X6_come := fun _ _ _ _ h => am_fok ok_X6_come rk_X6_come rfl h
theorem sp_X6_come {M : List AC} {g b s : F4} (h : H6 M g b s) (st lk len ac nx rf lr en : Int) (sd : Int64) (d : F4) (S : S6) (hr : SR st g s d b) (x mv : Int) (hx : 0 ≤ x ∧ x < 2401) (hK : K6 x S) : fn_X6_come [vR 26, vI x, vI mv] (U6 M st lk len ac nx rf lr en sd d S) = some (none, U6 M st lk len ac nx rf lr en sd (sl st g s b 4 d 0).1 (cmT S (so (sl st g s b 4 d 0).1) x mv)) := by
  obtain ⟨u26, u27, u32, u33, u34, u36, u37, u38, u39⟩ := U6_at h st lk len ac nx rf lr en sd d S
  have q1 := sp_X6_slips (M := U6 M st lk len ac nx rf lr en sd d S) ⟨⟨_, _, _, _, _, _, _, _, _, u26⟩, u27, u32, u33, u34⟩ hr
  rw [U6_32] at q1
  have hd := sl_i4 st g s b 4 d 0 hr.2.2.2.1
  generalize sl st g s b 4 d 0 = q at q1 hd ⊢
  obtain ⟨v26, v27, v32, v33, v34, v36, v37, v38, v39⟩ := U6_at h st lk len ac nx rf lr en sd q.1 S
  have q2 := sp_X6_stateOf v26 v32
  have ht := so_rng hd
  generalize so q.1 = t at q2 ht ⊢
  have wt : wr t = t := wr_id (by omega) (by omega)
  have wx : wr x = x := wr_id (by omega) (by omega)
  obtain ⟨⟨⟨l1, l2, l3, l4'⟩, i2, i3, i4, i5⟩, hfx⟩ := id hK
  have wf : wr (S.1.getD t.toNat 0) = S.1.getD t.toNat 0 := by
    have hm := hK.1.le
    rcases i2 t.toNat with e | e
    · rw [e]; exact wr_m9
    · generalize S.1.getD t.toNat 0 = z at e ⊢
      exact wr_id (by omega) (by omega)
  by_cases hz : S.1.getD t.toNat 0 = -9
  · have e : cmT S t x mv = (S.1.set t.toNat (S.1.getD x.toNat 0 + 1), S.2.1.set t.toNat mv, S.2.2.1.set t.toNat x, S.2.2.2.1.set S.2.2.2.2.toNat t, S.2.2.2.2 + 1) := by unfold cmT; rw [if_pos hz]
    rw [e]
    have hm := hK.1.lt ht hz
    have wm : wr S.2.2.2.2 = S.2.2.2.2 := wr_id (by omega) (by omega)
    have m0 : 0 ≤ S.2.2.2.2 := by omega
    rw [hz] at wf
    have fin : U6 M st lk len ac nx rf lr en sd q.1 (S.1.set t.toNat (S.1.getD x.toNat 0 + 1), S.2.1.set t.toNat mv, S.2.2.1.set t.toNat x, S.2.2.2.1.set S.2.2.2.2.toNat t, S.2.2.2.2 + 1) = ((((((U6 M st lk len ac nx rf lr en sd q.1 S).set 36 (aI (S.1.set t.toNat (S.1.getD x.toNat 0 + 1)))).set 37 (aI (S.2.1.set t.toNat mv))).set 38 (aI (S.2.2.1.set t.toNat x))).set 39 (aI (S.2.2.2.1.set S.2.2.2.2.toNat t))).set 26 (mo st lk len ac nx rf lr en (S.2.2.2.2 + 1) sd)) := by
      unfold U6
      dsimp only
      simp only [ss (i := 26) (j := 32) (by decide), ss (i := 26) (j := 36) (by decide), ss (i := 26) (j := 37) (by decide), ss (i := 26) (j := 38) (by decide), ss (i := 26) (j := 39) (by decide), ss (i := 36) (j := 37) (by decide), ss (i := 36) (j := 38) (by decide), ss (i := 36) (j := 39) (by decide), ss (i := 37) (j := 38) (by decide), ss (i := 37) (j := 39) (by decide), ss (i := 38) (j := 39) (by decide), List.set_set]
    rw [fin]
    clear fin e
    generalize U6 M st lk len ac nx rf lr en sd q.1 S = V at q1 q2 v26 v27 v32 v33 v34 v36 v37 v38 v39 ⊢
    generalize U6 M st lk len ac nx rf lr en sd d S = V0 at q1 u26 ⊢
    simp only [mo] at u26 v26 ⊢
    (refine am_fnI (tb := tb_X6_come) (n := 60) (Nat.le_of_ble_eq_true rfl) (Nat.le_of_ble_eq_true rfl) ?_; show rx_X6_come 60 0 _ _ _ = _)
    simp [↓ri_X6_come, rs_X6_come_0, rs_X6_come_1, rs_X6_come_4, rs_X6_come_5, rs_X6_come_6, rs_X6_come_9, rs_X6_come_10, rs_X6_come_11, rs_X6_come_14, rs_X6_come_15, rs_X6_come_16, rs_X6_come_18, rs_X6_come_21, rs_X6_come_22, rs_X6_come_25, rs_X6_come_26, rs_X6_come_27, rs_X6_come_30, rs_X6_come_31, rs_X6_come_32, rs_X6_come_33, rs_X6_come_34, rs_X6_come_35, rs_X6_come_36, rs_X6_come_39, rs_X6_come_40, rs_X6_come_41, rs_X6_come_42, rs_X6_come_43, rs_X6_come_46, rs_X6_come_47, rs_X6_come_48, rs_X6_come_49, rs_X6_come_50, rs_X6_come_53, rs_X6_come_54, rs_X6_come_57, rs_X6_come_58, rs_X6_come_59, rs_X6_come_60, rs_X6_come_61, rs_X6_come_64, rs_X6_come_65, rs_X6_come_66, rs_X6_come_69, -List.getElem?_eq_getElem, am_js, am_e, am_in, am_sl, rI, rZ, rV, rJ, rA, rC, kI, kJ, kR, am_one, am_nl, am_w8, tIc, tLc, tNul, tIld, tLld, tAld, tIst, tLst, tAst, tIinc, tI2, tDv, tL2, tLrem, tLs, tLcmp, tI2l, tL2i, tI2c, tDup, tDup2, tPop, tGo, tIfeq, tIfne, tIflt, tIfge, tIfgt, tIfle, tCmeq, tCmne, tCmlt, tCmge, tCmgt, tCmle, tNu, tTs, tGf, tPf, tGs, tIal, tIas, tBal, tBas, tAln, tSv, tSc, tSb, tSl, tSk, tCv, tCs, tCt, tMx, tMn, wr_10000, wr_100000, wr_1000000, wr_10000000, wr_100000000, wr_2400, wr_9999, wr_0, wr_1, wr_2, wr_3, wr_4, wr_5, wr_6, wr_7, wr_8, wr_9, wr_10, wr_11, wr_12, wr_13, wr_14, wr_15, wr_16, wr_17, wr_18, wr_19, wr_20, wr_21, wr_22, wr_23, wr_24, wr_25, wr_26, wr_27, wr_28, wr_29, wr_30, wr_31, wr_32, wr_33, wr_34, wr_35, wr_36, wr_37, wr_38, wr_39, wr_40, wr_41, wr_42, wr_43, wr_44, wr_45, wr_46, wr_47, wr_48, wr_49, wr_50, wr_51, wr_52, wr_53, wr_54, wr_55, wr_56, wr_57, wr_58, wr_59, wr_60, wr_61, wr_62, wr_63, wr_99, wr_100, wr_192, wr_255, wr_256, wr_343, wr_999, wr_1000, wr_2401, wr_2147483647, wr_65535, wr_m1, wr_m2, wr_m3, wr_m4, wr_m9, ak_1000, ak_1001, ak_1002, ak_0, ak_1, ak_2, ak_3, ak_4, ak_5, ak_6, ak_7, ak_8, ak_9, ak_10, ak_11, ak_12, ak_13, ak_14, ak_15, ak_16, ak_17, ak_18, ak_19, ak_20, ak_21, ak_22, ak_23, ak_24, ak_25, ak_26, ak_27, ak_28, ak_29, ak_30, ak_31, ak_32, ak_33, ak_34, ak_35, ak_36, ak_37, ak_38, ak_39, ak_40, ak_41, ak_42, ak_43, ak_44, ak_45, ak_46, ak_47, -List.getD_eq_getElem?_getD, u26, q1, v26, q2, v36, v37, v38, v39, gs v26, gs v36, gs v37, gs v38, gs v39, l1, l2, l3, l4', ht, hx, wt, wx, wm, m0, hm, hz, wf, ss (i := 26) (j := 36) (by decide), ss (i := 26) (j := 37) (by decide), ss (i := 26) (j := 38) (by decide), ss (i := 26) (j := 39) (by decide), ss (i := 36) (j := 37) (by decide), ss (i := 36) (j := 38) (by decide), ss (i := 36) (j := 39) (by decide), ss (i := 37) (j := 38) (by decide), ss (i := 37) (j := 39) (by decide), ss (i := 38) (j := 39) (by decide)]
  · have e : cmT S t x mv = S := by unfold cmT; rw [if_neg hz]
    rw [e]
    generalize U6 M st lk len ac nx rf lr en sd q.1 S = V at q1 q2 v26 v36 ⊢
    generalize U6 M st lk len ac nx rf lr en sd d S = V0 at q1 u26 ⊢
    simp only [mo] at u26 v26
    (refine am_fnI (tb := tb_X6_come) (n := 60) (Nat.le_of_ble_eq_true rfl) (Nat.le_of_ble_eq_true rfl) ?_; show rx_X6_come 60 0 _ _ _ = _)
    simp [↓ri_X6_come, rs_X6_come_0, rs_X6_come_1, rs_X6_come_4, rs_X6_come_5, rs_X6_come_6, rs_X6_come_9, rs_X6_come_10, rs_X6_come_11, rs_X6_come_14, rs_X6_come_15, rs_X6_come_16, rs_X6_come_18, rs_X6_come_21, rs_X6_come_22, rs_X6_come_25, rs_X6_come_26, rs_X6_come_27, rs_X6_come_30, rs_X6_come_31, rs_X6_come_32, rs_X6_come_33, rs_X6_come_34, rs_X6_come_35, rs_X6_come_36, rs_X6_come_39, rs_X6_come_40, rs_X6_come_41, rs_X6_come_42, rs_X6_come_43, rs_X6_come_46, rs_X6_come_47, rs_X6_come_48, rs_X6_come_49, rs_X6_come_50, rs_X6_come_53, rs_X6_come_54, rs_X6_come_57, rs_X6_come_58, rs_X6_come_59, rs_X6_come_60, rs_X6_come_61, rs_X6_come_64, rs_X6_come_65, rs_X6_come_66, rs_X6_come_69, -List.getElem?_eq_getElem, am_js, am_e, am_in, am_sl, rI, rZ, rV, rJ, rA, rC, kI, kJ, kR, am_one, am_nl, am_w8, tIc, tLc, tNul, tIld, tLld, tAld, tIst, tLst, tAst, tIinc, tI2, tDv, tL2, tLrem, tLs, tLcmp, tI2l, tL2i, tI2c, tDup, tDup2, tPop, tGo, tIfeq, tIfne, tIflt, tIfge, tIfgt, tIfle, tCmeq, tCmne, tCmlt, tCmge, tCmgt, tCmle, tNu, tTs, tGf, tPf, tGs, tIal, tIas, tBal, tBas, tAln, tSv, tSc, tSb, tSl, tSk, tCv, tCs, tCt, tMx, tMn, wr_10000, wr_100000, wr_1000000, wr_10000000, wr_100000000, wr_2400, wr_9999, wr_0, wr_1, wr_2, wr_3, wr_4, wr_5, wr_6, wr_7, wr_8, wr_9, wr_10, wr_11, wr_12, wr_13, wr_14, wr_15, wr_16, wr_17, wr_18, wr_19, wr_20, wr_21, wr_22, wr_23, wr_24, wr_25, wr_26, wr_27, wr_28, wr_29, wr_30, wr_31, wr_32, wr_33, wr_34, wr_35, wr_36, wr_37, wr_38, wr_39, wr_40, wr_41, wr_42, wr_43, wr_44, wr_45, wr_46, wr_47, wr_48, wr_49, wr_50, wr_51, wr_52, wr_53, wr_54, wr_55, wr_56, wr_57, wr_58, wr_59, wr_60, wr_61, wr_62, wr_63, wr_99, wr_100, wr_192, wr_255, wr_256, wr_343, wr_999, wr_1000, wr_2401, wr_2147483647, wr_65535, wr_m1, wr_m2, wr_m3, wr_m4, wr_m9, ak_1000, ak_1001, ak_1002, ak_0, ak_1, ak_2, ak_3, ak_4, ak_5, ak_6, ak_7, ak_8, ak_9, ak_10, ak_11, ak_12, ak_13, ak_14, ak_15, ak_16, ak_17, ak_18, ak_19, ak_20, ak_21, ak_22, ak_23, ak_24, ak_25, ak_26, ak_27, ak_28, ak_29, ak_30, ak_31, ak_32, ak_33, ak_34, ak_35, ak_36, ak_37, ak_38, ak_39, ak_40, ak_41, ak_42, ak_43, ak_44, ak_45, ak_46, ak_47, -List.getD_eq_getElem?_getD, u26, q1, v26, q2, v36, l1, ht, wt, wf, hz]
end
