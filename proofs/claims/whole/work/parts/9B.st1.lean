noncomputable section
theorem st_write (c0 : Int) (hc0 : -2147483648 ≤ c0 ∧ c0 < 2147483648) : Sp0 fn_X5_write fn_X6_write [vI c0] := by
  intro M c n hI
  obtain ⟨len, fa, ac, sr, sd, txt, st, g, s, d, b, X, lk, lc, lt, ld, lb, lq, x, y, z, f, v, nx, rf, lr, en, lm, Y, row, F, B, P, L, w, k0, k1, tl, rfl, hTl, ⟨t1, t2, t3⟩, ⟨hr, hs⟩, ⟨n1, n2, n3⟩, ⟨p1, p2, p3, p4, p5, p6, p7, p8⟩, ⟨q0, q1⟩, ⟨u1, u2, u3, u4⟩⟩ := hI
  have q5 := sp_X5_write (M := (A5 len fa ac sr sd txt st g s d b X lk lc lt ld lb lq x y z f v ++ (A6 st lk len ac nx rf lr en lm sd g d b s lc lt txt Y row F B P L w f k0 k1 ++ tl))) rfl rfl t2 t1 c0 hc0
  by_cases h1 : 0 ≤ c0 ∧ c0 ≤ 255
  · by_cases h2 : len = 24
    · have q6 := sp_X6_write (M := (A5 len fa ac sr sd txt st g s d b X lk lc lt ld lb lq x y z f v ++ (A6 st lk len ac nx rf lr en lm sd g d b s lc lt txt Y row F B P L w f k0 k1 ++ tl))) rfl rfl t2 t1 c0 hc0
      rw [if_pos h1, if_pos h2] at q5 q6
      exact ⟨_, _, _, _, q5, q6, rfl, ⟨_, rfl⟩, ⟨_, rfl⟩, len, fa, ac, sr, sd, txt, st, g, s, d, b, X, lk, lc, lt, ld, lb, lq, x, y, z, f, v, nx, rf, lr, en, lm, Y, row, F, B, P, L, w, k0, k1, tl, rfl, hTl, ⟨⟨t1, t2, t3⟩, ⟨hr, hs⟩, ⟨n1, n2, n3⟩, ⟨p1, p2, p3, p4, p5, p6, p7, p8⟩, ⟨q0, q1⟩, ⟨u1, u2, u3, u4⟩⟩⟩
    · have q6 := sp_X6_write (M := (((A5 len fa ac sr sd txt st g s d b X lk lc lt ld lb lq x y z f v ++ (A6 st lk len ac nx rf lr en lm sd g d b s lc lt txt Y row F B P L w f k0 k1 ++ tl)).set 0 (co (len + 1) fa ac sr sd)).set 1 (aI (txt.set len.toNat c0)))) rfl rfl t2 t1 c0 hc0
      rw [if_pos h1, if_neg h2] at q5 q6
      have t3' : ∀ i : Nat, 0 ≤ (txt.set len.toNat c0).getD i 0 ∧ (txt.set len.toNat c0).getD i 0 < 256 := by
        intro i
        by_cases e : len.toNat = i
        · subst e
          rw [gd_self (by omega)]
          omega
        · rw [gd_ne e]
          exact t3 i
      exact ⟨_, _, _, _, q5, q6, rfl, ⟨_, rfl⟩, ⟨_, rfl⟩, len + 1, fa, ac, sr, sd, txt.set len.toNat c0, st, g, s, d, b, X, lk, lc, lt, ld, lb, lq, x, y, z, f, v, nx, rf, lr, en, lm, Y, row, F, B, P, L, w, k0, k1, tl, rfl, hTl, ⟨⟨(by omega), (by rw [List.length_set]; exact t2), t3'⟩, ⟨hr, hs⟩, ⟨n1, n2, n3⟩, ⟨p1, p2, p3, p4, p5, p6, p7, p8⟩, ⟨q0, q1⟩, ⟨u1, u2, u3, u4⟩⟩⟩
  · have q6 := sp_X6_write (M := (A5 len fa ac sr sd txt st g s d b X lk lc lt ld lb lq x y z f v ++ (A6 st lk len ac nx rf lr en lm sd g d b s lc lt txt Y row F B P L w f k0 k1 ++ tl))) rfl rfl t2 t1 c0 hc0
    rw [if_neg h1] at q5 q6
    exact ⟨_, _, _, _, q5, q6, rfl, ⟨_, rfl⟩, ⟨_, rfl⟩, len, fa, ac, sr, sd, txt, st, g, s, d, b, X, lk, lc, lt, ld, lb, lq, x, y, z, f, v, nx, rf, lr, en, lm, Y, row, F, B, P, L, w, k0, k1, tl, rfl, hTl, ⟨⟨t1, t2, t3⟩, ⟨hr, hs⟩, ⟨n1, n2, n3⟩, ⟨p1, p2, p3, p4, p5, p6, p7, p8⟩, ⟨q0, q1⟩, ⟨u1, u2, u3, u4⟩⟩⟩
theorem st_wipe  : Sp0 fn_X5_wipe fn_X6_wipe [] := by
  intro M c n hI
  obtain ⟨len, fa, ac, sr, sd, txt, st, g, s, d, b, X, lk, lc, lt, ld, lb, lq, x, y, z, f, v, nx, rf, lr, en, lm, Y, row, F, B, P, L, w, k0, k1, tl, rfl, hTl, ⟨t1, t2, t3⟩, ⟨hr, hs⟩, ⟨n1, n2, n3⟩, ⟨p1, p2, p3, p4, p5, p6, p7, p8⟩, ⟨q0, q1⟩, ⟨u1, u2, u3, u4⟩⟩ := hI
  have q5 := sp_X5_wipe (M := (A5 len fa ac sr sd txt st g s d b X lk lc lt ld lb lq x y z f v ++ (A6 st lk len ac nx rf lr en lm sd g d b s lc lt txt Y row F B P L w f k0 k1 ++ tl))) rfl
  have q6 := sp_X6_wipe (M := ((A5 len fa ac sr sd txt st g s d b X lk lc lt ld lb lq x y z f v ++ (A6 st lk len ac nx rf lr en lm sd g d b s lc lt txt Y row F B P L w f k0 k1 ++ tl)).set 0 (co 0 fa ac sr sd))) rfl
  exact ⟨_, _, _, _, q5, q6, rfl, ⟨_, rfl⟩, ⟨_, rfl⟩, 0, fa, ac, sr, sd, txt, st, g, s, d, b, X, lk, lc, lt, ld, lb, lq, x, y, z, f, v, nx, rf, lr, en, lm, Y, row, F, B, P, L, w, k0, k1, tl, rfl, hTl, ⟨⟨(by omega), t2, t3⟩, ⟨hr, hs⟩, ⟨n1, n2, n3⟩, ⟨p1, p2, p3, p4, p5, p6, p7, p8⟩, ⟨q0, q1⟩, ⟨u1, u2, u3, u4⟩⟩⟩
theorem st_fault  : Sp0 fn_X5_fault fn_X6_fault [] := by
  intro M c n hI
  obtain ⟨len, fa, ac, sr, sd, txt, st, g, s, d, b, X, lk, lc, lt, ld, lb, lq, x, y, z, f, v, nx, rf, lr, en, lm, Y, row, F, B, P, L, w, k0, k1, tl, rfl, hTl, ⟨t1, t2, t3⟩, ⟨hr, hs⟩, ⟨n1, n2, n3⟩, ⟨p1, p2, p3, p4, p5, p6, p7, p8⟩, ⟨q0, q1⟩, ⟨u1, u2, u3, u4⟩⟩ := hI
  have q5 := sp_X5_fault (M := (A5 len fa ac sr sd txt st g s d b X lk lc lt ld lb lq x y z f v ++ (A6 st lk len ac nx rf lr en lm sd g d b s lc lt txt Y row F B P L w f k0 k1 ++ tl))) rfl rfl t2 t1 t3
  have q6 := sp_X6_fault (M := (A5 len fa ac sr sd txt st g s d b X lk lc lt ld lb lq x y z f v ++ (A6 st lk len ac nx rf lr en lm sd g d b s lc lt txt Y row F B P L w f k0 k1 ++ tl))) rfl rfl t2 t1 t3
  exact ⟨_, _, _, _, q5, q6, rfl, ⟨_, rfl⟩, ⟨_, rfl⟩, len, fa, ac, sr, sd, txt, st, g, s, d, b, X, lk, lc, lt, ld, lb, lq, x, y, z, f, v, nx, rf, lr, en, lm, Y, row, F, B, P, L, w, k0, k1, tl, rfl, hTl, ⟨⟨t1, t2, t3⟩, ⟨hr, hs⟩, ⟨n1, n2, n3⟩, ⟨p1, p2, p3, p4, p5, p6, p7, p8⟩, ⟨q0, q1⟩, ⟨u1, u2, u3, u4⟩⟩⟩
theorem bed_ok {txt : List Int} {len : Int} (hl : 0 ≤ len ∧ len ≤ 24) (h : fau txt len len.toNat 0 = -9) {lc lt : F3} (hc : i3 0 3 lc) (ht : i3 0 9 lt) : SR (tf txt 1) (tfg txt) (tfs txt) (0, 0, 0, 0) (0, 0, 0, 0) ∧ (0 ≤ (len - 10) / 3 ∧ (len - 10) / 3 ≤ 3) ∧ i3 0 3 (tfc txt ((len - 10) / 3) lc) ∧ i3 0 9 (tft txt ((len - 10) / 3) lt) := by
  obtain ⟨hlen, hft⟩ := fau_len hl h
  have key : ∀ (j : Nat) (u w : Int), (j : Int) < len → am_b1.getD j 0 = u → am_b2.getD j 0 = w → u - 48 ≤ tf txt j ∧ tf txt j ≤ w - 48 := by
    intro j u w hj e1 e2
    have h1 := ft_one (hft j (by omega) hj)
    rw [Int.toNat_natCast, e1, e2] at h1
    unfold tf
    omega
  have k1 := key 1 49 51 (by omega) rfl rfl
  have k2 := key 2 49 57 (by omega) rfl rfl
  have k3 := key 3 49 57 (by omega) rfl rfl
  have k4 := key 4 49 57 (by omega) rfl rfl
  have k5 := key 5 49 57 (by omega) rfl rfl
  have k6 := key 6 48 57 (by omega) rfl rfl
  have k7 := key 7 48 57 (by omega) rfl rfl
  have k8 := key 8 48 57 (by omega) rfl rfl
  have k9 := key 9 48 57 (by omega) rfl rfl
  have kb : 1 ≤ (len - 10) / 3 → (0 ≤ tf txt 11 ∧ tf txt 11 ≤ 3) ∧ (0 ≤ tf txt 12 ∧ tf txt 12 ≤ 9) := fun z => ⟨key 11 48 51 (by omega) rfl rfl, key 12 48 57 (by omega) rfl rfl⟩
  have kc : 2 ≤ (len - 10) / 3 → (0 ≤ tf txt 14 ∧ tf txt 14 ≤ 3) ∧ (0 ≤ tf txt 15 ∧ tf txt 15 ≤ 9) := fun z => ⟨key 14 48 51 (by omega) rfl rfl, key 15 48 57 (by omega) rfl rfl⟩
  have kd : 3 ≤ (len - 10) / 3 → (0 ≤ tf txt 17 ∧ tf txt 17 ≤ 3) ∧ (0 ≤ tf txt 18 ∧ tf txt 18 ≤ 9) := fun z => ⟨key 17 48 51 (by omega) rfl rfl, key 18 48 57 (by omega) rfl rfl⟩
  refine ⟨⟨k1, ⟨k2, k3, k4, k5⟩, ⟨k6, k7, k8, k9⟩, i4_z (by decide), i4_z (by decide)⟩, by omega, ?_, ?_⟩
  · obtain ⟨c1, c2, c3⟩ := hc
    unfold tfc i3
    dsimp only
    refine ⟨?_, ?_, ?_⟩
    · split
      · next z => exact (kb z).1
      · exact c1
    · split
      · next z => exact (kc z).1
      · exact c2
    · split
      · next z => exact (kd z).1
      · exact c3
  · obtain ⟨c1, c2, c3⟩ := ht
    unfold tft i3
    dsimp only
    refine ⟨?_, ?_, ?_⟩
    · split
      · next z => exact (kb z).2
      · exact c1
    · split
      · next z => exact (kc z).2
      · exact c2
    · split
      · next z => exact (kd z).2
      · exact c3
theorem fs_off (st : Int) (g s b : F4) : fs st g s (0, 0, 0, 0) b = -9 := by
  rw [fs_no]
  intro c hc
  match c, hc with
  | 0, _ => exact Int.le_of_eq (ex_0 rfl)
  | 1, _ => exact Int.le_of_eq (ex_0 rfl)
  | 2, _ => exact Int.le_of_eq (ex_0 rfl)
  | 3, _ => exact Int.le_of_eq (ex_0 rfl)
theorem st_bed  : Sp0 fn_X5_bed fn_X6_bed [] := by
  intro M c n hI
  obtain ⟨len, fa, ac, sr, sd, txt, st, g, s, d, b, X, lk, lc, lt, ld, lb, lq, x, y, z, f, v, nx, rf, lr, en, lm, Y, row, F, B, P, L, w, k0, k1, tl, rfl, hTl, ⟨t1, t2, t3⟩, ⟨hr, hs⟩, ⟨n1, n2, n3⟩, ⟨p1, p2, p3, p4, p5, p6, p7, p8⟩, ⟨q0, q1⟩, ⟨u1, u2, u3, u4⟩⟩ := hI
  have q5 := sp_X5_bed (M := (A5 len fa ac sr sd txt st g s d b X lk lc lt ld lb lq x y z f v ++ (A6 st lk len ac nx rf lr en lm sd g d b s lc lt txt Y row F B P L w f k0 k1 ++ tl))) rfl rfl (⟨by decide, rfl, rfl, rfl, rfl, rfl⟩ : HS (A5 len fa ac sr sd txt st g s d b X lk lc lt ld lb lq x y z f v ++ (A6 st lk len ac nx rf lr en lm sd g d b s lc lt txt Y row F B P L w f k0 k1 ++ tl)) 2 st g s d b) (⟨rfl, rfl, rfl⟩ : HL (A5 len fa ac sr sd txt st g s d b X lk lc lt ld lb lq x y z f v ++ (A6 st lk len ac nx rf lr en lm sd g d b s lc lt txt Y row F B P L w f k0 k1 ++ tl)) lk lc lt) rfl t2 t1 t3
  by_cases h : fau txt len len.toNat 0 = -9
  · have q6 := sp_X6_bed (M := (((((((((((A5 len fa ac sr sd txt st g s d b X lk lc lt ld lb lq x y z f v ++ (A6 st lk len ac nx rf lr en lm sd g d b s lc lt txt Y row F B P L w f k0 k1 ++ tl)).set 0 (co len fa 0 sr sd)).set 2 (aO 4 [vI (tf txt 1), vR 3, vR 4, vR 5, vR 6])).set 3 (aI (l4 (tfg txt)))).set 4 (aI (l4 (tfs txt)))).set 5 (aI (l4 (0, 0, 0, 0)))).set 6 (aI (l4 (0, 0, 0, 0)))).set 12 (aO 0 [vI ((len - 10) / 3), vR 13, vR 14])).set 13 (aI (l3 (tfc txt ((len - 10) / 3) lc)))).set 14 (aI (l3 (tft txt ((len - 10) / 3) lt)))).set 23 (aB [0, 0]))) rfl rfl rfl rfl rfl rfl rfl t2 t1 t3
    rw [if_pos h] at q5 q6
    obtain ⟨b1, b2, b3, b4⟩ := bed_ok t1 h n2 n3
    exact ⟨_, _, _, _, q5, q6, rfl, ⟨_, rfl⟩, ⟨_, rfl⟩, len, fa, 0, sr, sd, txt, tf txt 1, tfg txt, tfs txt, (0, 0, 0, 0), (0, 0, 0, 0), X, (len - 10) / 3, tfc txt ((len - 10) / 3) lc, tft txt ((len - 10) / 3) lt, ld, lb, lq, x, y, z, (0, 0), v, nx, rf, lr, en, lm, Y, row, F, B, P, L, w, k0, k1, tl, rfl, hTl, ⟨⟨t1, t2, t3⟩, ⟨b1, fs_off _ _ _ _⟩, ⟨b2, b3, b4⟩, ⟨p1, (by omega), p3, p4, p5, p6, p7, (fun j j0 j1 => absurd j1 (by omega))⟩, ⟨⟨Or.inl rfl, fun h => absurd h (by decide)⟩, ⟨Or.inl rfl, fun h => absurd h (by decide)⟩⟩, ⟨u1, u2, u3, u4⟩⟩⟩
  · have q6 := sp_X6_bed (M := (A5 len fa ac sr sd txt st g s d b X lk lc lt ld lb lq x y z f v ++ (A6 st lk len ac nx rf lr en lm sd g d b s lc lt txt Y row F B P L w f k0 k1 ++ tl))) rfl rfl rfl rfl rfl rfl rfl t2 t1 t3
    rw [if_neg h] at q5 q6
    exact ⟨_, _, _, _, q5, q6, rfl, ⟨_, rfl⟩, ⟨_, rfl⟩, len, fa, ac, sr, sd, txt, st, g, s, d, b, X, lk, lc, lt, ld, lb, lq, x, y, z, f, v, nx, rf, lr, en, lm, Y, row, F, B, P, L, w, k0, k1, tl, rfl, hTl, ⟨⟨t1, t2, t3⟩, ⟨hr, hs⟩, ⟨n1, n2, n3⟩, ⟨p1, p2, p3, p4, p5, p6, p7, p8⟩, ⟨q0, q1⟩, ⟨u1, u2, u3, u4⟩⟩⟩
theorem st_corner (c0 : Int) (w0 : Int) (hc0 : -2147483648 ≤ c0 ∧ c0 < 2147483648) (hw0 : -2147483648 ≤ w0 ∧ w0 < 2147483648) : Sp0 fn_X5_corner fn_X6_corner [vI c0, vI w0] := by
  intro M c n hI
  obtain ⟨len, fa, ac, sr, sd, txt, st, g, s, d, b, X, lk, lc, lt, ld, lb, lq, x, y, z, f, v, nx, rf, lr, en, lm, Y, row, F, B, P, L, w, k0, k1, tl, rfl, hTl, ⟨t1, t2, t3⟩, ⟨hr, hs⟩, ⟨n1, n2, n3⟩, ⟨p1, p2, p3, p4, p5, p6, p7, p8⟩, ⟨q0, q1⟩, ⟨u1, u2, u3, u4⟩⟩ := hI
  have q5 := sp_X5_corner (M := (A5 len fa ac sr sd txt st g s d b X lk lc lt ld lb lq x y z f v ++ (A6 st lk len ac nx rf lr en lm sd g d b s lc lt txt Y row F B P L w f k0 k1 ++ tl))) rfl (⟨by decide, rfl, rfl, rfl, rfl, rfl⟩ : HS (A5 len fa ac sr sd txt st g s d b X lk lc lt ld lb lq x y z f v ++ (A6 st lk len ac nx rf lr en lm sd g d b s lc lt txt Y row F B P L w f k0 k1 ++ tl)) 2 st g s d b) hr c0 w0 hc0 hw0
  have q6 := sp_X6_corner (M := (A5 len fa ac sr sd txt st g s d b X lk lc lt ld lb lq x y z f v ++ (A6 st lk len ac nx rf lr en lm sd g d b s lc lt txt Y row F B P L w f k0 k1 ++ tl))) rfl rfl rfl rfl rfl rfl hr c0 w0 hc0 hw0
  by_cases h : 0 ≤ c0 ∧ c0 < 4
  · rw [if_pos h] at q5 q6
    exact ⟨_, _, _, _, q5, q6, rfl, ⟨_, rfl⟩, ⟨_, rfl⟩, len, fa, ac, sr, sd, txt, st, g, s, d, b, X, lk, lc, lt, ld, lb, lq, x, y, z, f, v, nx, rf, lr, en, lm, (d, b, s), row, F, B, P, L, w, k0, k1, tl, rfl, hTl, ⟨⟨t1, t2, t3⟩, ⟨hr, hs⟩, ⟨n1, n2, n3⟩, ⟨p1, p2, p3, p4, p5, p6, p7, p8⟩, ⟨q0, q1⟩, ⟨u1, u2, u3, u4⟩⟩⟩
  · rw [if_neg h] at q5 q6
    exact ⟨_, _, _, _, q5, q6, rfl, ⟨_, rfl⟩, ⟨_, rfl⟩, len, fa, ac, sr, sd, txt, st, g, s, d, b, X, lk, lc, lt, ld, lb, lq, x, y, z, f, v, nx, rf, lr, en, lm, Y, row, F, B, P, L, w, k0, k1, tl, rfl, hTl, ⟨⟨t1, t2, t3⟩, ⟨hr, hs⟩, ⟨n1, n2, n3⟩, ⟨p1, p2, p3, p4, p5, p6, p7, p8⟩, ⟨q0, q1⟩, ⟨u1, u2, u3, u4⟩⟩⟩
theorem st_edge (c0 : Int) (w0 : Int) (hc0 : -2147483648 ≤ c0 ∧ c0 < 2147483648) (hw0 : -2147483648 ≤ w0 ∧ w0 < 2147483648) : Sp0 fn_X5_edge fn_X6_edge [vI c0, vI w0] := by
  intro M c n hI
  obtain ⟨len, fa, ac, sr, sd, txt, st, g, s, d, b, X, lk, lc, lt, ld, lb, lq, x, y, z, f, v, nx, rf, lr, en, lm, Y, row, F, B, P, L, w, k0, k1, tl, rfl, hTl, ⟨t1, t2, t3⟩, ⟨hr, hs⟩, ⟨n1, n2, n3⟩, ⟨p1, p2, p3, p4, p5, p6, p7, p8⟩, ⟨q0, q1⟩, ⟨u1, u2, u3, u4⟩⟩ := hI
  have q5 := sp_X5_edge (M := (A5 len fa ac sr sd txt st g s d b X lk lc lt ld lb lq x y z f v ++ (A6 st lk len ac nx rf lr en lm sd g d b s lc lt txt Y row F B P L w f k0 k1 ++ tl))) rfl (⟨by decide, rfl, rfl, rfl, rfl, rfl⟩ : HS (A5 len fa ac sr sd txt st g s d b X lk lc lt ld lb lq x y z f v ++ (A6 st lk len ac nx rf lr en lm sd g d b s lc lt txt Y row F B P L w f k0 k1 ++ tl)) 2 st g s d b) hr c0 w0 hc0 hw0
  have q6 := sp_X6_edge (M := (A5 len fa ac sr sd txt st g s d b X lk lc lt ld lb lq x y z f v ++ (A6 st lk len ac nx rf lr en lm sd g d b s lc lt txt Y row F B P L w f k0 k1 ++ tl))) rfl rfl rfl rfl rfl rfl hr c0 w0 hc0 hw0
  by_cases h : 0 ≤ c0 ∧ c0 < 4
  · rw [if_pos h] at q5 q6
    exact ⟨_, _, _, _, q5, q6, rfl, ⟨_, rfl⟩, ⟨_, rfl⟩, len, fa, ac, sr, sd, txt, st, g, s, d, b, X, lk, lc, lt, ld, lb, lq, x, y, z, f, v, nx, rf, lr, en, lm, (d, b, s), row, F, B, P, L, w, k0, k1, tl, rfl, hTl, ⟨⟨t1, t2, t3⟩, ⟨hr, hs⟩, ⟨n1, n2, n3⟩, ⟨p1, p2, p3, p4, p5, p6, p7, p8⟩, ⟨q0, q1⟩, ⟨u1, u2, u3, u4⟩⟩⟩
  · rw [if_neg h] at q5 q6
    exact ⟨_, _, _, _, q5, q6, rfl, ⟨_, rfl⟩, ⟨_, rfl⟩, len, fa, ac, sr, sd, txt, st, g, s, d, b, X, lk, lc, lt, ld, lb, lq, x, y, z, f, v, nx, rf, lr, en, lm, Y, row, F, B, P, L, w, k0, k1, tl, rfl, hTl, ⟨⟨t1, t2, t3⟩, ⟨hr, hs⟩, ⟨n1, n2, n3⟩, ⟨p1, p2, p3, p4, p5, p6, p7, p8⟩, ⟨q0, q1⟩, ⟨u1, u2, u3, u4⟩⟩⟩
theorem st_count (w0 : Int) (hw0 : -2147483648 ≤ w0 ∧ w0 < 2147483648) : Sp0 fn_X5_count fn_X6_count [vI w0] := by
  intro M c n hI
  obtain ⟨len, fa, ac, sr, sd, txt, st, g, s, d, b, X, lk, lc, lt, ld, lb, lq, x, y, z, f, v, nx, rf, lr, en, lm, Y, row, F, B, P, L, w, k0, k1, tl, rfl, hTl, ⟨t1, t2, t3⟩, ⟨hr, hs⟩, ⟨n1, n2, n3⟩, ⟨p1, p2, p3, p4, p5, p6, p7, p8⟩, ⟨q0, q1⟩, ⟨u1, u2, u3, u4⟩⟩ := hI
  have q5 := sp_X5_count (M := (A5 len fa ac sr sd txt st g s d b X lk lc lt ld lb lq x y z f v ++ (A6 st lk len ac nx rf lr en lm sd g d b s lc lt txt Y row F B P L w f k0 k1 ++ tl))) rfl (⟨by decide, rfl, rfl, rfl, rfl, rfl⟩ : HS (A5 len fa ac sr sd txt st g s d b X lk lc lt ld lb lq x y z f v ++ (A6 st lk len ac nx rf lr en lm sd g d b s lc lt txt Y row F B P L w f k0 k1 ++ tl)) 2 st g s d b) (⟨rfl, rfl, rfl⟩ : HL (A5 len fa ac sr sd txt st g s d b X lk lc lt ld lb lq x y z f v ++ (A6 st lk len ac nx rf lr en lm sd g d b s lc lt txt Y row F B P L w f k0 k1 ++ tl)) lk lc lt) hr w0 hw0
  have q6 := sp_X6_count (M := (A5 len fa ac sr sd txt st g s d b X lk lc lt ld lb lq x y z f v ++ (A6 st lk len ac nx rf lr en lm sd g d b s lc lt txt Y row F B P L w f k0 k1 ++ tl))) rfl rfl rfl rfl rfl rfl hr w0 hw0
  exact ⟨_, _, _, _, q5, q6, rfl, ⟨_, rfl⟩, ⟨_, rfl⟩, len, fa, ac, sr, sd, txt, st, g, s, d, b, X, lk, lc, lt, ld, lb, lq, x, y, z, f, v, nx, rf, lr, en, lm, (d, b, s), row, F, B, P, L, w, k0, k1, tl, rfl, hTl, ⟨⟨t1, t2, t3⟩, ⟨hr, hs⟩, ⟨n1, n2, n3⟩, ⟨p1, p2, p3, p4, p5, p6, p7, p8⟩, ⟨q0, q1⟩, ⟨u1, u2, u3, u4⟩⟩⟩
theorem st_would (x0 : Int) (w0 : Int) (hx0 : -2147483648 ≤ x0 ∧ x0 < 2147483648) (hw0 : -2147483648 ≤ w0 ∧ w0 < 2147483648) : Sp0 fn_X5_would fn_X6_would [vI x0, vI w0] := by
  intro M c n hI
  obtain ⟨len, fa, ac, sr, sd, txt, st, g, s, d, b, X, lk, lc, lt, ld, lb, lq, x, y, z, f, v, nx, rf, lr, en, lm, Y, row, F, B, P, L, w, k0, k1, tl, rfl, hTl, ⟨t1, t2, t3⟩, ⟨hr, hs⟩, ⟨n1, n2, n3⟩, ⟨p1, p2, p3, p4, p5, p6, p7, p8⟩, ⟨q0, q1⟩, ⟨u1, u2, u3, u4⟩⟩ := hI
  have q5 := sp_X5_would (M := (A5 len fa ac sr sd txt st g s d b X lk lc lt ld lb lq x y z f v ++ (A6 st lk len ac nx rf lr en lm sd g d b s lc lt txt Y row F B P L w f k0 k1 ++ tl))) rfl (⟨by decide, rfl, rfl, rfl, rfl, rfl⟩ : HS (A5 len fa ac sr sd txt st g s d b X lk lc lt ld lb lq x y z f v ++ (A6 st lk len ac nx rf lr en lm sd g d b s lc lt txt Y row F B P L w f k0 k1 ++ tl)) 2 st g s d b) (⟨by decide, rfl, rfl, rfl, rfl, rfl⟩ : HS (A5 len fa ac sr sd txt st g s d b X lk lc lt ld lb lq x y z f v ++ (A6 st lk len ac nx rf lr en lm sd g d b s lc lt txt Y row F B P L w f k0 k1 ++ tl)) 7 X.1 X.2.1 X.2.2.1 X.2.2.2.1 X.2.2.2.2) hr x0 w0 hx0 hw0
  by_cases h : (0 ≤ x0 ∧ x0 < 10000 ∧ i4 0 6 (uf x0)) ∧ (0 ≤ w0 ∧ w0 ≤ 2)
  · by_cases h0 : w0 = 0
    · have q6 := sp_X6_would (M := ((((((A5 len fa ac sr sd txt st g s d b X lk lc lt ld lb lq x y z f v ++ (A6 st lk len ac nx rf lr en lm sd g d b s lc lt txt Y row F B P L w f k0 k1 ++ tl)).set 7 (aO 4 [vI st, vR 8, vR 9, vR 10, vR 11])).set 8 (aI (l4 g))).set 9 (aI (l4 s))).set 10 (aI (l4 (uf x0)))).set 11 (aI (l4 b)))) rfl rfl rfl rfl rfl rfl hr x0 w0 hx0 hw0
      rw [if_pos h, if_pos h0] at q5 q6
      exact ⟨_, _, _, _, q5, q6, rfl, ⟨_, rfl⟩, ⟨_, rfl⟩, len, fa, ac, sr, sd, txt, st, g, s, d, b, (st, g, s, uf x0, b), lk, lc, lt, ld, lb, lq, x, y, z, f, v, nx, rf, lr, en, lm, (uf x0, b, s), row, F, B, P, L, w, k0, k1, tl, rfl, hTl, ⟨⟨t1, t2, t3⟩, ⟨hr, hs⟩, ⟨n1, n2, n3⟩, ⟨p1, p2, p3, p4, p5, p6, p7, p8⟩, ⟨q0, q1⟩, ⟨u1, u2, u3, u4⟩⟩⟩
    · by_cases h1 : w0 = 1
      · have q6 := sp_X6_would (M := ((((((A5 len fa ac sr sd txt st g s d b X lk lc lt ld lb lq x y z f v ++ (A6 st lk len ac nx rf lr en lm sd g d b s lc lt txt Y row F B P L w f k0 k1 ++ tl)).set 7 (aO 4 [vI st, vR 8, vR 9, vR 10, vR 11])).set 8 (aI (l4 g))).set 9 (aI (l4 s))).set 10 (aI (l4 (uf x0)))).set 11 (aI (l4 b)))) rfl rfl rfl rfl rfl rfl hr x0 w0 hx0 hw0
        rw [if_pos h, if_neg h0, if_pos h1] at q5 q6
        exact ⟨_, _, _, _, q5, q6, rfl, ⟨_, rfl⟩, ⟨_, rfl⟩, len, fa, ac, sr, sd, txt, st, g, s, d, b, (st, g, s, uf x0, b), lk, lc, lt, ld, lb, lq, x, y, z, f, v, nx, rf, lr, en, lm, (uf x0, b, s), row, F, B, P, L, w, k0, k1, tl, rfl, hTl, ⟨⟨t1, t2, t3⟩, ⟨hr, hs⟩, ⟨n1, n2, n3⟩, ⟨p1, p2, p3, p4, p5, p6, p7, p8⟩, ⟨q0, q1⟩, ⟨u1, u2, u3, u4⟩⟩⟩
      · have q6 := sp_X6_would (M := ((((((A5 len fa ac sr sd txt st g s d b X lk lc lt ld lb lq x y z f v ++ (A6 st lk len ac nx rf lr en lm sd g d b s lc lt txt Y row F B P L w f k0 k1 ++ tl)).set 7 (aO 4 [vI st, vR 8, vR 9, vR 10, vR 11])).set 8 (aI (l4 g))).set 9 (aI (l4 s))).set 10 (aI (l4 ((sl st g s b 4 (uf x0) 0).1)))).set 11 (aI (l4 b)))) rfl rfl rfl rfl rfl rfl hr x0 w0 hx0 hw0
        rw [if_pos h, if_neg h0, if_neg h1] at q5 q6
        exact ⟨_, _, _, _, q5, q6, rfl, ⟨_, rfl⟩, ⟨_, rfl⟩, len, fa, ac, sr, sd, txt, st, g, s, d, b, (st, g, s, (sl st g s b 4 (uf x0) 0).1, b), lk, lc, lt, ld, lb, lq, x, y, z, f, v, nx, rf, lr, en, lm, ((sl st g s b 4 (uf x0) 0).1, b, s), row, F, B, P, L, w, k0, k1, tl, rfl, hTl, ⟨⟨t1, t2, t3⟩, ⟨hr, hs⟩, ⟨n1, n2, n3⟩, ⟨p1, p2, p3, p4, p5, p6, p7, p8⟩, ⟨q0, q1⟩, ⟨u1, u2, u3, u4⟩⟩⟩
  · have q6 := sp_X6_would (M := (A5 len fa ac sr sd txt st g s d b X lk lc lt ld lb lq x y z f v ++ (A6 st lk len ac nx rf lr en lm sd g d b s lc lt txt Y row F B P L w f k0 k1 ++ tl))) rfl rfl rfl rfl rfl rfl hr x0 w0 hx0 hw0
    rw [if_neg h] at q5 q6
    exact ⟨_, _, _, _, q5, q6, rfl, ⟨_, rfl⟩, ⟨_, rfl⟩, len, fa, ac, sr, sd, txt, st, g, s, d, b, X, lk, lc, lt, ld, lb, lq, x, y, z, f, v, nx, rf, lr, en, lm, Y, row, F, B, P, L, w, k0, k1, tl, rfl, hTl, ⟨⟨t1, t2, t3⟩, ⟨hr, hs⟩, ⟨n1, n2, n3⟩, ⟨p1, p2, p3, p4, p5, p6, p7, p8⟩, ⟨q0, q1⟩, ⟨u1, u2, u3, u4⟩⟩⟩
end
