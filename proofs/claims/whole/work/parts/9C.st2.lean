noncomputable section
theorem st_set (c0 : Int) (x0 : Int) (hc0 : -2147483648 ≤ c0 ∧ c0 < 2147483648) (hx0 : -2147483648 ≤ x0 ∧ x0 < 2147483648) : Sp0 fn_X5_set fn_X6_set [vI c0, vI x0] := by
  intro M c n hI
  obtain ⟨len, fa, ac, sr, sd, txt, st, g, s, d, b, X, lk, lc, lt, ld, lb, lq, x, y, z, f, v, nx, rf, lr, en, lm, Y, row, F, B, P, L, w, k0, k1, tl, rfl, hTl, ⟨t1, t2, t3⟩, ⟨hr, hs⟩, ⟨n1, n2, n3⟩, ⟨p1, p2, p3, p4, p5, p6, p7, p8⟩, ⟨q0, q1⟩, ⟨u1, u2, u3, u4⟩⟩ := hI
  have q5 := sp_X5_set (M := (A5 len fa ac sr sd txt st g s d b X lk lc lt ld lb lq x y z f v ++ (A6 st lk len ac nx rf lr en lm sd g d b s lc lt txt Y row F B P L w f k0 k1 ++ tl))) rfl (⟨by decide, rfl, rfl, rfl, rfl, rfl⟩ : HS (A5 len fa ac sr sd txt st g s d b X lk lc lt ld lb lq x y z f v ++ (A6 st lk len ac nx rf lr en lm sd g d b s lc lt txt Y row F B P L w f k0 k1 ++ tl)) 2 st g s d b) (⟨rfl, rfl, rfl, rfl⟩ : HM (A5 len fa ac sr sd txt st g s d b X lk lc lt ld lb lq x y z f v ++ (A6 st lk len ac nx rf lr en lm sd g d b s lc lt txt Y row F B P L w f k0 k1 ++ tl)) 15 ld lb lq) p4 p5 p6 p1 p2 hr c0 x0 hc0 hx0
  by_cases h1 : 0 ≤ c0 ∧ c0 < 4
  · by_cases h2 : 0 ≤ x0 ∧ x0 ≤ 6
    · by_cases h3 : g4 d c0.toNat = x0
      · have q6 := sp_X6_set (M := (A5 len fa ac sr sd txt st g s d b X lk lc lt ld lb lq x y z f v ++ (A6 st lk len ac nx rf lr en lm sd g d b s lc lt txt Y row F B P L w f k0 k1 ++ tl))) rfl rfl rfl rfl rfl rfl rfl p7 p3 p2 hr c0 x0 hc0 hx0
        rw [if_pos h1, if_pos h2, if_pos h3] at q5 q6
        exact ⟨_, _, _, _, q5, q6, rfl, ⟨_, rfl⟩, ⟨_, rfl⟩, len, fa, ac, sr, sd, txt, st, g, s, d, b, X, lk, lc, lt, ld, lb, lq, x, y, z, f, v, nx, rf, lr, en, lm, Y, row, F, B, P, L, w, k0, k1, tl, rfl, hTl, ⟨⟨t1, t2, t3⟩, ⟨hr, hs⟩, ⟨n1, n2, n3⟩, ⟨p1, p2, p3, p4, p5, p6, p7, p8⟩, ⟨q0, q1⟩, ⟨u1, u2, u3, u4⟩⟩⟩
      · have q6 := sp_X6_set (M := ((((((A5 len fa ac sr sd txt st g s d b X lk lc lt ld lb lq x y z f v ++ (A6 st lk len ac nx rf lr en lm sd g d b s lc lt txt Y row F B P L w f k0 k1 ++ tl)).set 0 (co len (rmf fa ac) (rma ac + 1) sr sd)).set 5 (aI (l4 (sl st g s b 4 (s4 d c0.toNat x0) 0).1))).set 16 (aI (ld.set (rmi fa ac).toNat (fg d)))).set 17 (aI (lb.set (rmi fa ac).toNat (fg b)))).set 18 (aI (lq.set (rmi fa ac).toNat (fg s))))) rfl rfl rfl rfl rfl rfl rfl p7 p3 p2 hr c0 x0 hc0 hx0
        rw [if_pos h1, if_pos h2, if_neg h3] at q5 q6
        rw [rma_eq ac p2.2] at q6
        exact ⟨_, _, _, _, q5, q6, rfl, ⟨_, rfl⟩, ⟨_, rfl⟩, len, rmf fa ac, rma ac + 1, sr, sd, txt, st, g, s, (sl st g s b 4 (s4 d c0.toNat x0) 0).1, b, X, lk, lc, lt, ld.set (rmi fa ac).toNat (fg d), lb.set (rmi fa ac).toNat (fg b), lq.set (rmi fa ac).toNat (fg s), x, y, z, f, v, (nx + 1) % 16, rf, lr, en, lm, ((sl st g s b 4 (s4 d c0.toNat x0) 0).1, b, s), k12 row nx d b s, F, B, P, L, w, k0, k1, tl, rfl, hTl, ⟨⟨t1, t2, t3⟩, ⟨⟨hr.1, hr.2.1, hr.2.2.1, sl_i4 st g s b 4 _ 0 (i4_s hr.2.2.2.1 _ h2.1 h2.2), hr.2.2.2.2⟩, sl_4 _ _ _ _ _ _⟩, ⟨n1, n2, n3⟩, ⟨(rm_rng p1 p2).1, (rm_rng p1 p2).2, (by omega), (by rw [List.length_set]; exact p4), (by rw [List.length_set]; exact p5), (by rw [List.length_set]; exact p6), (by rw [k12_len]; exact p7), p8.up p1 p2 p3 p4 p5 p6 p7 ⟨hr, hs⟩⟩, ⟨q0, q1⟩, ⟨u1, u2, u3, u4⟩⟩⟩
    · have q6 := sp_X6_set (M := (A5 len fa ac sr sd txt st g s d b X lk lc lt ld lb lq x y z f v ++ (A6 st lk len ac nx rf lr en lm sd g d b s lc lt txt Y row F B P L w f k0 k1 ++ tl))) rfl rfl rfl rfl rfl rfl rfl p7 p3 p2 hr c0 x0 hc0 hx0
      rw [if_pos h1, if_neg h2] at q5 q6
      exact ⟨_, _, _, _, q5, q6, rfl, ⟨_, rfl⟩, ⟨_, rfl⟩, len, fa, ac, sr, sd, txt, st, g, s, d, b, X, lk, lc, lt, ld, lb, lq, x, y, z, f, v, nx, rf, lr, en, lm, Y, row, F, B, P, L, w, k0, k1, tl, rfl, hTl, ⟨⟨t1, t2, t3⟩, ⟨hr, hs⟩, ⟨n1, n2, n3⟩, ⟨p1, p2, p3, p4, p5, p6, p7, p8⟩, ⟨q0, q1⟩, ⟨u1, u2, u3, u4⟩⟩⟩
  · have q6 := sp_X6_set (M := (A5 len fa ac sr sd txt st g s d b X lk lc lt ld lb lq x y z f v ++ (A6 st lk len ac nx rf lr en lm sd g d b s lc lt txt Y row F B P L w f k0 k1 ++ tl))) rfl rfl rfl rfl rfl rfl rfl p7 p3 p2 hr c0 x0 hc0 hx0
    rw [if_neg h1] at q5 q6
    exact ⟨_, _, _, _, q5, q6, rfl, ⟨_, rfl⟩, ⟨_, rfl⟩, len, fa, ac, sr, sd, txt, st, g, s, d, b, X, lk, lc, lt, ld, lb, lq, x, y, z, f, v, nx, rf, lr, en, lm, Y, row, F, B, P, L, w, k0, k1, tl, rfl, hTl, ⟨⟨t1, t2, t3⟩, ⟨hr, hs⟩, ⟨n1, n2, n3⟩, ⟨p1, p2, p3, p4, p5, p6, p7, p8⟩, ⟨q0, q1⟩, ⟨u1, u2, u3, u4⟩⟩⟩
theorem st_bend (c0 : Int) (x0 : Int) (hc0 : -2147483648 ≤ c0 ∧ c0 < 2147483648) (hx0 : -2147483648 ≤ x0 ∧ x0 < 2147483648) : Sp0 fn_X5_bend fn_X6_bend [vI c0, vI x0] := by
  intro M c n hI
  obtain ⟨len, fa, ac, sr, sd, txt, st, g, s, d, b, X, lk, lc, lt, ld, lb, lq, x, y, z, f, v, nx, rf, lr, en, lm, Y, row, F, B, P, L, w, k0, k1, tl, rfl, hTl, ⟨t1, t2, t3⟩, ⟨hr, hs⟩, ⟨n1, n2, n3⟩, ⟨p1, p2, p3, p4, p5, p6, p7, p8⟩, ⟨q0, q1⟩, ⟨u1, u2, u3, u4⟩⟩ := hI
  have q5 := sp_X5_bend (M := (A5 len fa ac sr sd txt st g s d b X lk lc lt ld lb lq x y z f v ++ (A6 st lk len ac nx rf lr en lm sd g d b s lc lt txt Y row F B P L w f k0 k1 ++ tl))) rfl (⟨by decide, rfl, rfl, rfl, rfl, rfl⟩ : HS (A5 len fa ac sr sd txt st g s d b X lk lc lt ld lb lq x y z f v ++ (A6 st lk len ac nx rf lr en lm sd g d b s lc lt txt Y row F B P L w f k0 k1 ++ tl)) 2 st g s d b) (⟨rfl, rfl, rfl, rfl⟩ : HM (A5 len fa ac sr sd txt st g s d b X lk lc lt ld lb lq x y z f v ++ (A6 st lk len ac nx rf lr en lm sd g d b s lc lt txt Y row F B P L w f k0 k1 ++ tl)) 15 ld lb lq) p4 p5 p6 p1 p2 hr c0 x0 hc0 hx0
  by_cases h1 : 0 ≤ c0 ∧ c0 < 4
  · by_cases h2 : 0 ≤ x0 ∧ x0 ≤ 3
    · by_cases h3 : g4 b c0.toNat = x0
      · have q6 := sp_X6_bend (M := (A5 len fa ac sr sd txt st g s d b X lk lc lt ld lb lq x y z f v ++ (A6 st lk len ac nx rf lr en lm sd g d b s lc lt txt Y row F B P L w f k0 k1 ++ tl))) rfl rfl rfl rfl rfl rfl rfl p7 p3 p2 hr c0 x0 hc0 hx0
        rw [if_pos h1, if_pos h2, if_pos h3] at q5 q6
        exact ⟨_, _, _, _, q5, q6, rfl, ⟨_, rfl⟩, ⟨_, rfl⟩, len, fa, ac, sr, sd, txt, st, g, s, d, b, X, lk, lc, lt, ld, lb, lq, x, y, z, f, v, nx, rf, lr, en, lm, Y, row, F, B, P, L, w, k0, k1, tl, rfl, hTl, ⟨⟨t1, t2, t3⟩, ⟨hr, hs⟩, ⟨n1, n2, n3⟩, ⟨p1, p2, p3, p4, p5, p6, p7, p8⟩, ⟨q0, q1⟩, ⟨u1, u2, u3, u4⟩⟩⟩
      · have q6 := sp_X6_bend (M := (((((((A5 len fa ac sr sd txt st g s d b X lk lc lt ld lb lq x y z f v ++ (A6 st lk len ac nx rf lr en lm sd g d b s lc lt txt Y row F B P L w f k0 k1 ++ tl)).set 0 (co len (rmf fa ac) (rma ac + 1) sr sd)).set 5 (aI (l4 (sl st g s (s4 b c0.toNat x0) 4 d 0).1))).set 6 (aI (l4 (s4 b c0.toNat x0)))).set 16 (aI (ld.set (rmi fa ac).toNat (fg d)))).set 17 (aI (lb.set (rmi fa ac).toNat (fg b)))).set 18 (aI (lq.set (rmi fa ac).toNat (fg s))))) rfl rfl rfl rfl rfl rfl rfl p7 p3 p2 hr c0 x0 hc0 hx0
        rw [if_pos h1, if_pos h2, if_neg h3] at q5 q6
        rw [rma_eq ac p2.2] at q6
        exact ⟨_, _, _, _, q5, q6, rfl, ⟨_, rfl⟩, ⟨_, rfl⟩, len, rmf fa ac, rma ac + 1, sr, sd, txt, st, g, s, (sl st g s (s4 b c0.toNat x0) 4 d 0).1, s4 b c0.toNat x0, X, lk, lc, lt, ld.set (rmi fa ac).toNat (fg d), lb.set (rmi fa ac).toNat (fg b), lq.set (rmi fa ac).toNat (fg s), x, y, z, f, v, (nx + 1) % 16, rf, lr, en, lm, ((sl st g s (s4 b c0.toNat x0) 4 d 0).1, s4 b c0.toNat x0, s), k12 row nx d b s, F, B, P, L, w, k0, k1, tl, rfl, hTl, ⟨⟨t1, t2, t3⟩, ⟨⟨hr.1, hr.2.1, hr.2.2.1, sl_i4 st g s _ 4 _ 0 hr.2.2.2.1, i4_s hr.2.2.2.2 _ h2.1 h2.2⟩, sl_4 _ _ _ _ _ _⟩, ⟨n1, n2, n3⟩, ⟨(rm_rng p1 p2).1, (rm_rng p1 p2).2, (by omega), (by rw [List.length_set]; exact p4), (by rw [List.length_set]; exact p5), (by rw [List.length_set]; exact p6), (by rw [k12_len]; exact p7), p8.up p1 p2 p3 p4 p5 p6 p7 ⟨hr, hs⟩⟩, ⟨q0, q1⟩, ⟨u1, u2, u3, u4⟩⟩⟩
    · have q6 := sp_X6_bend (M := (A5 len fa ac sr sd txt st g s d b X lk lc lt ld lb lq x y z f v ++ (A6 st lk len ac nx rf lr en lm sd g d b s lc lt txt Y row F B P L w f k0 k1 ++ tl))) rfl rfl rfl rfl rfl rfl rfl p7 p3 p2 hr c0 x0 hc0 hx0
      rw [if_pos h1, if_neg h2] at q5 q6
      exact ⟨_, _, _, _, q5, q6, rfl, ⟨_, rfl⟩, ⟨_, rfl⟩, len, fa, ac, sr, sd, txt, st, g, s, d, b, X, lk, lc, lt, ld, lb, lq, x, y, z, f, v, nx, rf, lr, en, lm, Y, row, F, B, P, L, w, k0, k1, tl, rfl, hTl, ⟨⟨t1, t2, t3⟩, ⟨hr, hs⟩, ⟨n1, n2, n3⟩, ⟨p1, p2, p3, p4, p5, p6, p7, p8⟩, ⟨q0, q1⟩, ⟨u1, u2, u3, u4⟩⟩⟩
  · have q6 := sp_X6_bend (M := (A5 len fa ac sr sd txt st g s d b X lk lc lt ld lb lq x y z f v ++ (A6 st lk len ac nx rf lr en lm sd g d b s lc lt txt Y row F B P L w f k0 k1 ++ tl))) rfl rfl rfl rfl rfl rfl rfl p7 p3 p2 hr c0 x0 hc0 hx0
    rw [if_neg h1] at q5 q6
    exact ⟨_, _, _, _, q5, q6, rfl, ⟨_, rfl⟩, ⟨_, rfl⟩, len, fa, ac, sr, sd, txt, st, g, s, d, b, X, lk, lc, lt, ld, lb, lq, x, y, z, f, v, nx, rf, lr, en, lm, Y, row, F, B, P, L, w, k0, k1, tl, rfl, hTl, ⟨⟨t1, t2, t3⟩, ⟨hr, hs⟩, ⟨n1, n2, n3⟩, ⟨p1, p2, p3, p4, p5, p6, p7, p8⟩, ⟨q0, q1⟩, ⟨u1, u2, u3, u4⟩⟩⟩
theorem st_wash  : Sp0 fn_X5_wash fn_X6_wash [] := by
  intro M c n hI
  obtain ⟨len, fa, ac, sr, sd, txt, st, g, s, d, b, X, lk, lc, lt, ld, lb, lq, x, y, z, f, v, nx, rf, lr, en, lm, Y, row, F, B, P, L, w, k0, k1, tl, rfl, hTl, ⟨t1, t2, t3⟩, ⟨hr, hs⟩, ⟨n1, n2, n3⟩, ⟨p1, p2, p3, p4, p5, p6, p7, p8⟩, ⟨q0, q1⟩, ⟨u1, u2, u3, u4⟩⟩ := hI
  have q5 := sp_X5_wash (M := (A5 len fa ac sr sd txt st g s d b X lk lc lt ld lb lq x y z f v ++ (A6 st lk len ac nx rf lr en lm sd g d b s lc lt txt Y row F B P L w f k0 k1 ++ tl))) rfl (⟨by decide, rfl, rfl, rfl, rfl, rfl⟩ : HS (A5 len fa ac sr sd txt st g s d b X lk lc lt ld lb lq x y z f v ++ (A6 st lk len ac nx rf lr en lm sd g d b s lc lt txt Y row F B P L w f k0 k1 ++ tl)) 2 st g s d b) (⟨rfl, rfl, rfl, rfl⟩ : HM (A5 len fa ac sr sd txt st g s d b X lk lc lt ld lb lq x y z f v ++ (A6 st lk len ac nx rf lr en lm sd g d b s lc lt txt Y row F B P L w f k0 k1 ++ tl)) 15 ld lb lq) p4 p5 p6 p1 p2 hr
  have q6 := sp_X6_wash (M := (((((((A5 len fa ac sr sd txt st g s d b X lk lc lt ld lb lq x y z f v ++ (A6 st lk len ac nx rf lr en lm sd g d b s lc lt txt Y row F B P L w f k0 k1 ++ tl)).set 0 (co len (rmf fa ac) (rma ac + 1) sr sd)).set 4 (aI (l4 (wz4 s)))).set 5 (aI (l4 (sl st g (wz4 s) b 4 d 0).1))).set 16 (aI (ld.set (rmi fa ac).toNat (fg d)))).set 17 (aI (lb.set (rmi fa ac).toNat (fg b)))).set 18 (aI (lq.set (rmi fa ac).toNat (fg s))))) rfl rfl rfl rfl rfl rfl rfl p7 p3 p2 hr
  rw [rma_eq ac p2.2] at q6
  exact ⟨_, _, _, _, q5, q6, rfl, ⟨_, rfl⟩, ⟨_, rfl⟩, len, rmf fa ac, rma ac + 1, sr, sd, txt, st, g, wz4 s, (sl st g (wz4 s) b 4 d 0).1, b, X, lk, lc, lt, ld.set (rmi fa ac).toNat (fg d), lb.set (rmi fa ac).toNat (fg b), lq.set (rmi fa ac).toNat (fg s), x, y, z, f, v, (nx + 1) % 16, rf, lr, en, lm, ((sl st g (wz4 s) b 4 d 0).1, b, wz4 s), k12 row nx d b s, F, B, P, L, w, k0, k1, tl, rfl, hTl, ⟨⟨t1, t2, t3⟩, ⟨⟨hr.1, hr.2.1, wz4_rng hr.2.2.1, sl_i4 st g _ b 4 _ 0 hr.2.2.2.1, hr.2.2.2.2⟩, sl_4 _ _ _ _ _ _⟩, ⟨n1, n2, n3⟩, ⟨(rm_rng p1 p2).1, (rm_rng p1 p2).2, (by omega), (by rw [List.length_set]; exact p4), (by rw [List.length_set]; exact p5), (by rw [List.length_set]; exact p6), (by rw [k12_len]; exact p7), p8.up p1 p2 p3 p4 p5 p6 p7 ⟨hr, hs⟩⟩, ⟨q0, q1⟩, ⟨u1, u2, u3, u4⟩⟩⟩
theorem onb_0 {d : F4} (h : i4 0 6 d) (hz : onb d = 0) : d = (0, 0, 0, 0) := by
  obtain ⟨a, b, c, e⟩ := d
  obtain ⟨h1, h2, h3, h4⟩ := h
  unfold onb on1 at hz
  dsimp only at *
  have e1 : a = 0 := by (repeat' split at hz) <;> omega
  have e2 : b = 0 := by (repeat' split at hz) <;> omega
  have e3 : c = 0 := by (repeat' split at hz) <;> omega
  have e4 : e = 0 := by (repeat' split at hz) <;> omega
  rw [e1, e2, e3, e4]
theorem st_turn  : Sp0 fn_X5_turn fn_X6_turn [] := by
  intro M c n hI
  obtain ⟨len, fa, ac, sr, sd, txt, st, g, s, d, b, X, lk, lc, lt, ld, lb, lq, x, y, z, f, v, nx, rf, lr, en, lm, Y, row, F, B, P, L, w, k0, k1, tl, rfl, hTl, ⟨t1, t2, t3⟩, ⟨hr, hs⟩, ⟨n1, n2, n3⟩, ⟨p1, p2, p3, p4, p5, p6, p7, p8⟩, ⟨q0, q1⟩, ⟨u1, u2, u3, u4⟩⟩ := hI
  have q5 := sp_X5_turn (M := (A5 len fa ac sr sd txt st g s d b X lk lc lt ld lb lq x y z f v ++ (A6 st lk len ac nx rf lr en lm sd g d b s lc lt txt Y row F B P L w f k0 k1 ++ tl))) rfl (⟨by decide, rfl, rfl, rfl, rfl, rfl⟩ : HS (A5 len fa ac sr sd txt st g s d b X lk lc lt ld lb lq x y z f v ++ (A6 st lk len ac nx rf lr en lm sd g d b s lc lt txt Y row F B P L w f k0 k1 ++ tl)) 2 st g s d b) (⟨rfl, rfl, rfl, rfl⟩ : HM (A5 len fa ac sr sd txt st g s d b X lk lc lt ld lb lq x y z f v ++ (A6 st lk len ac nx rf lr en lm sd g d b s lc lt txt Y row F B P L w f k0 k1 ++ tl)) 15 ld lb lq) p4 p5 p6 p1 p2 hr
  by_cases h : onb d = 0
  · have q6 := sp_X6_turn (M := ((((((A5 len fa ac sr sd txt st g s d b X lk lc lt ld lb lq x y z f v ++ (A6 st lk len ac nx rf lr en lm sd g d b s lc lt txt Y row F B P L w f k0 k1 ++ tl)).set 0 (co len (rmf fa ac) (rma ac + 1) sr sd)).set 4 (aI (l4 (rt s)))).set 16 (aI (ld.set (rmi fa ac).toNat (fg d)))).set 17 (aI (lb.set (rmi fa ac).toNat (fg b)))).set 18 (aI (lq.set (rmi fa ac).toNat (fg s))))) rfl rfl rfl rfl rfl rfl rfl p7 p3 p2 hr
    rw [if_pos h] at q5 q6
    rw [rma_eq ac p2.2] at q6
    have hd0 := onb_0 hr.2.2.2.1 h
    exact ⟨_, _, _, _, q5, q6, rfl, ⟨_, rfl⟩, ⟨_, rfl⟩, len, rmf fa ac, rma ac + 1, sr, sd, txt, st, g, rt s, d, b, X, lk, lc, lt, ld.set (rmi fa ac).toNat (fg d), lb.set (rmi fa ac).toNat (fg b), lq.set (rmi fa ac).toNat (fg s), x, y, z, f, v, (nx + 1) % 16, rf, lr, en, lm, Y, k12 row nx d b s, F, B, P, L, w, k0, k1, tl, rfl, hTl, ⟨⟨t1, t2, t3⟩, ⟨⟨hr.1, hr.2.1, ⟨hr.2.2.1.2.2.2, hr.2.2.1.1, hr.2.2.1.2.1, hr.2.2.1.2.2.1⟩, hr.2.2.2.1, hr.2.2.2.2⟩, (by rw [hd0]; exact fs_off _ _ _ _)⟩, ⟨n1, n2, n3⟩, ⟨(rm_rng p1 p2).1, (rm_rng p1 p2).2, (by omega), (by rw [List.length_set]; exact p4), (by rw [List.length_set]; exact p5), (by rw [List.length_set]; exact p6), (by rw [k12_len]; exact p7), p8.up p1 p2 p3 p4 p5 p6 p7 ⟨hr, hs⟩⟩, ⟨q0, q1⟩, ⟨u1, u2, u3, u4⟩⟩⟩
  · have q6 := sp_X6_turn (M := (A5 len fa ac sr sd txt st g s d b X lk lc lt ld lb lq x y z f v ++ (A6 st lk len ac nx rf lr en lm sd g d b s lc lt txt Y row F B P L w f k0 k1 ++ tl))) rfl rfl rfl rfl rfl rfl rfl p7 p3 p2 hr
    rw [if_neg h] at q5 q6
    exact ⟨_, _, _, _, q5, q6, rfl, ⟨_, rfl⟩, ⟨_, rfl⟩, len, fa, ac, sr, sd, txt, st, g, s, d, b, X, lk, lc, lt, ld, lb, lq, x, y, z, f, v, nx, rf, lr, en, lm, Y, row, F, B, P, L, w, k0, k1, tl, rfl, hTl, ⟨⟨t1, t2, t3⟩, ⟨hr, hs⟩, ⟨n1, n2, n3⟩, ⟨p1, p2, p3, p4, p5, p6, p7, p8⟩, ⟨q0, q1⟩, ⟨u1, u2, u3, u4⟩⟩⟩
theorem VH.fg {st : Int} {g : F4} {q : Q3} (h : VH st g q) : ((0 ≤ fg q.1 ∧ fg q.1 < 10000) ∧ (0 ≤ fg q.2.1 ∧ fg q.2.1 < 10000) ∧ (0 ≤ fg q.2.2 ∧ fg q.2.2 < 10000)) ∧ uf (fg q.1) = q.1 ∧ uf (fg q.2.1) = q.2.1 ∧ uf (fg q.2.2) = q.2.2 := by
  obtain ⟨⟨-, -, a, b, c⟩, -⟩ := h
  have b9 : i4 0 9 q.1 := ⟨⟨b.1.1, by have := b.1.2; omega⟩, ⟨b.2.1.1, by have := b.2.1.2; omega⟩, ⟨b.2.2.1.1, by have := b.2.2.1.2; omega⟩, ⟨b.2.2.2.1, by have := b.2.2.2.2; omega⟩⟩
  have c9 : i4 0 9 q.2.1 := ⟨⟨c.1.1, by have := c.1.2; omega⟩, ⟨c.2.1.1, by have := c.2.1.2; omega⟩, ⟨c.2.2.1.1, by have := c.2.2.1.2; omega⟩, ⟨c.2.2.2.1, by have := c.2.2.2.2; omega⟩⟩
  exact ⟨⟨fg_rng b9 (by decide), fg_rng c9 (by decide), fg_rng a (by decide)⟩, uf_fg b9, uf_fg c9, uf_fg a⟩
theorem st_undo  : Sp0 fn_X5_undo fn_X6_undo [] := by
  intro M c n hI
  obtain ⟨len, fa, ac, sr, sd, txt, st, g, s, d, b, X, lk, lc, lt, ld, lb, lq, x, y, z, f, v, nx, rf, lr, en, lm, Y, row, F, B, P, L, w, k0, k1, tl, rfl, hTl, ⟨t1, t2, t3⟩, ⟨hr, hs⟩, ⟨n1, n2, n3⟩, ⟨p1, p2, p3, p4, p5, p6, p7, p8⟩, ⟨q0, q1⟩, ⟨u1, u2, u3, u4⟩⟩ := hI
  by_cases h : ac = 0
  · have q5 := sp_X5_undo0 (M := (A5 len fa ac sr sd txt st g s d b X lk lc lt ld lb lq x y z f v ++ (A6 st lk len ac nx rf lr en lm sd g d b s lc lt txt Y row F B P L w f k0 k1 ++ tl))) rfl h
    have q6 := sp_X6_undo0 (M := (A5 len fa ac sr sd txt st g s d b X lk lc lt ld lb lq x y z f v ++ (A6 st lk len ac nx rf lr en lm sd g d b s lc lt txt Y row F B P L w f k0 k1 ++ tl))) rfl h
    exact ⟨_, _, _, _, q5, q6, rfl, ⟨_, rfl⟩, ⟨_, rfl⟩, len, fa, ac, sr, sd, txt, st, g, s, d, b, X, lk, lc, lt, ld, lb, lq, x, y, z, f, v, nx, rf, lr, en, lm, Y, row, F, B, P, L, w, k0, k1, tl, rfl, hTl, ⟨⟨t1, t2, t3⟩, ⟨hr, hs⟩, ⟨n1, n2, n3⟩, ⟨p1, p2, p3, p4, p5, p6, p7, p8⟩, ⟨q0, q1⟩, ⟨u1, u2, u3, u4⟩⟩⟩
  · obtain ⟨q, hq, e1, e2, e3, e4⟩ := p8 (ac - 1) (by omega) (by omega)
    obtain ⟨⟨r1, r2, r3⟩, v1, v2, v3⟩ := hq.fg
    have q5 := sp_X5_undo (M := (A5 len fa ac sr sd txt st g s d b X lk lc lt ld lb lq x y z f v ++ (A6 st lk len ac nx rf lr en lm sd g d b s lc lt txt Y row F B P L w f k0 k1 ++ tl))) rfl (⟨by decide, rfl, rfl, rfl, rfl, rfl⟩ : HS (A5 len fa ac sr sd txt st g s d b X lk lc lt ld lb lq x y z f v ++ (A6 st lk len ac nx rf lr en lm sd g d b s lc lt txt Y row F B P L w f k0 k1 ++ tl)) 2 st g s d b) (⟨rfl, rfl, rfl, rfl⟩ : HM (A5 len fa ac sr sd txt st g s d b X lk lc lt ld lb lq x y z f v ++ (A6 st lk len ac nx rf lr en lm sd g d b s lc lt txt Y row F B P L w f k0 k1 ++ tl)) 15 ld lb lq) p4 p5 p6 p1 ⟨by omega, p2.2⟩ _ _ _ _ rfl e1 e2 e3 r1 r2 r3
    rw [v1, v2, v3] at q5
    have q6 := sp_X6_undo (M := (((((A5 len fa ac sr sd txt st g s d b X lk lc lt ld lb lq x y z f v ++ (A6 st lk len ac nx rf lr en lm sd g d b s lc lt txt Y row F B P L w f k0 k1 ++ tl)).set 0 (co len fa (ac - 1) sr sd)).set 4 (aI (l4 q.2.2))).set 5 (aI (l4 q.1))).set 6 (aI (l4 q.2.1)))) rfl rfl rfl p7 p3 ⟨by omega, p2.2⟩ ((nx + 16 - ac + (ac - 1)) % 16) (by omega)
    rw [e4] at q6
    have hH : Hist st g fa (ac - 1) ((nx + 16 - ac + (ac - 1)) % 16) ld lb lq row := by
      intro j j0 j1
      obtain ⟨q', h1, h2, h3, h4, h5⟩ := p8 j j0 (by omega)
      refine ⟨q', h1, h2, h3, h4, ?_⟩
      rw [show ((nx + 16 - ac + (ac - 1)) % 16 + 16 - (ac - 1) + j) % 16 = (nx + 16 - ac + j) % 16 by omega]
      exact h5
    exact ⟨_, _, _, _, q5, q6, rfl, ⟨_, rfl⟩, ⟨_, rfl⟩, len, fa, ac - 1, sr, sd, txt, st, g, q.2.2, q.1, q.2.1, X, lk, lc, lt, ld, lb, lq, x, y, z, f, v, (nx + 16 - ac + (ac - 1)) % 16, rf, lr, en, lm, Y, row, F, B, P, L, w, k0, k1, tl, rfl, hTl, ⟨⟨t1, t2, t3⟩, ⟨hq.1, hq.2⟩, ⟨n1, n2, n3⟩, ⟨p1, (by omega), (by omega), p4, p5, p6, p7, hH⟩, ⟨q0, q1⟩, ⟨u1, u2, u3, u4⟩⟩⟩
theorem st_keep (x0 : Int) (hx0 : -2147483648 ≤ x0 ∧ x0 < 2147483648) : Sp0 fn_X5_keep fn_X6_keep [vI x0] := by
  intro M c n hI
  obtain ⟨len, fa, ac, sr, sd, txt, st, g, s, d, b, X, lk, lc, lt, ld, lb, lq, x, y, z, f, v, nx, rf, lr, en, lm, Y, row, F, B, P, L, w, k0, k1, tl, rfl, hTl, ⟨t1, t2, t3⟩, ⟨hr, hs⟩, ⟨n1, n2, n3⟩, ⟨p1, p2, p3, p4, p5, p6, p7, p8⟩, ⟨q0, q1⟩, ⟨u1, u2, u3, u4⟩⟩ := hI
  have q5 := sp_X5_keep (M := (A5 len fa ac sr sd txt st g s d b X lk lc lt ld lb lq x y z f v ++ (A6 st lk len ac nx rf lr en lm sd g d b s lc lt txt Y row F B P L w f k0 k1 ++ tl))) rfl (⟨by decide, rfl, rfl, rfl, rfl, rfl⟩ : HS (A5 len fa ac sr sd txt st g s d b X lk lc lt ld lb lq x y z f v ++ (A6 st lk len ac nx rf lr en lm sd g d b s lc lt txt Y row F B P L w f k0 k1 ++ tl)) 2 st g s d b) (⟨rfl, rfl, rfl, rfl⟩ : HM (A5 len fa ac sr sd txt st g s d b X lk lc lt ld lb lq x y z f v ++ (A6 st lk len ac nx rf lr en lm sd g d b s lc lt txt Y row F B P L w f k0 k1 ++ tl)) 19 [x.1, x.2] [y.1, y.2] [z.1, z.2]) rfl hr.2.2.2.1 x0 hx0
  by_cases h0 : x0 = 0
  · have q6 := sp_X6_keep (M := (((((A5 len fa ac sr sd txt st g s d b X lk lc lt ld lb lq x y z f v ++ (A6 st lk len ac nx rf lr en lm sd g d b s lc lt txt Y row F B P L w f k0 k1 ++ tl)).set 20 (aI [fg d, x.2])).set 21 (aI [fg b, y.2])).set 22 (aI [fg s, z.2])).set 23 (aB [1, f.2]))) rfl rfl rfl rfl hr.2.2.2.1 x0 hx0
    rw [if_pos h0] at q5 q6
    exact ⟨_, _, _, _, q5, q6, rfl, ⟨_, rfl⟩, ⟨_, rfl⟩, len, fa, ac, sr, sd, txt, st, g, s, d, b, X, lk, lc, lt, ld, lb, lq, (fg d, x.2), (fg b, y.2), (fg s, z.2), (1, f.2), v, nx, rf, lr, en, lm, Y, row, F, B, P, L, w, (d, b, s), k1, tl, rfl, hTl, ⟨⟨t1, t2, t3⟩, ⟨hr, hs⟩, ⟨n1, n2, n3⟩, ⟨p1, p2, p3, p4, p5, p6, p7, p8⟩, ⟨⟨Or.inr rfl, fun _ => ⟨⟨hr, hs⟩, rfl, rfl, rfl⟩⟩, q1⟩, ⟨u1, u2, u3, u4⟩⟩⟩
  · by_cases h1 : x0 = 1
    · have q6 := sp_X6_keep (M := (((((A5 len fa ac sr sd txt st g s d b X lk lc lt ld lb lq x y z f v ++ (A6 st lk len ac nx rf lr en lm sd g d b s lc lt txt Y row F B P L w f k0 k1 ++ tl)).set 20 (aI [x.1, fg d])).set 21 (aI [y.1, fg b])).set 22 (aI [z.1, fg s])).set 23 (aB [f.1, 1]))) rfl rfl rfl rfl hr.2.2.2.1 x0 hx0
      rw [if_neg h0, if_pos h1] at q5 q6
      exact ⟨_, _, _, _, q5, q6, rfl, ⟨_, rfl⟩, ⟨_, rfl⟩, len, fa, ac, sr, sd, txt, st, g, s, d, b, X, lk, lc, lt, ld, lb, lq, (x.1, fg d), (y.1, fg b), (z.1, fg s), (f.1, 1), v, nx, rf, lr, en, lm, Y, row, F, B, P, L, w, k0, (d, b, s), tl, rfl, hTl, ⟨⟨t1, t2, t3⟩, ⟨hr, hs⟩, ⟨n1, n2, n3⟩, ⟨p1, p2, p3, p4, p5, p6, p7, p8⟩, ⟨q0, ⟨Or.inr rfl, fun _ => ⟨⟨hr, hs⟩, rfl, rfl, rfl⟩⟩⟩, ⟨u1, u2, u3, u4⟩⟩⟩
    · have q6 := sp_X6_keep (M := (A5 len fa ac sr sd txt st g s d b X lk lc lt ld lb lq x y z f v ++ (A6 st lk len ac nx rf lr en lm sd g d b s lc lt txt Y row F B P L w f k0 k1 ++ tl))) rfl rfl rfl rfl hr.2.2.2.1 x0 hx0
      rw [if_neg h0, if_neg h1] at q5 q6
      exact ⟨_, _, _, _, q5, q6, rfl, ⟨_, rfl⟩, ⟨_, rfl⟩, len, fa, ac, sr, sd, txt, st, g, s, d, b, X, lk, lc, lt, ld, lb, lq, x, y, z, f, v, nx, rf, lr, en, lm, Y, row, F, B, P, L, w, k0, k1, tl, rfl, hTl, ⟨⟨t1, t2, t3⟩, ⟨hr, hs⟩, ⟨n1, n2, n3⟩, ⟨p1, p2, p3, p4, p5, p6, p7, p8⟩, ⟨q0, q1⟩, ⟨u1, u2, u3, u4⟩⟩⟩
theorem Slt.r {st : Int} {g : F4} {f x y z : Int} {k : Q3} (h : Slt st g f x y z k) : f = 1 → (0 ≤ x ∧ x < 10000) ∧ (0 ≤ y ∧ y < 10000) ∧ (0 ≤ z ∧ z < 10000) ∧ i4 0 6 (uf x) := by
  intro hf
  obtain ⟨h1, h2, h3, h4⟩ := h.2 hf
  obtain ⟨⟨r1, r2, r3⟩, v1, -, -⟩ := h1.fg
  rw [h2, h3, h4]
  exact ⟨r1, r2, r3, by rw [v1]; exact h1.1.2.2.2.1⟩
theorem Slt.k {st : Int} {g : F4} {f x y z : Int} {k : Q3} (h : Slt st g f x y z k) : f = 1 → i4 0 6 k.1 := fun hf => (h.2 hf).1.1.2.2.2.1
theorem st_again (x0 : Int) (hx0 : -2147483648 ≤ x0 ∧ x0 < 2147483648) : Sp0 fn_X5_again fn_X6_again [vI x0] := by
  intro M c n hI
  obtain ⟨len, fa, ac, sr, sd, txt, st, g, s, d, b, X, lk, lc, lt, ld, lb, lq, x, y, z, f, v, nx, rf, lr, en, lm, Y, row, F, B, P, L, w, k0, k1, tl, rfl, hTl, ⟨t1, t2, t3⟩, ⟨hr, hs⟩, ⟨n1, n2, n3⟩, ⟨p1, p2, p3, p4, p5, p6, p7, p8⟩, ⟨q0, q1⟩, ⟨u1, u2, u3, u4⟩⟩ := hI
  have q5 := sp_X5_again (M := (A5 len fa ac sr sd txt st g s d b X lk lc lt ld lb lq x y z f v ++ (A6 st lk len ac nx rf lr en lm sd g d b s lc lt txt Y row F B P L w f k0 k1 ++ tl))) rfl (⟨by decide, rfl, rfl, rfl, rfl, rfl⟩ : HS (A5 len fa ac sr sd txt st g s d b X lk lc lt ld lb lq x y z f v ++ (A6 st lk len ac nx rf lr en lm sd g d b s lc lt txt Y row F B P L w f k0 k1 ++ tl)) 2 st g s d b) (⟨rfl, rfl, rfl, rfl⟩ : HM (A5 len fa ac sr sd txt st g s d b X lk lc lt ld lb lq x y z f v ++ (A6 st lk len ac nx rf lr en lm sd g d b s lc lt txt Y row F B P L w f k0 k1 ++ tl)) 19 [x.1, x.2] [y.1, y.2] [z.1, z.2]) rfl q0.1 q1.1 q0.r q1.r x0 hx0
  by_cases h0 : x0 = 0
  · by_cases hf : f.1 = 0
    · have q6 := sp_X6_again (M := (A5 len fa ac sr sd txt st g s d b X lk lc lt ld lb lq x y z f v ++ (A6 st lk len ac nx rf lr en lm sd g d b s lc lt txt Y row F B P L w f k0 k1 ++ tl))) rfl rfl rfl rfl q0.1 q1.1 q0.k q1.k x0 hx0
      rw [if_pos h0, if_pos hf] at q5 q6
      exact ⟨_, _, _, _, q5, q6, rfl, ⟨_, rfl⟩, ⟨_, rfl⟩, len, fa, ac, sr, sd, txt, st, g, s, d, b, X, lk, lc, lt, ld, lb, lq, x, y, z, f, v, nx, rf, lr, en, lm, Y, row, F, B, P, L, w, k0, k1, tl, rfl, hTl, ⟨⟨t1, t2, t3⟩, ⟨hr, hs⟩, ⟨n1, n2, n3⟩, ⟨p1, p2, p3, p4, p5, p6, p7, p8⟩, ⟨q0, q1⟩, ⟨u1, u2, u3, u4⟩⟩⟩
    · have hf1 : f.1 = 1 := q0.1.resolve_left hf
      obtain ⟨s1, s2, s3, s4'⟩ := q0.2 hf1
      obtain ⟨-, v1, v2, v3⟩ := s1.fg
      have q6 := sp_X6_again (M := (((((A5 len fa ac sr sd txt st g s d b X lk lc lt ld lb lq x y z f v ++ (A6 st lk len ac nx rf lr en lm sd g d b s lc lt txt Y row F B P L w f k0 k1 ++ tl)).set 0 (co len fa 0 sr sd)).set 4 (aI (l4 k0.2.2))).set 5 (aI (l4 k0.1))).set 6 (aI (l4 k0.2.1)))) rfl rfl rfl rfl q0.1 q1.1 q0.k q1.k x0 hx0
      rw [if_pos h0, if_neg hf] at q5 q6
      rw [s2, s3, s4', v1, v2, v3] at q5
      exact ⟨_, _, _, _, q5, q6, rfl, ⟨_, rfl⟩, ⟨_, rfl⟩, len, fa, 0, sr, sd, txt, st, g, k0.2.2, k0.1, k0.2.1, X, lk, lc, lt, ld, lb, lq, x, y, z, f, v, nx, rf, lr, en, lm, Y, row, F, B, P, L, w, k0, k1, tl, rfl, hTl, ⟨⟨t1, t2, t3⟩, ⟨s1.1, s1.2⟩, ⟨n1, n2, n3⟩, ⟨p1, (by omega), p3, p4, p5, p6, p7, (fun j j0 j1 => absurd j1 (by omega))⟩, ⟨q0, q1⟩, ⟨u1, u2, u3, u4⟩⟩⟩
  · by_cases h1 : x0 = 1
    · by_cases hf : f.2 = 0
      · have q6 := sp_X6_again (M := (A5 len fa ac sr sd txt st g s d b X lk lc lt ld lb lq x y z f v ++ (A6 st lk len ac nx rf lr en lm sd g d b s lc lt txt Y row F B P L w f k0 k1 ++ tl))) rfl rfl rfl rfl q0.1 q1.1 q0.k q1.k x0 hx0
        rw [if_neg h0, if_pos h1, if_pos hf] at q5 q6
        exact ⟨_, _, _, _, q5, q6, rfl, ⟨_, rfl⟩, ⟨_, rfl⟩, len, fa, ac, sr, sd, txt, st, g, s, d, b, X, lk, lc, lt, ld, lb, lq, x, y, z, f, v, nx, rf, lr, en, lm, Y, row, F, B, P, L, w, k0, k1, tl, rfl, hTl, ⟨⟨t1, t2, t3⟩, ⟨hr, hs⟩, ⟨n1, n2, n3⟩, ⟨p1, p2, p3, p4, p5, p6, p7, p8⟩, ⟨q0, q1⟩, ⟨u1, u2, u3, u4⟩⟩⟩
      · have hf1 : f.2 = 1 := q1.1.resolve_left hf
        obtain ⟨s1, s2, s3, s4'⟩ := q1.2 hf1
        obtain ⟨-, v1, v2, v3⟩ := s1.fg
        have q6 := sp_X6_again (M := (((((A5 len fa ac sr sd txt st g s d b X lk lc lt ld lb lq x y z f v ++ (A6 st lk len ac nx rf lr en lm sd g d b s lc lt txt Y row F B P L w f k0 k1 ++ tl)).set 0 (co len fa 0 sr sd)).set 4 (aI (l4 k1.2.2))).set 5 (aI (l4 k1.1))).set 6 (aI (l4 k1.2.1)))) rfl rfl rfl rfl q0.1 q1.1 q0.k q1.k x0 hx0
        rw [if_neg h0, if_pos h1, if_neg hf] at q5 q6
        rw [s2, s3, s4', v1, v2, v3] at q5
        exact ⟨_, _, _, _, q5, q6, rfl, ⟨_, rfl⟩, ⟨_, rfl⟩, len, fa, 0, sr, sd, txt, st, g, k1.2.2, k1.1, k1.2.1, X, lk, lc, lt, ld, lb, lq, x, y, z, f, v, nx, rf, lr, en, lm, Y, row, F, B, P, L, w, k0, k1, tl, rfl, hTl, ⟨⟨t1, t2, t3⟩, ⟨s1.1, s1.2⟩, ⟨n1, n2, n3⟩, ⟨p1, (by omega), p3, p4, p5, p6, p7, (fun j j0 j1 => absurd j1 (by omega))⟩, ⟨q0, q1⟩, ⟨u1, u2, u3, u4⟩⟩⟩
    · have q6 := sp_X6_again (M := (A5 len fa ac sr sd txt st g s d b X lk lc lt ld lb lq x y z f v ++ (A6 st lk len ac nx rf lr en lm sd g d b s lc lt txt Y row F B P L w f k0 k1 ++ tl))) rfl rfl rfl rfl q0.1 q1.1 q0.k q1.k x0 hx0
      rw [if_neg h0, if_neg h1] at q5 q6
      exact ⟨_, _, _, _, q5, q6, rfl, ⟨_, rfl⟩, ⟨_, rfl⟩, len, fa, ac, sr, sd, txt, st, g, s, d, b, X, lk, lc, lt, ld, lb, lq, x, y, z, f, v, nx, rf, lr, en, lm, Y, row, F, B, P, L, w, k0, k1, tl, rfl, hTl, ⟨⟨t1, t2, t3⟩, ⟨hr, hs⟩, ⟨n1, n2, n3⟩, ⟨p1, p2, p3, p4, p5, p6, p7, p8⟩, ⟨q0, q1⟩, ⟨u1, u2, u3, u4⟩⟩⟩
end
