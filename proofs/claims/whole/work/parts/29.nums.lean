-- NUMBERS: literals beside nI
theorem inRz (i : Int32) (n : Nat) : inR i n = (decide (0 ≤ i) && decide (i.toNatClampNeg < n)) := rfl
theorem inR_n {i n : Nat} (h : i < n) (hn : n < 2 ^ 31) : inR (nI i) n = true := by
  rw [inRz, nI_clamp (by omega)]
  simp [nI_pos' (show i < 2 ^ 31 by omega), h]
theorem nI_mul (a b : Nat) : nI a * nI b = nI (a * b) := (Int32.ofNat_mul a b).symm
theorem nI_sub {a b : Nat} (h : b ≤ a) : nI a - nI b = nI (a - b) := by
  have : nI (a - b) + nI b = nI a := by rw [nI_add, Nat.sub_add_cancel h]
  rw [← this]
  exact Int32.add_sub_cancel _ _
theorem nl_0 : (0 : Int32) = nI 0 := rfl
theorem na_0 (a : Nat) : (0 : Int32) + nI a = nI (0 + a) := nI_add 0 a
theorem nb_0 (a : Nat) : nI a + (0 : Int32) = nI (a + 0) := nI_add a 0
theorem nm_0 (a : Nat) : (0 : Int32) * nI a = nI (0 * a) := nI_mul 0 a
theorem nn_0 (a : Nat) : nI a * (0 : Int32) = nI (a * 0) := nI_mul a 0
theorem ns_0 {a : Nat} (h : 0 ≤ a) : nI a - (0 : Int32) = nI (a - 0) := nI_sub h
theorem nc_0 : (0 : Int32).toNatClampNeg = 0 := nI_clamp (n := 0) (by decide)
theorem ni_0 {n : Nat} (h : 0 < n) (hn : n < 2 ^ 31) : inR 0 n = true := inR_n (i := 0) h hn
theorem nl_1 : (1 : Int32) = nI 1 := rfl
theorem na_1 (a : Nat) : (1 : Int32) + nI a = nI (1 + a) := nI_add 1 a
theorem nb_1 (a : Nat) : nI a + (1 : Int32) = nI (a + 1) := nI_add a 1
theorem nm_1 (a : Nat) : (1 : Int32) * nI a = nI (1 * a) := nI_mul 1 a
theorem nn_1 (a : Nat) : nI a * (1 : Int32) = nI (a * 1) := nI_mul a 1
theorem ns_1 {a : Nat} (h : 1 ≤ a) : nI a - (1 : Int32) = nI (a - 1) := nI_sub h
theorem nc_1 : (1 : Int32).toNatClampNeg = 1 := nI_clamp (n := 1) (by decide)
theorem ni_1 {n : Nat} (h : 1 < n) (hn : n < 2 ^ 31) : inR 1 n = true := inR_n (i := 1) h hn
theorem nl_2 : (2 : Int32) = nI 2 := rfl
theorem na_2 (a : Nat) : (2 : Int32) + nI a = nI (2 + a) := nI_add 2 a
theorem nb_2 (a : Nat) : nI a + (2 : Int32) = nI (a + 2) := nI_add a 2
theorem nm_2 (a : Nat) : (2 : Int32) * nI a = nI (2 * a) := nI_mul 2 a
theorem nn_2 (a : Nat) : nI a * (2 : Int32) = nI (a * 2) := nI_mul a 2
theorem ns_2 {a : Nat} (h : 2 ≤ a) : nI a - (2 : Int32) = nI (a - 2) := nI_sub h
theorem nc_2 : (2 : Int32).toNatClampNeg = 2 := nI_clamp (n := 2) (by decide)
theorem ni_2 {n : Nat} (h : 2 < n) (hn : n < 2 ^ 31) : inR 2 n = true := inR_n (i := 2) h hn
theorem nl_3 : (3 : Int32) = nI 3 := rfl
theorem na_3 (a : Nat) : (3 : Int32) + nI a = nI (3 + a) := nI_add 3 a
theorem nb_3 (a : Nat) : nI a + (3 : Int32) = nI (a + 3) := nI_add a 3
theorem nm_3 (a : Nat) : (3 : Int32) * nI a = nI (3 * a) := nI_mul 3 a
theorem nn_3 (a : Nat) : nI a * (3 : Int32) = nI (a * 3) := nI_mul a 3
theorem ns_3 {a : Nat} (h : 3 ≤ a) : nI a - (3 : Int32) = nI (a - 3) := nI_sub h
theorem nc_3 : (3 : Int32).toNatClampNeg = 3 := nI_clamp (n := 3) (by decide)
theorem ni_3 {n : Nat} (h : 3 < n) (hn : n < 2 ^ 31) : inR 3 n = true := inR_n (i := 3) h hn
theorem nl_4 : (4 : Int32) = nI 4 := rfl
theorem na_4 (a : Nat) : (4 : Int32) + nI a = nI (4 + a) := nI_add 4 a
theorem nb_4 (a : Nat) : nI a + (4 : Int32) = nI (a + 4) := nI_add a 4
theorem nm_4 (a : Nat) : (4 : Int32) * nI a = nI (4 * a) := nI_mul 4 a
theorem nn_4 (a : Nat) : nI a * (4 : Int32) = nI (a * 4) := nI_mul a 4
theorem ns_4 {a : Nat} (h : 4 ≤ a) : nI a - (4 : Int32) = nI (a - 4) := nI_sub h
theorem nc_4 : (4 : Int32).toNatClampNeg = 4 := nI_clamp (n := 4) (by decide)
theorem ni_4 {n : Nat} (h : 4 < n) (hn : n < 2 ^ 31) : inR 4 n = true := inR_n (i := 4) h hn
theorem nl_5 : (5 : Int32) = nI 5 := rfl
theorem na_5 (a : Nat) : (5 : Int32) + nI a = nI (5 + a) := nI_add 5 a
theorem nb_5 (a : Nat) : nI a + (5 : Int32) = nI (a + 5) := nI_add a 5
theorem nm_5 (a : Nat) : (5 : Int32) * nI a = nI (5 * a) := nI_mul 5 a
theorem nn_5 (a : Nat) : nI a * (5 : Int32) = nI (a * 5) := nI_mul a 5
theorem ns_5 {a : Nat} (h : 5 ≤ a) : nI a - (5 : Int32) = nI (a - 5) := nI_sub h
theorem nc_5 : (5 : Int32).toNatClampNeg = 5 := nI_clamp (n := 5) (by decide)
theorem ni_5 {n : Nat} (h : 5 < n) (hn : n < 2 ^ 31) : inR 5 n = true := inR_n (i := 5) h hn
theorem nl_6 : (6 : Int32) = nI 6 := rfl
theorem na_6 (a : Nat) : (6 : Int32) + nI a = nI (6 + a) := nI_add 6 a
theorem nb_6 (a : Nat) : nI a + (6 : Int32) = nI (a + 6) := nI_add a 6
theorem nm_6 (a : Nat) : (6 : Int32) * nI a = nI (6 * a) := nI_mul 6 a
theorem nn_6 (a : Nat) : nI a * (6 : Int32) = nI (a * 6) := nI_mul a 6
theorem ns_6 {a : Nat} (h : 6 ≤ a) : nI a - (6 : Int32) = nI (a - 6) := nI_sub h
theorem nc_6 : (6 : Int32).toNatClampNeg = 6 := nI_clamp (n := 6) (by decide)
theorem ni_6 {n : Nat} (h : 6 < n) (hn : n < 2 ^ 31) : inR 6 n = true := inR_n (i := 6) h hn
theorem nl_7 : (7 : Int32) = nI 7 := rfl
theorem na_7 (a : Nat) : (7 : Int32) + nI a = nI (7 + a) := nI_add 7 a
theorem nb_7 (a : Nat) : nI a + (7 : Int32) = nI (a + 7) := nI_add a 7
theorem nm_7 (a : Nat) : (7 : Int32) * nI a = nI (7 * a) := nI_mul 7 a
theorem nn_7 (a : Nat) : nI a * (7 : Int32) = nI (a * 7) := nI_mul a 7
theorem ns_7 {a : Nat} (h : 7 ≤ a) : nI a - (7 : Int32) = nI (a - 7) := nI_sub h
theorem nc_7 : (7 : Int32).toNatClampNeg = 7 := nI_clamp (n := 7) (by decide)
theorem ni_7 {n : Nat} (h : 7 < n) (hn : n < 2 ^ 31) : inR 7 n = true := inR_n (i := 7) h hn
theorem nl_8 : (8 : Int32) = nI 8 := rfl
theorem na_8 (a : Nat) : (8 : Int32) + nI a = nI (8 + a) := nI_add 8 a
theorem nb_8 (a : Nat) : nI a + (8 : Int32) = nI (a + 8) := nI_add a 8
theorem nm_8 (a : Nat) : (8 : Int32) * nI a = nI (8 * a) := nI_mul 8 a
theorem nn_8 (a : Nat) : nI a * (8 : Int32) = nI (a * 8) := nI_mul a 8
theorem ns_8 {a : Nat} (h : 8 ≤ a) : nI a - (8 : Int32) = nI (a - 8) := nI_sub h
theorem nc_8 : (8 : Int32).toNatClampNeg = 8 := nI_clamp (n := 8) (by decide)
theorem ni_8 {n : Nat} (h : 8 < n) (hn : n < 2 ^ 31) : inR 8 n = true := inR_n (i := 8) h hn
theorem nl_9 : (9 : Int32) = nI 9 := rfl
theorem na_9 (a : Nat) : (9 : Int32) + nI a = nI (9 + a) := nI_add 9 a
theorem nb_9 (a : Nat) : nI a + (9 : Int32) = nI (a + 9) := nI_add a 9
theorem nm_9 (a : Nat) : (9 : Int32) * nI a = nI (9 * a) := nI_mul 9 a
theorem nn_9 (a : Nat) : nI a * (9 : Int32) = nI (a * 9) := nI_mul a 9
theorem ns_9 {a : Nat} (h : 9 ≤ a) : nI a - (9 : Int32) = nI (a - 9) := nI_sub h
theorem nc_9 : (9 : Int32).toNatClampNeg = 9 := nI_clamp (n := 9) (by decide)
theorem ni_9 {n : Nat} (h : 9 < n) (hn : n < 2 ^ 31) : inR 9 n = true := inR_n (i := 9) h hn
theorem nl_10 : (10 : Int32) = nI 10 := rfl
theorem na_10 (a : Nat) : (10 : Int32) + nI a = nI (10 + a) := nI_add 10 a
theorem nb_10 (a : Nat) : nI a + (10 : Int32) = nI (a + 10) := nI_add a 10
theorem nm_10 (a : Nat) : (10 : Int32) * nI a = nI (10 * a) := nI_mul 10 a
theorem nn_10 (a : Nat) : nI a * (10 : Int32) = nI (a * 10) := nI_mul a 10
theorem ns_10 {a : Nat} (h : 10 ≤ a) : nI a - (10 : Int32) = nI (a - 10) := nI_sub h
theorem nc_10 : (10 : Int32).toNatClampNeg = 10 := nI_clamp (n := 10) (by decide)
theorem ni_10 {n : Nat} (h : 10 < n) (hn : n < 2 ^ 31) : inR 10 n = true := inR_n (i := 10) h hn
theorem nl_11 : (11 : Int32) = nI 11 := rfl
theorem na_11 (a : Nat) : (11 : Int32) + nI a = nI (11 + a) := nI_add 11 a
theorem nb_11 (a : Nat) : nI a + (11 : Int32) = nI (a + 11) := nI_add a 11
theorem nm_11 (a : Nat) : (11 : Int32) * nI a = nI (11 * a) := nI_mul 11 a
theorem nn_11 (a : Nat) : nI a * (11 : Int32) = nI (a * 11) := nI_mul a 11
theorem ns_11 {a : Nat} (h : 11 ≤ a) : nI a - (11 : Int32) = nI (a - 11) := nI_sub h
theorem nc_11 : (11 : Int32).toNatClampNeg = 11 := nI_clamp (n := 11) (by decide)
theorem ni_11 {n : Nat} (h : 11 < n) (hn : n < 2 ^ 31) : inR 11 n = true := inR_n (i := 11) h hn
theorem nl_12 : (12 : Int32) = nI 12 := rfl
theorem na_12 (a : Nat) : (12 : Int32) + nI a = nI (12 + a) := nI_add 12 a
theorem nb_12 (a : Nat) : nI a + (12 : Int32) = nI (a + 12) := nI_add a 12
theorem nm_12 (a : Nat) : (12 : Int32) * nI a = nI (12 * a) := nI_mul 12 a
theorem nn_12 (a : Nat) : nI a * (12 : Int32) = nI (a * 12) := nI_mul a 12
theorem ns_12 {a : Nat} (h : 12 ≤ a) : nI a - (12 : Int32) = nI (a - 12) := nI_sub h
theorem nc_12 : (12 : Int32).toNatClampNeg = 12 := nI_clamp (n := 12) (by decide)
theorem ni_12 {n : Nat} (h : 12 < n) (hn : n < 2 ^ 31) : inR 12 n = true := inR_n (i := 12) h hn
theorem nl_13 : (13 : Int32) = nI 13 := rfl
theorem na_13 (a : Nat) : (13 : Int32) + nI a = nI (13 + a) := nI_add 13 a
theorem nb_13 (a : Nat) : nI a + (13 : Int32) = nI (a + 13) := nI_add a 13
theorem nm_13 (a : Nat) : (13 : Int32) * nI a = nI (13 * a) := nI_mul 13 a
theorem nn_13 (a : Nat) : nI a * (13 : Int32) = nI (a * 13) := nI_mul a 13
theorem ns_13 {a : Nat} (h : 13 ≤ a) : nI a - (13 : Int32) = nI (a - 13) := nI_sub h
theorem nc_13 : (13 : Int32).toNatClampNeg = 13 := nI_clamp (n := 13) (by decide)
theorem ni_13 {n : Nat} (h : 13 < n) (hn : n < 2 ^ 31) : inR 13 n = true := inR_n (i := 13) h hn
theorem nl_14 : (14 : Int32) = nI 14 := rfl
theorem na_14 (a : Nat) : (14 : Int32) + nI a = nI (14 + a) := nI_add 14 a
theorem nb_14 (a : Nat) : nI a + (14 : Int32) = nI (a + 14) := nI_add a 14
theorem nm_14 (a : Nat) : (14 : Int32) * nI a = nI (14 * a) := nI_mul 14 a
theorem nn_14 (a : Nat) : nI a * (14 : Int32) = nI (a * 14) := nI_mul a 14
theorem ns_14 {a : Nat} (h : 14 ≤ a) : nI a - (14 : Int32) = nI (a - 14) := nI_sub h
theorem nc_14 : (14 : Int32).toNatClampNeg = 14 := nI_clamp (n := 14) (by decide)
theorem ni_14 {n : Nat} (h : 14 < n) (hn : n < 2 ^ 31) : inR 14 n = true := inR_n (i := 14) h hn
theorem nl_15 : (15 : Int32) = nI 15 := rfl
theorem na_15 (a : Nat) : (15 : Int32) + nI a = nI (15 + a) := nI_add 15 a
theorem nb_15 (a : Nat) : nI a + (15 : Int32) = nI (a + 15) := nI_add a 15
theorem nm_15 (a : Nat) : (15 : Int32) * nI a = nI (15 * a) := nI_mul 15 a
theorem nn_15 (a : Nat) : nI a * (15 : Int32) = nI (a * 15) := nI_mul a 15
theorem ns_15 {a : Nat} (h : 15 ≤ a) : nI a - (15 : Int32) = nI (a - 15) := nI_sub h
theorem nc_15 : (15 : Int32).toNatClampNeg = 15 := nI_clamp (n := 15) (by decide)
theorem ni_15 {n : Nat} (h : 15 < n) (hn : n < 2 ^ 31) : inR 15 n = true := inR_n (i := 15) h hn
theorem nl_16 : (16 : Int32) = nI 16 := rfl
theorem na_16 (a : Nat) : (16 : Int32) + nI a = nI (16 + a) := nI_add 16 a
theorem nb_16 (a : Nat) : nI a + (16 : Int32) = nI (a + 16) := nI_add a 16
theorem nm_16 (a : Nat) : (16 : Int32) * nI a = nI (16 * a) := nI_mul 16 a
theorem nn_16 (a : Nat) : nI a * (16 : Int32) = nI (a * 16) := nI_mul a 16
theorem ns_16 {a : Nat} (h : 16 ≤ a) : nI a - (16 : Int32) = nI (a - 16) := nI_sub h
theorem nc_16 : (16 : Int32).toNatClampNeg = 16 := nI_clamp (n := 16) (by decide)
theorem ni_16 {n : Nat} (h : 16 < n) (hn : n < 2 ^ 31) : inR 16 n = true := inR_n (i := 16) h hn
theorem nl_17 : (17 : Int32) = nI 17 := rfl
theorem na_17 (a : Nat) : (17 : Int32) + nI a = nI (17 + a) := nI_add 17 a
theorem nb_17 (a : Nat) : nI a + (17 : Int32) = nI (a + 17) := nI_add a 17
theorem nm_17 (a : Nat) : (17 : Int32) * nI a = nI (17 * a) := nI_mul 17 a
theorem nn_17 (a : Nat) : nI a * (17 : Int32) = nI (a * 17) := nI_mul a 17
theorem ns_17 {a : Nat} (h : 17 ≤ a) : nI a - (17 : Int32) = nI (a - 17) := nI_sub h
theorem nc_17 : (17 : Int32).toNatClampNeg = 17 := nI_clamp (n := 17) (by decide)
theorem ni_17 {n : Nat} (h : 17 < n) (hn : n < 2 ^ 31) : inR 17 n = true := inR_n (i := 17) h hn
theorem nl_18 : (18 : Int32) = nI 18 := rfl
theorem na_18 (a : Nat) : (18 : Int32) + nI a = nI (18 + a) := nI_add 18 a
theorem nb_18 (a : Nat) : nI a + (18 : Int32) = nI (a + 18) := nI_add a 18
theorem nm_18 (a : Nat) : (18 : Int32) * nI a = nI (18 * a) := nI_mul 18 a
theorem nn_18 (a : Nat) : nI a * (18 : Int32) = nI (a * 18) := nI_mul a 18
theorem ns_18 {a : Nat} (h : 18 ≤ a) : nI a - (18 : Int32) = nI (a - 18) := nI_sub h
theorem nc_18 : (18 : Int32).toNatClampNeg = 18 := nI_clamp (n := 18) (by decide)
theorem ni_18 {n : Nat} (h : 18 < n) (hn : n < 2 ^ 31) : inR 18 n = true := inR_n (i := 18) h hn
theorem nl_19 : (19 : Int32) = nI 19 := rfl
theorem na_19 (a : Nat) : (19 : Int32) + nI a = nI (19 + a) := nI_add 19 a
theorem nb_19 (a : Nat) : nI a + (19 : Int32) = nI (a + 19) := nI_add a 19
theorem nm_19 (a : Nat) : (19 : Int32) * nI a = nI (19 * a) := nI_mul 19 a
theorem nn_19 (a : Nat) : nI a * (19 : Int32) = nI (a * 19) := nI_mul a 19
theorem ns_19 {a : Nat} (h : 19 ≤ a) : nI a - (19 : Int32) = nI (a - 19) := nI_sub h
theorem nc_19 : (19 : Int32).toNatClampNeg = 19 := nI_clamp (n := 19) (by decide)
theorem ni_19 {n : Nat} (h : 19 < n) (hn : n < 2 ^ 31) : inR 19 n = true := inR_n (i := 19) h hn
theorem nl_20 : (20 : Int32) = nI 20 := rfl
theorem na_20 (a : Nat) : (20 : Int32) + nI a = nI (20 + a) := nI_add 20 a
theorem nb_20 (a : Nat) : nI a + (20 : Int32) = nI (a + 20) := nI_add a 20
theorem nm_20 (a : Nat) : (20 : Int32) * nI a = nI (20 * a) := nI_mul 20 a
theorem nn_20 (a : Nat) : nI a * (20 : Int32) = nI (a * 20) := nI_mul a 20
theorem ns_20 {a : Nat} (h : 20 ≤ a) : nI a - (20 : Int32) = nI (a - 20) := nI_sub h
theorem nc_20 : (20 : Int32).toNatClampNeg = 20 := nI_clamp (n := 20) (by decide)
theorem ni_20 {n : Nat} (h : 20 < n) (hn : n < 2 ^ 31) : inR 20 n = true := inR_n (i := 20) h hn
theorem nl_21 : (21 : Int32) = nI 21 := rfl
theorem na_21 (a : Nat) : (21 : Int32) + nI a = nI (21 + a) := nI_add 21 a
theorem nb_21 (a : Nat) : nI a + (21 : Int32) = nI (a + 21) := nI_add a 21
theorem nm_21 (a : Nat) : (21 : Int32) * nI a = nI (21 * a) := nI_mul 21 a
theorem nn_21 (a : Nat) : nI a * (21 : Int32) = nI (a * 21) := nI_mul a 21
theorem ns_21 {a : Nat} (h : 21 ≤ a) : nI a - (21 : Int32) = nI (a - 21) := nI_sub h
theorem nc_21 : (21 : Int32).toNatClampNeg = 21 := nI_clamp (n := 21) (by decide)
theorem ni_21 {n : Nat} (h : 21 < n) (hn : n < 2 ^ 31) : inR 21 n = true := inR_n (i := 21) h hn
theorem nl_22 : (22 : Int32) = nI 22 := rfl
theorem na_22 (a : Nat) : (22 : Int32) + nI a = nI (22 + a) := nI_add 22 a
theorem nb_22 (a : Nat) : nI a + (22 : Int32) = nI (a + 22) := nI_add a 22
theorem nm_22 (a : Nat) : (22 : Int32) * nI a = nI (22 * a) := nI_mul 22 a
theorem nn_22 (a : Nat) : nI a * (22 : Int32) = nI (a * 22) := nI_mul a 22
theorem ns_22 {a : Nat} (h : 22 ≤ a) : nI a - (22 : Int32) = nI (a - 22) := nI_sub h
theorem nc_22 : (22 : Int32).toNatClampNeg = 22 := nI_clamp (n := 22) (by decide)
theorem ni_22 {n : Nat} (h : 22 < n) (hn : n < 2 ^ 31) : inR 22 n = true := inR_n (i := 22) h hn
theorem nl_23 : (23 : Int32) = nI 23 := rfl
theorem na_23 (a : Nat) : (23 : Int32) + nI a = nI (23 + a) := nI_add 23 a
theorem nb_23 (a : Nat) : nI a + (23 : Int32) = nI (a + 23) := nI_add a 23
theorem nm_23 (a : Nat) : (23 : Int32) * nI a = nI (23 * a) := nI_mul 23 a
theorem nn_23 (a : Nat) : nI a * (23 : Int32) = nI (a * 23) := nI_mul a 23
theorem ns_23 {a : Nat} (h : 23 ≤ a) : nI a - (23 : Int32) = nI (a - 23) := nI_sub h
theorem nc_23 : (23 : Int32).toNatClampNeg = 23 := nI_clamp (n := 23) (by decide)
theorem ni_23 {n : Nat} (h : 23 < n) (hn : n < 2 ^ 31) : inR 23 n = true := inR_n (i := 23) h hn
theorem nl_24 : (24 : Int32) = nI 24 := rfl
theorem na_24 (a : Nat) : (24 : Int32) + nI a = nI (24 + a) := nI_add 24 a
theorem nb_24 (a : Nat) : nI a + (24 : Int32) = nI (a + 24) := nI_add a 24
theorem nm_24 (a : Nat) : (24 : Int32) * nI a = nI (24 * a) := nI_mul 24 a
theorem nn_24 (a : Nat) : nI a * (24 : Int32) = nI (a * 24) := nI_mul a 24
theorem ns_24 {a : Nat} (h : 24 ≤ a) : nI a - (24 : Int32) = nI (a - 24) := nI_sub h
theorem nc_24 : (24 : Int32).toNatClampNeg = 24 := nI_clamp (n := 24) (by decide)
theorem ni_24 {n : Nat} (h : 24 < n) (hn : n < 2 ^ 31) : inR 24 n = true := inR_n (i := 24) h hn
theorem nl_25 : (25 : Int32) = nI 25 := rfl
theorem na_25 (a : Nat) : (25 : Int32) + nI a = nI (25 + a) := nI_add 25 a
theorem nb_25 (a : Nat) : nI a + (25 : Int32) = nI (a + 25) := nI_add a 25
theorem nm_25 (a : Nat) : (25 : Int32) * nI a = nI (25 * a) := nI_mul 25 a
theorem nn_25 (a : Nat) : nI a * (25 : Int32) = nI (a * 25) := nI_mul a 25
theorem ns_25 {a : Nat} (h : 25 ≤ a) : nI a - (25 : Int32) = nI (a - 25) := nI_sub h
theorem nc_25 : (25 : Int32).toNatClampNeg = 25 := nI_clamp (n := 25) (by decide)
theorem ni_25 {n : Nat} (h : 25 < n) (hn : n < 2 ^ 31) : inR 25 n = true := inR_n (i := 25) h hn
theorem nl_26 : (26 : Int32) = nI 26 := rfl
theorem na_26 (a : Nat) : (26 : Int32) + nI a = nI (26 + a) := nI_add 26 a
theorem nb_26 (a : Nat) : nI a + (26 : Int32) = nI (a + 26) := nI_add a 26
theorem nm_26 (a : Nat) : (26 : Int32) * nI a = nI (26 * a) := nI_mul 26 a
theorem nn_26 (a : Nat) : nI a * (26 : Int32) = nI (a * 26) := nI_mul a 26
theorem ns_26 {a : Nat} (h : 26 ≤ a) : nI a - (26 : Int32) = nI (a - 26) := nI_sub h
theorem nc_26 : (26 : Int32).toNatClampNeg = 26 := nI_clamp (n := 26) (by decide)
theorem ni_26 {n : Nat} (h : 26 < n) (hn : n < 2 ^ 31) : inR 26 n = true := inR_n (i := 26) h hn
theorem nl_27 : (27 : Int32) = nI 27 := rfl
theorem na_27 (a : Nat) : (27 : Int32) + nI a = nI (27 + a) := nI_add 27 a
theorem nb_27 (a : Nat) : nI a + (27 : Int32) = nI (a + 27) := nI_add a 27
theorem nm_27 (a : Nat) : (27 : Int32) * nI a = nI (27 * a) := nI_mul 27 a
theorem nn_27 (a : Nat) : nI a * (27 : Int32) = nI (a * 27) := nI_mul a 27
theorem ns_27 {a : Nat} (h : 27 ≤ a) : nI a - (27 : Int32) = nI (a - 27) := nI_sub h
theorem nc_27 : (27 : Int32).toNatClampNeg = 27 := nI_clamp (n := 27) (by decide)
theorem ni_27 {n : Nat} (h : 27 < n) (hn : n < 2 ^ 31) : inR 27 n = true := inR_n (i := 27) h hn
theorem nl_28 : (28 : Int32) = nI 28 := rfl
theorem na_28 (a : Nat) : (28 : Int32) + nI a = nI (28 + a) := nI_add 28 a
theorem nb_28 (a : Nat) : nI a + (28 : Int32) = nI (a + 28) := nI_add a 28
theorem nm_28 (a : Nat) : (28 : Int32) * nI a = nI (28 * a) := nI_mul 28 a
theorem nn_28 (a : Nat) : nI a * (28 : Int32) = nI (a * 28) := nI_mul a 28
theorem ns_28 {a : Nat} (h : 28 ≤ a) : nI a - (28 : Int32) = nI (a - 28) := nI_sub h
theorem nc_28 : (28 : Int32).toNatClampNeg = 28 := nI_clamp (n := 28) (by decide)
theorem ni_28 {n : Nat} (h : 28 < n) (hn : n < 2 ^ 31) : inR 28 n = true := inR_n (i := 28) h hn
theorem nl_29 : (29 : Int32) = nI 29 := rfl
theorem na_29 (a : Nat) : (29 : Int32) + nI a = nI (29 + a) := nI_add 29 a
theorem nb_29 (a : Nat) : nI a + (29 : Int32) = nI (a + 29) := nI_add a 29
theorem nm_29 (a : Nat) : (29 : Int32) * nI a = nI (29 * a) := nI_mul 29 a
theorem nn_29 (a : Nat) : nI a * (29 : Int32) = nI (a * 29) := nI_mul a 29
theorem ns_29 {a : Nat} (h : 29 ≤ a) : nI a - (29 : Int32) = nI (a - 29) := nI_sub h
theorem nc_29 : (29 : Int32).toNatClampNeg = 29 := nI_clamp (n := 29) (by decide)
theorem ni_29 {n : Nat} (h : 29 < n) (hn : n < 2 ^ 31) : inR 29 n = true := inR_n (i := 29) h hn
theorem nl_30 : (30 : Int32) = nI 30 := rfl
theorem na_30 (a : Nat) : (30 : Int32) + nI a = nI (30 + a) := nI_add 30 a
theorem nb_30 (a : Nat) : nI a + (30 : Int32) = nI (a + 30) := nI_add a 30
theorem nm_30 (a : Nat) : (30 : Int32) * nI a = nI (30 * a) := nI_mul 30 a
theorem nn_30 (a : Nat) : nI a * (30 : Int32) = nI (a * 30) := nI_mul a 30
theorem ns_30 {a : Nat} (h : 30 ≤ a) : nI a - (30 : Int32) = nI (a - 30) := nI_sub h
theorem nc_30 : (30 : Int32).toNatClampNeg = 30 := nI_clamp (n := 30) (by decide)
theorem ni_30 {n : Nat} (h : 30 < n) (hn : n < 2 ^ 31) : inR 30 n = true := inR_n (i := 30) h hn
theorem nl_31 : (31 : Int32) = nI 31 := rfl
theorem na_31 (a : Nat) : (31 : Int32) + nI a = nI (31 + a) := nI_add 31 a
theorem nb_31 (a : Nat) : nI a + (31 : Int32) = nI (a + 31) := nI_add a 31
theorem nm_31 (a : Nat) : (31 : Int32) * nI a = nI (31 * a) := nI_mul 31 a
theorem nn_31 (a : Nat) : nI a * (31 : Int32) = nI (a * 31) := nI_mul a 31
theorem ns_31 {a : Nat} (h : 31 ≤ a) : nI a - (31 : Int32) = nI (a - 31) := nI_sub h
theorem nc_31 : (31 : Int32).toNatClampNeg = 31 := nI_clamp (n := 31) (by decide)
theorem ni_31 {n : Nat} (h : 31 < n) (hn : n < 2 ^ 31) : inR 31 n = true := inR_n (i := 31) h hn
theorem nl_32 : (32 : Int32) = nI 32 := rfl
theorem na_32 (a : Nat) : (32 : Int32) + nI a = nI (32 + a) := nI_add 32 a
theorem nb_32 (a : Nat) : nI a + (32 : Int32) = nI (a + 32) := nI_add a 32
theorem nm_32 (a : Nat) : (32 : Int32) * nI a = nI (32 * a) := nI_mul 32 a
theorem nn_32 (a : Nat) : nI a * (32 : Int32) = nI (a * 32) := nI_mul a 32
theorem ns_32 {a : Nat} (h : 32 ≤ a) : nI a - (32 : Int32) = nI (a - 32) := nI_sub h
theorem nc_32 : (32 : Int32).toNatClampNeg = 32 := nI_clamp (n := 32) (by decide)
theorem ni_32 {n : Nat} (h : 32 < n) (hn : n < 2 ^ 31) : inR 32 n = true := inR_n (i := 32) h hn
theorem nl_33 : (33 : Int32) = nI 33 := rfl
theorem na_33 (a : Nat) : (33 : Int32) + nI a = nI (33 + a) := nI_add 33 a
theorem nb_33 (a : Nat) : nI a + (33 : Int32) = nI (a + 33) := nI_add a 33
theorem nm_33 (a : Nat) : (33 : Int32) * nI a = nI (33 * a) := nI_mul 33 a
theorem nn_33 (a : Nat) : nI a * (33 : Int32) = nI (a * 33) := nI_mul a 33
theorem ns_33 {a : Nat} (h : 33 ≤ a) : nI a - (33 : Int32) = nI (a - 33) := nI_sub h
theorem nc_33 : (33 : Int32).toNatClampNeg = 33 := nI_clamp (n := 33) (by decide)
theorem ni_33 {n : Nat} (h : 33 < n) (hn : n < 2 ^ 31) : inR 33 n = true := inR_n (i := 33) h hn
theorem nl_34 : (34 : Int32) = nI 34 := rfl
theorem na_34 (a : Nat) : (34 : Int32) + nI a = nI (34 + a) := nI_add 34 a
theorem nb_34 (a : Nat) : nI a + (34 : Int32) = nI (a + 34) := nI_add a 34
theorem nm_34 (a : Nat) : (34 : Int32) * nI a = nI (34 * a) := nI_mul 34 a
theorem nn_34 (a : Nat) : nI a * (34 : Int32) = nI (a * 34) := nI_mul a 34
theorem ns_34 {a : Nat} (h : 34 ≤ a) : nI a - (34 : Int32) = nI (a - 34) := nI_sub h
theorem nc_34 : (34 : Int32).toNatClampNeg = 34 := nI_clamp (n := 34) (by decide)
theorem ni_34 {n : Nat} (h : 34 < n) (hn : n < 2 ^ 31) : inR 34 n = true := inR_n (i := 34) h hn
theorem nl_35 : (35 : Int32) = nI 35 := rfl
theorem na_35 (a : Nat) : (35 : Int32) + nI a = nI (35 + a) := nI_add 35 a
theorem nb_35 (a : Nat) : nI a + (35 : Int32) = nI (a + 35) := nI_add a 35
theorem nm_35 (a : Nat) : (35 : Int32) * nI a = nI (35 * a) := nI_mul 35 a
theorem nn_35 (a : Nat) : nI a * (35 : Int32) = nI (a * 35) := nI_mul a 35
theorem ns_35 {a : Nat} (h : 35 ≤ a) : nI a - (35 : Int32) = nI (a - 35) := nI_sub h
theorem nc_35 : (35 : Int32).toNatClampNeg = 35 := nI_clamp (n := 35) (by decide)
theorem ni_35 {n : Nat} (h : 35 < n) (hn : n < 2 ^ 31) : inR 35 n = true := inR_n (i := 35) h hn
theorem nl_36 : (36 : Int32) = nI 36 := rfl
theorem na_36 (a : Nat) : (36 : Int32) + nI a = nI (36 + a) := nI_add 36 a
theorem nb_36 (a : Nat) : nI a + (36 : Int32) = nI (a + 36) := nI_add a 36
theorem nm_36 (a : Nat) : (36 : Int32) * nI a = nI (36 * a) := nI_mul 36 a
theorem nn_36 (a : Nat) : nI a * (36 : Int32) = nI (a * 36) := nI_mul a 36
theorem ns_36 {a : Nat} (h : 36 ≤ a) : nI a - (36 : Int32) = nI (a - 36) := nI_sub h
theorem nc_36 : (36 : Int32).toNatClampNeg = 36 := nI_clamp (n := 36) (by decide)
theorem ni_36 {n : Nat} (h : 36 < n) (hn : n < 2 ^ 31) : inR 36 n = true := inR_n (i := 36) h hn
theorem nl_37 : (37 : Int32) = nI 37 := rfl
theorem na_37 (a : Nat) : (37 : Int32) + nI a = nI (37 + a) := nI_add 37 a
theorem nb_37 (a : Nat) : nI a + (37 : Int32) = nI (a + 37) := nI_add a 37
theorem nm_37 (a : Nat) : (37 : Int32) * nI a = nI (37 * a) := nI_mul 37 a
theorem nn_37 (a : Nat) : nI a * (37 : Int32) = nI (a * 37) := nI_mul a 37
theorem ns_37 {a : Nat} (h : 37 ≤ a) : nI a - (37 : Int32) = nI (a - 37) := nI_sub h
theorem nc_37 : (37 : Int32).toNatClampNeg = 37 := nI_clamp (n := 37) (by decide)
theorem ni_37 {n : Nat} (h : 37 < n) (hn : n < 2 ^ 31) : inR 37 n = true := inR_n (i := 37) h hn
theorem nl_38 : (38 : Int32) = nI 38 := rfl
theorem na_38 (a : Nat) : (38 : Int32) + nI a = nI (38 + a) := nI_add 38 a
theorem nb_38 (a : Nat) : nI a + (38 : Int32) = nI (a + 38) := nI_add a 38
theorem nm_38 (a : Nat) : (38 : Int32) * nI a = nI (38 * a) := nI_mul 38 a
theorem nn_38 (a : Nat) : nI a * (38 : Int32) = nI (a * 38) := nI_mul a 38
theorem ns_38 {a : Nat} (h : 38 ≤ a) : nI a - (38 : Int32) = nI (a - 38) := nI_sub h
theorem nc_38 : (38 : Int32).toNatClampNeg = 38 := nI_clamp (n := 38) (by decide)
theorem ni_38 {n : Nat} (h : 38 < n) (hn : n < 2 ^ 31) : inR 38 n = true := inR_n (i := 38) h hn
theorem nl_39 : (39 : Int32) = nI 39 := rfl
theorem na_39 (a : Nat) : (39 : Int32) + nI a = nI (39 + a) := nI_add 39 a
theorem nb_39 (a : Nat) : nI a + (39 : Int32) = nI (a + 39) := nI_add a 39
theorem nm_39 (a : Nat) : (39 : Int32) * nI a = nI (39 * a) := nI_mul 39 a
theorem nn_39 (a : Nat) : nI a * (39 : Int32) = nI (a * 39) := nI_mul a 39
theorem ns_39 {a : Nat} (h : 39 ≤ a) : nI a - (39 : Int32) = nI (a - 39) := nI_sub h
theorem nc_39 : (39 : Int32).toNatClampNeg = 39 := nI_clamp (n := 39) (by decide)
theorem ni_39 {n : Nat} (h : 39 < n) (hn : n < 2 ^ 31) : inR 39 n = true := inR_n (i := 39) h hn
theorem nl_40 : (40 : Int32) = nI 40 := rfl
theorem na_40 (a : Nat) : (40 : Int32) + nI a = nI (40 + a) := nI_add 40 a
theorem nb_40 (a : Nat) : nI a + (40 : Int32) = nI (a + 40) := nI_add a 40
theorem nm_40 (a : Nat) : (40 : Int32) * nI a = nI (40 * a) := nI_mul 40 a
theorem nn_40 (a : Nat) : nI a * (40 : Int32) = nI (a * 40) := nI_mul a 40
theorem ns_40 {a : Nat} (h : 40 ≤ a) : nI a - (40 : Int32) = nI (a - 40) := nI_sub h
theorem nc_40 : (40 : Int32).toNatClampNeg = 40 := nI_clamp (n := 40) (by decide)
theorem ni_40 {n : Nat} (h : 40 < n) (hn : n < 2 ^ 31) : inR 40 n = true := inR_n (i := 40) h hn
theorem nl_41 : (41 : Int32) = nI 41 := rfl
theorem na_41 (a : Nat) : (41 : Int32) + nI a = nI (41 + a) := nI_add 41 a
theorem nb_41 (a : Nat) : nI a + (41 : Int32) = nI (a + 41) := nI_add a 41
theorem nm_41 (a : Nat) : (41 : Int32) * nI a = nI (41 * a) := nI_mul 41 a
theorem nn_41 (a : Nat) : nI a * (41 : Int32) = nI (a * 41) := nI_mul a 41
theorem ns_41 {a : Nat} (h : 41 ≤ a) : nI a - (41 : Int32) = nI (a - 41) := nI_sub h
theorem nc_41 : (41 : Int32).toNatClampNeg = 41 := nI_clamp (n := 41) (by decide)
theorem ni_41 {n : Nat} (h : 41 < n) (hn : n < 2 ^ 31) : inR 41 n = true := inR_n (i := 41) h hn
theorem nl_42 : (42 : Int32) = nI 42 := rfl
theorem na_42 (a : Nat) : (42 : Int32) + nI a = nI (42 + a) := nI_add 42 a
theorem nb_42 (a : Nat) : nI a + (42 : Int32) = nI (a + 42) := nI_add a 42
theorem nm_42 (a : Nat) : (42 : Int32) * nI a = nI (42 * a) := nI_mul 42 a
theorem nn_42 (a : Nat) : nI a * (42 : Int32) = nI (a * 42) := nI_mul a 42
theorem ns_42 {a : Nat} (h : 42 ≤ a) : nI a - (42 : Int32) = nI (a - 42) := nI_sub h
theorem nc_42 : (42 : Int32).toNatClampNeg = 42 := nI_clamp (n := 42) (by decide)
theorem ni_42 {n : Nat} (h : 42 < n) (hn : n < 2 ^ 31) : inR 42 n = true := inR_n (i := 42) h hn
theorem nl_43 : (43 : Int32) = nI 43 := rfl
theorem na_43 (a : Nat) : (43 : Int32) + nI a = nI (43 + a) := nI_add 43 a
theorem nb_43 (a : Nat) : nI a + (43 : Int32) = nI (a + 43) := nI_add a 43
theorem nm_43 (a : Nat) : (43 : Int32) * nI a = nI (43 * a) := nI_mul 43 a
theorem nn_43 (a : Nat) : nI a * (43 : Int32) = nI (a * 43) := nI_mul a 43
theorem ns_43 {a : Nat} (h : 43 ≤ a) : nI a - (43 : Int32) = nI (a - 43) := nI_sub h
theorem nc_43 : (43 : Int32).toNatClampNeg = 43 := nI_clamp (n := 43) (by decide)
theorem ni_43 {n : Nat} (h : 43 < n) (hn : n < 2 ^ 31) : inR 43 n = true := inR_n (i := 43) h hn
theorem nl_44 : (44 : Int32) = nI 44 := rfl
theorem na_44 (a : Nat) : (44 : Int32) + nI a = nI (44 + a) := nI_add 44 a
theorem nb_44 (a : Nat) : nI a + (44 : Int32) = nI (a + 44) := nI_add a 44
theorem nm_44 (a : Nat) : (44 : Int32) * nI a = nI (44 * a) := nI_mul 44 a
theorem nn_44 (a : Nat) : nI a * (44 : Int32) = nI (a * 44) := nI_mul a 44
theorem ns_44 {a : Nat} (h : 44 ≤ a) : nI a - (44 : Int32) = nI (a - 44) := nI_sub h
theorem nc_44 : (44 : Int32).toNatClampNeg = 44 := nI_clamp (n := 44) (by decide)
theorem ni_44 {n : Nat} (h : 44 < n) (hn : n < 2 ^ 31) : inR 44 n = true := inR_n (i := 44) h hn
theorem nl_45 : (45 : Int32) = nI 45 := rfl
theorem na_45 (a : Nat) : (45 : Int32) + nI a = nI (45 + a) := nI_add 45 a
theorem nb_45 (a : Nat) : nI a + (45 : Int32) = nI (a + 45) := nI_add a 45
theorem nm_45 (a : Nat) : (45 : Int32) * nI a = nI (45 * a) := nI_mul 45 a
theorem nn_45 (a : Nat) : nI a * (45 : Int32) = nI (a * 45) := nI_mul a 45
theorem ns_45 {a : Nat} (h : 45 ≤ a) : nI a - (45 : Int32) = nI (a - 45) := nI_sub h
theorem nc_45 : (45 : Int32).toNatClampNeg = 45 := nI_clamp (n := 45) (by decide)
theorem ni_45 {n : Nat} (h : 45 < n) (hn : n < 2 ^ 31) : inR 45 n = true := inR_n (i := 45) h hn
theorem nl_46 : (46 : Int32) = nI 46 := rfl
theorem na_46 (a : Nat) : (46 : Int32) + nI a = nI (46 + a) := nI_add 46 a
theorem nb_46 (a : Nat) : nI a + (46 : Int32) = nI (a + 46) := nI_add a 46
theorem nm_46 (a : Nat) : (46 : Int32) * nI a = nI (46 * a) := nI_mul 46 a
theorem nn_46 (a : Nat) : nI a * (46 : Int32) = nI (a * 46) := nI_mul a 46
theorem ns_46 {a : Nat} (h : 46 ≤ a) : nI a - (46 : Int32) = nI (a - 46) := nI_sub h
theorem nc_46 : (46 : Int32).toNatClampNeg = 46 := nI_clamp (n := 46) (by decide)
theorem ni_46 {n : Nat} (h : 46 < n) (hn : n < 2 ^ 31) : inR 46 n = true := inR_n (i := 46) h hn
theorem nl_47 : (47 : Int32) = nI 47 := rfl
theorem na_47 (a : Nat) : (47 : Int32) + nI a = nI (47 + a) := nI_add 47 a
theorem nb_47 (a : Nat) : nI a + (47 : Int32) = nI (a + 47) := nI_add a 47
theorem nm_47 (a : Nat) : (47 : Int32) * nI a = nI (47 * a) := nI_mul 47 a
theorem nn_47 (a : Nat) : nI a * (47 : Int32) = nI (a * 47) := nI_mul a 47
theorem ns_47 {a : Nat} (h : 47 ≤ a) : nI a - (47 : Int32) = nI (a - 47) := nI_sub h
theorem nc_47 : (47 : Int32).toNatClampNeg = 47 := nI_clamp (n := 47) (by decide)
theorem ni_47 {n : Nat} (h : 47 < n) (hn : n < 2 ^ 31) : inR 47 n = true := inR_n (i := 47) h hn
theorem nl_48 : (48 : Int32) = nI 48 := rfl
theorem na_48 (a : Nat) : (48 : Int32) + nI a = nI (48 + a) := nI_add 48 a
theorem nb_48 (a : Nat) : nI a + (48 : Int32) = nI (a + 48) := nI_add a 48
theorem nm_48 (a : Nat) : (48 : Int32) * nI a = nI (48 * a) := nI_mul 48 a
theorem nn_48 (a : Nat) : nI a * (48 : Int32) = nI (a * 48) := nI_mul a 48
theorem ns_48 {a : Nat} (h : 48 ≤ a) : nI a - (48 : Int32) = nI (a - 48) := nI_sub h
theorem nc_48 : (48 : Int32).toNatClampNeg = 48 := nI_clamp (n := 48) (by decide)
theorem ni_48 {n : Nat} (h : 48 < n) (hn : n < 2 ^ 31) : inR 48 n = true := inR_n (i := 48) h hn
theorem nl_49 : (49 : Int32) = nI 49 := rfl
theorem na_49 (a : Nat) : (49 : Int32) + nI a = nI (49 + a) := nI_add 49 a
theorem nb_49 (a : Nat) : nI a + (49 : Int32) = nI (a + 49) := nI_add a 49
theorem nm_49 (a : Nat) : (49 : Int32) * nI a = nI (49 * a) := nI_mul 49 a
theorem nn_49 (a : Nat) : nI a * (49 : Int32) = nI (a * 49) := nI_mul a 49
theorem ns_49 {a : Nat} (h : 49 ≤ a) : nI a - (49 : Int32) = nI (a - 49) := nI_sub h
theorem nc_49 : (49 : Int32).toNatClampNeg = 49 := nI_clamp (n := 49) (by decide)
theorem ni_49 {n : Nat} (h : 49 < n) (hn : n < 2 ^ 31) : inR 49 n = true := inR_n (i := 49) h hn
theorem nl_50 : (50 : Int32) = nI 50 := rfl
theorem na_50 (a : Nat) : (50 : Int32) + nI a = nI (50 + a) := nI_add 50 a
theorem nb_50 (a : Nat) : nI a + (50 : Int32) = nI (a + 50) := nI_add a 50
theorem nm_50 (a : Nat) : (50 : Int32) * nI a = nI (50 * a) := nI_mul 50 a
theorem nn_50 (a : Nat) : nI a * (50 : Int32) = nI (a * 50) := nI_mul a 50
theorem ns_50 {a : Nat} (h : 50 ≤ a) : nI a - (50 : Int32) = nI (a - 50) := nI_sub h
theorem nc_50 : (50 : Int32).toNatClampNeg = 50 := nI_clamp (n := 50) (by decide)
theorem ni_50 {n : Nat} (h : 50 < n) (hn : n < 2 ^ 31) : inR 50 n = true := inR_n (i := 50) h hn
theorem nl_51 : (51 : Int32) = nI 51 := rfl
theorem na_51 (a : Nat) : (51 : Int32) + nI a = nI (51 + a) := nI_add 51 a
theorem nb_51 (a : Nat) : nI a + (51 : Int32) = nI (a + 51) := nI_add a 51
theorem nm_51 (a : Nat) : (51 : Int32) * nI a = nI (51 * a) := nI_mul 51 a
theorem nn_51 (a : Nat) : nI a * (51 : Int32) = nI (a * 51) := nI_mul a 51
theorem ns_51 {a : Nat} (h : 51 ≤ a) : nI a - (51 : Int32) = nI (a - 51) := nI_sub h
theorem nc_51 : (51 : Int32).toNatClampNeg = 51 := nI_clamp (n := 51) (by decide)
theorem ni_51 {n : Nat} (h : 51 < n) (hn : n < 2 ^ 31) : inR 51 n = true := inR_n (i := 51) h hn
theorem nl_52 : (52 : Int32) = nI 52 := rfl
theorem na_52 (a : Nat) : (52 : Int32) + nI a = nI (52 + a) := nI_add 52 a
theorem nb_52 (a : Nat) : nI a + (52 : Int32) = nI (a + 52) := nI_add a 52
theorem nm_52 (a : Nat) : (52 : Int32) * nI a = nI (52 * a) := nI_mul 52 a
theorem nn_52 (a : Nat) : nI a * (52 : Int32) = nI (a * 52) := nI_mul a 52
theorem ns_52 {a : Nat} (h : 52 ≤ a) : nI a - (52 : Int32) = nI (a - 52) := nI_sub h
theorem nc_52 : (52 : Int32).toNatClampNeg = 52 := nI_clamp (n := 52) (by decide)
theorem ni_52 {n : Nat} (h : 52 < n) (hn : n < 2 ^ 31) : inR 52 n = true := inR_n (i := 52) h hn
theorem nl_53 : (53 : Int32) = nI 53 := rfl
theorem na_53 (a : Nat) : (53 : Int32) + nI a = nI (53 + a) := nI_add 53 a
theorem nb_53 (a : Nat) : nI a + (53 : Int32) = nI (a + 53) := nI_add a 53
theorem nm_53 (a : Nat) : (53 : Int32) * nI a = nI (53 * a) := nI_mul 53 a
theorem nn_53 (a : Nat) : nI a * (53 : Int32) = nI (a * 53) := nI_mul a 53
theorem ns_53 {a : Nat} (h : 53 ≤ a) : nI a - (53 : Int32) = nI (a - 53) := nI_sub h
theorem nc_53 : (53 : Int32).toNatClampNeg = 53 := nI_clamp (n := 53) (by decide)
theorem ni_53 {n : Nat} (h : 53 < n) (hn : n < 2 ^ 31) : inR 53 n = true := inR_n (i := 53) h hn
theorem nl_54 : (54 : Int32) = nI 54 := rfl
theorem na_54 (a : Nat) : (54 : Int32) + nI a = nI (54 + a) := nI_add 54 a
theorem nb_54 (a : Nat) : nI a + (54 : Int32) = nI (a + 54) := nI_add a 54
theorem nm_54 (a : Nat) : (54 : Int32) * nI a = nI (54 * a) := nI_mul 54 a
theorem nn_54 (a : Nat) : nI a * (54 : Int32) = nI (a * 54) := nI_mul a 54
theorem ns_54 {a : Nat} (h : 54 ≤ a) : nI a - (54 : Int32) = nI (a - 54) := nI_sub h
theorem nc_54 : (54 : Int32).toNatClampNeg = 54 := nI_clamp (n := 54) (by decide)
theorem ni_54 {n : Nat} (h : 54 < n) (hn : n < 2 ^ 31) : inR 54 n = true := inR_n (i := 54) h hn
theorem nl_55 : (55 : Int32) = nI 55 := rfl
theorem na_55 (a : Nat) : (55 : Int32) + nI a = nI (55 + a) := nI_add 55 a
theorem nb_55 (a : Nat) : nI a + (55 : Int32) = nI (a + 55) := nI_add a 55
theorem nm_55 (a : Nat) : (55 : Int32) * nI a = nI (55 * a) := nI_mul 55 a
theorem nn_55 (a : Nat) : nI a * (55 : Int32) = nI (a * 55) := nI_mul a 55
theorem ns_55 {a : Nat} (h : 55 ≤ a) : nI a - (55 : Int32) = nI (a - 55) := nI_sub h
theorem nc_55 : (55 : Int32).toNatClampNeg = 55 := nI_clamp (n := 55) (by decide)
theorem ni_55 {n : Nat} (h : 55 < n) (hn : n < 2 ^ 31) : inR 55 n = true := inR_n (i := 55) h hn
theorem nl_56 : (56 : Int32) = nI 56 := rfl
theorem na_56 (a : Nat) : (56 : Int32) + nI a = nI (56 + a) := nI_add 56 a
theorem nb_56 (a : Nat) : nI a + (56 : Int32) = nI (a + 56) := nI_add a 56
theorem nm_56 (a : Nat) : (56 : Int32) * nI a = nI (56 * a) := nI_mul 56 a
theorem nn_56 (a : Nat) : nI a * (56 : Int32) = nI (a * 56) := nI_mul a 56
theorem ns_56 {a : Nat} (h : 56 ≤ a) : nI a - (56 : Int32) = nI (a - 56) := nI_sub h
theorem nc_56 : (56 : Int32).toNatClampNeg = 56 := nI_clamp (n := 56) (by decide)
theorem ni_56 {n : Nat} (h : 56 < n) (hn : n < 2 ^ 31) : inR 56 n = true := inR_n (i := 56) h hn
theorem nl_57 : (57 : Int32) = nI 57 := rfl
theorem na_57 (a : Nat) : (57 : Int32) + nI a = nI (57 + a) := nI_add 57 a
theorem nb_57 (a : Nat) : nI a + (57 : Int32) = nI (a + 57) := nI_add a 57
theorem nm_57 (a : Nat) : (57 : Int32) * nI a = nI (57 * a) := nI_mul 57 a
theorem nn_57 (a : Nat) : nI a * (57 : Int32) = nI (a * 57) := nI_mul a 57
theorem ns_57 {a : Nat} (h : 57 ≤ a) : nI a - (57 : Int32) = nI (a - 57) := nI_sub h
theorem nc_57 : (57 : Int32).toNatClampNeg = 57 := nI_clamp (n := 57) (by decide)
theorem ni_57 {n : Nat} (h : 57 < n) (hn : n < 2 ^ 31) : inR 57 n = true := inR_n (i := 57) h hn
theorem nl_58 : (58 : Int32) = nI 58 := rfl
theorem na_58 (a : Nat) : (58 : Int32) + nI a = nI (58 + a) := nI_add 58 a
theorem nb_58 (a : Nat) : nI a + (58 : Int32) = nI (a + 58) := nI_add a 58
theorem nm_58 (a : Nat) : (58 : Int32) * nI a = nI (58 * a) := nI_mul 58 a
theorem nn_58 (a : Nat) : nI a * (58 : Int32) = nI (a * 58) := nI_mul a 58
theorem ns_58 {a : Nat} (h : 58 ≤ a) : nI a - (58 : Int32) = nI (a - 58) := nI_sub h
theorem nc_58 : (58 : Int32).toNatClampNeg = 58 := nI_clamp (n := 58) (by decide)
theorem ni_58 {n : Nat} (h : 58 < n) (hn : n < 2 ^ 31) : inR 58 n = true := inR_n (i := 58) h hn
theorem nl_59 : (59 : Int32) = nI 59 := rfl
theorem na_59 (a : Nat) : (59 : Int32) + nI a = nI (59 + a) := nI_add 59 a
theorem nb_59 (a : Nat) : nI a + (59 : Int32) = nI (a + 59) := nI_add a 59
theorem nm_59 (a : Nat) : (59 : Int32) * nI a = nI (59 * a) := nI_mul 59 a
theorem nn_59 (a : Nat) : nI a * (59 : Int32) = nI (a * 59) := nI_mul a 59
theorem ns_59 {a : Nat} (h : 59 ≤ a) : nI a - (59 : Int32) = nI (a - 59) := nI_sub h
theorem nc_59 : (59 : Int32).toNatClampNeg = 59 := nI_clamp (n := 59) (by decide)
theorem ni_59 {n : Nat} (h : 59 < n) (hn : n < 2 ^ 31) : inR 59 n = true := inR_n (i := 59) h hn
theorem nl_60 : (60 : Int32) = nI 60 := rfl
theorem na_60 (a : Nat) : (60 : Int32) + nI a = nI (60 + a) := nI_add 60 a
theorem nb_60 (a : Nat) : nI a + (60 : Int32) = nI (a + 60) := nI_add a 60
theorem nm_60 (a : Nat) : (60 : Int32) * nI a = nI (60 * a) := nI_mul 60 a
theorem nn_60 (a : Nat) : nI a * (60 : Int32) = nI (a * 60) := nI_mul a 60
theorem ns_60 {a : Nat} (h : 60 ≤ a) : nI a - (60 : Int32) = nI (a - 60) := nI_sub h
theorem nc_60 : (60 : Int32).toNatClampNeg = 60 := nI_clamp (n := 60) (by decide)
theorem ni_60 {n : Nat} (h : 60 < n) (hn : n < 2 ^ 31) : inR 60 n = true := inR_n (i := 60) h hn
theorem nl_61 : (61 : Int32) = nI 61 := rfl
theorem na_61 (a : Nat) : (61 : Int32) + nI a = nI (61 + a) := nI_add 61 a
theorem nb_61 (a : Nat) : nI a + (61 : Int32) = nI (a + 61) := nI_add a 61
theorem nm_61 (a : Nat) : (61 : Int32) * nI a = nI (61 * a) := nI_mul 61 a
theorem nn_61 (a : Nat) : nI a * (61 : Int32) = nI (a * 61) := nI_mul a 61
theorem ns_61 {a : Nat} (h : 61 ≤ a) : nI a - (61 : Int32) = nI (a - 61) := nI_sub h
theorem nc_61 : (61 : Int32).toNatClampNeg = 61 := nI_clamp (n := 61) (by decide)
theorem ni_61 {n : Nat} (h : 61 < n) (hn : n < 2 ^ 31) : inR 61 n = true := inR_n (i := 61) h hn
theorem nl_62 : (62 : Int32) = nI 62 := rfl
theorem na_62 (a : Nat) : (62 : Int32) + nI a = nI (62 + a) := nI_add 62 a
theorem nb_62 (a : Nat) : nI a + (62 : Int32) = nI (a + 62) := nI_add a 62
theorem nm_62 (a : Nat) : (62 : Int32) * nI a = nI (62 * a) := nI_mul 62 a
theorem nn_62 (a : Nat) : nI a * (62 : Int32) = nI (a * 62) := nI_mul a 62
theorem ns_62 {a : Nat} (h : 62 ≤ a) : nI a - (62 : Int32) = nI (a - 62) := nI_sub h
theorem nc_62 : (62 : Int32).toNatClampNeg = 62 := nI_clamp (n := 62) (by decide)
theorem ni_62 {n : Nat} (h : 62 < n) (hn : n < 2 ^ 31) : inR 62 n = true := inR_n (i := 62) h hn
theorem nl_63 : (63 : Int32) = nI 63 := rfl
theorem na_63 (a : Nat) : (63 : Int32) + nI a = nI (63 + a) := nI_add 63 a
theorem nb_63 (a : Nat) : nI a + (63 : Int32) = nI (a + 63) := nI_add a 63
theorem nm_63 (a : Nat) : (63 : Int32) * nI a = nI (63 * a) := nI_mul 63 a
theorem nn_63 (a : Nat) : nI a * (63 : Int32) = nI (a * 63) := nI_mul a 63
theorem ns_63 {a : Nat} (h : 63 ≤ a) : nI a - (63 : Int32) = nI (a - 63) := nI_sub h
theorem nc_63 : (63 : Int32).toNatClampNeg = 63 := nI_clamp (n := 63) (by decide)
theorem ni_63 {n : Nat} (h : 63 < n) (hn : n < 2 ^ 31) : inR 63 n = true := inR_n (i := 63) h hn
theorem nl_70 : (70 : Int32) = nI 70 := rfl
theorem na_70 (a : Nat) : (70 : Int32) + nI a = nI (70 + a) := nI_add 70 a
theorem nb_70 (a : Nat) : nI a + (70 : Int32) = nI (a + 70) := nI_add a 70
theorem nm_70 (a : Nat) : (70 : Int32) * nI a = nI (70 * a) := nI_mul 70 a
theorem nn_70 (a : Nat) : nI a * (70 : Int32) = nI (a * 70) := nI_mul a 70
theorem ns_70 {a : Nat} (h : 70 ≤ a) : nI a - (70 : Int32) = nI (a - 70) := nI_sub h
theorem nc_70 : (70 : Int32).toNatClampNeg = 70 := nI_clamp (n := 70) (by decide)
theorem ni_70 {n : Nat} (h : 70 < n) (hn : n < 2 ^ 31) : inR 70 n = true := inR_n (i := 70) h hn
theorem nl_100 : (100 : Int32) = nI 100 := rfl
theorem na_100 (a : Nat) : (100 : Int32) + nI a = nI (100 + a) := nI_add 100 a
theorem nb_100 (a : Nat) : nI a + (100 : Int32) = nI (a + 100) := nI_add a 100
theorem nm_100 (a : Nat) : (100 : Int32) * nI a = nI (100 * a) := nI_mul 100 a
theorem nn_100 (a : Nat) : nI a * (100 : Int32) = nI (a * 100) := nI_mul a 100
theorem ns_100 {a : Nat} (h : 100 ≤ a) : nI a - (100 : Int32) = nI (a - 100) := nI_sub h
theorem nc_100 : (100 : Int32).toNatClampNeg = 100 := nI_clamp (n := 100) (by decide)
theorem ni_100 {n : Nat} (h : 100 < n) (hn : n < 2 ^ 31) : inR 100 n = true := inR_n (i := 100) h hn
theorem nl_118 : (118 : Int32) = nI 118 := rfl
theorem na_118 (a : Nat) : (118 : Int32) + nI a = nI (118 + a) := nI_add 118 a
theorem nb_118 (a : Nat) : nI a + (118 : Int32) = nI (a + 118) := nI_add a 118
theorem nm_118 (a : Nat) : (118 : Int32) * nI a = nI (118 * a) := nI_mul 118 a
theorem nn_118 (a : Nat) : nI a * (118 : Int32) = nI (a * 118) := nI_mul a 118
theorem ns_118 {a : Nat} (h : 118 ≤ a) : nI a - (118 : Int32) = nI (a - 118) := nI_sub h
theorem nc_118 : (118 : Int32).toNatClampNeg = 118 := nI_clamp (n := 118) (by decide)
theorem ni_118 {n : Nat} (h : 118 < n) (hn : n < 2 ^ 31) : inR 118 n = true := inR_n (i := 118) h hn
theorem nl_124 : (124 : Int32) = nI 124 := rfl
theorem na_124 (a : Nat) : (124 : Int32) + nI a = nI (124 + a) := nI_add 124 a
theorem nb_124 (a : Nat) : nI a + (124 : Int32) = nI (a + 124) := nI_add a 124
theorem nm_124 (a : Nat) : (124 : Int32) * nI a = nI (124 * a) := nI_mul 124 a
theorem nn_124 (a : Nat) : nI a * (124 : Int32) = nI (a * 124) := nI_mul a 124
theorem ns_124 {a : Nat} (h : 124 ≤ a) : nI a - (124 : Int32) = nI (a - 124) := nI_sub h
theorem nc_124 : (124 : Int32).toNatClampNeg = 124 := nI_clamp (n := 124) (by decide)
theorem ni_124 {n : Nat} (h : 124 < n) (hn : n < 2 ^ 31) : inR 124 n = true := inR_n (i := 124) h hn
theorem nl_127 : (127 : Int32) = nI 127 := rfl
theorem na_127 (a : Nat) : (127 : Int32) + nI a = nI (127 + a) := nI_add 127 a
theorem nb_127 (a : Nat) : nI a + (127 : Int32) = nI (a + 127) := nI_add a 127
theorem nm_127 (a : Nat) : (127 : Int32) * nI a = nI (127 * a) := nI_mul 127 a
theorem nn_127 (a : Nat) : nI a * (127 : Int32) = nI (a * 127) := nI_mul a 127
theorem ns_127 {a : Nat} (h : 127 ≤ a) : nI a - (127 : Int32) = nI (a - 127) := nI_sub h
theorem nc_127 : (127 : Int32).toNatClampNeg = 127 := nI_clamp (n := 127) (by decide)
theorem ni_127 {n : Nat} (h : 127 < n) (hn : n < 2 ^ 31) : inR 127 n = true := inR_n (i := 127) h hn
theorem nl_128 : (128 : Int32) = nI 128 := rfl
theorem na_128 (a : Nat) : (128 : Int32) + nI a = nI (128 + a) := nI_add 128 a
theorem nb_128 (a : Nat) : nI a + (128 : Int32) = nI (a + 128) := nI_add a 128
theorem nm_128 (a : Nat) : (128 : Int32) * nI a = nI (128 * a) := nI_mul 128 a
theorem nn_128 (a : Nat) : nI a * (128 : Int32) = nI (a * 128) := nI_mul a 128
theorem ns_128 {a : Nat} (h : 128 ≤ a) : nI a - (128 : Int32) = nI (a - 128) := nI_sub h
theorem nc_128 : (128 : Int32).toNatClampNeg = 128 := nI_clamp (n := 128) (by decide)
theorem ni_128 {n : Nat} (h : 128 < n) (hn : n < 2 ^ 31) : inR 128 n = true := inR_n (i := 128) h hn
theorem nl_130 : (130 : Int32) = nI 130 := rfl
theorem na_130 (a : Nat) : (130 : Int32) + nI a = nI (130 + a) := nI_add 130 a
theorem nb_130 (a : Nat) : nI a + (130 : Int32) = nI (a + 130) := nI_add a 130
theorem nm_130 (a : Nat) : (130 : Int32) * nI a = nI (130 * a) := nI_mul 130 a
theorem nn_130 (a : Nat) : nI a * (130 : Int32) = nI (a * 130) := nI_mul a 130
theorem ns_130 {a : Nat} (h : 130 ≤ a) : nI a - (130 : Int32) = nI (a - 130) := nI_sub h
theorem nc_130 : (130 : Int32).toNatClampNeg = 130 := nI_clamp (n := 130) (by decide)
theorem ni_130 {n : Nat} (h : 130 < n) (hn : n < 2 ^ 31) : inR 130 n = true := inR_n (i := 130) h hn
theorem nl_148 : (148 : Int32) = nI 148 := rfl
theorem na_148 (a : Nat) : (148 : Int32) + nI a = nI (148 + a) := nI_add 148 a
theorem nb_148 (a : Nat) : nI a + (148 : Int32) = nI (a + 148) := nI_add a 148
theorem nm_148 (a : Nat) : (148 : Int32) * nI a = nI (148 * a) := nI_mul 148 a
theorem nn_148 (a : Nat) : nI a * (148 : Int32) = nI (a * 148) := nI_mul a 148
theorem ns_148 {a : Nat} (h : 148 ≤ a) : nI a - (148 : Int32) = nI (a - 148) := nI_sub h
theorem nc_148 : (148 : Int32).toNatClampNeg = 148 := nI_clamp (n := 148) (by decide)
theorem ni_148 {n : Nat} (h : 148 < n) (hn : n < 2 ^ 31) : inR 148 n = true := inR_n (i := 148) h hn
theorem nl_170 : (170 : Int32) = nI 170 := rfl
theorem na_170 (a : Nat) : (170 : Int32) + nI a = nI (170 + a) := nI_add 170 a
theorem nb_170 (a : Nat) : nI a + (170 : Int32) = nI (a + 170) := nI_add a 170
theorem nm_170 (a : Nat) : (170 : Int32) * nI a = nI (170 * a) := nI_mul 170 a
theorem nn_170 (a : Nat) : nI a * (170 : Int32) = nI (a * 170) := nI_mul a 170
theorem ns_170 {a : Nat} (h : 170 ≤ a) : nI a - (170 : Int32) = nI (a - 170) := nI_sub h
theorem nc_170 : (170 : Int32).toNatClampNeg = 170 := nI_clamp (n := 170) (by decide)
theorem ni_170 {n : Nat} (h : 170 < n) (hn : n < 2 ^ 31) : inR 170 n = true := inR_n (i := 170) h hn
theorem nl_200 : (200 : Int32) = nI 200 := rfl
theorem na_200 (a : Nat) : (200 : Int32) + nI a = nI (200 + a) := nI_add 200 a
theorem nb_200 (a : Nat) : nI a + (200 : Int32) = nI (a + 200) := nI_add a 200
theorem nm_200 (a : Nat) : (200 : Int32) * nI a = nI (200 * a) := nI_mul 200 a
theorem nn_200 (a : Nat) : nI a * (200 : Int32) = nI (a * 200) := nI_mul a 200
theorem ns_200 {a : Nat} (h : 200 ≤ a) : nI a - (200 : Int32) = nI (a - 200) := nI_sub h
theorem nc_200 : (200 : Int32).toNatClampNeg = 200 := nI_clamp (n := 200) (by decide)
theorem ni_200 {n : Nat} (h : 200 < n) (hn : n < 2 ^ 31) : inR 200 n = true := inR_n (i := 200) h hn
theorem nl_300 : (300 : Int32) = nI 300 := rfl
theorem na_300 (a : Nat) : (300 : Int32) + nI a = nI (300 + a) := nI_add 300 a
theorem nb_300 (a : Nat) : nI a + (300 : Int32) = nI (a + 300) := nI_add a 300
theorem nm_300 (a : Nat) : (300 : Int32) * nI a = nI (300 * a) := nI_mul 300 a
theorem nn_300 (a : Nat) : nI a * (300 : Int32) = nI (a * 300) := nI_mul a 300
theorem ns_300 {a : Nat} (h : 300 ≤ a) : nI a - (300 : Int32) = nI (a - 300) := nI_sub h
theorem nc_300 : (300 : Int32).toNatClampNeg = 300 := nI_clamp (n := 300) (by decide)
theorem ni_300 {n : Nat} (h : 300 < n) (hn : n < 2 ^ 31) : inR 300 n = true := inR_n (i := 300) h hn
theorem nl_388 : (388 : Int32) = nI 388 := rfl
theorem na_388 (a : Nat) : (388 : Int32) + nI a = nI (388 + a) := nI_add 388 a
theorem nb_388 (a : Nat) : nI a + (388 : Int32) = nI (a + 388) := nI_add a 388
theorem nm_388 (a : Nat) : (388 : Int32) * nI a = nI (388 * a) := nI_mul 388 a
theorem nn_388 (a : Nat) : nI a * (388 : Int32) = nI (a * 388) := nI_mul a 388
theorem ns_388 {a : Nat} (h : 388 ≤ a) : nI a - (388 : Int32) = nI (a - 388) := nI_sub h
theorem nc_388 : (388 : Int32).toNatClampNeg = 388 := nI_clamp (n := 388) (by decide)
theorem ni_388 {n : Nat} (h : 388 < n) (hn : n < 2 ^ 31) : inR 388 n = true := inR_n (i := 388) h hn
theorem nl_628 : (628 : Int32) = nI 628 := rfl
theorem na_628 (a : Nat) : (628 : Int32) + nI a = nI (628 + a) := nI_add 628 a
theorem nb_628 (a : Nat) : nI a + (628 : Int32) = nI (a + 628) := nI_add a 628
theorem nm_628 (a : Nat) : (628 : Int32) * nI a = nI (628 * a) := nI_mul 628 a
theorem nn_628 (a : Nat) : nI a * (628 : Int32) = nI (a * 628) := nI_mul a 628
theorem ns_628 {a : Nat} (h : 628 ≤ a) : nI a - (628 : Int32) = nI (a - 628) := nI_sub h
theorem nc_628 : (628 : Int32).toNatClampNeg = 628 := nI_clamp (n := 628) (by decide)
theorem ni_628 {n : Nat} (h : 628 < n) (hn : n < 2 ^ 31) : inR 628 n = true := inR_n (i := 628) h hn
theorem nl_646 : (646 : Int32) = nI 646 := rfl
theorem na_646 (a : Nat) : (646 : Int32) + nI a = nI (646 + a) := nI_add 646 a
theorem nb_646 (a : Nat) : nI a + (646 : Int32) = nI (a + 646) := nI_add a 646
theorem nm_646 (a : Nat) : (646 : Int32) * nI a = nI (646 * a) := nI_mul 646 a
theorem nn_646 (a : Nat) : nI a * (646 : Int32) = nI (a * 646) := nI_mul a 646
theorem ns_646 {a : Nat} (h : 646 ≤ a) : nI a - (646 : Int32) = nI (a - 646) := nI_sub h
theorem nc_646 : (646 : Int32).toNatClampNeg = 646 := nI_clamp (n := 646) (by decide)
theorem ni_646 {n : Nat} (h : 646 < n) (hn : n < 2 ^ 31) : inR 646 n = true := inR_n (i := 646) h hn
theorem nl_850 : (850 : Int32) = nI 850 := rfl
theorem na_850 (a : Nat) : (850 : Int32) + nI a = nI (850 + a) := nI_add 850 a
theorem nb_850 (a : Nat) : nI a + (850 : Int32) = nI (a + 850) := nI_add a 850
theorem nm_850 (a : Nat) : (850 : Int32) * nI a = nI (850 * a) := nI_mul 850 a
theorem nn_850 (a : Nat) : nI a * (850 : Int32) = nI (a * 850) := nI_mul a 850
theorem ns_850 {a : Nat} (h : 850 ≤ a) : nI a - (850 : Int32) = nI (a - 850) := nI_sub h
theorem nc_850 : (850 : Int32).toNatClampNeg = 850 := nI_clamp (n := 850) (by decide)
theorem ni_850 {n : Nat} (h : 850 < n) (hn : n < 2 ^ 31) : inR 850 n = true := inR_n (i := 850) h hn
theorem nl_999 : (999 : Int32) = nI 999 := rfl
theorem na_999 (a : Nat) : (999 : Int32) + nI a = nI (999 + a) := nI_add 999 a
theorem nb_999 (a : Nat) : nI a + (999 : Int32) = nI (a + 999) := nI_add a 999
theorem nm_999 (a : Nat) : (999 : Int32) * nI a = nI (999 * a) := nI_mul 999 a
theorem nn_999 (a : Nat) : nI a * (999 : Int32) = nI (a * 999) := nI_mul a 999
theorem ns_999 {a : Nat} (h : 999 ≤ a) : nI a - (999 : Int32) = nI (a - 999) := nI_sub h
theorem nc_999 : (999 : Int32).toNatClampNeg = 999 := nI_clamp (n := 999) (by decide)
theorem ni_999 {n : Nat} (h : 999 < n) (hn : n < 2 ^ 31) : inR 999 n = true := inR_n (i := 999) h hn
theorem nl_1000 : (1000 : Int32) = nI 1000 := rfl
theorem na_1000 (a : Nat) : (1000 : Int32) + nI a = nI (1000 + a) := nI_add 1000 a
theorem nb_1000 (a : Nat) : nI a + (1000 : Int32) = nI (a + 1000) := nI_add a 1000
theorem nm_1000 (a : Nat) : (1000 : Int32) * nI a = nI (1000 * a) := nI_mul 1000 a
theorem nn_1000 (a : Nat) : nI a * (1000 : Int32) = nI (a * 1000) := nI_mul a 1000
theorem ns_1000 {a : Nat} (h : 1000 ≤ a) : nI a - (1000 : Int32) = nI (a - 1000) := nI_sub h
theorem nc_1000 : (1000 : Int32).toNatClampNeg = 1000 := nI_clamp (n := 1000) (by decide)
theorem ni_1000 {n : Nat} (h : 1000 < n) (hn : n < 2 ^ 31) : inR 1000 n = true := inR_n (i := 1000) h hn
theorem nl_1001 : (1001 : Int32) = nI 1001 := rfl
theorem na_1001 (a : Nat) : (1001 : Int32) + nI a = nI (1001 + a) := nI_add 1001 a
theorem nb_1001 (a : Nat) : nI a + (1001 : Int32) = nI (a + 1001) := nI_add a 1001
theorem nm_1001 (a : Nat) : (1001 : Int32) * nI a = nI (1001 * a) := nI_mul 1001 a
theorem nn_1001 (a : Nat) : nI a * (1001 : Int32) = nI (a * 1001) := nI_mul a 1001
theorem ns_1001 {a : Nat} (h : 1001 ≤ a) : nI a - (1001 : Int32) = nI (a - 1001) := nI_sub h
theorem nc_1001 : (1001 : Int32).toNatClampNeg = 1001 := nI_clamp (n := 1001) (by decide)
theorem ni_1001 {n : Nat} (h : 1001 < n) (hn : n < 2 ^ 31) : inR 1001 n = true := inR_n (i := 1001) h hn
theorem nl_9999 : (9999 : Int32) = nI 9999 := rfl
theorem na_9999 (a : Nat) : (9999 : Int32) + nI a = nI (9999 + a) := nI_add 9999 a
theorem nb_9999 (a : Nat) : nI a + (9999 : Int32) = nI (a + 9999) := nI_add a 9999
theorem nm_9999 (a : Nat) : (9999 : Int32) * nI a = nI (9999 * a) := nI_mul 9999 a
theorem nn_9999 (a : Nat) : nI a * (9999 : Int32) = nI (a * 9999) := nI_mul a 9999
theorem ns_9999 {a : Nat} (h : 9999 ≤ a) : nI a - (9999 : Int32) = nI (a - 9999) := nI_sub h
theorem nc_9999 : (9999 : Int32).toNatClampNeg = 9999 := nI_clamp (n := 9999) (by decide)
theorem ni_9999 {n : Nat} (h : 9999 < n) (hn : n < 2 ^ 31) : inR 9999 n = true := inR_n (i := 9999) h hn
theorem nl_16450 : (16450 : Int32) = nI 16450 := rfl
theorem na_16450 (a : Nat) : (16450 : Int32) + nI a = nI (16450 + a) := nI_add 16450 a
theorem nb_16450 (a : Nat) : nI a + (16450 : Int32) = nI (a + 16450) := nI_add a 16450
theorem nm_16450 (a : Nat) : (16450 : Int32) * nI a = nI (16450 * a) := nI_mul 16450 a
theorem nn_16450 (a : Nat) : nI a * (16450 : Int32) = nI (a * 16450) := nI_mul a 16450
theorem ns_16450 {a : Nat} (h : 16450 ≤ a) : nI a - (16450 : Int32) = nI (a - 16450) := nI_sub h
theorem nc_16450 : (16450 : Int32).toNatClampNeg = 16450 := nI_clamp (n := 16450) (by decide)
theorem ni_16450 {n : Nat} (h : 16450 < n) (hn : n < 2 ^ 31) : inR 16450 n = true := inR_n (i := 16450) h hn
theorem upd_ne {f : Nat → Int32} {k j : Nat} {x : Int32} (h : ¬ j = k) : upd f k x j = f j := if_neg h
theorem upd_eq {f : Nat → Int32} {k : Nat} {x : Int32} : upd f k x k = x := if_pos rfl
theorem updL_ne {f : Nat → Int64} {k j : Nat} {x : Int64} (h : ¬ j = k) : vp_updL f k x j = f j := if_neg h
theorem updL_eq {f : Nat → Int64} {k : Nat} {x : Int64} : vp_updL f k x k = x := if_pos rfl
theorem add_sub1 (x y : Int32) : x + y - y = x := Int32.add_sub_cancel _ _
