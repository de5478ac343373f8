/-! rows for simp, their side conditions by omega (printed by gen78.py) -/
theorem ze_n0 : (0 : Int32) = nI 0 := rfl
theorem ze_n1 : (1 : Int32) = nI 1 := rfl
theorem ze_n2 : (2 : Int32) = nI 2 := rfl
theorem ze_n3 : (3 : Int32) = nI 3 := rfl
theorem ze_n4 : (4 : Int32) = nI 4 := rfl
theorem ze_n5 : (5 : Int32) = nI 5 := rfl
theorem ze_n6 : (6 : Int32) = nI 6 := rfl
theorem ze_n7 : (7 : Int32) = nI 7 := rfl
theorem ze_n8 : (8 : Int32) = nI 8 := rfl
theorem ze_n9 : (9 : Int32) = nI 9 := rfl
theorem ze_n10 : (10 : Int32) = nI 10 := rfl
theorem ze_n11 : (11 : Int32) = nI 11 := rfl
theorem ze_n12 : (12 : Int32) = nI 12 := rfl
theorem ze_n13 : (13 : Int32) = nI 13 := rfl
theorem ze_n14 : (14 : Int32) = nI 14 := rfl
theorem ze_n15 : (15 : Int32) = nI 15 := rfl
theorem ze_n16 : (16 : Int32) = nI 16 := rfl
theorem ze_n17 : (17 : Int32) = nI 17 := rfl
theorem ze_n18 : (18 : Int32) = nI 18 := rfl
theorem ze_n19 : (19 : Int32) = nI 19 := rfl
theorem ze_n20 : (20 : Int32) = nI 20 := rfl
theorem ze_n21 : (21 : Int32) = nI 21 := rfl
theorem ze_n22 : (22 : Int32) = nI 22 := rfl
theorem ze_n23 : (23 : Int32) = nI 23 := rfl
theorem ze_n24 : (24 : Int32) = nI 24 := rfl
theorem ze_n25 : (25 : Int32) = nI 25 := rfl
theorem ze_n26 : (26 : Int32) = nI 26 := rfl
theorem ze_n27 : (27 : Int32) = nI 27 := rfl
theorem ze_n28 : (28 : Int32) = nI 28 := rfl
theorem ze_n29 : (29 : Int32) = nI 29 := rfl
theorem ze_n30 : (30 : Int32) = nI 30 := rfl
theorem ze_n31 : (31 : Int32) = nI 31 := rfl
theorem ze_n32 : (32 : Int32) = nI 32 := rfl
theorem ze_n33 : (33 : Int32) = nI 33 := rfl
theorem ze_n34 : (34 : Int32) = nI 34 := rfl
theorem ze_n35 : (35 : Int32) = nI 35 := rfl
theorem ze_n36 : (36 : Int32) = nI 36 := rfl
theorem ze_n37 : (37 : Int32) = nI 37 := rfl
theorem ze_n38 : (38 : Int32) = nI 38 := rfl
theorem ze_n39 : (39 : Int32) = nI 39 := rfl
theorem ze_n40 : (40 : Int32) = nI 40 := rfl
theorem ze_n48 : (48 : Int32) = nI 48 := rfl
theorem ze_n63 : (63 : Int32) = nI 63 := rfl
theorem ze_n64 : (64 : Int32) = nI 64 := rfl
theorem ze_n65 : (65 : Int32) = nI 65 := rfl
theorem ze_n80 : (80 : Int32) = nI 80 := rfl
theorem ze_n100 : (100 : Int32) = nI 100 := rfl
theorem ze_n128 : (128 : Int32) = nI 128 := rfl
theorem ze_n200 : (200 : Int32) = nI 200 := rfl
theorem ze_n255 : (255 : Int32) = nI 255 := rfl
theorem ze_n300 : (300 : Int32) = nI 300 := rfl
theorem ze_n320 : (320 : Int32) = nI 320 := rfl
theorem ze_n384 : (384 : Int32) = nI 384 := rfl
theorem ze_n400 : (400 : Int32) = nI 400 := rfl
theorem ze_n512 : (512 : Int32) = nI 512 := rfl
theorem ze_n1023 : (1023 : Int32) = nI 1023 := rfl
theorem ze_n1600 : (1600 : Int32) = nI 1600 := rfl
theorem ze_n6400 : (6400 : Int32) = nI 6400 := rfl
theorem ze_n9600 : (9600 : Int32) = nI 9600 := rfl
theorem ze_n32768 : (32768 : Int32) = nI 32768 := rfl
theorem ze_n65535 : (65535 : Int32) = nI 65535 := rfl
theorem ze_n65536 : (65536 : Int32) = nI 65536 := rfl
theorem ze_n802 : (802 : Int32) = nI 802 := rfl
theorem ze_n8191 : (8191 : Int32) = nI 8191 := rfl
theorem ze_L0 : (0 : Int64) = lN 0 := rfl
theorem ze_L1 : (1 : Int64) = lN 1 := rfl
theorem ze_L2 : (2 : Int64) = lN 2 := rfl
theorem ze_L3 : (3 : Int64) = lN 3 := rfl
theorem ze_L4 : (4 : Int64) = lN 4 := rfl
theorem ze_L5 : (5 : Int64) = lN 5 := rfl
theorem ze_L6 : (6 : Int64) = lN 6 := rfl
theorem ze_L7 : (7 : Int64) = lN 7 := rfl
theorem ze_L8 : (8 : Int64) = lN 8 := rfl
theorem ze_L9 : (9 : Int64) = lN 9 := rfl
theorem ze_L10 : (10 : Int64) = lN 10 := rfl
theorem ze_L15 : (15 : Int64) = lN 15 := rfl
theorem ze_L16 : (16 : Int64) = lN 16 := rfl
theorem ze_L24 : (24 : Int64) = lN 24 := rfl
theorem ze_L40 : (40 : Int64) = lN 40 := rfl
theorem ze_L48 : (48 : Int64) = lN 48 := rfl
theorem ze_L63 : (63 : Int64) = lN 63 := rfl
theorem ze_L64 : (64 : Int64) = lN 64 := rfl
theorem ze_L127 : (127 : Int64) = lN 127 := rfl
theorem ze_L255 : (255 : Int64) = lN 255 := rfl
theorem ze_L400 : (400 : Int64) = lN 400 := rfl
theorem ze_L1024 : (1024 : Int64) = lN 1024 := rfl
theorem ze_L2047 : (2047 : Int64) = lN 2047 := rfl
theorem ze_L65535 : (65535 : Int64) = lN 65535 := rfl

theorem ze_ltT {a b : Nat} (h : a < b) (hb : b < 2147483648) : (nI a < nI b) = True := eq_true (nI_lt h hb)
theorem ze_ltF {a b : Nat} (h : b ≤ a) (ha : a < 2147483648) : (nI a < nI b) = False := eq_false (nI_nlt h ha)
theorem ze_leT {a b : Nat} (h : a ≤ b) (hb : b < 2147483648) : (nI a ≤ nI b) = True := eq_true (nI_le h hb)
theorem ze_leF {a b : Nat} (h : b < a) (ha : a < 2147483648) : (nI a ≤ nI b) = False := eq_false (nI_ge h ha)
theorem ze_eqT {a b : Nat} (h : a = b) : (nI a = nI b) = True := eq_true (by rw [h])
theorem ze_eqF {a b : Nat} (h : ¬ a = b) (ha : a < 2147483648) (hb : b < 2147483648) : (nI a = nI b) = False := eq_false (fun e => h ((nI_eq ha hb).mp e))
theorem ze_lt {a b : Nat} (ha : a < 2147483648) (hb : b < 2147483648) : (nI a < nI b) = (a < b) := propext (nI_ltI ha hb)
theorem ze_le {a b : Nat} (ha : a < 2147483648) (hb : b < 2147483648) : (nI a ≤ nI b) = (a ≤ b) := propext (nI_leI ha hb)
theorem ze_eq {a b : Nat} (ha : a < 2147483648) (hb : b < 2147483648) : (nI a = nI b) = (a = b) := propext (nI_eq ha hb)
theorem ze_mI : (-nI 1).toInt = -1 := by decide
theorem ze_mlt {a : Nat} (ha : a < 2147483648) : (-nI 1 < nI a) = True := eq_true (by rw [Int32.lt_iff_toInt_lt, ze_mI, nI_toInt ha]; omega)
theorem ze_ltm {a : Nat} (ha : a < 2147483648) : (nI a < -nI 1) = False := eq_false (by rw [Int32.lt_iff_toInt_lt, ze_mI, nI_toInt ha]; omega)
theorem ze_mle {a : Nat} (ha : a < 2147483648) : (-nI 1 ≤ nI a) = True := eq_true (by rw [Int32.le_iff_toInt_le, ze_mI, nI_toInt ha]; omega)
theorem ze_lem {a : Nat} (ha : a < 2147483648) : (nI a ≤ -nI 1) = False := eq_false (by rw [Int32.le_iff_toInt_le, ze_mI, nI_toInt ha]; omega)
theorem ze_eqm {a : Nat} (ha : a < 2147483648) : (nI a = -nI 1) = False := eq_false (fun e => by
  have := congrArg Int32.toInt e
  rw [ze_mI, nI_toInt ha] at this
  omega)
theorem ze_meq {a : Nat} (ha : a < 2147483648) : (-nI 1 = nI a) = False := eq_false (fun e => by
  have := congrArg Int32.toInt e
  rw [ze_mI, nI_toInt ha] at this
  omega)
theorem ze_mm : (-nI 1 = -nI 1) = True := eq_true rfl
theorem ze_mltm : (-nI 1 < -nI 1) = False := by decide
theorem ze_inT {n N : Nat} (h : n < N) (hN : N < 2147483648) : zx_in (nI n) N = true := zd_in1 h hN
theorem ze_inF {n N : Nat} (h : N ≤ n) (hn : n < 2147483648) : zx_in (nI n) N = false := by
  rw [zd_in hn]
  exact decide_eq_false (by omega)
theorem ze_inM {N : Nat} : zx_in (-nI 1) N = false := zd_inF (by decide)
theorem ze_cl {n : Nat} (h : n < 2147483648) : (nI n).toNatClampNeg = n := nI_clamp h
theorem ze_fin {n N : Nat} (h : n < N) (hN : N < 2147483648) : zx_fin N (nI n) = some ⟨n, h⟩ := by
  unfold zx_fin
  rw [dif_pos (zd_in1 h hN)]
  congr 1
  exact Fin.ext (nI_clamp (Nat.lt_trans h hN))
theorem ze_r8 (t : Nat) : nI t * nI 8 = nI (8 * t) := by rw [pk_mul, Nat.mul_comm]
theorem ze_r24 (t : Nat) : nI t * nI 24 = nI (24 * t) := by rw [pk_mul, Nat.mul_comm]
theorem ze_r40 (t : Nat) : nI t * nI 40 = nI (40 * t) := by rw [pk_mul, Nat.mul_comm]
theorem ze_r400 (t : Nat) : nI t * nI 400 = nI (400 * t) := by rw [pk_mul, Nat.mul_comm]
theorem ze_l8 (t : Nat) : nI 8 * nI t = nI (8 * t) := pk_mul 8 t
theorem ze_l16 (t : Nat) : nI 16 * nI t = nI (16 * t) := pk_mul 16 t
theorem ze_l24 (t : Nat) : nI 24 * nI t = nI (24 * t) := pk_mul 24 t
theorem ze_l40 (t : Nat) : nI 40 * nI t = nI (40 * t) := pk_mul 40 t
theorem ze_sub {a b : Nat} (h : b ≤ a) : nI a - nI b = nI (a - b) := pk_sub h
theorem ze_am1 {a : Nat} (h : 1 ≤ a) : nI a + -nI 1 = nI (a - 1) := by
  obtain ⟨n, rfl⟩ : ∃ n, a = n + 1 := ⟨a - 1, by omega⟩
  exact pk_m1 n
theorem ze_es (p : Nat) : zd_e (some p) = nI p := rfl
theorem ze_en : zd_e none = -nI 1 := rfl
theorem ze_i64 {n : Nat} (h : n < 2147483648) : (nI n).toInt64 = lN n := nI_l h
theorem ze_m64 : (-nI 1).toInt64 = -lN 1 := by decide
theorem ze_64i (n : Nat) : (lN n).toInt32 = nI n := lN_i n
theorem ze_64m : (-lN 1).toInt32 = -nI 1 := by decide
theorem ze_LltT {a b : Nat} (h : a < b) (hb : b < 2147483648) : (lN a < lN b) = True := eq_true ((lN_lt (by omega) hb).mpr h)
theorem ze_LltF {a b : Nat} (h : b ≤ a) (ha : a < 2147483648) : (lN a < lN b) = False := eq_false (fun e => by
  have := (lN_lt ha (by omega)).mp e
  omega)
theorem ze_LleT {a b : Nat} (h : a ≤ b) (hb : b < 2147483648) : (lN a ≤ lN b) = True := eq_true ((lN_le (by omega) hb).mpr h)
theorem ze_LleF {a b : Nat} (h : b < a) (ha : a < 2147483648) : (lN a ≤ lN b) = False := eq_false (fun e => by
  have := (lN_le ha (by omega)).mp e
  omega)
theorem ze_LeqT {a b : Nat} (h : a = b) : (lN a = lN b) = True := eq_true (by rw [h])
theorem ze_LeqF {a b : Nat} (h : ¬ a = b) (ha : a < 2147483648) (hb : b < 2147483648) : (lN a = lN b) = False := eq_false (fun e => h ((lN_eq ha hb).mp e))
theorem ze_LmI : (-lN 1).toInt = -1 := by decide
theorem ze_Lmlt {a : Nat} (ha : a < 2147483648) : (-lN 1 < lN a) = True := eq_true (by rw [Int64.lt_iff_toInt_lt, ze_LmI, lN_toInt ha]; omega)
theorem ze_Lltm {a : Nat} (ha : a < 2147483648) : (lN a < -lN 1) = False := eq_false (by rw [Int64.lt_iff_toInt_lt, ze_LmI, lN_toInt ha]; omega)
theorem ze_Lmle {a : Nat} (ha : a < 2147483648) : (-lN 1 ≤ lN a) = True := eq_true (by rw [Int64.le_iff_toInt_le, ze_LmI, lN_toInt ha]; omega)
theorem ze_Llem {a : Nat} (ha : a < 2147483648) : (lN a ≤ -lN 1) = False := eq_false (by rw [Int64.le_iff_toInt_le, ze_LmI, lN_toInt ha]; omega)
theorem ze_Leqm {a : Nat} (ha : a < 2147483648) : (lN a = -lN 1) = False := eq_false (fun e => by
  have := congrArg Int64.toInt e
  rw [ze_LmI, lN_toInt ha] at this
  omega)
theorem ze_Lmeq {a : Nat} (ha : a < 2147483648) : (-lN 1 = lN a) = False := eq_false (fun e => by
  have := congrArg Int64.toInt e
  rw [ze_LmI, lN_toInt ha] at this
  omega)
theorem ze_Lmm : (-lN 1 = -lN 1) = True := eq_true rfl
theorem ze_gIs (h : zx_H) (F i j : Nat) (x : Int32) : (zx_sI h F i j x).1 F i j = x := if_pos ⟨rfl, rfl, rfl⟩
theorem ze_gIn (h : zx_H) (F i j : Nat) (x : Int32) (a b c : Nat) (hn : ¬ (a = F ∧ b = i ∧ c = j)) : (zx_sI h F i j x).1 a b c = h.1 a b c := if_neg hn
theorem ze_gJs (h : zx_H) (F i j : Nat) (x : Int64) : (zx_sJ h F i j x).2 F i j = x := if_pos ⟨rfl, rfl, rfl⟩
theorem ze_gJn (h : zx_H) (F i j : Nat) (x : Int64) (a b c : Nat) (hn : ¬ (a = F ∧ b = i ∧ c = j)) : (zx_sJ h F i j x).2 a b c = h.2 a b c := if_neg hn
theorem ze_chs {α : Type} (x : Int32) (A : Option α) (r : List (Int32 × Option α)) (D : Option α) : zx_chain x ((x, A) :: r) D = A := if_pos rfl
theorem ze_chn {α : Type} {x k : Int32} (h : (x = k) = False) (A : Option α) (r : List (Int32 × Option α)) (D : Option α) : zx_chain x ((k, A) :: r) D = zx_chain x r D := if_neg (of_eq_false h)
theorem ze_chd {α : Type} (x : Int32) (D : Option α) : zx_chain x [] D = D := rfl
theorem ze_ch {α : Type} (x k : Int32) (A : Option α) (r : List (Int32 × Option α)) (D : Option α) : zx_chain x ((k, A) :: r) D = if x = k then A else zx_chain x r D := rfl
theorem ze_bt : zx_b true = nI 1 := rfl
theorem ze_bf : zx_b false = nI 0 := rfl
/-- an int is below 0, or a number -/
theorem ze_cases (x : Int32) : x < 0 ∨ ∃ n : Nat, n < 2147483648 ∧ x = nI n := by
  by_cases h : x < 0
  · exact Or.inl h
  · exact Or.inr (nI_of h)
