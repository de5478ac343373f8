/-! enumeration (printed by gen88.py) -/
def zg_wr (h : zx_H) (F b n : Nat) (g : Nat → Int32) : zx_H := (fun a i c => if a = F ∧ i = 0 ∧ b ≤ c ∧ c < b + n then g (c - b) else h.1 a i c, h.2)
theorem zg_gW (h : zx_H) (F b n : Nat) (g : Nat → Int32) (a i c : Nat) : (zg_wr h F b n g).1 a i c = if a = F ∧ i = 0 ∧ b ≤ c ∧ c < b + n then g (c - b) else h.1 a i c := rfl
theorem zg_gW2 (h : zx_H) (F b n : Nat) (g : Nat → Int32) : (zg_wr h F b n g).2 = h.2 := rfl
theorem zg_wr_fold (h : zx_H) (F b : Nat) (g : Nat → Int32) : ∀ n, zd_fold (fun p s => zx_sI s F 0 (b + p) (g p)) h n = zg_wr h F b n g := by
  intro n
  induction n with
  | zero =>
    refine Prod.ext ?_ rfl
    funext a i c
    show h.1 a i c = if a = F ∧ i = 0 ∧ b ≤ c ∧ c < b + 0 then _ else h.1 a i c
    rw [if_neg (by omega)]
  | succ n ih =>
    show zx_sI (zd_fold _ h n) F 0 (b + n) (g n) = _
    rw [ih]
    refine Prod.ext ?_ rfl
    funext a i c
    show (if a = F ∧ i = 0 ∧ c = b + n then g n else if a = F ∧ i = 0 ∧ b ≤ c ∧ c < b + n then g (c - b) else h.1 a i c) = if a = F ∧ i = 0 ∧ b ≤ c ∧ c < b + (n + 1) then g (c - b) else h.1 a i c
    by_cases e : a = F ∧ i = 0 ∧ c = b + n
    · rw [if_pos e, if_pos ⟨e.1, e.2.1, by omega, by omega⟩, show c - b = n by omega]
    · rw [if_neg e]
      by_cases e2 : a = F ∧ i = 0 ∧ b ≤ c ∧ c < b + n
      · rw [if_pos e2, if_pos ⟨e2.1, e2.2.1, e2.2.2.1, by omega⟩]
      · rw [if_neg e2, if_neg (by omega)]
def zg_addE (A : zd_A) (n : Nat) (f : Nat → Nat) : zd_A := (fun a b c => if a = 4 ∧ b = zd_T A ∧ c < n then f c else if a = 5 ∧ b = zd_T A ∧ c < n then 0 else if a = 3 ∧ b = zd_T A ∧ c = 0 then n else (zd_addT A 3 0).1 a b c, A.2)
theorem zg_addE_0 (A : zd_A) (f : Nat → Nat) : zg_addE A 0 f = zd_addT A 3 0 := by
  refine Prod.ext ?_ rfl
  funext a b c
  show (if a = 4 ∧ b = zd_T A ∧ c < 0 then f c else if a = 5 ∧ b = zd_T A ∧ c < 0 then 0 else if a = 3 ∧ b = zd_T A ∧ c = 0 then 0 else (zd_addT A 3 0).1 a b c) = (zd_addT A 3 0).1 a b c
  rw [if_neg (by omega), if_neg (by omega)]
  by_cases e : a = 3 ∧ b = zd_T A ∧ c = 0
  · rw [if_pos e]
    obtain ⟨rfl, rfl, rfl⟩ := e
    exact ((zd_addT_sz A 3 0 (zd_T A)).trans (if_pos rfl)).symm
  · rw [if_neg e]
theorem zg_addE_T (A : zd_A) (n : Nat) (f : Nat → Nat) : zd_T (zg_addE A n f) = zd_T A + 1 := rfl
theorem zg_addE_srt (A : zd_A) (n : Nat) (f : Nat → Nat) (u : Nat) : zd_srt (zg_addE A n f) u = if u = zd_T A then 3 else zd_srt A u := zd_addT_srt A 3 0 u
theorem zg_addE_sz (A : zd_A) (n : Nat) (f : Nat → Nat) (u : Nat) : zd_sz (zg_addE A n f) u = if u = zd_T A then n else zd_sz A u := by
  show (if (3 : Nat) = 4 ∧ u = zd_T A ∧ 0 < n then f 0 else if (3 : Nat) = 5 ∧ u = zd_T A ∧ 0 < n then 0 else if (3 : Nat) = 3 ∧ u = zd_T A ∧ 0 = 0 then n else zd_sz (zd_addT A 3 0) u) = _
  rw [if_neg (by omega), if_neg (by omega), zd_addT_sz]
  by_cases e : u = zd_T A
  · rw [if_pos ⟨rfl, e, rfl⟩, if_pos e]
  · rw [if_neg (fun z => e z.2.1), if_neg e, if_neg e]
theorem zg_addE_nm (A : zd_A) (n : Nat) (f : Nat → Nat) (u k : Nat) : zd_nm (zg_addE A n f) u k = if u = zd_T A ∧ k < n then f k else zd_nm A u k := by
  show (if (4 : Nat) = 4 ∧ u = zd_T A ∧ k < n then f k else if (4 : Nat) = 5 ∧ u = zd_T A ∧ k < n then 0 else if (4 : Nat) = 3 ∧ u = zd_T A ∧ k = 0 then n else zd_nm (zd_addT A 3 0) u k) = _
  by_cases e : u = zd_T A ∧ k < n
  · rw [if_pos ⟨rfl, e⟩, if_pos e]
  · rw [if_neg (fun z => e z.2), if_neg (by omega), if_neg (by omega), if_neg e]
    rfl
theorem zg_addE_pt (A : zd_A) (n : Nat) (f : Nat → Nat) (u k : Nat) : zd_pt (zg_addE A n f) u k = if u = zd_T A ∧ k < n then 0 else zd_pt A u k := by
  show (if (5 : Nat) = 4 ∧ u = zd_T A ∧ k < n then f k else if (5 : Nat) = 5 ∧ u = zd_T A ∧ k < n then 0 else if (5 : Nat) = 3 ∧ u = zd_T A ∧ k = 0 then n else zd_pt (zd_addT A 3 0) u k) = _
  rw [if_neg (by omega)]
  by_cases e : u = zd_T A ∧ k < n
  · rw [if_pos ⟨rfl, e⟩, if_pos e]
  · rw [if_neg (fun z => e z.2), if_neg (by omega), if_neg e]
    rfl
theorem zg_addE_of (A : zd_A) (n : Nat) (f : Nat → Nat) (u : Nat) : zd_of (zg_addE A n f) u = if u = zd_T A then 0 else zd_of A u := by
  refine Eq.trans ?_ (zd_addT_of A 3 0 u)
  show (if (6 : Nat) = 4 ∧ u = zd_T A ∧ 0 < n then f 0 else if (6 : Nat) = 5 ∧ u = zd_T A ∧ 0 < n then 0 else if (6 : Nat) = 3 ∧ u = zd_T A ∧ 0 = 0 then n else zd_of (zd_addT A 3 0) u) = _
  rw [if_neg (by omega), if_neg (by omega), if_neg (by omega)]
theorem zg_addE_1 (A : zd_A) (n : Nat) (f : Nat → Nat) : zg_addM (zg_addE A n f) (zd_T A) (f n) 0 = zg_addE A (n + 1) f := by
  have ez : zd_sz (zg_addE A n f) (zd_T A) = n := by rw [zg_addE_sz, if_pos rfl]
  unfold zg_addM
  rw [ez]
  refine Prod.ext ?_ rfl
  funext a b c
  show (if a = 5 ∧ b = zd_T A ∧ c = n then 0 else if a = 4 ∧ b = zd_T A ∧ c = n then f n else if a = 3 ∧ b = zd_T A ∧ c = 0 then n + 1 else if a = 4 ∧ b = zd_T A ∧ c < n then f c else if a = 5 ∧ b = zd_T A ∧ c < n then 0 else if a = 3 ∧ b = zd_T A ∧ c = 0 then n else (zd_addT A 3 0).1 a b c) = (if a = 4 ∧ b = zd_T A ∧ c < n + 1 then f c else if a = 5 ∧ b = zd_T A ∧ c < n + 1 then 0 else if a = 3 ∧ b = zd_T A ∧ c = 0 then n + 1 else (zd_addT A 3 0).1 a b c)
  by_cases hb : b = zd_T A
  · by_cases h4 : a = 4
    · by_cases hc : c = n
      · subst hc
        rw [if_neg (by omega), if_pos (by omega), if_pos (by omega)]
      · by_cases hd : c < n
        · rw [if_neg (by omega), if_neg (by omega), if_neg (by omega), if_pos (by omega), if_pos (by omega)]
        · rw [if_neg (by omega), if_neg (by omega), if_neg (by omega), if_neg (by omega), if_neg (by omega), if_neg (by omega), if_neg (by omega), if_neg (by omega), if_neg (by omega)]
    · by_cases h5 : a = 5
      · by_cases hc : c < n + 1
        · rw [if_neg (show ¬ (a = 4 ∧ b = zd_T A ∧ c < n + 1) by omega), if_pos (show a = 5 ∧ b = zd_T A ∧ c < n + 1 by omega)]
          by_cases hd : c = n
          · rw [if_pos (by omega)]
          · rw [if_neg (by omega), if_neg (by omega), if_neg (by omega), if_neg (by omega), if_pos (by omega)]
        · rw [if_neg (by omega), if_neg (by omega), if_neg (by omega), if_neg (by omega), if_neg (by omega), if_neg (by omega), if_neg (by omega), if_neg (by omega), if_neg (by omega)]
      · by_cases h3 : a = 3 ∧ b = zd_T A ∧ c = 0
        · rw [if_neg (by omega), if_neg (by omega), if_pos h3, if_neg (by omega), if_neg (by omega), if_pos h3]
        · rw [if_neg (by omega), if_neg (by omega), if_neg h3, if_neg (by omega), if_neg (by omega), if_neg h3, if_neg (by omega), if_neg (by omega), if_neg h3]
  · rw [if_neg (by omega), if_neg (by omega), if_neg (by omega), if_neg (by omega), if_neg (by omega), if_neg (by omega), if_neg (by omega), if_neg (by omega), if_neg (by omega)]

theorem zg_R_addE {A : zd_A} {h : zx_H} (H : zd_R A h) (K : zd_ok A) {n : Nat} {f : Nat → Nat} (hT1 : zd_T A < 40) (hn : n ≤ 8) : zd_R (zg_addE A n f) (zg_wr (zx_sI (zx_sI (zx_sI (zx_sI h 25 0 (zd_T A) (nI 3)) 26 0 (zd_T A) (nI 0)) 24 0 2 (nI (zd_T A + 1))) 26 0 (zd_T A) (nI n)) 27 (8 * zd_T A) n (fun k => nI (f k))) := by
  have hT := zd_ok_T K
  intro q
  match q with
  | 0 => exact H 0
  | 1 =>
    show (zg_wr (zx_sI (zx_sI (zx_sI (zx_sI h 25 0 (zd_T A) (nI 3)) 26 0 (zd_T A) (nI 0)) 24 0 2 (nI (zd_T A + 1))) 26 0 (zd_T A) (nI n)) 27 (8 * zd_T A) n (fun k => nI (f k))).1 24 0 2 = nI (zd_T (zg_addE A n f))
    rfl
  | 2 =>
    show ∀ u, u < (zd_T (zg_addE A n f)) → (zg_wr (zx_sI (zx_sI (zx_sI (zx_sI h 25 0 (zd_T A) (nI 3)) 26 0 (zd_T A) (nI 0)) 24 0 2 (nI (zd_T A + 1))) 26 0 (zd_T A) (nI n)) 27 (8 * zd_T A) n (fun k => nI (f k))).1 25 0 u = nI (zd_srt (zg_addE A n f) u)
    intro u g0
    simp only [zg_addE_T, zg_addE_srt, zg_addE_sz, zg_addE_nm, zg_addE_pt, zg_addE_of, zd_gI, zd_gI2, zg_gW, zg_gW2, reduceIte, false_and, and_false, true_and, and_true, if_true, if_false, Nat.reduceEqDiff, reduceCtorEq, and_self, eq_self] at g0 ⊢
    by_cases e : u = zd_T A
    · subst e
      simp only [if_true] at g0 ⊢
      skip
    · simp only [e, if_false, false_and] at g0 ⊢
      have := zd_ok_sz K u (by omega)
      exact zd_R_srt H u (by omega)
  | 3 =>
    show ∀ u, u < (zd_T (zg_addE A n f)) → (zg_wr (zx_sI (zx_sI (zx_sI (zx_sI h 25 0 (zd_T A) (nI 3)) 26 0 (zd_T A) (nI 0)) 24 0 2 (nI (zd_T A + 1))) 26 0 (zd_T A) (nI n)) 27 (8 * zd_T A) n (fun k => nI (f k))).1 26 0 u = nI (zd_sz (zg_addE A n f) u)
    intro u g0
    simp only [zg_addE_T, zg_addE_srt, zg_addE_sz, zg_addE_nm, zg_addE_pt, zg_addE_of, zd_gI, zd_gI2, zg_gW, zg_gW2, reduceIte, false_and, and_false, true_and, and_true, if_true, if_false, Nat.reduceEqDiff, reduceCtorEq, and_self, eq_self] at g0 ⊢
    by_cases e : u = zd_T A
    · subst e
      simp only [if_true] at g0 ⊢
      skip
    · simp only [e, if_false, false_and] at g0 ⊢
      have := zd_ok_sz K u (by omega)
      exact zd_R_sz H u (by omega)
  | 4 =>
    show ∀ u k, u < (zd_T (zg_addE A n f)) → k < zd_sz (zg_addE A n f) u → (zg_wr (zx_sI (zx_sI (zx_sI (zx_sI h 25 0 (zd_T A) (nI 3)) 26 0 (zd_T A) (nI 0)) 24 0 2 (nI (zd_T A + 1))) 26 0 (zd_T A) (nI n)) 27 (8 * zd_T A) n (fun k => nI (f k))).1 27 0 (8 * u + k) = nI (zd_nm (zg_addE A n f) u k)
    intro u k g0 g1
    simp only [zg_addE_T, zg_addE_srt, zg_addE_sz, zg_addE_nm, zg_addE_pt, zg_addE_of, zd_gI, zd_gI2, zg_gW, zg_gW2, reduceIte, false_and, and_false, true_and, and_true, if_true, if_false, Nat.reduceEqDiff, reduceCtorEq, and_self, eq_self] at g0 g1 ⊢
    by_cases e : u = zd_T A
    · subst e
      simp only [if_true] at g0 g1 ⊢
      rw [if_pos (by omega), if_pos ⟨trivial, g1⟩, show 8 * zd_T A + k - 8 * zd_T A = k by omega]
    · simp only [e, if_false, false_and] at g0 g1 ⊢
      have := zd_ok_sz K u (by omega)
      rw [if_neg (by omega)]
      exact zd_R_nm H u k (by omega) g1
  | 5 =>
    show ∀ u k, u < (zd_T (zg_addE A n f)) → k < zd_sz (zg_addE A n f) u → zd_srt (zg_addE A n f) u = 4 → (zg_wr (zx_sI (zx_sI (zx_sI (zx_sI h 25 0 (zd_T A) (nI 3)) 26 0 (zd_T A) (nI 0)) 24 0 2 (nI (zd_T A + 1))) 26 0 (zd_T A) (nI n)) 27 (8 * zd_T A) n (fun k => nI (f k))).1 28 0 (8 * u + k) = nI (zd_pt (zg_addE A n f) u k)
    intro u k g0 g1 g2
    simp only [zg_addE_T, zg_addE_srt, zg_addE_sz, zg_addE_nm, zg_addE_pt, zg_addE_of, zd_gI, zd_gI2, zg_gW, zg_gW2, reduceIte, false_and, and_false, true_and, and_true, if_true, if_false, Nat.reduceEqDiff, reduceCtorEq, and_self, eq_self] at g0 g1 g2 ⊢
    by_cases e : u = zd_T A
    · subst e
      simp only [if_true] at g0 g1 g2 ⊢
      exact absurd g2 (by omega)
    · simp only [e, if_false, false_and] at g0 g1 g2 ⊢
      have := zd_ok_sz K u (by omega)
      exact zd_R_pt H u k (by omega) g1 g2
  | 6 =>
    show ∀ u, u < (zd_T (zg_addE A n f)) → zd_srt (zg_addE A n f) u = 5 → (zg_wr (zx_sI (zx_sI (zx_sI (zx_sI h 25 0 (zd_T A) (nI 3)) 26 0 (zd_T A) (nI 0)) 24 0 2 (nI (zd_T A + 1))) 26 0 (zd_T A) (nI n)) 27 (8 * zd_T A) n (fun k => nI (f k))).1 29 0 u = nI (zd_of (zg_addE A n f) u)
    intro u g0 g1
    simp only [zg_addE_T, zg_addE_srt, zg_addE_sz, zg_addE_nm, zg_addE_pt, zg_addE_of, zd_gI, zd_gI2, zg_gW, zg_gW2, reduceIte, false_and, and_false, true_and, and_true, if_true, if_false, Nat.reduceEqDiff, reduceCtorEq, and_self, eq_self] at g0 g1 ⊢
    by_cases e : u = zd_T A
    · subst e
      simp only [if_true] at g0 g1 ⊢
      exact absurd g1 (by omega)
    · simp only [e, if_false, false_and] at g0 g1 ⊢
      have := zd_ok_sz K u (by omega)
      exact zd_R_of H u (by omega) g1
  | 7 => exact H 7
  | 8 => exact H 8
  | 9 => exact H 9
  | 10 => exact H 10
  | 11 => exact H 11
  | 12 => exact H 12
  | 13 => exact H 13
  | 14 => exact H 14
  | 15 => exact H 15
  | 16 => exact H 16
  | 17 => exact H 17
  | 18 => exact H 18
  | 19 => exact H 19
  | 20 => exact H 20
  | 21 => exact H 21
  | 22 => exact H 22
  | 23 => exact H 23
  | 24 => exact H 24
  | 25 => exact H 25
  | 26 => exact H 26
  | _ + 27 => exact trivial