/-! numbers, loops and cells, for the equality (by hand) -/
theorem zd_l1 {τ : Type} (bot : τ) (body : τ → τ) (n : Nat) : zx_loop bot body (n + 1) = body (zx_loop bot body n) := rfl
theorem zd_fuel : zx_fuel = 9999 + 1 := rfl
theorem zd_bnd {α β : Type} (x : α) (k : α → β) : zx_bnd x k = k x := rfl
theorem zd_in {n N : Nat} (h : n < 2 ^ 31) : zx_in (nI n) N = decide (n < N) := by
  unfold zx_in
  rw [nI_clamp h, decide_eq_false (nI_pos h)]
  rfl
theorem zd_in1 {n N : Nat} (h : n < N) (hN : N < 2 ^ 31) : zx_in (nI n) N = true := by
  rw [zd_in (Nat.lt_trans h hN)]
  exact decide_eq_true h
theorem zd_inF {x : Int32} {N : Nat} (h : x < 0) : zx_in x N = false := by
  unfold zx_in
  rw [decide_eq_true h]
  rfl
theorem zd_nat {x : Int32} (h : ¬ x < 0) : x = nI x.toNatClampNeg ∧ x.toNatClampNeg < 2 ^ 31 := by
  obtain ⟨j, hj, e⟩ := nI_of h
  rw [e, nI_clamp hj]
  exact ⟨rfl, hj⟩
/-! the first that is so -/
def zd_first (c : Nat → Bool) : Nat → Option Nat
  | 0 => none
  | n + 1 => match zd_first c n with
    | some p => some p
    | none => if c n = true then some n else none
theorem zd_first_none {c : Nat → Bool} : ∀ {n : Nat}, zd_first c n = none ↔ ∀ q, q < n → c q = false := by
  intro n
  induction n with
  | zero => exact ⟨fun _ q h => absurd h (Nat.not_lt_zero q), fun _ => rfl⟩
  | succ n ih =>
    unfold zd_first
    cases h : zd_first c n with
    | some p =>
      refine ⟨fun e => (by cases e), fun e => ?_⟩
      have := ih.mpr (fun q hq => e q (Nat.lt_succ_of_lt hq))
      rw [h] at this
      cases this
    | none =>
      have h0 := ih.mp h
      show (if c n = true then some n else none) = none ↔ _
      by_cases hc : c n = true
      · rw [if_pos hc]
        refine ⟨fun e => (by cases e), fun e => ?_⟩
        rw [e n (Nat.lt_succ_self n)] at hc
        cases hc
      · rw [if_neg hc]
        refine ⟨fun _ q hq => ?_, fun _ => rfl⟩
        rcases Nat.lt_succ_iff_lt_or_eq.mp hq with h1 | h1
        · exact h0 q h1
        · rw [h1]
          cases h2 : c n
          · rfl
          · exact absurd h2 hc
theorem zd_first_some {c : Nat → Bool} : ∀ {n p : Nat}, zd_first c n = some p ↔ p < n ∧ c p = true ∧ ∀ q, q < p → c q = false := by
  intro n
  induction n with
  | zero => exact fun {p} => ⟨fun e => (by cases e), fun e => absurd e.1 (Nat.not_lt_zero p)⟩
  | succ n ih =>
    intro p
    unfold zd_first
    cases h : zd_first c n with
    | some p' =>
      have h0 := ih.mp h
      refine ⟨fun e => ?_, fun e => ?_⟩
      · have e : p' = p := Option.some.inj e
        subst e
        exact ⟨Nat.lt_succ_of_lt h0.1, h0.2⟩
      · show some p' = some p
        have h1 : p = p' := by
          rcases Nat.lt_trichotomy p p' with h2 | h2 | h2
          · have := h0.2.2 p h2
            rw [e.2.1] at this
            cases this
          · exact h2
          · have := e.2.2 p' h2
            rw [h0.2.1] at this
            cases this
        rw [h1]
    | none =>
      have h0 := zd_first_none.mp h
      show (if c n = true then some n else none) = some p ↔ _
      by_cases hc : c n = true
      · rw [if_pos hc]
        refine ⟨fun e => ?_, fun e => ?_⟩
        · have e : n = p := Option.some.inj e
          subst e
          exact ⟨Nat.lt_succ_self n, hc, h0⟩
        · have h1 : n = p := by
            rcases Nat.lt_succ_iff_lt_or_eq.mp e.1 with h2 | h2
            · have := h0 p h2
              rw [e.2.1] at this
              cases this
            · exact h2.symm
          rw [h1]
      · rw [if_neg hc]
        refine ⟨fun e => (by cases e), fun e => ?_⟩
        rcases Nat.lt_succ_iff_lt_or_eq.mp e.1 with h2 | h2
        · have := h0 p h2
          rw [e.2.1] at this
          cases this
        · rw [h2] at e
          exact absurd e.2.1 hc
theorem zd_first_cong {c d : Nat → Bool} {n : Nat} (h : ∀ q, q < n → c q = d q) : zd_first c n = zd_first d n := by
  cases e : zd_first d n with
  | none =>
    have h0 := zd_first_none.mp e
    exact zd_first_none.mpr fun q hq => (h q hq).trans (h0 q hq)
  | some p =>
    obtain ⟨h1, h2, h3⟩ := zd_first_some.mp e
    exact zd_first_some.mpr ⟨h1, (h p h1).trans h2, fun q hq => (h q (Nat.lt_trans hq h1)).trans (h3 q hq)⟩
/-- the last that is so -/
def zd_last (c : Nat → Bool) : Nat → Option Nat
  | 0 => none
  | n + 1 => if c n = true then some n else zd_last c n
theorem zd_last_none {c : Nat → Bool} : ∀ {n : Nat}, zd_last c n = none ↔ ∀ q, q < n → c q = false := by
  intro n
  induction n with
  | zero => exact ⟨fun _ q h => absurd h (Nat.not_lt_zero q), fun _ => rfl⟩
  | succ n ih =>
    unfold zd_last
    by_cases hc : c n = true
    · rw [if_pos hc]
      refine ⟨fun e => (by cases e), fun e => ?_⟩
      rw [e n (Nat.lt_succ_self n)] at hc
      cases hc
    · rw [if_neg hc, ih]
      refine ⟨fun e q hq => ?_, fun e q hq => e q (Nat.lt_succ_of_lt hq)⟩
      rcases Nat.lt_succ_iff_lt_or_eq.mp hq with h1 | h1
      · exact e q h1
      · rw [h1]
        cases h2 : c n
        · rfl
        · exact absurd h2 hc
theorem zd_last_some {c : Nat → Bool} : ∀ {n p : Nat}, zd_last c n = some p → p < n ∧ c p = true ∧ ∀ q, p < q → q < n → c q = false := by
  intro n
  induction n with
  | zero => exact fun {p} e => by cases e
  | succ n ih =>
    intro p e
    unfold zd_last at e
    by_cases hc : c n = true
    · rw [if_pos hc] at e
      have e : n = p := Option.some.inj e
      subst e
      exact ⟨Nat.lt_succ_self n, hc, fun q h1 h2 => absurd h1 (by omega)⟩
    · rw [if_neg hc] at e
      obtain ⟨h1, h2, h3⟩ := ih e
      refine ⟨Nat.lt_succ_of_lt h1, h2, fun q hq hq2 => ?_⟩
      rcases Nat.lt_succ_iff_lt_or_eq.mp hq2 with h4 | h4
      · exact h3 q hq h4
      · rw [h4]
        cases h5 : c n
        · rfl
        · exact absurd h5 hc
/-- only one can be so: the last is the first -/
theorem zd_last_first {c : Nat → Bool} {n : Nat} (h : ∀ p q, p < n → q < n → c p = true → c q = true → p = q) : zd_last c n = zd_first c n := by
  cases e : zd_last c n with
  | none => exact (zd_first_none.mpr (zd_last_none.mp e)).symm
  | some p =>
    obtain ⟨h1, h2, h3⟩ := zd_last_some e
    refine (zd_first_some.mpr ⟨h1, h2, fun q hq => ?_⟩).symm
    cases h4 : c q
    · rfl
    · have := h p q h1 (by omega) h2 h4
      omega
/-- a place as the program tells it -/
def zd_e : Option Nat → Int32
  | some p => nI p
  | none => -1
theorem zd_e0 (x : Option Nat) (h : ∀ p, x = some p → p < 2 ^ 31) : zd_e x < 0 ↔ x = none := by
  cases x with
  | none => exact ⟨fun _ => rfl, fun _ => (by decide : (-1 : Int32) < 0)⟩
  | some p => exact ⟨fun e => absurd e (nI_pos (h p rfl)), fun e => (by cases e)⟩
theorem zd_e1 (x : Option Nat) (h : ∀ p, x = some p → p < 2 ^ 31) : zd_e x = -1 ↔ x = none := by
  cases x with
  | none => exact ⟨fun _ => rfl, fun _ => rfl⟩
  | some p =>
    refine ⟨fun e => ?_, fun e => (by cases e)⟩
    have e : nI p = -1 := e
    exact absurd (by rw [e]; decide : nI p < 0) (nI_pos (h p rfl))
/-! loops that look for the first, and loops that gather -/
theorem zd_search {β : Type} (L : Nat → Nat → β) (c : Nat → Bool) (r : Nat → β) (d : β) (n : Nat) (h1 : ∀ F p, p < n → c p = true → L (F + 1) p = r p) (h2 : ∀ F p, p < n → c p = false → L (F + 1) p = L F (p + 1)) (h3 : ∀ F, L (F + 1) n = d) : ∀ F, n < F → L F 0 = (match zd_first c n with | some p => r p | none => d) := by
  have key : ∀ k p F, p + k = n → k < F → (∀ q, q < p → c q = false) → L F p = (match zd_first c n with | some p => r p | none => d) := by
    intro k
    induction k with
    | zero =>
      intro p F hp hF hq
      cases F with
      | zero => exact absurd hF (Nat.not_lt_zero 0)
      | succ F =>
        have hp : p = n := hp
        subst hp
        rw [h3, zd_first_none.mpr hq]
    | succ k ih =>
      intro p F hp hF hq
      cases F with
      | zero => exact absurd hF (Nat.not_lt_zero _)
      | succ F =>
        cases hc : c p with
        | true => rw [h1 F p (by omega) hc, zd_first_some.mpr ⟨by omega, hc, hq⟩]
        | false =>
          rw [h2 F p (by omega) hc]
          refine ih (p + 1) F (by omega) (by omega) (fun q hq2 => ?_)
          rcases Nat.lt_succ_iff_lt_or_eq.mp hq2 with h4 | h4
          · exact hq q h4
          · rw [h4]; exact hc
  exact fun F hF => key n 0 F (Nat.zero_add n) hF (fun q hq => absurd hq (Nat.not_lt_zero q))
def zd_fold {σ : Type} (g : Nat → σ → σ) (a : σ) : Nat → σ
  | 0 => a
  | n + 1 => g n (zd_fold g a n)
theorem zd_gather {β σ : Type} (L : Nat → Nat → σ → β) (g : Nat → σ → σ) (d : σ → β) (n : Nat) (I : Nat → σ → Prop) (h1 : ∀ F p s, p < n → I p s → L (F + 1) p s = L F (p + 1) (g p s) ∧ I (p + 1) (g p s)) (h2 : ∀ F s, I n s → L (F + 1) n s = d s) (a : σ) (ha : I 0 a) : ∀ F, n < F → L F 0 a = d (zd_fold g a n) ∧ I n (zd_fold g a n) := by
  have key : ∀ k p F, p + k = n → k < F → I p (zd_fold g a p) → L F p (zd_fold g a p) = d (zd_fold g a n) ∧ I n (zd_fold g a n) := by
    intro k
    induction k with
    | zero =>
      intro p F hp hF hI
      cases F with
      | zero => exact absurd hF (Nat.not_lt_zero 0)
      | succ F =>
        have hp : p = n := hp
        subst hp
        exact ⟨h2 F _ hI, hI⟩
    | succ k ih =>
      intro p F hp hF hI
      cases F with
      | zero => exact absurd hF (Nat.not_lt_zero _)
      | succ F =>
        obtain ⟨e1, e2⟩ := h1 F p _ (by omega) hI
        rw [e1]
        exact ih (p + 1) F (by omega) (by omega) e2
  exact fun F hF => key n 0 F (Nat.zero_add n) hF ha
theorem zd_fold_last {σ : Type} (c : Nat → Bool) (r : Nat → σ) (a : σ) : ∀ n, zd_fold (fun k f => if c k = true then r k else f) a n = (match zd_last c n with | some p => r p | none => a) := by
  intro n
  induction n with
  | zero => rfl
  | succ n ih =>
    show (if c n = true then r n else zd_fold _ a n) = _
    unfold zd_last
    by_cases hc : c n = true
    · rw [if_pos hc, if_pos hc]
    · rw [if_neg hc, if_neg hc, ih]
/-! cells -/
theorem zd_gI (h : zx_H) (F i j : Nat) (x : Int32) (a b c : Nat) : (zx_sI h F i j x).1 a b c = if a = F ∧ b = i ∧ c = j then x else h.1 a b c := rfl
theorem zd_gI2 (h : zx_H) (F i j : Nat) (x : Int32) : (zx_sI h F i j x).2 = h.2 := rfl
theorem zd_gJ (h : zx_H) (F i j : Nat) (x : Int64) (a b c : Nat) : (zx_sJ h F i j x).2 a b c = if a = F ∧ b = i ∧ c = j then x else h.2 a b c := rfl
theorem zd_gJ1 (h : zx_H) (F i j : Nat) (x : Int64) : (zx_sJ h F i j x).1 = h.1 := rfl
/-- the families of the reference -/
def zd_fr (F : Nat) : Prop := (decide (24 ≤ F) && decide (F ≤ 51)) = true
/-- the reference's cells are the same -/
def zd_sR (h k : zx_H) : Prop := ∀ F, zd_fr F → k.1 F = h.1 F ∧ k.2 F = h.2 F
/-- the others are -/
def zd_sC (h k : zx_H) : Prop := ∀ F, ¬ zd_fr F → k.1 F = h.1 F ∧ k.2 F = h.2 F
theorem zd_sR_refl (h : zx_H) : zd_sR h h := fun _ _ => ⟨rfl, rfl⟩
theorem zd_sC_refl (h : zx_H) : zd_sC h h := fun _ _ => ⟨rfl, rfl⟩
theorem zd_sR_trans {h k l : zx_H} (a : zd_sR h k) (b : zd_sR k l) : zd_sR h l := fun F hF => ⟨(b F hF).1.trans (a F hF).1, (b F hF).2.trans (a F hF).2⟩
theorem zd_sC_trans {h k l : zx_H} (a : zd_sC h k) (b : zd_sC k l) : zd_sC h l := fun F hF => ⟨(b F hF).1.trans (a F hF).1, (b F hF).2.trans (a F hF).2⟩
theorem zd_sR_I {h k : zx_H} (a : zd_sR h k) {F : Nat} (hF : ¬ zd_fr F) (i j : Nat) (x : Int32) : zd_sR h (zx_sI k F i j x) := by
  intro G hG
  have hne : G ≠ F := fun e => hF (e ▸ hG)
  refine ⟨?_, (a G hG).2⟩
  rw [← (a G hG).1]
  funext b c
  exact if_neg fun e => hne e.1
theorem zd_sR_J {h k : zx_H} (a : zd_sR h k) {F : Nat} (hF : ¬ zd_fr F) (i j : Nat) (x : Int64) : zd_sR h (zx_sJ k F i j x) := by
  intro G hG
  have hne : G ≠ F := fun e => hF (e ▸ hG)
  refine ⟨(a G hG).1, ?_⟩
  rw [← (a G hG).2]
  funext b c
  exact if_neg fun e => hne e.1
theorem zd_sC_I {h k : zx_H} (a : zd_sC h k) {F : Nat} (hF : zd_fr F) (i j : Nat) (x : Int32) : zd_sC h (zx_sI k F i j x) := by
  intro G hG
  have hne : G ≠ F := fun e => hG (e ▸ hF)
  refine ⟨?_, (a G hG).2⟩
  rw [← (a G hG).1]
  funext b c
  exact if_neg fun e => hne e.1
theorem zd_sC_J {h k : zx_H} (a : zd_sC h k) {F : Nat} (hF : zd_fr F) (i j : Nat) (x : Int64) : zd_sC h (zx_sJ k F i j x) := by
  intro G hG
  have hne : G ≠ F := fun e => hG (e ▸ hF)
  refine ⟨(a G hG).1, ?_⟩
  rw [← (a G hG).2]
  funext b c
  exact if_neg fun e => hne e.1
