/-! what a step gives, with the pile -/
abbrev zm_Ob : Type := Option (Nat × Nat × (Nat → Int64))
abbrev zm_Z : Type := Option (Int64 × zm_Ob × zm_G)
def zm_obC (n : Nat) (ob : zm_Ob) (s : zx_H) : Prop := match ob with
  | none => s.1 7 0 4 = nI n
  | some (t, c, f) => n < 400 ∧ s.1 7 0 4 = nI (n + 1) ∧ s.1 8 0 n = nI t ∧ s.1 9 0 n = nI c ∧ ∀ i, i < c → s.2 10 0 (24 * n + i) = f i
def zm_obR (n : Nat) (ob : zm_Ob) (k : zx_H) : Prop := match ob with
  | none => k.1 24 0 23 = nI n
  | some (t, c, f) => n < 400 ∧ k.1 24 0 23 = nI (n + 1) ∧ k.1 40 0 n = nI t ∧ k.1 41 0 n = nI c ∧ (t ≠ 14 → ∀ i, i < c → k.2 42 0 (16 * n + i) = f i) ∧ (t = 14 → ∀ i, i < c → (k.1 43 0 (24 * n + i)).toInt64 = f i)
def zm_CZ (n : Nat) (s : zx_H) (z : zm_Z) (r : Option (Int64 × zx_H)) : Prop := match z with
  | none => ∃ v s1, r = some (v, s1) ∧ zd_fC n s s1 ∧ s1.1 23 0 2 = nI 1
  | some (v, ob, G) => ∃ s1, r = some (v, s1) ∧ zd_fC n s s1 ∧ zm_CP G s1 ∧ zm_obC n ob s1
def zm_RZ (A : zd_A) (h0 : zx_H) (n : Nat) (k : zx_H) (z : zm_Z) (r : Option (Int64 × zx_H)) : Prop := match z with
  | none => ∃ v k1, r = some (v, k1) ∧ zd_fR (zd_O A) h0 k1 ∧ k1.1 24 0 37 = nI 1
  | some (v, ob, G) => ∃ k1, r = some (v, k1) ∧ zd_fR n k k1 ∧ zm_RP G k1 ∧ zm_obR n ob k1
theorem zm_CP_gC {n : Nat} {s s1 : zx_H} {G : zm_G} (g : zd_gC n s s1) (P : zm_CP G s) : zm_CP G s1 := by
  have e := fun F (h : F = 17 ∨ F = 18 ∨ F = 19 ∨ F = 20 ∨ F = 21 ∨ F = 22 ∨ F = 23) => g.1 F (by omega) (by omega) (by omega)
  unfold zm_CP at P ⊢
  rw [e 17 (by decide), e 18 (by decide), e 19 (by decide), e 20 (by decide), e 21 (by decide), e 22 (by decide), e 23 (by decide)]
  exact P
theorem zm_RP_gR {n : Nat} {k k1 : zx_H} {G : zm_G} (g : zd_gR n k k1) (P : zm_RP G k) : zm_RP G k1 := by
  have e := fun F (h : 44 ≤ F ∧ F ≤ 50) => g.1 F (by omega) (by omega) (by omega) (by omega) (by omega)
  have j := fun j (h : j = 28 ∨ j = 32 ∨ j = 37 ∨ j = 0) => g.2.2.1 j (by omega) (by omega)
  unfold zm_RP at P ⊢
  rw [e 44 (by decide), e 45 (by decide), e 46 (by decide), e 47 (by decide), e 48 (by decide), e 49 (by decide), e 50 (by decide), j 28 (by decide), j 32 (by decide), j 37 (by decide), j 0 (by decide)]
  exact P
def zm_toZ (G : zm_G) (x : zm_X) : zm_Z := match x with
  | none => none
  | some (v, ob) => some (v, ob, G)
theorem zm_CX_Z {A : zd_A} {h0 s : zx_H} {n : Nat} (X : zm_C A h0 s n) {G : zm_G} (P : zm_CP G s) {x : zm_X} {r : Option (Int64 × zx_H)} (e : zm_CX A h0 n s x r) (st : x = none → ∃ v s1, r = some (v, s1) ∧ zd_fC n s s1 ∧ s1.1 23 0 2 = nI 1) : zm_CZ n s (zm_toZ G x) r := by
  cases x with
  | none => exact st rfl
  | some y =>
    obtain ⟨v, ob⟩ := y
    cases ob with
    | none => exact ⟨s, e, zd_fC_refl n s, P, X.2.1⟩
    | some q =>
      obtain ⟨t, c, f⟩ := q
      obtain ⟨e1, e2, s1, e3, e4⟩ := e
      exact ⟨s1, e3, zd_gC_f e4.1, zm_CP_gC e4.1 P, e2, e4.2⟩
theorem zm_strong {A B : zd_A} {h0 s : zx_H} {n : Nat} (hn : n = zd_O B) (f0 : s.1 23 0 2 = nI 0) {x y : zm_X} {r : Option (Int64 × zx_H)} (e : zm_CX A h0 n s x r) (e2 : zm_CX B s n s y r) (hx : x = none) : ∃ v s1, r = some (v, s1) ∧ zd_fC n s s1 ∧ s1.1 23 0 2 = nI 1 := by
  subst hx
  obtain ⟨v, s1, h1, h2, h3⟩ := e
  have bad : ∀ v2 s2, r = some (v2, s2) → s2.1 23 0 2 = nI 0 → False := by
    intro v2 s2 h4 h5
    rw [h1] at h4
    obtain ⟨_, rfl⟩ := Prod.mk.inj (Option.some.inj h4)
    rw [h3] at h5
    exact absurd h5 (by decide)
  cases y with
  | none => rw [hn]; exact e2
  | some w =>
    obtain ⟨v2, ob⟩ := w
    cases ob with
    | none => exact (bad _ _ e2 f0).elim
    | some q =>
      obtain ⟨t, c, f⟩ := q
      obtain ⟨_, _, s2, e3, e4⟩ := e2
      refine (bad _ _ e3 ?_).elim
      rw [e4.1.1 23 (by decide) (by decide) (by decide)]
      exact f0
theorem zm_RX_Z {A : zd_A} {h0 k : zx_H} {n : Nat} (X : zm_R A h0 k n) {G : zm_G} (P : zm_RP G k) {x : zm_X} {r : Option (Int64 × zx_H)} (e : zm_RX A h0 n k x r) : zm_RZ A h0 n k (zm_toZ G x) r := by
  cases x with
  | none => exact e
  | some y =>
    obtain ⟨v, ob⟩ := y
    cases ob with
    | none =>
      obtain ⟨k1, e1, e2, e3⟩ := e
      exact ⟨k1, e1, zd_gR_f e2, zm_RP_gR e2 P, e3⟩
    | some q =>
      obtain ⟨t, c, f⟩ := q
      obtain ⟨e1, e2, k1, e3, e4⟩ := e
      exact ⟨k1, e3, zd_gR_f e4.1, zm_RP_gR e4.1 P, e2, e4.2⟩
/-- a new object fits a type -/
def zm_fitO (A : zd_A) (b t c : Nat) (f : Nat → Int64) : Prop := t = b ∧ 7 ≤ b ∧ zd_srt A b ≠ 3 ∧ (zd_srt A b = 1 → c = 1 ∧ zn_ok (b - 7) (f 0)) ∧ (zd_srt A b = 2 → c ≤ 24 ∧ ∀ i, i < c → ∃ m, m < 65536 ∧ f i = lN m) ∧ (zd_srt A b = 4 → c = zd_sz A b ∧ ∀ i, i < c → f i = zg_emp (zd_pt A b i)) ∧ (zd_srt A b = 5 → c = 0)
def zm_new (B : zd_A) (ob : zm_Ob) : zd_A := match ob with
  | none => B
  | some (t, c, f) => zg_newO B t c f
/-- objects were added to A, those that there were are the same -/
def zm_ext (A B : zd_A) : Prop := zd_sA A B ∧ zd_O A ≤ zd_O B ∧ ∀ o, o < zd_O A → zd_ty B o = zd_ty A o ∧ zd_ln B o = zd_ln A o ∧ ∀ i, i < zd_ln A o → zd_vl B o i = zd_vl A o i
/-- an entry of the pile -/
def zm_ent (A : zd_A) (h0 : zx_H) (B : zd_A) (e : Nat × Nat × Nat × Nat) : Prop := e.2.1 < zd_O A ∧ zd_O A ≤ e.2.2.1 ∧ e.2.2.1 < zd_O B ∧
  ((e.1 < zd_M A ∧ zd_srt A (zd_mt A e.1) = 4 ∧ zd_ty A e.2.1 = zd_mf A e.1 ∧ zd_ty B e.2.2.1 = zd_mt A e.1 ∧ e.2.2.2 ≤ zd_sz A (zd_mt A e.1) ∧ ∀ q, e.2.2.2 ≤ q → q < zd_sz A (zd_mt A e.1) → zd_vl B e.2.2.1 q = zg_emp (zd_pt A (zd_mt A e.1) q)) ∨
  (e.1 = 16 ∧ zd_srt A (zd_ty A e.2.1) = 5 ∧ zd_srt A (zd_ty B e.2.2.1) = 5 ∧ zd_ln B e.2.2.1 ≤ e.2.2.2 ∧ e.2.2.2 ≤ zd_ln A e.2.1 ∧ 2 ≤ zp_hw A (zd_of A (zd_ty A e.2.1)) (zd_of A (zd_ty B e.2.2.1)) ∧ ∃ d, zd_of A (zd_ty A e.2.1) < d ∧ zp_ch A h0 d (zd_of A (zd_ty A e.2.1)) (zd_of A (zd_ty B e.2.2.1))))
def zm_inv (A : zd_A) (h0 : zx_H) (B : zd_A) (G : zm_G) : Prop := G.1.1 + zd_O A ≤ zd_O B ∧ G.2.1 + zd_O A ≤ zd_O B ∧
  (∀ j, j < G.2.1 → (G.2.2 j).1 < zd_M A ∧ (G.2.2 j).2.1 < zd_O A ∧ (G.2.2 j).2.2 < zd_O B ∧ zd_ty B (G.2.2 j).2.2 = zd_mt A (G.2.2 j).1) ∧
  (∀ i, i < G.1.1 → zm_ent A h0 B (G.1.2 i)) ∧ ∀ i j, i < j → j < G.1.1 → (G.1.2 i).2.2.1 ≠ (G.1.2 j).2.2.1
theorem zm_new_ty {B : zd_A} {ob : zm_Ob} {o : Nat} (ho : o < zd_O B) : zd_ty (zm_new B ob) o = zd_ty B o := by
  cases ob with
  | none => rfl
  | some q =>
    obtain ⟨t, c, f⟩ := q
    show zd_ty (zg_newO B t c f) o = _
    rw [zg_newO_ty, if_neg (by omega)]
theorem zm_new_ln {B : zd_A} {ob : zm_Ob} {o : Nat} (ho : o < zd_O B) : zd_ln (zm_new B ob) o = zd_ln B o := by
  cases ob with
  | none => rfl
  | some q =>
    obtain ⟨t, c, f⟩ := q
    show zd_ln (zg_newO B t c f) o = _
    rw [zg_newO_ln, if_neg (by omega)]
theorem zm_new_vl {B : zd_A} {ob : zm_Ob} {o i : Nat} (ho : o < zd_O B) : zd_vl (zm_new B ob) o i = zd_vl B o i := by
  cases ob with
  | none => rfl
  | some q =>
    obtain ⟨t, c, f⟩ := q
    show zd_vl (zg_newO B t c f) o i = _
    rw [zg_newO_vl, if_neg (by omega)]
theorem zm_new_O (B : zd_A) (ob : zm_Ob) : zd_O B ≤ zd_O (zm_new B ob) := by
  cases ob with
  | none => exact Nat.le_refl _
  | some q => exact Nat.le_succ _
theorem zm_ent_new {A : zd_A} {h0 : zx_H} {B : zd_A} {e : Nat × Nat × Nat × Nat} (h : zm_ent A h0 B e) (ob : zm_Ob) : zm_ent A h0 (zm_new B ob) e := by
  obtain ⟨h1, h2, h3, h4⟩ := h
  unfold zm_ent
  have hO := zm_new_O B ob
  rw [zm_new_ty h3, zm_new_ln h3]
  refine ⟨h1, h2, by omega, ?_⟩
  rcases h4 with ⟨a, b, c, d, x, y⟩ | h4
  · exact Or.inl ⟨a, b, c, d, x, fun q hq hq2 => by rw [zm_new_vl h3]; exact y q hq hq2⟩
  · exact Or.inr h4
theorem zm_inv_new {A : zd_A} {h0 : zx_H} {B : zd_A} {G : zm_G} (h : zm_inv A h0 B G) (ob : zm_Ob) : zm_inv A h0 (zm_new B ob) G := by
  obtain ⟨h1, h2, h3, h4, h5⟩ := h
  have hO := zm_new_O B ob
  refine ⟨by omega, by omega, fun j hj => ?_, fun i hi => zm_ent_new (h4 i hi) ob, h5⟩
  obtain ⟨a, b, c, d⟩ := h3 j hj
  exact ⟨a, b, by omega, by rw [zm_new_ty c]; exact d⟩
/-- a new object, and it waits -/
theorem zm_inv_push {A : zd_A} {h0 : zx_H} {B : zd_A} {G : zm_G} (h : zm_inv A h0 B G) {t c : Nat} {f : Nat → Int64} {m o : Nat} (e : zm_ent A h0 (zg_newO B t c f) (m, o, zd_O B, 0)) : zm_inv A h0 (zg_newO B t c f) (zm_push G m o (zd_O B)) := by
  obtain ⟨h1, h2, h3, h4, h5⟩ := zm_inv_new h (some (t, c, f))
  obtain ⟨g1, g2, g3, g4, g5⟩ := h
  have hO : zd_O (zg_newO B t c f) = zd_O B + 1 := rfl
  refine ⟨?_, h2, h3, fun i hi => ?_, fun i j hij hj => ?_⟩
  · show G.1.1 + 1 + zd_O A ≤ zd_O B + 1
    omega
  · have hi : i < G.1.1 + 1 := hi
    by_cases c1 : i = G.1.1
    · rw [show (zm_push G m o (zd_O B)).1.2 i = (m, o, zd_O B, 0) from if_pos c1]; exact e
    · rw [show (zm_push G m o (zd_O B)).1.2 i = G.1.2 i from if_neg c1]; exact h4 i (by omega)
  · have hj : j < G.1.1 + 1 := hj
    rw [show (zm_push G m o (zd_O B)).1.2 i = G.1.2 i from if_neg (by omega)]
    by_cases c1 : j = G.1.1
    · rw [show (zm_push G m o (zd_O B)).1.2 j = (m, o, zd_O B, 0) from if_pos c1]
      have := (g4 i (by omega)).2.2.1
      show (G.1.2 i).2.2.1 ≠ zd_O B
      omega
    · rw [show (zm_push G m o (zd_O B)).1.2 j = G.1.2 j from if_neg c1]
      exact g5 i j hij (by omega)
theorem zm_inv_know {A : zd_A} {h0 : zx_H} {B : zd_A} {G : zm_G} (h : zm_inv A h0 B G) {t c : Nat} {f : Nat → Int64} {m o : Nat} (hm : m < zd_M A) (ho : o < zd_O A) (ht : t = zd_mt A m) : zm_inv A h0 (zg_newO B t c f) (zm_know G m o (zd_O B)) := by
  obtain ⟨h1, h2, h3, h4, h5⟩ := zm_inv_new h (some (t, c, f))
  obtain ⟨g1, g2, g3, g4, g5⟩ := h
  refine ⟨h1, ?_, fun j hj => ?_, h4, h5⟩
  · show G.2.1 + 1 + zd_O A ≤ zd_O B + 1
    omega
  · have hj : j < G.2.1 + 1 := hj
    by_cases c1 : j = G.2.1
    · rw [show (zm_know G m o (zd_O B)).2.2 j = (m, o, zd_O B) from if_pos c1]
      refine ⟨hm, ho, Nat.lt_succ_self _, ?_⟩
      show zd_ty (zg_newO B t c f) (zd_O B) = _
      rw [zg_newO_ty, if_pos rfl]; exact ht
    · rw [show (zm_know G m o (zd_O B)).2.2 j = G.2.2 j from if_neg c1]
      exact h3 j (by omega)
