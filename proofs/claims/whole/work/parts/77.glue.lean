/-! from an op's two sides to the law's turn -/
theorem zd_C_out {A : zd_A} {h : zx_H} (H : zd_C A h) (v : Int64) : zd_C A (zx_sJ h 52 0 0 v) := fun q => match q with
  | 0 => H 0 | 1 => H 1 | 2 => H 2 | 3 => H 3 | 4 => H 4 | 5 => H 5 | 6 => H 6 | 7 => H 7 | 8 => H 8 | 9 => H 9 | 10 => H 10 | 11 => H 11 | 12 => H 12 | 13 => H 13 | 14 => H 14 | 15 => H 15 | 16 => H 16 | 17 => H 17 | 18 => H 18 | 19 => H 19 | 20 => H 20 | 21 => H 21 | 22 => H 22 | 23 => H 23 | 24 => H 24 | 25 => H 25
  | _ + 26 => trivial
theorem zd_R_thrown {A : zd_A} {h : zx_H} (H : zd_R A h) (v : Int32) : zd_R A (zx_sI h 24 0 0 v) := fun q => match q with
  | 0 => H 0 | 1 => H 1 | 2 => H 2 | 3 => H 3 | 4 => H 4 | 5 => H 5 | 6 => H 6 | 7 => H 7 | 8 => H 8 | 9 => H 9 | 10 => H 10 | 11 => H 11 | 12 => H 12 | 13 => H 13 | 14 => H 14 | 15 => H 15 | 16 => H 16 | 17 => H 17 | 18 => H 18 | 19 => H 19 | 20 => H 20 | 21 => H 21 | 22 => H 22 | 23 => H 23 | 24 => H 24 | 25 => H 25 | 26 => H 26
  | _ + 27 => trivial
/-- what holds between two calls, with Q for what a built loom keeps beside -/
def zd_S (Q : zd_A → zx_H → Prop) (h : zx_H) : Prop := ∃ A, zd_C A h ∧ zd_R A h ∧ zd_ok A ∧ Q A h
/-- what a call comes to in the law: an int -/
def zd_turn (Q : zd_A → zx_H → Prop) (X : Option (Int32 × zx_H)) (Y : zx_H → Option (Int32 × zx_H)) : Prop :=
  ∃ c h1 b h2, X = some (c, h1) ∧ Y h1 = some (b, h2) ∧ h2.1 24 0 0 = c ∧ (c = 0 → h2.2 52 0 0 = b.toInt64) ∧ zd_S Q h2
def zd_law1 : List (Nat × Int32) → Nat × Int32 × zx_H → Option (Int32 × zx_H)
  | [], _ => none
  | (a, b) :: l, r => if r.1 = a then some (b, r.2.2) else zd_law1 l r
/-- how the law takes an exception's code -/
def zd_law (l : List (Nat × Int32)) (X : Option (Nat × Int32 × zx_H)) : Option (Int32 × zx_H) :=
  X.bind fun r => if r.1 = 0 then some (0, zx_sJ r.2.2 52 0 0 r.2.1.toInt64) else zd_law1 l r
theorem zd_law_enumeration (a : Int64) (b : Int32) (h : zx_H) : zs_Law_enumeration a b h = zd_law [(1, 1), (2, 2)] (zs_Loom_enumeration a b h) := rfl
theorem zd_law_bean (h : zx_H) : zs_Law_bean h = zd_law [(2, 1)] (zs_Loom_bean h) := rfl
theorem zd_law_property (a b c : Int32) (h : zx_H) : zs_Law_property a b c h = zd_law [(1, 1), (2, 2)] (zs_Loom_property a b c h) := rfl
theorem zd_law_list (a : Int32) (h : zx_H) : zs_Law_list a h = zd_law [(1, 1), (2, 2)] (zs_Loom_list a h) := rfl
theorem zd_law_method (a b : Int32) (h : zx_H) : zs_Law_method a b h = zd_law [(1, 1), (2, 2)] (zs_Loom_method a b h) := rfl
theorem zd_law_function (a b c d : Int32) (h : zx_H) : zs_Law_function a b c d h = zd_law [(1, 1), (2, 2)] (zs_Loom_function a b c d h) := rfl
theorem zd_law_build (h : zx_H) : zs_Law_build h = zd_law [(1, 1), (2, 2)] (zs_Loom_build h) := rfl
theorem zd_law_make (a : Int32) (b : Int64) (h : zx_H) : zs_Law_make a b h = zd_law [(1, 1), (2, 2)] (zs_Loom_make a b h) := rfl
theorem zd_law_map (a b : Int32) (h : zx_H) : zs_Law_map a b h = zd_law [(1, 1), (2, 2), (4, 3)] (zs_Loom_map a b h) := rfl
theorem zd_law_about (a b : Int32) (h : zx_H) : zs_Law_about a b h = zd_law [(3, 1)] (zs_Loom_about a b h) := rfl
/-- answered on both sides -/
theorem zd_turn_ok {Q : zd_A → zx_H → Prop} {A A1 : zd_A} {h h1 : zx_H} {l : List (Nat × Int32)} {X : Option (Nat × Int32 × zx_H)} {Y : zx_H → Option (Int32 × zx_H)} {v : Int32} (HR : zd_R A h) (eX : X = some (0, v, h1)) (HC1 : zd_C A1 h1) (sR : zd_sR h h1) (K1 : zd_ok A1)
    (hY : ∀ k, zd_R A k → ∃ h2, Y k = some (v, h2) ∧ zd_R A1 h2 ∧ zd_sC k h2 ∧ h2.1 24 0 0 = 0) (hQ : ∀ k, zd_sC (zx_sJ h1 52 0 0 v.toInt64) k → Q A1 k) : zd_turn Q (zd_law l X) Y := by
  obtain ⟨h2, e1, e2, e3, e4⟩ := hY (zx_sJ h1 52 0 0 v.toInt64) (zd_R_same (zd_sR_J sR (by unfold zd_fr; decide) _ _ _) HR)
  refine ⟨0, _, v, h2, by rw [eX]; rfl, e1, e4, fun _ => ?_, A1, zd_C_same e3 (zd_C_out HC1 _), e2, K1, hQ h2 e3⟩
  rw [(e3 52 (by unfold zd_fr; decide)).2]
  rfl
/-- refused on both sides: nothing has changed -/
theorem zd_turn_no {Q : zd_A → zx_H → Prop} {A : zd_A} {h : zx_H} {l : List (Nat × Int32)} {X : Option (Nat × Int32 × zx_H)} {Y : zx_H → Option (Int32 × zx_H)} {n : Nat} {v b c : Int32} (HC : zd_C A h) (HR : zd_R A h) (K : zd_ok A) (eX : X = some (n, v, h)) (hn : n ≠ 0) (hl : zd_law1 l (n, v, h) = some (c, h)) (hc : c ≠ 0)
    (hY : Y h = some (b, zx_sI h 24 0 0 c)) (hQ : Q A (zx_sI h 24 0 0 c)) : zd_turn Q (zd_law l X) Y := by
  refine ⟨c, h, b, _, ?_, hY, rfl, fun e => absurd e hc, A, zd_C_same (zd_sC_I (zd_sC_refl h) (by unfold zd_fr; decide) _ _ _) HC, zd_R_thrown HR c, K, hQ⟩
  rw [eX]
  show (if n = 0 then _ else zd_law1 l (n, v, h)) = _
  rw [if_neg hn, hl]
