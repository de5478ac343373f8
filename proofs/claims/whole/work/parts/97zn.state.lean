/-! a turn: what holds before and behind it -/
theorem zm_st {A B : zd_A} (E : zm_ext A B) : zd_srt B = zd_srt A ∧ zd_sz B = zd_sz A ∧ zd_pt B = zd_pt A ∧ zd_of B = zd_of A ∧ zd_T B = zd_T A ∧ zd_M B = zd_M A ∧ zd_mt B = zd_mt A ∧ zd_mf B = zd_mf A ∧ zd_nm B = zd_nm A :=
  ⟨by funext i; exact congrFun (congrFun (E.1.1 2 (by decide)) i) 0, by funext i; exact congrFun (congrFun (E.1.1 3 (by decide)) i) 0, by funext i j; exact congrFun (congrFun (E.1.1 5 (by decide)) i) j, by funext i; exact congrFun (congrFun (E.1.1 6 (by decide)) i) 0, congrFun (congrFun (E.1.1 1 (by decide)) 0) 0, congrFun (congrFun (E.1.1 7 (by decide)) 0) 0, by funext i; exact congrFun (congrFun (E.1.1 9 (by decide)) i) 0, by funext i; exact congrFun (congrFun (E.1.1 8 (by decide)) i) 0, by funext i j; exact congrFun (congrFun (E.1.1 4 (by decide)) i) j⟩
def zm_ps (f : Nat → Nat × Nat × Nat × Nat) : Nat → Nat
  | 0 => 0
  | n + 1 => zm_ps f n + (17 - (f n).2.2.2)
def zm_Ph (B : zd_A) (G : zm_G) : Nat := 17 * (400 - zd_O B) + zm_ps G.1.2 G.1.1
theorem zm_ps_congr {f g : Nat → Nat × Nat × Nat × Nat} : ∀ {n : Nat}, (∀ j, j < n → f j = g j) → zm_ps f n = zm_ps g n := by
  intro n
  induction n with
  | zero => exact fun _ => rfl
  | succ n ih =>
    intro h
    show zm_ps f n + (17 - (f n).2.2.2) = zm_ps g n + (17 - (g n).2.2.2)
    rw [ih (fun j hj => h j (by omega)), h n (by omega)]
def zm_LS (A : zd_A) (hc hr : zx_H) (B : zd_A) (G : zm_G) (s k : zx_H) : Prop := zd_C B s ∧ zd_R B k ∧ zd_ok B ∧ zm_ext A B ∧ zm_CP G s ∧ zm_RP G k ∧ zm_inv A hc B G ∧ zd_fC (zd_O A) hc s ∧ zd_fR (zd_O A) hr k ∧ ∀ i, i < G.1.1 → (G.1.2 i).1 = 16 → (G.1.2 i).2.2.2 = zd_ln B (G.1.2 i).2.2.1
def zm_bump (G : zm_G) (i : Nat) : zm_G := ((G.1.1, fun j => if j = i then ((G.1.2 i).1, (G.1.2 i).2.1, (G.1.2 i).2.2.1, (G.1.2 i).2.2.2 + 1) else G.1.2 j), G.2)
def zm_pop (G : zm_G) : zm_G := ((G.1.1 - 1, G.1.2), G.2)
theorem zm_bump_i (G : zm_G) (i : Nat) : (zm_bump G i).1.2 i = ((G.1.2 i).1, (G.1.2 i).2.1, (G.1.2 i).2.2.1, (G.1.2 i).2.2.2 + 1) := if_pos rfl
theorem zm_bump_n (G : zm_G) {i j : Nat} (h : ¬ j = i) : (zm_bump G i).1.2 j = G.1.2 j := if_neg h
theorem zm_C_bump {G : zm_G} {s : zx_H} (P : zm_CP G s) (i : Nat) : zm_CP (zm_bump G i) (zx_sI s 21 0 i (nI ((G.1.2 i).2.2.2 + 1))) := by
  obtain ⟨p1, p2, p3, p4⟩ := P
  refine ⟨?_, ?_, fun j hj => ?_, fun a b ha hb => ?_⟩
  · simp (disch := omega) only [ze_gIs, ze_gIn, ze_gJs, ze_gJn, zd_gI2, zd_gJ1, ze_sII]; exact p1
  · simp (disch := omega) only [ze_gIs, ze_gIn, ze_gJs, ze_gJn, zd_gI2, zd_gJ1, ze_sII]; exact p2
  · obtain ⟨q1, q2, q3, q4⟩ := p3 j hj
    by_cases c : j = i
    · subst c
      rw [zm_bump_i]
      exact ⟨by simp (disch := omega) only [ze_gIs, ze_gIn, ze_gJs, ze_gJn, zd_gI2, zd_gJ1, ze_sII]; exact q1, by simp (disch := omega) only [ze_gIs, ze_gIn, ze_gJs, ze_gJn, zd_gI2, zd_gJ1, ze_sII]; exact q2, by simp (disch := omega) only [ze_gIs, ze_gIn, ze_gJs, ze_gJn, zd_gI2, zd_gJ1, ze_sII]; exact q3, by simp (disch := omega) only [ze_gIs, ze_gIn, ze_gJs, ze_gJn, zd_gI2, zd_gJ1, ze_sII]⟩
    · rw [zm_bump_n G c]
      exact ⟨by simp (disch := omega) only [ze_gIs, ze_gIn, ze_gJs, ze_gJn, zd_gI2, zd_gJ1, ze_sII]; exact q1, by simp (disch := omega) only [ze_gIs, ze_gIn, ze_gJs, ze_gJn, zd_gI2, zd_gJ1, ze_sII]; exact q2, by simp (disch := omega) only [ze_gIs, ze_gIn, ze_gJs, ze_gJn, zd_gI2, zd_gJ1, ze_sII]; exact q3, by simp (disch := omega) only [ze_gIs, ze_gIn, ze_gJs, ze_gJn, zd_gI2, zd_gJ1, ze_sII]; exact q4⟩
  · have e := p4 a b ha hb
    simp (disch := omega) only [ze_gIs, ze_gIn, ze_gJs, ze_gJn, zd_gI2, zd_gJ1, ze_sII]
    exact e
theorem zm_R_bump {G : zm_G} {k : zx_H} (P : zm_RP G k) (i : Nat) : zm_RP (zm_bump G i) (zx_sI k 50 0 i (nI ((G.1.2 i).2.2.2 + 1))) := by
  obtain ⟨p1, p2, p3, p4, p5, p6⟩ := P
  refine ⟨?_, ?_, fun j hj => ?_, ?_, fun j hj => ?_, ?_⟩
  · simp (disch := omega) only [ze_gIs, ze_gIn, ze_gJs, ze_gJn, zd_gI2, zd_gJ1, ze_sII]; exact p1
  · simp (disch := omega) only [ze_gIs, ze_gIn, ze_gJs, ze_gJn, zd_gI2, zd_gJ1, ze_sII]; exact p2
  · obtain ⟨q1, q2, q3, q4⟩ := p3 j hj
    by_cases c : j = i
    · subst c
      rw [zm_bump_i]
      exact ⟨by simp (disch := omega) only [ze_gIs, ze_gIn, ze_gJs, ze_gJn, zd_gI2, zd_gJ1, ze_sII]; exact q1, by simp (disch := omega) only [ze_gIs, ze_gIn, ze_gJs, ze_gJn, zd_gI2, zd_gJ1, ze_sII]; exact q2, by simp (disch := omega) only [ze_gIs, ze_gIn, ze_gJs, ze_gJn, zd_gI2, zd_gJ1, ze_sII]; exact q3, by simp (disch := omega) only [ze_gIs, ze_gIn, ze_gJs, ze_gJn, zd_gI2, zd_gJ1, ze_sII]⟩
    · rw [zm_bump_n G c]
      exact ⟨by simp (disch := omega) only [ze_gIs, ze_gIn, ze_gJs, ze_gJn, zd_gI2, zd_gJ1, ze_sII]; exact q1, by simp (disch := omega) only [ze_gIs, ze_gIn, ze_gJs, ze_gJn, zd_gI2, zd_gJ1, ze_sII]; exact q2, by simp (disch := omega) only [ze_gIs, ze_gIn, ze_gJs, ze_gJn, zd_gI2, zd_gJ1, ze_sII]; exact q3, by simp (disch := omega) only [ze_gIs, ze_gIn, ze_gJs, ze_gJn, zd_gI2, zd_gJ1, ze_sII]; exact q4⟩
  · simp (disch := omega) only [ze_gIs, ze_gIn, ze_gJs, ze_gJn, zd_gI2, zd_gJ1, ze_sII]; exact p4
  · obtain ⟨q1, q2, q3⟩ := p5 j hj
    exact ⟨by simp (disch := omega) only [ze_gIs, ze_gIn, ze_gJs, ze_gJn, zd_gI2, zd_gJ1, ze_sII]; exact q1, by simp (disch := omega) only [ze_gIs, ze_gIn, ze_gJs, ze_gJn, zd_gI2, zd_gJ1, ze_sII]; exact q2, by simp (disch := omega) only [ze_gIs, ze_gIn, ze_gJs, ze_gJn, zd_gI2, zd_gJ1, ze_sII]; exact q3⟩
  · simp (disch := omega) only [ze_gIs, ze_gIn, ze_gJs, ze_gJn, zd_gI2, zd_gJ1, ze_sII]; exact p6
theorem zm_C_pop {G : zm_G} {s : zx_H} (P : zm_CP G s) (h : 0 < G.1.1) (x : Int32) : zm_CP (zm_pop G) (zx_sI (zx_sI s 21 0 (G.1.1 - 1) x) 17 0 10 (nI (G.1.1 - 1))) := by
  obtain ⟨p1, p2, p3, p4⟩ := P
  refine ⟨?_, ?_, fun j hj => ?_, fun a b ha hb => ?_⟩
  · simp (disch := omega) only [ze_gIs, ze_gIn, ze_gJs, ze_gJn, zd_gI2, zd_gJ1, ze_sII]; exact p1
  · simp (disch := omega) only [ze_gIs, ze_gIn, ze_gJs, ze_gJn, zd_gI2, zd_gJ1, ze_sII]; rfl
  · have hj : j < G.1.1 - 1 := hj
    obtain ⟨q1, q2, q3, q4⟩ := p3 j (by omega)
    have hne : j ≠ G.1.1 - 1 := by omega
    exact ⟨by simp (disch := omega) only [ze_gIs, ze_gIn, ze_gJs, ze_gJn, zd_gI2, zd_gJ1, ze_sII]; exact q1, by simp (disch := omega) only [ze_gIs, ze_gIn, ze_gJs, ze_gJn, zd_gI2, zd_gJ1, ze_sII]; exact q2, by simp (disch := omega) only [ze_gIs, ze_gIn, ze_gJs, ze_gJn, zd_gI2, zd_gJ1, ze_sII]; exact q3, by simp (disch := omega) only [ze_gIs, ze_gIn, ze_gJs, ze_gJn, zd_gI2, zd_gJ1, ze_sII]; exact q4⟩
  · have e := p4 a b ha hb
    simp (disch := omega) only [ze_gIs, ze_gIn, ze_gJs, ze_gJn, zd_gI2, zd_gJ1, ze_sII]
    exact e
theorem zm_R_pop {G : zm_G} {k : zx_H} (P : zm_RP G k) (h : 0 < G.1.1) : zm_RP (zm_pop G) (zx_sI k 24 0 32 (nI (G.1.1 - 1))) := by
  obtain ⟨p1, p2, p3, p4, p5, p6⟩ := P
  refine ⟨?_, ?_, fun j hj => ?_, ?_, fun j hj => ?_, ?_⟩
  · simp (disch := omega) only [ze_gIs, ze_gIn, ze_gJs, ze_gJn, zd_gI2, zd_gJ1, ze_sII]; exact p1
  · simp (disch := omega) only [ze_gIs, ze_gIn, ze_gJs, ze_gJn, zd_gI2, zd_gJ1, ze_sII]; rfl
  · have hj : j < G.1.1 - 1 := hj
    obtain ⟨q1, q2, q3, q4⟩ := p3 j (by omega)
    exact ⟨by simp (disch := omega) only [ze_gIs, ze_gIn, ze_gJs, ze_gJn, zd_gI2, zd_gJ1, ze_sII]; exact q1, by simp (disch := omega) only [ze_gIs, ze_gIn, ze_gJs, ze_gJn, zd_gI2, zd_gJ1, ze_sII]; exact q2, by simp (disch := omega) only [ze_gIs, ze_gIn, ze_gJs, ze_gJn, zd_gI2, zd_gJ1, ze_sII]; exact q3, by simp (disch := omega) only [ze_gIs, ze_gIn, ze_gJs, ze_gJn, zd_gI2, zd_gJ1, ze_sII]; exact q4⟩
  · simp (disch := omega) only [ze_gIs, ze_gIn, ze_gJs, ze_gJn, zd_gI2, zd_gJ1, ze_sII]; exact p4
  · obtain ⟨q1, q2, q3⟩ := p5 j hj
    exact ⟨by simp (disch := omega) only [ze_gIs, ze_gIn, ze_gJs, ze_gJn, zd_gI2, zd_gJ1, ze_sII]; exact q1, by simp (disch := omega) only [ze_gIs, ze_gIn, ze_gJs, ze_gJn, zd_gI2, zd_gJ1, ze_sII]; exact q2, by simp (disch := omega) only [ze_gIs, ze_gIn, ze_gJs, ze_gJn, zd_gI2, zd_gJ1, ze_sII]; exact q3⟩
  · simp (disch := omega) only [ze_gIs, ze_gIn, ze_gJs, ze_gJn, zd_gI2, zd_gJ1, ze_sII]; exact p6
theorem zm_inv_pop {A B : zd_A} {hc : zx_H} {G : zm_G} (I : zm_inv A hc B G) : zm_inv A hc B (zm_pop G) := by
  obtain ⟨h1, h2, h3, h4, h5⟩ := I
  refine ⟨?_, h2, h3, fun i hi => ?_, fun i j hij hj => ?_⟩
  · show G.1.1 - 1 + zd_O A ≤ zd_O B; omega
  · have hi : i < G.1.1 - 1 := hi
    exact h4 i (by omega)
  · have hj : j < G.1.1 - 1 := hj
    exact h5 i j hij (by omega)
theorem zm_inv_bump {A B : zd_A} {hc : zx_H} {G : zm_G} (I : zm_inv A hc B G) {i : Nat} (hb : (G.1.2 i).1 < zd_M A → (G.1.2 i).2.2.2 < zd_sz A (zd_mt A (G.1.2 i).1)) (hl : (G.1.2 i).1 = 16 → (G.1.2 i).2.2.2 < zd_ln A (G.1.2 i).2.1) : zm_inv A hc B (zm_bump G i) := by
  obtain ⟨h1, h2, h3, h4, h5⟩ := I
  have tg : ∀ j, ((zm_bump G i).1.2 j).2.2.1 = (G.1.2 j).2.2.1 := fun j => by
    by_cases c : j = i
    · rw [c, zm_bump_i]
    · rw [zm_bump_n G c]
  refine ⟨h1, h2, h3, fun j hj => ?_, fun a b hab hb => ?_⟩
  · by_cases c : j = i
    · subst c
      rw [zm_bump_i]
      obtain ⟨a1, a2, a3, a4⟩ := h4 j hj
      refine ⟨a1, a2, a3, ?_⟩
      rcases a4 with ⟨b1, b2, b3, b4, b5, b6⟩ | ⟨b1, b2, b3, b4, b5, b6⟩
      · exact Or.inl ⟨b1, b2, b3, b4, hb b1, fun q hq hq2 => b6 q (Nat.le_of_succ_le hq) hq2⟩
      · exact Or.inr ⟨b1, b2, b3, Nat.le_succ_of_le b4, hl b1, b6⟩
    · rw [zm_bump_n G c]; exact h4 j hj
  · rw [tg, tg]; exact h5 a b hab hb
theorem zm_ps_bump (G : zm_G) (h : 0 < G.1.1) (hq : (G.1.2 (G.1.1 - 1)).2.2.2 ≤ 16) : zm_ps (zm_bump G (G.1.1 - 1)).1.2 (zm_bump G (G.1.1 - 1)).1.1 + 1 = zm_ps G.1.2 G.1.1 := by
  show zm_ps (zm_bump G (G.1.1 - 1)).1.2 G.1.1 + 1 = _
  obtain ⟨n, hn⟩ : ∃ n, G.1.1 = n + 1 := ⟨G.1.1 - 1, by omega⟩
  have hn2 : G.1.1 - 1 = n := by omega
  rw [hn2] at hq ⊢
  rw [hn]
  show zm_ps (zm_bump G n).1.2 n + (17 - ((zm_bump G n).1.2 n).2.2.2) + 1 = zm_ps G.1.2 n + (17 - (G.1.2 n).2.2.2)
  rw [zm_bump_i, zm_ps_congr (g := G.1.2) (fun j hj => zm_bump_n G (by omega))]
  show _ + (17 - ((G.1.2 n).2.2.2 + 1)) + 1 = _
  omega
theorem zm_ps_pop (G : zm_G) (h : 0 < G.1.1) (hq : (G.1.2 (G.1.1 - 1)).2.2.2 ≤ 16) : zm_ps (zm_pop G).1.2 (zm_pop G).1.1 + 1 ≤ zm_ps G.1.2 G.1.1 := by
  show zm_ps G.1.2 (G.1.1 - 1) + 1 ≤ _
  obtain ⟨n, hn⟩ : ∃ n, G.1.1 = n + 1 := ⟨G.1.1 - 1, by omega⟩
  have hn2 : G.1.1 - 1 = n := by omega
  rw [hn2] at hq ⊢
  rw [hn]
  show _ ≤ zm_ps G.1.2 n + (17 - (G.1.2 n).2.2.2)
  omega
theorem zm_Ph_new {B : zd_A} {ob : zm_Ob} {G G1 : zm_G} (hO : ob ≠ none → zd_O B < 400) (h : G1 = G ∨ (ob ≠ none ∧ ∃ m o t, G1.1 = (zm_push G m o t).1)) : zm_Ph (zm_new B ob) G1 ≤ zm_Ph B G := by
  have o1 := zm_new_O B ob
  unfold zm_Ph
  rcases h with rfl | ⟨hn, m, o, t, h⟩
  · omega
  · have hO := hO hn
    have o2 : zd_O (zm_new B ob) = zd_O B + 1 := by
      cases ob with
      | none => exact absurd rfl hn
      | some q => rfl
    rw [h, o2]
    show 17 * (400 - (zd_O B + 1)) + (zm_ps (zm_push G m o t).1.2 G.1.1 + (17 - ((zm_push G m o t).1.2 G.1.1).2.2.2)) ≤ _
    have cg : zm_ps (zm_push G m o t).1.2 G.1.1 = zm_ps G.1.2 G.1.1 := zm_ps_congr (fun j hj => if_neg (by omega))
    rw [show (zm_push G m o t).1.2 G.1.1 = (m, o, t, 0) from if_pos rfl, cg]
    show 17 * (400 - (zd_O B + 1)) + (_ + 17) ≤ _
    omega
/-- what a pile was, it is, under what was put on it -/
theorem zm_gro {ob : zm_Ob} {G G1 : zm_G} (h : G1 = G ∨ (ob ≠ none ∧ ∃ m o t, G1.1 = (zm_push G m o t).1)) : G.1.1 ≤ G1.1.1 ∧ (∀ j, j < G.1.1 → G1.1.2 j = G.1.2 j) ∧ ∀ j, j < G1.1.1 → j < G.1.1 ∨ (G1.1.2 j).2.2.2 = 0 := by
  rcases h with rfl | ⟨_, m, o, t, h⟩
  · exact ⟨Nat.le_refl _, fun _ _ => rfl, fun j hj => Or.inl hj⟩
  · rw [h]
    refine ⟨Nat.le_succ _, fun j hj => if_neg (by omega), fun j hj => ?_⟩
    have hj : j < G.1.1 + 1 := hj
    by_cases c : j < G.1.1
    · exact Or.inl c
    · refine Or.inr ?_
      rw [show (zm_push G m o t).1.2 j = (m, o, t, 0) from if_pos (by omega)]
theorem zm_ext_new {A B : zd_A} (E : zm_ext A B) (ob : zm_Ob) : zm_ext A (zm_new B ob) := by
  refine ⟨?_, Nat.le_trans E.2.1 (zm_new_O B ob), fun o ho => ?_⟩
  · cases ob with
    | none => exact E.1
    | some q =>
      obtain ⟨t, c, f⟩ := q
      exact zd_sA_trans E.1 (zd_sA_newO B t c f)
  · have h := E.2.2 o ho
    have := E.2.1
    refine ⟨by rw [zm_new_ty (by omega)]; exact h.1, by rw [zm_new_ln (by omega)]; exact h.2.1, fun i hi => by rw [zm_new_vl (by omega)]; exact h.2.2 i hi⟩
theorem zm_ext_set {A B : zd_A} (E : zm_ext A B) {t : Nat} (ht : zd_O A ≤ t) (q : Nat) (v : Int64) : zm_ext A (zg_set B t q v) := by
  refine ⟨zd_sA_trans E.1 (zd_sA_set B t q v), E.2.1, fun o ho => ?_⟩
  have h := E.2.2 o ho
  refine ⟨h.1, h.2.1, fun i hi => ?_⟩
  rw [zg_set_vl, if_neg (by omega)]; exact h.2.2 i hi
theorem zm_ext_app {A B : zd_A} (E : zm_ext A B) {t : Nat} (ht : zd_O A ≤ t) (v : Int64) : zm_ext A (zg_app B t v) := by
  refine ⟨zd_sA_trans E.1 (zd_sA_app B t v), E.2.1, fun o ho => ?_⟩
  have h := E.2.2 o ho
  refine ⟨h.1, ?_, fun i hi => ?_⟩
  · rw [zg_app_ln, if_neg (by omega)]; exact h.2.1
  · rw [zg_app_vl, if_neg (by omega)]; exact h.2.2 i hi
theorem zm_inv_set {A B : zd_A} {hc : zx_H} {G : zm_G} (I : zm_inv A hc B G) {i t q : Nat} (hi : i < G.1.1) (et : (G.1.2 i).2.2.1 = t) (eq : (G.1.2 i).2.2.2 = q + 1) (v : Int64) : zm_inv A hc (zg_set B t q v) G := by
  obtain ⟨h1, h2, h3, h4, h5⟩ := I
  refine ⟨h1, h2, h3, fun j hj => ?_, h5⟩
  obtain ⟨a1, a2, a3, a4⟩ := h4 j hj
  refine ⟨a1, a2, a3, ?_⟩
  rcases a4 with ⟨b1, b2, b3, b4, b5, b6⟩ | b
  · refine Or.inl ⟨b1, b2, b3, b4, b5, fun x hx hx2 => ?_⟩
    rw [zg_set_vl]
    have : ¬ ((G.1.2 j).2.2.1 = t ∧ x = q) := by
      rintro ⟨c1, c2⟩
      have hij : j = i := by
        rcases Nat.lt_trichotomy i j with c | c | c
        · exact absurd (et.trans c1.symm) (h5 i j c hj)
        · exact c.symm
        · exact absurd (c1.trans et.symm) (h5 j i c hi)
      rw [hij, eq] at hx
      omega
    rw [if_neg this]
    exact b6 x hx hx2
  · exact Or.inr b
theorem zm_inv_app {A B : zd_A} (K : zd_ok A) {hc : zx_H} {G : zm_G} (I : zm_inv A hc B G) {i t : Nat} (hi : i < G.1.1) (em : (G.1.2 i).1 = 16) (et : (G.1.2 i).2.2.1 = t) (eq : (G.1.2 i).2.2.2 = zd_ln B t + 1) (v : Int64) : zm_inv A hc (zg_app B t v) G := by
  obtain ⟨h1, h2, h3, h4, h5⟩ := I
  have hM := zd_ok_M K
  refine ⟨h1, h2, h3, fun j hj => ?_, h5⟩
  obtain ⟨a1, a2, a3, a4⟩ := h4 j hj
  refine ⟨a1, a2, a3, ?_⟩
  have same : (G.1.2 j).2.2.1 = t → j = i := fun c1 => by
    rcases Nat.lt_trichotomy i j with c | c | c
    · exact absurd (et.trans c1.symm) (h5 i j c hj)
    · exact c.symm
    · exact absurd (c1.trans et.symm) (h5 j i c hi)
  rcases a4 with ⟨b1, b2, b3, b4, b5, b6⟩ | ⟨b1, b2, b3, b4, b5, b6⟩
  · refine Or.inl ⟨b1, b2, b3, b4, b5, fun x hx hx2 => ?_⟩
    have hne : ¬ (G.1.2 j).2.2.1 = t := fun c => by rw [same c, em] at b1; omega
    rw [zg_app_vl, if_neg (fun z => hne z.1)]
    exact b6 x hx hx2
  · refine Or.inr ⟨b1, b2, b3, ?_, b5, b6⟩
    rw [zg_app_ln]
    by_cases c : (G.1.2 j).2.2.1 = t
    · rw [if_pos c, same c, eq]; exact Nat.le_refl _
    · rw [if_neg c]; exact b4
