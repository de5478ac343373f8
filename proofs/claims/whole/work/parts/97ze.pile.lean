/-! the pile of what waits, and what is known -/
/-- height, entries (method, or 16 for a list; source; target; next place); count of the known, and they (method, source, target) -/
abbrev zm_G : Type := (Nat × (Nat → Nat × Nat × Nat × Nat)) × (Nat × (Nat → Nat × Nat × Nat))
def zm_e16 (m : Nat) : Int32 := if m = 16 then -nI 1 else nI m
def zm_fc (G : zm_G) (m o j : Nat) : Bool := decide ((G.2.2 j).1 = m) && decide ((G.2.2 j).2.1 = o)
def zm_find (G : zm_G) (m o : Nat) : Option Nat := match zd_first (zm_fc G m o) G.2.1 with | some j => some (G.2.2 j).2.2 | none => none
def zm_CP (G : zm_G) (s : zx_H) : Prop := s.1 23 0 2 = nI 0 ∧ s.1 17 0 10 = nI G.1.1 ∧ (∀ i, i < G.1.1 → s.1 22 0 i = zm_e16 (G.1.2 i).1 ∧ s.1 19 0 i = nI (G.1.2 i).2.1 ∧ s.1 20 0 i = nI (G.1.2 i).2.2.1 ∧ s.1 21 0 i = nI (G.1.2 i).2.2.2) ∧ ∀ m o, m < 16 → o < 400 → s.1 18 0 (400 * m + o) = zd_e (zm_find G m o)
def zm_RP (G : zm_G) (k : zx_H) : Prop := k.1 24 0 37 = nI 0 ∧ k.1 24 0 32 = nI G.1.1 ∧ (∀ i, i < G.1.1 → k.1 47 0 i = zm_e16 (G.1.2 i).1 ∧ k.1 48 0 i = nI (G.1.2 i).2.1 ∧ k.1 49 0 i = nI (G.1.2 i).2.2.1 ∧ k.1 50 0 i = nI (G.1.2 i).2.2.2) ∧ k.1 24 0 28 = nI G.2.1 ∧ (∀ j, j < G.2.1 → k.1 44 0 j = nI (G.2.2 j).1 ∧ k.1 45 0 j = nI (G.2.2 j).2.1 ∧ k.1 46 0 j = nI (G.2.2 j).2.2) ∧ k.1 24 0 0 = nI 0
def zm_push (G : zm_G) (m o t : Nat) : zm_G := ((G.1.1 + 1, fun i => if i = G.1.1 then (m, o, t, 0) else G.1.2 i), G.2)
def zm_know (G : zm_G) (m o t : Nat) : zm_G := (G.1, (G.2.1 + 1, fun j => if j = G.2.1 then (m, o, t) else G.2.2 j))
theorem zm_find_know (G : zm_G) (m o t m2 o2 : Nat) (h : zm_find G m o = none) : zm_find (zm_know G m o t) m2 o2 = if m2 = m ∧ o2 = o then some t else zm_find G m2 o2 := by
  have cg : zd_first (zm_fc (zm_know G m o t) m2 o2) G.2.1 = zd_first (zm_fc G m2 o2) G.2.1 := zd_first_cong (fun q hq => by
    have e : (zm_know G m o t).2.2 q = G.2.2 q := if_neg (by omega)
    unfold zm_fc
    rw [e])
  have e : zd_first (zm_fc (zm_know G m o t) m2 o2) (G.2.1 + 1) = (match zd_first (zm_fc G m2 o2) G.2.1 with | some p => some p | none => if m2 = m ∧ o2 = o then some G.2.1 else none) := by
    show (match zd_first (zm_fc (zm_know G m o t) m2 o2) G.2.1 with | some p => some p | none => if zm_fc (zm_know G m o t) m2 o2 G.2.1 = true then some G.2.1 else none) = _
    rw [cg]
    cases zd_first (zm_fc G m2 o2) G.2.1 with
    | some p => rfl
    | none =>
      show (if zm_fc (zm_know G m o t) m2 o2 G.2.1 = true then some G.2.1 else none) = (if m2 = m ∧ o2 = o then some G.2.1 else none)
      have : zm_fc (zm_know G m o t) m2 o2 G.2.1 = (decide (m = m2) && decide (o = o2)) := by
        unfold zm_fc zm_know
        simp only [if_true]
      rw [this]
      by_cases c : m2 = m ∧ o2 = o
      · rw [if_pos c, c.1, c.2]; simp
      · rw [if_neg c, if_neg (by simp only [Bool.and_eq_true, decide_eq_true_eq]; omega)]
  unfold zm_find at h ⊢
  show (match zd_first (zm_fc (zm_know G m o t) m2 o2) (G.2.1 + 1) with | some j => some ((zm_know G m o t).2.2 j).2.2 | none => none) = _
  rw [e]
  cases e2 : zd_first (zm_fc G m2 o2) G.2.1 with
  | some p =>
    have hp := (zd_first_some.mp e2).1
    show some ((if p = G.2.1 then (m, o, t) else G.2.2 p).2.2) = _
    rw [if_neg (by omega)]
    by_cases c : m2 = m ∧ o2 = o
    · rw [c.1, c.2] at e2
      rw [e2] at h; cases h
    · rw [if_neg c]
  | none =>
    by_cases c : m2 = m ∧ o2 = o
    · rw [if_pos c, if_pos c]
      show some ((if G.2.1 = G.2.1 then (m, o, t) else G.2.2 G.2.1).2.2) = some t
      rw [if_pos rfl]
    · rw [if_neg c, if_neg c]
/-- the class notes what it begins -/
theorem zm_C_begin {G : zm_G} {s : zx_H} (P : zm_CP G s) (hh : G.1.1 < 400) {n m o t : Nat} (hm : m ≤ 16) : ∃ s1, zs_Mapper_begin (zm_e16 m) (nI o) (nI t) s = some s1 ∧ zm_CP (zm_push G m o t) s1 ∧ (∀ F, F ≠ 17 → F ≠ 19 → F ≠ 20 → F ≠ 21 → F ≠ 22 → s1.1 F = s.1 F) ∧ s1.2 = s.2 := by
  obtain ⟨p1, p2, p3, p4⟩ := P
  refine ⟨zx_sI (zx_sI (zx_sI (zx_sI (zx_sI s 22 0 G.1.1 (zm_e16 m)) 19 0 G.1.1 (nI o)) 20 0 G.1.1 (nI t)) 21 0 G.1.1 (nI 0)) 17 0 10 (nI (G.1.1 + 1)), ?_, ⟨?_, ?_, fun i hi => ?_, fun a b ha hb => ?_⟩, ?_, rfl⟩
  · simp (disch := omega) only [zs_Mapper_begin, p2, ↓zd_bnd, ↓zy_bm, if_true, if_false, ite_true, ite_false, ↓reduceIte, Bool.false_eq_true, Bool.true_eq_false, eq_self, true_and, and_true, false_and, and_false, reduceCtorEq, decide_true, decide_false, not_true_eq_false, not_false_eq_true, ze_ltT, ze_ltF, ze_leT, ze_leF, ze_eqT, ze_eqF, ze_mlt, ze_ltm, ze_mle, ze_lem, ze_meq, ze_eqm, ze_mm, ze_mltm, ze_inT, ze_inF, ze_inM, ze_cl, ze_fin, ze_decT, ze_decF, Nat.reduceSub, Nat.reduceMul, nI_add, Nat.add_sub_cancel, Nat.add_assoc, Nat.reduceAdd, ze_r8, ze_r24, ze_r40, ze_r400, ze_l8, ze_l16, ze_l24, ze_l40, ze_sub, ze_am1, ze_es, ze_en, ze_i64, ze_m64, ze_64i, ze_64m, ze_LltT, ze_LltF, ze_LleT, ze_LleF, ze_LeqT, ze_LeqF, ze_Lmlt, ze_Lltm, ze_Lmle, ze_Llem, ze_Lmeq, ze_Leqm, ze_Lmm, lN_add, ze_ch, ze_chd, ze_bt, ze_bf, ze_n0, ze_n1, ze_n2, ze_n3, ze_n4, ze_n5, ze_n6, ze_n7, ze_n8, ze_n9, ze_n10, ze_n11, ze_n12, ze_n13, ze_n14, ze_n15, ze_n16, ze_n17, ze_n18, ze_n19, ze_n20, ze_n21, ze_n22, ze_n23, ze_n24, ze_n25, ze_n26, ze_n27, ze_n28, ze_n29, ze_n30, ze_n31, ze_n32, ze_n33, ze_n34, ze_n35, ze_n36, ze_n37, ze_n38, ze_n39, ze_n40, ze_n48, ze_n63, ze_n64, ze_n65, ze_n80, ze_n100, ze_n128, ze_n200, ze_n255, ze_n300, ze_n320, ze_n384, ze_n400, ze_n512, ze_n1023, ze_n1600, ze_n6400, ze_n9600, ze_n32768, ze_n65535, ze_n65536, ze_n802, ze_n8191, ze_L0, ze_L1, ze_L2, ze_L3, ze_L4, ze_L5, ze_L6, ze_L7, ze_L8, ze_L9, ze_L10, ze_L15, ze_L16, ze_L24, ze_L40, ze_L48, ze_L63, ze_L64, ze_L127, ze_L255, ze_L400, ze_L1024, ze_L2047, ze_L65535, ze_gIs, ze_gIn, ze_gJs, ze_gJn, zd_gI2, zd_gJ1, ze_sII]
  · simp (disch := omega) only [ze_gIs, ze_gIn, ze_gJs, ze_gJn, zd_gI2, zd_gJ1, ze_sII]; exact p1
  · simp (disch := omega) only [ze_gIs, ze_gIn, ze_gJs, ze_gJn, zd_gI2, zd_gJ1, ze_sII]; rfl
  · have hi : i < G.1.1 + 1 := hi
    by_cases c : i = G.1.1
    · subst c
      have e : (zm_push G m o t).1.2 G.1.1 = (m, o, t, 0) := if_pos rfl
      rw [e]
      exact ⟨by simp (disch := omega) only [ze_gIs, ze_gIn, ze_gJs, ze_gJn, zd_gI2, zd_gJ1, ze_sII], by simp (disch := omega) only [ze_gIs, ze_gIn, ze_gJs, ze_gJn, zd_gI2, zd_gJ1, ze_sII], by simp (disch := omega) only [ze_gIs, ze_gIn, ze_gJs, ze_gJn, zd_gI2, zd_gJ1, ze_sII], by simp (disch := omega) only [ze_gIs, ze_gIn, ze_gJs, ze_gJn, zd_gI2, zd_gJ1, ze_sII]⟩
    · have e : (zm_push G m o t).1.2 i = G.1.2 i := if_neg c
      rw [e]
      obtain ⟨q1, q2, q3, q4⟩ := p3 i (by omega)
      exact ⟨by simp (disch := omega) only [ze_gIs, ze_gIn, ze_gJs, ze_gJn, zd_gI2, zd_gJ1, ze_sII]; exact q1, by simp (disch := omega) only [ze_gIs, ze_gIn, ze_gJs, ze_gJn, zd_gI2, zd_gJ1, ze_sII]; exact q2, by simp (disch := omega) only [ze_gIs, ze_gIn, ze_gJs, ze_gJn, zd_gI2, zd_gJ1, ze_sII]; exact q3, by simp (disch := omega) only [ze_gIs, ze_gIn, ze_gJs, ze_gJn, zd_gI2, zd_gJ1, ze_sII]; exact q4⟩
  · have e := p4 a b ha hb
    simp (disch := omega) only [ze_gIs, ze_gIn, ze_gJs, ze_gJn, zd_gI2, zd_gJ1, ze_sII]
    exact e
  · intro F h1 h2 h3 h4 h5
    rw [ze_sIF _ _ _ _ (by omega), ze_sIF _ _ _ _ (by omega), ze_sIF _ _ _ _ (by omega), ze_sIF _ _ _ _ (by omega), ze_sIF _ _ _ _ (by omega)]
/-- the class notes a bean that is known -/
theorem zm_C_take {G : zm_G} {s : zx_H} (P : zm_CP G s) {m o t : Nat} (hm : m < 16) (ho : o < 400) (h : zm_find G m o = none) : zm_CP (zm_know G m o t) (zx_sI s 18 0 (400 * m + o) (nI t)) := by
  obtain ⟨p1, p2, p3, p4⟩ := P
  refine ⟨?_, ?_, fun i hi => ?_, fun a b ha hb => ?_⟩
  · simp (disch := omega) only [ze_gIs, ze_gIn, ze_gJs, ze_gJn, zd_gI2, zd_gJ1, ze_sII]; exact p1
  · simp (disch := omega) only [ze_gIs, ze_gIn, ze_gJs, ze_gJn, zd_gI2, zd_gJ1, ze_sII]; exact p2
  · obtain ⟨q1, q2, q3, q4⟩ := p3 i hi
    exact ⟨by simp (disch := omega) only [ze_gIs, ze_gIn, ze_gJs, ze_gJn, zd_gI2, zd_gJ1, ze_sII]; exact q1, by simp (disch := omega) only [ze_gIs, ze_gIn, ze_gJs, ze_gJn, zd_gI2, zd_gJ1, ze_sII]; exact q2, by simp (disch := omega) only [ze_gIs, ze_gIn, ze_gJs, ze_gJn, zd_gI2, zd_gJ1, ze_sII]; exact q3, by simp (disch := omega) only [ze_gIs, ze_gIn, ze_gJs, ze_gJn, zd_gI2, zd_gJ1, ze_sII]; exact q4⟩
  · rw [zm_find_know G m o t a b h]
    by_cases c : a = m ∧ b = o
    · rw [if_pos c, c.1, c.2]
      simp (disch := omega) only [ze_gIs, ze_gIn, ze_gJs, ze_gJn, zd_gI2, zd_gJ1, ze_sII]
      rfl
    · rw [if_neg c]
      have : 400 * a + b ≠ 400 * m + o := by omega
      simp (disch := omega) only [ze_gIs, ze_gIn, ze_gJs, ze_gJn, zd_gI2, zd_gJ1, ze_sII]
      exact p4 a b ha hb
/-- the reference notes what waits -/
theorem zm_R_wait {G : zm_G} {k : zx_H} (P : zm_RP G k) (hh : G.1.1 < 400) {m o t : Nat} (hm : m ≤ 16) : ∃ k1, zs_Ref_wait (zm_e16 m) (nI o) (nI t) k = some k1 ∧ zm_RP (zm_push G m o t) k1 ∧ (∀ F, F ≠ 24 → F ≠ 47 → F ≠ 48 → F ≠ 49 → F ≠ 50 → k1.1 F = k.1 F) ∧ k1.2 = k.2 ∧ ∀ j, j ≠ 32 → k1.1 24 0 j = k.1 24 0 j := by
  obtain ⟨p1, p2, p3, p4, p5, p6⟩ := P
  refine ⟨zx_sI (zx_sI (zx_sI (zx_sI (zx_sI k 47 0 G.1.1 (zm_e16 m)) 48 0 G.1.1 (nI o)) 49 0 G.1.1 (nI t)) 50 0 G.1.1 (nI 0)) 24 0 32 (nI (G.1.1 + 1)), ?_, ⟨?_, ?_, fun i hi => ?_, ?_, fun j hj => ?_, ?_⟩, ?_, rfl, fun j hj => ?_⟩
  · simp (disch := omega) only [zs_Ref_wait, p1, p2, ↓zd_bnd, ↓zy_bm, if_true, if_false, ite_true, ite_false, ↓reduceIte, Bool.false_eq_true, Bool.true_eq_false, eq_self, true_and, and_true, false_and, and_false, reduceCtorEq, decide_true, decide_false, not_true_eq_false, not_false_eq_true, ze_ltT, ze_ltF, ze_leT, ze_leF, ze_eqT, ze_eqF, ze_mlt, ze_ltm, ze_mle, ze_lem, ze_meq, ze_eqm, ze_mm, ze_mltm, ze_inT, ze_inF, ze_inM, ze_cl, ze_fin, ze_decT, ze_decF, Nat.reduceSub, Nat.reduceMul, nI_add, Nat.add_sub_cancel, Nat.add_assoc, Nat.reduceAdd, ze_r8, ze_r24, ze_r40, ze_r400, ze_l8, ze_l16, ze_l24, ze_l40, ze_sub, ze_am1, ze_es, ze_en, ze_i64, ze_m64, ze_64i, ze_64m, ze_LltT, ze_LltF, ze_LleT, ze_LleF, ze_LeqT, ze_LeqF, ze_Lmlt, ze_Lltm, ze_Lmle, ze_Llem, ze_Lmeq, ze_Leqm, ze_Lmm, lN_add, ze_ch, ze_chd, ze_bt, ze_bf, ze_n0, ze_n1, ze_n2, ze_n3, ze_n4, ze_n5, ze_n6, ze_n7, ze_n8, ze_n9, ze_n10, ze_n11, ze_n12, ze_n13, ze_n14, ze_n15, ze_n16, ze_n17, ze_n18, ze_n19, ze_n20, ze_n21, ze_n22, ze_n23, ze_n24, ze_n25, ze_n26, ze_n27, ze_n28, ze_n29, ze_n30, ze_n31, ze_n32, ze_n33, ze_n34, ze_n35, ze_n36, ze_n37, ze_n38, ze_n39, ze_n40, ze_n48, ze_n63, ze_n64, ze_n65, ze_n80, ze_n100, ze_n128, ze_n200, ze_n255, ze_n300, ze_n320, ze_n384, ze_n400, ze_n512, ze_n1023, ze_n1600, ze_n6400, ze_n9600, ze_n32768, ze_n65535, ze_n65536, ze_n802, ze_n8191, ze_L0, ze_L1, ze_L2, ze_L3, ze_L4, ze_L5, ze_L6, ze_L7, ze_L8, ze_L9, ze_L10, ze_L15, ze_L16, ze_L24, ze_L40, ze_L48, ze_L63, ze_L64, ze_L127, ze_L255, ze_L400, ze_L1024, ze_L2047, ze_L65535, ze_gIs, ze_gIn, ze_gJs, ze_gJn, zd_gI2, zd_gJ1, ze_sII]
  · simp (disch := omega) only [ze_gIs, ze_gIn, ze_gJs, ze_gJn, zd_gI2, zd_gJ1, ze_sII]; exact p1
  · simp (disch := omega) only [ze_gIs, ze_gIn, ze_gJs, ze_gJn, zd_gI2, zd_gJ1, ze_sII]; rfl
  · have hi : i < G.1.1 + 1 := hi
    by_cases c : i = G.1.1
    · subst c
      have e : (zm_push G m o t).1.2 G.1.1 = (m, o, t, 0) := if_pos rfl
      rw [e]
      exact ⟨by simp (disch := omega) only [ze_gIs, ze_gIn, ze_gJs, ze_gJn, zd_gI2, zd_gJ1, ze_sII], by simp (disch := omega) only [ze_gIs, ze_gIn, ze_gJs, ze_gJn, zd_gI2, zd_gJ1, ze_sII], by simp (disch := omega) only [ze_gIs, ze_gIn, ze_gJs, ze_gJn, zd_gI2, zd_gJ1, ze_sII], by simp (disch := omega) only [ze_gIs, ze_gIn, ze_gJs, ze_gJn, zd_gI2, zd_gJ1, ze_sII]⟩
    · have e : (zm_push G m o t).1.2 i = G.1.2 i := if_neg c
      rw [e]
      obtain ⟨q1, q2, q3, q4⟩ := p3 i (by omega)
      exact ⟨by simp (disch := omega) only [ze_gIs, ze_gIn, ze_gJs, ze_gJn, zd_gI2, zd_gJ1, ze_sII]; exact q1, by simp (disch := omega) only [ze_gIs, ze_gIn, ze_gJs, ze_gJn, zd_gI2, zd_gJ1, ze_sII]; exact q2, by simp (disch := omega) only [ze_gIs, ze_gIn, ze_gJs, ze_gJn, zd_gI2, zd_gJ1, ze_sII]; exact q3, by simp (disch := omega) only [ze_gIs, ze_gIn, ze_gJs, ze_gJn, zd_gI2, zd_gJ1, ze_sII]; exact q4⟩
  · simp (disch := omega) only [ze_gIs, ze_gIn, ze_gJs, ze_gJn, zd_gI2, zd_gJ1, ze_sII]; exact p4
  · obtain ⟨q1, q2, q3⟩ := p5 j hj
    exact ⟨by simp (disch := omega) only [ze_gIs, ze_gIn, ze_gJs, ze_gJn, zd_gI2, zd_gJ1, ze_sII]; exact q1, by simp (disch := omega) only [ze_gIs, ze_gIn, ze_gJs, ze_gJn, zd_gI2, zd_gJ1, ze_sII]; exact q2, by simp (disch := omega) only [ze_gIs, ze_gIn, ze_gJs, ze_gJn, zd_gI2, zd_gJ1, ze_sII]; exact q3⟩
  · simp (disch := omega) only [ze_gIs, ze_gIn, ze_gJs, ze_gJn, zd_gI2, zd_gJ1, ze_sII]; exact p6
  · intro F h1 h2 h3 h4 h5
    rw [ze_sIF _ _ _ _ (by omega), ze_sIF _ _ _ _ (by omega), ze_sIF _ _ _ _ (by omega), ze_sIF _ _ _ _ (by omega), ze_sIF _ _ _ _ (by omega)]
  · simp (disch := omega) only [ze_gIs, ze_gIn, ze_gJs, ze_gJn, zd_gI2, zd_gJ1, ze_sII]
/-- the reference notes a bean that is known -/
theorem zm_R_know {G : zm_G} {k : zx_H} (P : zm_RP G k) {m o t : Nat} (hq : G.2.1 < 400) : zm_RP (zm_know G m o t) (zx_sI (zx_sI (zx_sI (zx_sI k 44 0 G.2.1 (nI m)) 45 0 G.2.1 (nI o)) 46 0 G.2.1 (nI t)) 24 0 28 (nI (G.2.1 + 1))) := by
  obtain ⟨p1, p2, p3, p4, p5, p6⟩ := P
  refine ⟨?_, ?_, fun i hi => ?_, ?_, fun j hj => ?_, ?_⟩
  · simp (disch := omega) only [ze_gIs, ze_gIn, ze_gJs, ze_gJn, zd_gI2, zd_gJ1, ze_sII]; exact p1
  · simp (disch := omega) only [ze_gIs, ze_gIn, ze_gJs, ze_gJn, zd_gI2, zd_gJ1, ze_sII]; exact p2
  · obtain ⟨q1, q2, q3, q4⟩ := p3 i hi
    exact ⟨by simp (disch := omega) only [ze_gIs, ze_gIn, ze_gJs, ze_gJn, zd_gI2, zd_gJ1, ze_sII]; exact q1, by simp (disch := omega) only [ze_gIs, ze_gIn, ze_gJs, ze_gJn, zd_gI2, zd_gJ1, ze_sII]; exact q2, by simp (disch := omega) only [ze_gIs, ze_gIn, ze_gJs, ze_gJn, zd_gI2, zd_gJ1, ze_sII]; exact q3, by simp (disch := omega) only [ze_gIs, ze_gIn, ze_gJs, ze_gJn, zd_gI2, zd_gJ1, ze_sII]; exact q4⟩
  · simp (disch := omega) only [ze_gIs, ze_gIn, ze_gJs, ze_gJn, zd_gI2, zd_gJ1, ze_sII]; rfl
  · have hj : j < G.2.1 + 1 := hj
    by_cases c : j = G.2.1
    · subst c
      have e : (zm_know G m o t).2.2 G.2.1 = (m, o, t) := if_pos rfl
      rw [e]
      exact ⟨by simp (disch := omega) only [ze_gIs, ze_gIn, ze_gJs, ze_gJn, zd_gI2, zd_gJ1, ze_sII], by simp (disch := omega) only [ze_gIs, ze_gIn, ze_gJs, ze_gJn, zd_gI2, zd_gJ1, ze_sII], by simp (disch := omega) only [ze_gIs, ze_gIn, ze_gJs, ze_gJn, zd_gI2, zd_gJ1, ze_sII]⟩
    · have e : (zm_know G m o t).2.2 j = G.2.2 j := if_neg c
      rw [e]
      obtain ⟨q1, q2, q3⟩ := p5 j (by omega)
      exact ⟨by simp (disch := omega) only [ze_gIs, ze_gIn, ze_gJs, ze_gJn, zd_gI2, zd_gJ1, ze_sII]; exact q1, by simp (disch := omega) only [ze_gIs, ze_gIn, ze_gJs, ze_gJn, zd_gI2, zd_gJ1, ze_sII]; exact q2, by simp (disch := omega) only [ze_gIs, ze_gIn, ze_gJs, ze_gJn, zd_gI2, zd_gJ1, ze_sII]; exact q3⟩
  · simp (disch := omega) only [ze_gIs, ze_gIn, ze_gJs, ze_gJn, zd_gI2, zd_gJ1, ze_sII]; exact p6
