/-! paths -/
def zp_st (w : Int64) : Nat := if zn_byte w 0 = 0 then 0 else if zn_byte w 1 = 0 then 1 else if zn_byte w 2 = 0 then 2 else 3
theorem zp_st3 (w : Int64) : zp_st w ≤ 3 := by
  unfold zp_st
  by_cases h0 : zn_byte w 0 = 0
  · rw [if_pos h0]; omega
  · rw [if_neg h0]
    by_cases h1 : zn_byte w 1 = 0
    · rw [if_pos h1]; omega
    · rw [if_neg h1]
      by_cases h2 : zn_byte w 2 = 0
      · rw [if_pos h2]; omega
      · rw [if_neg h2]; omega
theorem zp_st_lt {w : Int64} {k : Nat} : k < zp_st w ↔ k < 3 ∧ ∀ j, j ≤ k → zn_byte w j ≠ 0 := by
  unfold zp_st
  by_cases h0 : zn_byte w 0 = 0
  · rw [if_pos h0]
    exact ⟨fun h => absurd h (Nat.not_lt_zero k), fun h => absurd h0 (h.2 0 (Nat.zero_le k))⟩
  · rw [if_neg h0]
    by_cases h1 : zn_byte w 1 = 0
    · rw [if_pos h1]
      refine ⟨fun h => ⟨by omega, fun j hj => ?_⟩, fun h => ?_⟩
      · rw [show j = 0 by omega]; exact h0
      · by_cases c : k = 0
        · omega
        · exact absurd h1 (h.2 1 (by omega))
    · rw [if_neg h1]
      by_cases h2 : zn_byte w 2 = 0
      · rw [if_pos h2]
        refine ⟨fun h => ⟨by omega, fun j hj => ?_⟩, fun h => ?_⟩
        · by_cases c : j = 0
          · rw [c]; exact h0
          · rw [show j = 1 by omega]; exact h1
        · by_cases c : k < 2
          · exact c
          · exact absurd h2 (h.2 2 (by omega))
      · rw [if_neg h2]
        refine ⟨fun h => ⟨h, fun j hj => ?_⟩, fun h => h.1⟩
        by_cases c : j = 0
        · rw [c]; exact h0
        · by_cases c2 : j = 1
          · rw [c2]; exact h1
          · rw [show j = 2 by omega]; exact h2
/-- the name at a place of a path -/
def zp_nk (w : Int64) (k : Nat) : Nat := zn_byte w k - 1
def zp_tt (A : zd_A) (t : Nat) (w : Int64) : Nat → Option Nat
  | 0 => some t
  | k + 1 => match zp_tt A t w k with
    | none => none
    | some u => if zd_srt A u = 4 then (match zd_pl A u (nI (zp_nk w k)) with | none => none | some p => some (zd_pt A u p)) else none
def zp_pk (A : zd_A) (t : Nat) (w : Int64) (k : Nat) : Nat := match zp_tt A t w k with
  | none => 0
  | some u => match zd_pl A u (nI (zp_nk w k)) with | none => 0 | some p => p
def zp_end (A : zd_A) (t : Nat) (w : Int64) : Option Nat := if zp_st w = 0 then none else zp_tt A t w (zp_st w)
theorem zp_tt_none {A : zd_A} {t : Nat} {w : Int64} {k : Nat} (h : zp_tt A t w k = none) : ∀ d, zp_tt A t w (k + d) = none := by
  intro d
  induction d with
  | zero => exact h
  | succ d ih =>
    show (match zp_tt A t w (k + d) with | none => none | some u => _) = none
    rw [ih]
theorem zp_tt_lt {A : zd_A} (K : zd_ok A) {t : Nat} (ht : t < zd_T A) {w : Int64} : ∀ {k u : Nat}, zp_tt A t w k = some u → u < zd_T A := by
  intro k
  induction k with
  | zero =>
    intro u h
    have h : some t = some u := h
    cases h
    exact ht
  | succ k ih =>
    intro u h
    have h : (match zp_tt A t w k with | none => none | some u => if zd_srt A u = 4 then (match zd_pl A u (nI (zp_nk w k)) with | none => none | some p => some (zd_pt A u p)) else none) = some u := h
    cases e : zp_tt A t w k with
    | none => rw [e] at h; cases h
    | some v =>
      rw [e] at h
      have hv := ih e
      have h : (if zd_srt A v = 4 then (match zd_pl A v (nI (zp_nk w k)) with | none => none | some p => some (zd_pt A v p)) else none) = some u := h
      by_cases h4 : zd_srt A v = 4
      · rw [if_pos h4] at h
        cases e2 : zd_pl A v (nI (zp_nk w k)) with
        | none => rw [e2] at h; cases h
        | some p =>
          rw [e2] at h
          have h : some (zd_pt A v p) = some u := h
          cases h
          exact zd_ok_pt K v p hv (zd_pl_lt e2).1 h4
      · rw [if_neg h4] at h; cases h
/-- only what a trace writes of a plan -/
def zp_fT (i : Nat) (h k : zx_H) : Prop := (∀ F, F ≠ 60 → F ≠ 61 → k.1 F = h.1 F) ∧ k.2 = h.2 ∧ (∀ a j, ¬ (a = i ∧ (j = 2 ∨ j = 4)) → k.1 60 a j = h.1 60 a j) ∧ (∀ a j, a ≠ i → k.1 61 a j = h.1 61 a j)
theorem zp_fT_refl (i : Nat) (h : zx_H) : zp_fT i h h := ⟨fun _ _ _ => rfl, rfl, fun _ _ _ => rfl, fun _ _ _ => rfl⟩
theorem zp_fT_trans {i : Nat} {h k l : zx_H} (x : zp_fT i h k) (y : zp_fT i k l) : zp_fT i h l := ⟨fun F a b => (y.1 F a b).trans (x.1 F a b), y.2.1.trans x.2.1, fun a j c => (y.2.2.1 a j c).trans (x.2.2.1 a j c), fun a j c => (y.2.2.2 a j c).trans (x.2.2.2 a j c)⟩
theorem zp_fT_60 {i : Nat} {h k : zx_H} (x : zp_fT i h k) {j : Nat} (hj : j = 2 ∨ j = 4) (v : Int32) : zp_fT i h (zx_sI k 60 i j v) :=
  zp_fT_trans x ⟨fun F a _ => ze_sIF _ _ _ _ a, rfl, fun a c hc => ze_gIn _ _ _ _ _ _ _ _ (fun e => hc ⟨e.2.1, by omega⟩), fun a c _ => ze_gIn _ _ _ _ _ _ _ _ (by omega)⟩
theorem zp_fT_61 {i : Nat} {h k : zx_H} (x : zp_fT i h k) (j : Nat) (v : Int32) : zp_fT i h (zx_sI k 61 i j v) :=
  zp_fT_trans x ⟨fun F _ a => ze_sIF _ _ _ _ a, rfl, fun a c _ => ze_gIn _ _ _ _ _ _ _ _ (by omega), fun a c hc => ze_gIn _ _ _ _ _ _ _ _ (fun e => hc e.2.1)⟩
theorem zp_fT_k {i : Nat} {h k : zx_H} (x : zp_fT i h k) : zd_kC h k := ⟨fun F hF => x.1 F (by omega) (by omega), x.1 16 (by decide) (by decide), fun a j _ => by rw [x.1 53 (by decide) (by decide)], fun a j _ => by rw [x.1 54 (by decide) (by decide)], x.1 55 (by decide) (by decide), x.1 56 (by decide) (by decide), by rw [x.2.1], by rw [x.2.1]⟩
theorem zp_C_trace {A : zd_A} {h : zx_H} (H : zd_C A h) (K : zd_ok A) {i : Nat} (hi : i < 129) {t : Nat} (ht : t < zd_T A) (w : Int64) : ∃ b k, zs_Plan_trace ⟨i, hi⟩ (nI t) w h = some (b, k) ∧ zp_fT i h k ∧ (match zp_end A t w with | some e => b = true ∧ k.1 60 i 2 = nI (zp_st w) ∧ k.1 60 i 4 = nI e ∧ ∀ q, q < zp_st w → k.1 61 i q = nI (zp_pk A t w q) | none => b = false) := by
  have hT := zd_ok_T K
  have hst := zp_st3 w
  have key : ∀ d c F u (s : zx_H), c + d = 3 → d < F → c ≤ zp_st w → zp_tt A t w c = some u → zp_fT i h s → s.1 60 i 2 = nI c → (∀ q, q < c → s.1 61 i q = nI (zp_pk A t w q)) → ∃ b k, zx_loop (fun _ _ _ _ _ => none) zs_Plan_trace_L11_body F (⟨i, hi⟩ : Fin 129) w (nI u) (nI c) s = some (b, k) ∧ zp_fT i h k ∧ (match zp_end A t w with | some e => b = true ∧ k.1 60 i 2 = nI (zp_st w) ∧ k.1 60 i 4 = nI e ∧ ∀ q, q < zp_st w → k.1 61 i q = nI (zp_pk A t w q) | none => b = false) := by
    intro d
    have fin : ∀ c (F : Nat) u (s : zx_H), c = zp_st w → zp_tt A t w c = some u → zp_fT i h s → s.1 60 i 2 = nI c → (∀ q, q < c → s.1 61 i q = nI (zp_pk A t w q)) → ∃ b k, zs_Plan_trace_J102 (⟨i, hi⟩ : Fin 129) (nI u) s = some (b, k) ∧ zp_fT i h k ∧ (match zp_end A t w with | some e => b = true ∧ k.1 60 i 2 = nI (zp_st w) ∧ k.1 60 i 4 = nI e ∧ ∀ q, q < zp_st w → k.1 61 i q = nI (zp_pk A t w q) | none => b = false) := by
      intro c F u s hc e1 x e2 e3
      unfold zp_end
      by_cases c0 : c = 0
      · rw [if_pos (by omega)]
        refine ⟨false, _, ?_, zp_fT_60 x (Or.inr rfl) (nI u), rfl⟩
        simp (disch := omega) only [zs_Plan_trace_J102, e2, c0, ↓zd_bnd, ↓zy_bm, if_true, if_false, ite_true, ite_false, ↓reduceIte, Bool.false_eq_true, Bool.true_eq_false, eq_self, true_and, and_true, false_and, and_false, reduceCtorEq, decide_true, decide_false, not_true_eq_false, not_false_eq_true, ze_ltT, ze_ltF, ze_leT, ze_leF, ze_eqT, ze_eqF, ze_mlt, ze_ltm, ze_mle, ze_lem, ze_meq, ze_eqm, ze_mm, ze_mltm, ze_inT, ze_inF, ze_inM, ze_cl, ze_fin, ze_decT, ze_decF, Nat.reduceSub, Nat.reduceMul, nI_add, Nat.add_sub_cancel, Nat.add_assoc, Nat.reduceAdd, ze_r8, ze_r24, ze_r40, ze_r400, ze_l8, ze_l16, ze_l24, ze_l40, ze_sub, ze_am1, ze_es, ze_en, ze_i64, ze_m64, ze_64i, ze_64m, ze_LltT, ze_LltF, ze_LleT, ze_LleF, ze_LeqT, ze_LeqF, ze_Lmlt, ze_Lltm, ze_Lmle, ze_Llem, ze_Lmeq, ze_Leqm, ze_Lmm, lN_add, ze_ch, ze_chd, ze_bt, ze_bf, ze_n0, ze_n1, ze_n2, ze_n3, ze_n4, ze_n5, ze_n6, ze_n7, ze_n8, ze_n9, ze_n10, ze_n11, ze_n12, ze_n13, ze_n14, ze_n15, ze_n16, ze_n17, ze_n18, ze_n19, ze_n20, ze_n21, ze_n22, ze_n23, ze_n24, ze_n25, ze_n26, ze_n27, ze_n28, ze_n29, ze_n30, ze_n31, ze_n32, ze_n33, ze_n34, ze_n35, ze_n36, ze_n37, ze_n38, ze_n39, ze_n40, ze_n48, ze_n63, ze_n64, ze_n65, ze_n80, ze_n100, ze_n128, ze_n200, ze_n255, ze_n300, ze_n320, ze_n384, ze_n400, ze_n512, ze_n1023, ze_n1600, ze_n6400, ze_n9600, ze_n32768, ze_n65535, ze_n65536, ze_n802, ze_n8191, ze_L0, ze_L1, ze_L2, ze_L3, ze_L4, ze_L5, ze_L6, ze_L7, ze_L8, ze_L9, ze_L10, ze_L15, ze_L16, ze_L24, ze_L40, ze_L48, ze_L63, ze_L64, ze_L127, ze_L255, ze_L400, ze_L1024, ze_L2047, ze_L65535, ze_gIs, ze_gIn, ze_gJs, ze_gJn, zd_gI2, zd_gJ1, ze_sII]
      · rw [if_neg (by omega), ← hc, e1]
        refine ⟨true, _, ?_, zp_fT_60 x (Or.inr rfl) (nI u), rfl, ?_, ?_, fun q hq => ?_⟩
        · simp (disch := omega) only [zs_Plan_trace_J102, e2, ↓zd_bnd, ↓zy_bm, if_true, if_false, ite_true, ite_false, ↓reduceIte, Bool.false_eq_true, Bool.true_eq_false, eq_self, true_and, and_true, false_and, and_false, reduceCtorEq, decide_true, decide_false, not_true_eq_false, not_false_eq_true, ze_ltT, ze_ltF, ze_leT, ze_leF, ze_eqT, ze_eqF, ze_mlt, ze_ltm, ze_mle, ze_lem, ze_meq, ze_eqm, ze_mm, ze_mltm, ze_inT, ze_inF, ze_inM, ze_cl, ze_fin, ze_decT, ze_decF, Nat.reduceSub, Nat.reduceMul, nI_add, Nat.add_sub_cancel, Nat.add_assoc, Nat.reduceAdd, ze_r8, ze_r24, ze_r40, ze_r400, ze_l8, ze_l16, ze_l24, ze_l40, ze_sub, ze_am1, ze_es, ze_en, ze_i64, ze_m64, ze_64i, ze_64m, ze_LltT, ze_LltF, ze_LleT, ze_LleF, ze_LeqT, ze_LeqF, ze_Lmlt, ze_Lltm, ze_Lmle, ze_Llem, ze_Lmeq, ze_Leqm, ze_Lmm, lN_add, ze_ch, ze_chd, ze_bt, ze_bf, ze_n0, ze_n1, ze_n2, ze_n3, ze_n4, ze_n5, ze_n6, ze_n7, ze_n8, ze_n9, ze_n10, ze_n11, ze_n12, ze_n13, ze_n14, ze_n15, ze_n16, ze_n17, ze_n18, ze_n19, ze_n20, ze_n21, ze_n22, ze_n23, ze_n24, ze_n25, ze_n26, ze_n27, ze_n28, ze_n29, ze_n30, ze_n31, ze_n32, ze_n33, ze_n34, ze_n35, ze_n36, ze_n37, ze_n38, ze_n39, ze_n40, ze_n48, ze_n63, ze_n64, ze_n65, ze_n80, ze_n100, ze_n128, ze_n200, ze_n255, ze_n300, ze_n320, ze_n384, ze_n400, ze_n512, ze_n1023, ze_n1600, ze_n6400, ze_n9600, ze_n32768, ze_n65535, ze_n65536, ze_n802, ze_n8191, ze_L0, ze_L1, ze_L2, ze_L3, ze_L4, ze_L5, ze_L6, ze_L7, ze_L8, ze_L9, ze_L10, ze_L15, ze_L16, ze_L24, ze_L40, ze_L48, ze_L63, ze_L64, ze_L127, ze_L255, ze_L400, ze_L1024, ze_L2047, ze_L65535, ze_gIs, ze_gIn, ze_gJs, ze_gJn, zd_gI2, zd_gJ1, ze_sII]
        · simp (disch := omega) only [ze_gIs, ze_gIn, ze_gJs, ze_gJn, zd_gI2, zd_gJ1, ze_sII]; exact e2
        · simp (disch := omega) only [ze_gIs, ze_gIn, ze_gJs, ze_gJn, zd_gI2, zd_gJ1, ze_sII]
        · simp (disch := omega) only [ze_gIs, ze_gIn, ze_gJs, ze_gJn, zd_gI2, zd_gJ1, ze_sII]; exact e3 q hq
    induction d with
    | zero =>
      intro c F u s hc hF hcs e1 x e2 e3
      obtain ⟨F, rfl⟩ : ∃ G, F = G + 1 := ⟨F - 1, by omega⟩
      have hc : c = 3 := hc
      subst hc
      obtain ⟨b, k, f1, f2⟩ := fin 3 F u s (by omega) e1 x e2 e3
      refine ⟨b, k, ?_, f2⟩
      rw [← f1]
      show zs_Plan_trace_L11_body _ (⟨i, hi⟩ : Fin 129) w (nI u) (nI 3) s = _
      simp (disch := omega) only [zs_Plan_trace_L11_body, ↓zd_bnd, ↓zy_bm, if_true, if_false, ite_true, ite_false, ↓reduceIte, Bool.false_eq_true, Bool.true_eq_false, eq_self, true_and, and_true, false_and, and_false, reduceCtorEq, decide_true, decide_false, not_true_eq_false, not_false_eq_true, ze_ltT, ze_ltF, ze_leT, ze_leF, ze_eqT, ze_eqF, ze_mlt, ze_ltm, ze_mle, ze_lem, ze_meq, ze_eqm, ze_mm, ze_mltm, ze_inT, ze_inF, ze_inM, ze_cl, ze_fin, ze_decT, ze_decF, Nat.reduceSub, Nat.reduceMul, nI_add, Nat.add_sub_cancel, Nat.add_assoc, Nat.reduceAdd, ze_r8, ze_r24, ze_r40, ze_r400, ze_l8, ze_l16, ze_l24, ze_l40, ze_sub, ze_am1, ze_es, ze_en, ze_i64, ze_m64, ze_64i, ze_64m, ze_LltT, ze_LltF, ze_LleT, ze_LleF, ze_LeqT, ze_LeqF, ze_Lmlt, ze_Lltm, ze_Lmle, ze_Llem, ze_Lmeq, ze_Leqm, ze_Lmm, lN_add, ze_ch, ze_chd, ze_bt, ze_bf, ze_n0, ze_n1, ze_n2, ze_n3, ze_n4, ze_n5, ze_n6, ze_n7, ze_n8, ze_n9, ze_n10, ze_n11, ze_n12, ze_n13, ze_n14, ze_n15, ze_n16, ze_n17, ze_n18, ze_n19, ze_n20, ze_n21, ze_n22, ze_n23, ze_n24, ze_n25, ze_n26, ze_n27, ze_n28, ze_n29, ze_n30, ze_n31, ze_n32, ze_n33, ze_n34, ze_n35, ze_n36, ze_n37, ze_n38, ze_n39, ze_n40, ze_n48, ze_n63, ze_n64, ze_n65, ze_n80, ze_n100, ze_n128, ze_n200, ze_n255, ze_n300, ze_n320, ze_n384, ze_n400, ze_n512, ze_n1023, ze_n1600, ze_n6400, ze_n9600, ze_n32768, ze_n65535, ze_n65536, ze_n802, ze_n8191, ze_L0, ze_L1, ze_L2, ze_L3, ze_L4, ze_L5, ze_L6, ze_L7, ze_L8, ze_L9, ze_L10, ze_L15, ze_L16, ze_L24, ze_L40, ze_L48, ze_L63, ze_L64, ze_L127, ze_L255, ze_L400, ze_L1024, ze_L2047, ze_L65535]
    | succ d ih =>
      intro c F u s hc hF hcs e1 x e2 e3
      obtain ⟨F, rfl⟩ : ∃ G, F = G + 1 := ⟨F - 1, by omega⟩
      have hb := zn_byte_lt w c
      by_cases h0 : zn_byte w c = 0
      · have hst2 : ¬ c < zp_st w := fun z => (zp_st_lt.mp z).2 c (Nat.le_refl _) h0
        obtain ⟨b, k, f1, f2⟩ := fin c F u s (by omega) e1 x e2 e3
        refine ⟨b, k, ?_, f2⟩
        rw [← f1]
        show zs_Plan_trace_L11_body _ (⟨i, hi⟩ : Fin 129) w (nI u) (nI c) s = _
        simp (disch := omega) only [zs_Plan_trace_L11_body, zs_Types_nameIn, zn_ub, zn_nb, zn_sb, ze_l8, h0, ze_s0, ze_0lem1, ↓zd_bnd, ↓zy_bm, if_true, if_false, ite_true, ite_false, ↓reduceIte, Bool.false_eq_true, Bool.true_eq_false, eq_self, true_and, and_true, false_and, and_false, reduceCtorEq, decide_true, decide_false, not_true_eq_false, not_false_eq_true, ze_ltT, ze_ltF, ze_leT, ze_leF, ze_eqT, ze_eqF, ze_mlt, ze_ltm, ze_mle, ze_lem, ze_meq, ze_eqm, ze_mm, ze_mltm, ze_inT, ze_inF, ze_inM, ze_cl, ze_fin, ze_decT, ze_decF, Nat.reduceSub, Nat.reduceMul, nI_add, Nat.add_sub_cancel, Nat.add_assoc, Nat.reduceAdd, ze_r8, ze_r24, ze_r40, ze_r400, ze_l8, ze_l16, ze_l24, ze_l40, ze_sub, ze_am1, ze_es, ze_en, ze_i64, ze_m64, ze_64i, ze_64m, ze_LltT, ze_LltF, ze_LleT, ze_LleF, ze_LeqT, ze_LeqF, ze_Lmlt, ze_Lltm, ze_Lmle, ze_Llem, ze_Lmeq, ze_Leqm, ze_Lmm, lN_add, ze_ch, ze_chd, ze_bt, ze_bf, ze_n0, ze_n1, ze_n2, ze_n3, ze_n4, ze_n5, ze_n6, ze_n7, ze_n8, ze_n9, ze_n10, ze_n11, ze_n12, ze_n13, ze_n14, ze_n15, ze_n16, ze_n17, ze_n18, ze_n19, ze_n20, ze_n21, ze_n22, ze_n23, ze_n24, ze_n25, ze_n26, ze_n27, ze_n28, ze_n29, ze_n30, ze_n31, ze_n32, ze_n33, ze_n34, ze_n35, ze_n36, ze_n37, ze_n38, ze_n39, ze_n40, ze_n48, ze_n63, ze_n64, ze_n65, ze_n80, ze_n100, ze_n128, ze_n200, ze_n255, ze_n300, ze_n320, ze_n384, ze_n400, ze_n512, ze_n1023, ze_n1600, ze_n6400, ze_n9600, ze_n32768, ze_n65535, ze_n65536, ze_n802, ze_n8191, ze_L0, ze_L1, ze_L2, ze_L3, ze_L4, ze_L5, ze_L6, ze_L7, ze_L8, ze_L9, ze_L10, ze_L15, ze_L16, ze_L24, ze_L40, ze_L48, ze_L63, ze_L64, ze_L127, ze_L255, ze_L400, ze_L1024, ze_L2047, ze_L65535]
      · have hst2 : c < zp_st w := zp_st_lt.mpr ⟨by omega, fun j hj => by
          by_cases z : j = c
          · rw [z]; exact h0
          · exact (zp_st_lt.mp (show j < zp_st w by omega)).2 j (Nat.le_refl _)⟩
        have hu := zp_tt_lt K ht e1
        have Hs := zd_C_k (zp_fT_k x) H
        have et : zp_tt A t w (c + 1) = if zd_srt A u = 4 then (match zd_pl A u (nI (zp_nk w c)) with | none => none | some p => some (zd_pt A u p)) else none := by
          show (match zp_tt A t w c with | none => none | some u => _) = _
          rw [e1]
        have ep : zp_pk A t w c = match zd_pl A u (nI (zp_nk w c)) with | none => 0 | some p => p := by
          unfold zp_pk
          rw [e1]
        have bad : zp_tt A t w (c + 1) = none → zp_end A t w = none := fun z => by
          unfold zp_end
          rw [if_neg (by omega)]
          have := zp_tt_none z (zp_st w - (c + 1))
          rw [show c + 1 + (zp_st w - (c + 1)) = zp_st w by omega] at this
          exact this
        by_cases h4 : zd_srt A u = 4
        · rw [if_pos h4] at et
          have hnk : zp_nk w c = zn_byte w c - 1 := rfl
          cases hp : zd_pl A u (nI (zp_nk w c)) with
          | none =>
            rw [hp] at et
            rw [hnk] at hp
            rw [bad et]
            refine ⟨false, s, ?_, x, rfl⟩
            show zs_Plan_trace_L11_body _ (⟨i, hi⟩ : Fin 129) w (nI u) (nI c) s = _
            simp (disch := omega) only [zs_Plan_trace_L11_body, zs_Plan_trace_J57, zs_Types_nameIn, zn_ub, zn_nb, zn_sb, ze_l8, zd_C_isBean Hs K, zg_C_placeOf Hs K, h4, hp, ↓zd_bnd, ↓zy_bm, if_true, if_false, ite_true, ite_false, ↓reduceIte, Bool.false_eq_true, Bool.true_eq_false, eq_self, true_and, and_true, false_and, and_false, reduceCtorEq, decide_true, decide_false, not_true_eq_false, not_false_eq_true, ze_ltT, ze_ltF, ze_leT, ze_leF, ze_eqT, ze_eqF, ze_mlt, ze_ltm, ze_mle, ze_lem, ze_meq, ze_eqm, ze_mm, ze_mltm, ze_inT, ze_inF, ze_inM, ze_cl, ze_fin, ze_decT, ze_decF, Nat.reduceSub, Nat.reduceMul, nI_add, Nat.add_sub_cancel, Nat.add_assoc, Nat.reduceAdd, ze_r8, ze_r24, ze_r40, ze_r400, ze_l8, ze_l16, ze_l24, ze_l40, ze_sub, ze_am1, ze_es, ze_en, ze_i64, ze_m64, ze_64i, ze_64m, ze_LltT, ze_LltF, ze_LleT, ze_LleF, ze_LeqT, ze_LeqF, ze_Lmlt, ze_Lltm, ze_Lmle, ze_Llem, ze_Lmeq, ze_Leqm, ze_Lmm, lN_add, ze_ch, ze_chd, ze_bt, ze_bf, ze_n0, ze_n1, ze_n2, ze_n3, ze_n4, ze_n5, ze_n6, ze_n7, ze_n8, ze_n9, ze_n10, ze_n11, ze_n12, ze_n13, ze_n14, ze_n15, ze_n16, ze_n17, ze_n18, ze_n19, ze_n20, ze_n21, ze_n22, ze_n23, ze_n24, ze_n25, ze_n26, ze_n27, ze_n28, ze_n29, ze_n30, ze_n31, ze_n32, ze_n33, ze_n34, ze_n35, ze_n36, ze_n37, ze_n38, ze_n39, ze_n40, ze_n48, ze_n63, ze_n64, ze_n65, ze_n80, ze_n100, ze_n128, ze_n200, ze_n255, ze_n300, ze_n320, ze_n384, ze_n400, ze_n512, ze_n1023, ze_n1600, ze_n6400, ze_n9600, ze_n32768, ze_n65535, ze_n65536, ze_n802, ze_n8191, ze_L0, ze_L1, ze_L2, ze_L3, ze_L4, ze_L5, ze_L6, ze_L7, ze_L8, ze_L9, ze_L10, ze_L15, ze_L16, ze_L24, ze_L40, ze_L48, ze_L63, ze_L64, ze_L127, ze_L255, ze_L400, ze_L1024, ze_L2047, ze_L65535]
          | some p =>
            rw [hp] at et ep
            rw [hnk] at hp
            have hpl := (zd_pl_lt hp).1
            have hz := zd_ok_sz K u (by omega)
            have x1 := zp_fT_60 (zp_fT_61 x c (nI p)) (Or.inl rfl) (nI (c + 1))
            have H1 := zd_C_k (zp_fT_k x1) H
            obtain ⟨b, k, f1, f2⟩ := ih (c + 1) F (zd_pt A u p) _ (by omega) (by omega) (by omega) et x1 (by simp (disch := omega) only [ze_gIs, ze_gIn, ze_gJs, ze_gJn, zd_gI2, zd_gJ1, ze_sII]) (fun q hq => by
              by_cases e : q = c
              · subst e
                rw [ep]
                simp (disch := omega) only [ze_gIs, ze_gIn, ze_gJs, ze_gJn, zd_gI2, zd_gJ1, ze_sII]
              · simp (disch := omega) only [ze_gIs, ze_gIn, ze_gJs, ze_gJn, zd_gI2, zd_gJ1, ze_sII]
                exact e3 q (by omega))
            refine ⟨b, k, ?_, f2⟩
            rw [← f1]
            show zs_Plan_trace_L11_body _ (⟨i, hi⟩ : Fin 129) w (nI u) (nI c) s = _
            simp (disch := omega) only [zs_Plan_trace_L11_body, zs_Plan_trace_J57, zs_Types_nameIn, zn_ub, zn_nb, zn_sb, ze_l8, zd_C_isBean Hs K, zg_C_placeOf Hs K, zf_C_typeAt H1 K, e2, h4, hp, ↓zd_bnd, ↓zy_bm, if_true, if_false, ite_true, ite_false, ↓reduceIte, Bool.false_eq_true, Bool.true_eq_false, eq_self, true_and, and_true, false_and, and_false, reduceCtorEq, decide_true, decide_false, not_true_eq_false, not_false_eq_true, ze_ltT, ze_ltF, ze_leT, ze_leF, ze_eqT, ze_eqF, ze_mlt, ze_ltm, ze_mle, ze_lem, ze_meq, ze_eqm, ze_mm, ze_mltm, ze_inT, ze_inF, ze_inM, ze_cl, ze_fin, ze_decT, ze_decF, Nat.reduceSub, Nat.reduceMul, nI_add, Nat.add_sub_cancel, Nat.add_assoc, Nat.reduceAdd, ze_r8, ze_r24, ze_r40, ze_r400, ze_l8, ze_l16, ze_l24, ze_l40, ze_sub, ze_am1, ze_es, ze_en, ze_i64, ze_m64, ze_64i, ze_64m, ze_LltT, ze_LltF, ze_LleT, ze_LleF, ze_LeqT, ze_LeqF, ze_Lmlt, ze_Lltm, ze_Lmle, ze_Llem, ze_Lmeq, ze_Leqm, ze_Lmm, lN_add, ze_ch, ze_chd, ze_bt, ze_bf, ze_n0, ze_n1, ze_n2, ze_n3, ze_n4, ze_n5, ze_n6, ze_n7, ze_n8, ze_n9, ze_n10, ze_n11, ze_n12, ze_n13, ze_n14, ze_n15, ze_n16, ze_n17, ze_n18, ze_n19, ze_n20, ze_n21, ze_n22, ze_n23, ze_n24, ze_n25, ze_n26, ze_n27, ze_n28, ze_n29, ze_n30, ze_n31, ze_n32, ze_n33, ze_n34, ze_n35, ze_n36, ze_n37, ze_n38, ze_n39, ze_n40, ze_n48, ze_n63, ze_n64, ze_n65, ze_n80, ze_n100, ze_n128, ze_n200, ze_n255, ze_n300, ze_n320, ze_n384, ze_n400, ze_n512, ze_n1023, ze_n1600, ze_n6400, ze_n9600, ze_n32768, ze_n65535, ze_n65536, ze_n802, ze_n8191, ze_L0, ze_L1, ze_L2, ze_L3, ze_L4, ze_L5, ze_L6, ze_L7, ze_L8, ze_L9, ze_L10, ze_L15, ze_L16, ze_L24, ze_L40, ze_L48, ze_L63, ze_L64, ze_L127, ze_L255, ze_L400, ze_L1024, ze_L2047, ze_L65535, ze_gIs, ze_gIn, ze_gJs, ze_gJn, zd_gI2, zd_gJ1, ze_sII]
            rfl
        · rw [if_neg h4] at et
          rw [bad et]
          refine ⟨false, s, ?_, x, rfl⟩
          show zs_Plan_trace_L11_body _ (⟨i, hi⟩ : Fin 129) w (nI u) (nI c) s = _
          simp (disch := omega) only [zs_Plan_trace_L11_body, zs_Plan_trace_J57, zs_Types_nameIn, zn_ub, zn_nb, zn_sb, ze_l8, zd_C_isBean Hs K, h4, ↓zd_bnd, ↓zy_bm, if_true, if_false, ite_true, ite_false, ↓reduceIte, Bool.false_eq_true, Bool.true_eq_false, eq_self, true_and, and_true, false_and, and_false, reduceCtorEq, decide_true, decide_false, not_true_eq_false, not_false_eq_true, ze_ltT, ze_ltF, ze_leT, ze_leF, ze_eqT, ze_eqF, ze_mlt, ze_ltm, ze_mle, ze_lem, ze_meq, ze_eqm, ze_mm, ze_mltm, ze_inT, ze_inF, ze_inM, ze_cl, ze_fin, ze_decT, ze_decF, Nat.reduceSub, Nat.reduceMul, nI_add, Nat.add_sub_cancel, Nat.add_assoc, Nat.reduceAdd, ze_r8, ze_r24, ze_r40, ze_r400, ze_l8, ze_l16, ze_l24, ze_l40, ze_sub, ze_am1, ze_es, ze_en, ze_i64, ze_m64, ze_64i, ze_64m, ze_LltT, ze_LltF, ze_LleT, ze_LleF, ze_LeqT, ze_LeqF, ze_Lmlt, ze_Lltm, ze_Lmle, ze_Llem, ze_Lmeq, ze_Leqm, ze_Lmm, lN_add, ze_ch, ze_chd, ze_bt, ze_bf, ze_n0, ze_n1, ze_n2, ze_n3, ze_n4, ze_n5, ze_n6, ze_n7, ze_n8, ze_n9, ze_n10, ze_n11, ze_n12, ze_n13, ze_n14, ze_n15, ze_n16, ze_n17, ze_n18, ze_n19, ze_n20, ze_n21, ze_n22, ze_n23, ze_n24, ze_n25, ze_n26, ze_n27, ze_n28, ze_n29, ze_n30, ze_n31, ze_n32, ze_n33, ze_n34, ze_n35, ze_n36, ze_n37, ze_n38, ze_n39, ze_n40, ze_n48, ze_n63, ze_n64, ze_n65, ze_n80, ze_n100, ze_n128, ze_n200, ze_n255, ze_n300, ze_n320, ze_n384, ze_n400, ze_n512, ze_n1023, ze_n1600, ze_n6400, ze_n9600, ze_n32768, ze_n65535, ze_n65536, ze_n802, ze_n8191, ze_L0, ze_L1, ze_L2, ze_L3, ze_L4, ze_L5, ze_L6, ze_L7, ze_L8, ze_L9, ze_L10, ze_L15, ze_L16, ze_L24, ze_L40, ze_L48, ze_L63, ze_L64, ze_L127, ze_L255, ze_L400, ze_L1024, ze_L2047, ze_L65535]
  obtain ⟨b, k, e1, e2⟩ := key 3 0 zx_fuel t (zx_sI h 60 i 2 (nI 0)) (by omega) (by unfold zx_fuel; omega) (by omega) rfl (zp_fT_60 (zp_fT_refl i h) (Or.inl rfl) (nI 0)) (by simp (disch := omega) only [ze_gIs, ze_gIn, ze_gJs, ze_gJn, zd_gI2, zd_gJ1, ze_sII]) (fun q hq => absurd hq (Nat.not_lt_zero q))
  exact ⟨b, k, e1, e2⟩
theorem zp_R_nameOf (h : zx_H) (w : Int64) {k : Nat} (hk : k ≤ 3) : zs_Ref_nameOf w (nI k) h = some (if k < zp_st w then nI (zp_nk w k) else -nI 1) := by
  have hb := zn_byte_lt w k
  unfold zs_Ref_nameOf zs_Ref_nameOf_L2
  cases hf : zd_first (fun j => decide (zn_byte w j = 0)) k with
  | some p =>
    obtain ⟨f1, f2, f3⟩ := zd_first_some.mp hf
    have hn : ¬ k < zp_st w := fun z => (zp_st_lt.mp z).2 p (by omega) (of_decide_eq_true f2)
    rw [if_neg hn]
    have step : ∀ d q F, q + d = p → d < F → zx_loop (fun _ _ _ => none) (zs_Ref_nameOf_L2_body h) F w (nI k) (nI q) = some (-nI 1) := by
      intro d
      induction d with
      | zero =>
        intro q F hq hF
        obtain ⟨F, rfl⟩ : ∃ G, F = G + 1 := ⟨F - 1, by omega⟩
        have hq : q = p := hq
        subst hq
        have hc := of_decide_eq_true f2
        show zs_Ref_nameOf_L2_body h _ w (nI k) (nI q) = _
        simp (disch := omega) only [zs_Ref_nameOf_L2_body, zn_ub, zn_nb, zn_sb, ze_l8, hc, ↓zd_bnd, ↓zy_bm, if_true, if_false, ite_true, ite_false, ↓reduceIte, Bool.false_eq_true, Bool.true_eq_false, eq_self, true_and, and_true, false_and, and_false, reduceCtorEq, decide_true, decide_false, not_true_eq_false, not_false_eq_true, ze_ltT, ze_ltF, ze_leT, ze_leF, ze_eqT, ze_eqF, ze_mlt, ze_ltm, ze_mle, ze_lem, ze_meq, ze_eqm, ze_mm, ze_mltm, ze_inT, ze_inF, ze_inM, ze_cl, ze_fin, ze_decT, ze_decF, Nat.reduceSub, Nat.reduceMul, nI_add, Nat.add_sub_cancel, Nat.add_assoc, Nat.reduceAdd, ze_r8, ze_r24, ze_r40, ze_r400, ze_l8, ze_l16, ze_l24, ze_l40, ze_sub, ze_am1, ze_es, ze_en, ze_i64, ze_m64, ze_64i, ze_64m, ze_LltT, ze_LltF, ze_LleT, ze_LleF, ze_LeqT, ze_LeqF, ze_Lmlt, ze_Lltm, ze_Lmle, ze_Llem, ze_Lmeq, ze_Leqm, ze_Lmm, lN_add, ze_ch, ze_chd, ze_bt, ze_bf, ze_n0, ze_n1, ze_n2, ze_n3, ze_n4, ze_n5, ze_n6, ze_n7, ze_n8, ze_n9, ze_n10, ze_n11, ze_n12, ze_n13, ze_n14, ze_n15, ze_n16, ze_n17, ze_n18, ze_n19, ze_n20, ze_n21, ze_n22, ze_n23, ze_n24, ze_n25, ze_n26, ze_n27, ze_n28, ze_n29, ze_n30, ze_n31, ze_n32, ze_n33, ze_n34, ze_n35, ze_n36, ze_n37, ze_n38, ze_n39, ze_n40, ze_n48, ze_n63, ze_n64, ze_n65, ze_n80, ze_n100, ze_n128, ze_n200, ze_n255, ze_n300, ze_n320, ze_n384, ze_n400, ze_n512, ze_n1023, ze_n1600, ze_n6400, ze_n9600, ze_n32768, ze_n65535, ze_n65536, ze_n802, ze_n8191, ze_L0, ze_L1, ze_L2, ze_L3, ze_L4, ze_L5, ze_L6, ze_L7, ze_L8, ze_L9, ze_L10, ze_L15, ze_L16, ze_L24, ze_L40, ze_L48, ze_L63, ze_L64, ze_L127, ze_L255, ze_L400, ze_L1024, ze_L2047, ze_L65535]
      | succ d ih =>
        intro q F hq hF
        obtain ⟨F, rfl⟩ : ∃ G, F = G + 1 := ⟨F - 1, by omega⟩
        have hc := of_decide_eq_false (f3 q (by omega))
        have hb2 := zn_byte_lt w q
        rw [← ih (q + 1) F (by omega) (by omega)]
        show zs_Ref_nameOf_L2_body h _ w (nI k) (nI q) = _
        simp (disch := omega) only [zs_Ref_nameOf_L2_body, zn_ub, zn_nb, zn_sb, ze_l8, hc, ↓zd_bnd, ↓zy_bm, if_true, if_false, ite_true, ite_false, ↓reduceIte, Bool.false_eq_true, Bool.true_eq_false, eq_self, true_and, and_true, false_and, and_false, reduceCtorEq, decide_true, decide_false, not_true_eq_false, not_false_eq_true, ze_ltT, ze_ltF, ze_leT, ze_leF, ze_eqT, ze_eqF, ze_mlt, ze_ltm, ze_mle, ze_lem, ze_meq, ze_eqm, ze_mm, ze_mltm, ze_inT, ze_inF, ze_inM, ze_cl, ze_fin, ze_decT, ze_decF, Nat.reduceSub, Nat.reduceMul, nI_add, Nat.add_sub_cancel, Nat.add_assoc, Nat.reduceAdd, ze_r8, ze_r24, ze_r40, ze_r400, ze_l8, ze_l16, ze_l24, ze_l40, ze_sub, ze_am1, ze_es, ze_en, ze_i64, ze_m64, ze_64i, ze_64m, ze_LltT, ze_LltF, ze_LleT, ze_LleF, ze_LeqT, ze_LeqF, ze_Lmlt, ze_Lltm, ze_Lmle, ze_Llem, ze_Lmeq, ze_Leqm, ze_Lmm, lN_add, ze_ch, ze_chd, ze_bt, ze_bf, ze_n0, ze_n1, ze_n2, ze_n3, ze_n4, ze_n5, ze_n6, ze_n7, ze_n8, ze_n9, ze_n10, ze_n11, ze_n12, ze_n13, ze_n14, ze_n15, ze_n16, ze_n17, ze_n18, ze_n19, ze_n20, ze_n21, ze_n22, ze_n23, ze_n24, ze_n25, ze_n26, ze_n27, ze_n28, ze_n29, ze_n30, ze_n31, ze_n32, ze_n33, ze_n34, ze_n35, ze_n36, ze_n37, ze_n38, ze_n39, ze_n40, ze_n48, ze_n63, ze_n64, ze_n65, ze_n80, ze_n100, ze_n128, ze_n200, ze_n255, ze_n300, ze_n320, ze_n384, ze_n400, ze_n512, ze_n1023, ze_n1600, ze_n6400, ze_n9600, ze_n32768, ze_n65535, ze_n65536, ze_n802, ze_n8191, ze_L0, ze_L1, ze_L2, ze_L3, ze_L4, ze_L5, ze_L6, ze_L7, ze_L8, ze_L9, ze_L10, ze_L15, ze_L16, ze_L24, ze_L40, ze_L48, ze_L63, ze_L64, ze_L127, ze_L255, ze_L400, ze_L1024, ze_L2047, ze_L65535]
        rfl
    exact step p 0 zx_fuel (by omega) (by unfold zx_fuel; omega)
  | none =>
    have f := zd_first_none.mp hf
    have step : ∀ d q F, q + d = k → d < F → zx_loop (fun _ _ _ => none) (zs_Ref_nameOf_L2_body h) F w (nI k) (nI q) = some (if k < zp_st w then nI (zp_nk w k) else -nI 1) := by
      intro d
      induction d with
      | zero =>
        intro q F hq hF
        obtain ⟨F, rfl⟩ : ∃ G, F = G + 1 := ⟨F - 1, by omega⟩
        have hq : q = k := hq
        subst hq
        show zs_Ref_nameOf_L2_body h _ w (nI q) (nI q) = _
        by_cases h3 : q = 3
        · have hn : ¬ q < zp_st w := fun z => by have := (zp_st_lt.mp z).1; omega
          rw [if_neg hn]
          simp (disch := omega) only [zs_Ref_nameOf_L2_body, ↓zd_bnd, ↓zy_bm, if_true, if_false, ite_true, ite_false, ↓reduceIte, Bool.false_eq_true, Bool.true_eq_false, eq_self, true_and, and_true, false_and, and_false, reduceCtorEq, decide_true, decide_false, not_true_eq_false, not_false_eq_true, ze_ltT, ze_ltF, ze_leT, ze_leF, ze_eqT, ze_eqF, ze_mlt, ze_ltm, ze_mle, ze_lem, ze_meq, ze_eqm, ze_mm, ze_mltm, ze_inT, ze_inF, ze_inM, ze_cl, ze_fin, ze_decT, ze_decF, Nat.reduceSub, Nat.reduceMul, nI_add, Nat.add_sub_cancel, Nat.add_assoc, Nat.reduceAdd, ze_r8, ze_r24, ze_r40, ze_r400, ze_l8, ze_l16, ze_l24, ze_l40, ze_sub, ze_am1, ze_es, ze_en, ze_i64, ze_m64, ze_64i, ze_64m, ze_LltT, ze_LltF, ze_LleT, ze_LleF, ze_LeqT, ze_LeqF, ze_Lmlt, ze_Lltm, ze_Lmle, ze_Llem, ze_Lmeq, ze_Leqm, ze_Lmm, lN_add, ze_ch, ze_chd, ze_bt, ze_bf, ze_n0, ze_n1, ze_n2, ze_n3, ze_n4, ze_n5, ze_n6, ze_n7, ze_n8, ze_n9, ze_n10, ze_n11, ze_n12, ze_n13, ze_n14, ze_n15, ze_n16, ze_n17, ze_n18, ze_n19, ze_n20, ze_n21, ze_n22, ze_n23, ze_n24, ze_n25, ze_n26, ze_n27, ze_n28, ze_n29, ze_n30, ze_n31, ze_n32, ze_n33, ze_n34, ze_n35, ze_n36, ze_n37, ze_n38, ze_n39, ze_n40, ze_n48, ze_n63, ze_n64, ze_n65, ze_n80, ze_n100, ze_n128, ze_n200, ze_n255, ze_n300, ze_n320, ze_n384, ze_n400, ze_n512, ze_n1023, ze_n1600, ze_n6400, ze_n9600, ze_n32768, ze_n65535, ze_n65536, ze_n802, ze_n8191, ze_L0, ze_L1, ze_L2, ze_L3, ze_L4, ze_L5, ze_L6, ze_L7, ze_L8, ze_L9, ze_L10, ze_L15, ze_L16, ze_L24, ze_L40, ze_L48, ze_L63, ze_L64, ze_L127, ze_L255, ze_L400, ze_L1024, ze_L2047, ze_L65535]
        · by_cases h0 : zn_byte w q = 0
          · have hn : ¬ q < zp_st w := fun z => (zp_st_lt.mp z).2 q (Nat.le_refl _) h0
            rw [if_neg hn]
            simp (disch := omega) only [zs_Ref_nameOf_L2_body, zn_si, ze_l8, h0, ze_s0, ↓zd_bnd, ↓zy_bm, if_true, if_false, ite_true, ite_false, ↓reduceIte, Bool.false_eq_true, Bool.true_eq_false, eq_self, true_and, and_true, false_and, and_false, reduceCtorEq, decide_true, decide_false, not_true_eq_false, not_false_eq_true, ze_ltT, ze_ltF, ze_leT, ze_leF, ze_eqT, ze_eqF, ze_mlt, ze_ltm, ze_mle, ze_lem, ze_meq, ze_eqm, ze_mm, ze_mltm, ze_inT, ze_inF, ze_inM, ze_cl, ze_fin, ze_decT, ze_decF, Nat.reduceSub, Nat.reduceMul, nI_add, Nat.add_sub_cancel, Nat.add_assoc, Nat.reduceAdd, ze_r8, ze_r24, ze_r40, ze_r400, ze_l8, ze_l16, ze_l24, ze_l40, ze_sub, ze_am1, ze_es, ze_en, ze_i64, ze_m64, ze_64i, ze_64m, ze_LltT, ze_LltF, ze_LleT, ze_LleF, ze_LeqT, ze_LeqF, ze_Lmlt, ze_Lltm, ze_Lmle, ze_Llem, ze_Lmeq, ze_Leqm, ze_Lmm, lN_add, ze_ch, ze_chd, ze_bt, ze_bf, ze_n0, ze_n1, ze_n2, ze_n3, ze_n4, ze_n5, ze_n6, ze_n7, ze_n8, ze_n9, ze_n10, ze_n11, ze_n12, ze_n13, ze_n14, ze_n15, ze_n16, ze_n17, ze_n18, ze_n19, ze_n20, ze_n21, ze_n22, ze_n23, ze_n24, ze_n25, ze_n26, ze_n27, ze_n28, ze_n29, ze_n30, ze_n31, ze_n32, ze_n33, ze_n34, ze_n35, ze_n36, ze_n37, ze_n38, ze_n39, ze_n40, ze_n48, ze_n63, ze_n64, ze_n65, ze_n80, ze_n100, ze_n128, ze_n200, ze_n255, ze_n300, ze_n320, ze_n384, ze_n400, ze_n512, ze_n1023, ze_n1600, ze_n6400, ze_n9600, ze_n32768, ze_n65535, ze_n65536, ze_n802, ze_n8191, ze_L0, ze_L1, ze_L2, ze_L3, ze_L4, ze_L5, ze_L6, ze_L7, ze_L8, ze_L9, ze_L10, ze_L15, ze_L16, ze_L24, ze_L40, ze_L48, ze_L63, ze_L64, ze_L127, ze_L255, ze_L400, ze_L1024, ze_L2047, ze_L65535]
          · have hn : q < zp_st w := zp_st_lt.mpr ⟨by omega, fun j hj => by
              by_cases z : j = q
              · rw [z]; exact h0
              · exact of_decide_eq_false (f j (by omega))⟩
            rw [if_pos hn]
            unfold zp_nk
            simp (disch := omega) only [zs_Ref_nameOf_L2_body, zn_si, ze_l8, ↓zd_bnd, ↓zy_bm, if_true, if_false, ite_true, ite_false, ↓reduceIte, Bool.false_eq_true, Bool.true_eq_false, eq_self, true_and, and_true, false_and, and_false, reduceCtorEq, decide_true, decide_false, not_true_eq_false, not_false_eq_true, ze_ltT, ze_ltF, ze_leT, ze_leF, ze_eqT, ze_eqF, ze_mlt, ze_ltm, ze_mle, ze_lem, ze_meq, ze_eqm, ze_mm, ze_mltm, ze_inT, ze_inF, ze_inM, ze_cl, ze_fin, ze_decT, ze_decF, Nat.reduceSub, Nat.reduceMul, nI_add, Nat.add_sub_cancel, Nat.add_assoc, Nat.reduceAdd, ze_r8, ze_r24, ze_r40, ze_r400, ze_l8, ze_l16, ze_l24, ze_l40, ze_sub, ze_am1, ze_es, ze_en, ze_i64, ze_m64, ze_64i, ze_64m, ze_LltT, ze_LltF, ze_LleT, ze_LleF, ze_LeqT, ze_LeqF, ze_Lmlt, ze_Lltm, ze_Lmle, ze_Llem, ze_Lmeq, ze_Leqm, ze_Lmm, lN_add, ze_ch, ze_chd, ze_bt, ze_bf, ze_n0, ze_n1, ze_n2, ze_n3, ze_n4, ze_n5, ze_n6, ze_n7, ze_n8, ze_n9, ze_n10, ze_n11, ze_n12, ze_n13, ze_n14, ze_n15, ze_n16, ze_n17, ze_n18, ze_n19, ze_n20, ze_n21, ze_n22, ze_n23, ze_n24, ze_n25, ze_n26, ze_n27, ze_n28, ze_n29, ze_n30, ze_n31, ze_n32, ze_n33, ze_n34, ze_n35, ze_n36, ze_n37, ze_n38, ze_n39, ze_n40, ze_n48, ze_n63, ze_n64, ze_n65, ze_n80, ze_n100, ze_n128, ze_n200, ze_n255, ze_n300, ze_n320, ze_n384, ze_n400, ze_n512, ze_n1023, ze_n1600, ze_n6400, ze_n9600, ze_n32768, ze_n65535, ze_n65536, ze_n802, ze_n8191, ze_L0, ze_L1, ze_L2, ze_L3, ze_L4, ze_L5, ze_L6, ze_L7, ze_L8, ze_L9, ze_L10, ze_L15, ze_L16, ze_L24, ze_L40, ze_L48, ze_L63, ze_L64, ze_L127, ze_L255, ze_L400, ze_L1024, ze_L2047, ze_L65535]
      | succ d ih =>
        intro q F hq hF
        obtain ⟨F, rfl⟩ : ∃ G, F = G + 1 := ⟨F - 1, by omega⟩
        have hc := of_decide_eq_false (f q (by omega))
        have hb2 := zn_byte_lt w q
        rw [← ih (q + 1) F (by omega) (by omega)]
        show zs_Ref_nameOf_L2_body h _ w (nI k) (nI q) = _
        simp (disch := omega) only [zs_Ref_nameOf_L2_body, zn_ub, zn_nb, zn_sb, ze_l8, hc, ↓zd_bnd, ↓zy_bm, if_true, if_false, ite_true, ite_false, ↓reduceIte, Bool.false_eq_true, Bool.true_eq_false, eq_self, true_and, and_true, false_and, and_false, reduceCtorEq, decide_true, decide_false, not_true_eq_false, not_false_eq_true, ze_ltT, ze_ltF, ze_leT, ze_leF, ze_eqT, ze_eqF, ze_mlt, ze_ltm, ze_mle, ze_lem, ze_meq, ze_eqm, ze_mm, ze_mltm, ze_inT, ze_inF, ze_inM, ze_cl, ze_fin, ze_decT, ze_decF, Nat.reduceSub, Nat.reduceMul, nI_add, Nat.add_sub_cancel, Nat.add_assoc, Nat.reduceAdd, ze_r8, ze_r24, ze_r40, ze_r400, ze_l8, ze_l16, ze_l24, ze_l40, ze_sub, ze_am1, ze_es, ze_en, ze_i64, ze_m64, ze_64i, ze_64m, ze_LltT, ze_LltF, ze_LleT, ze_LleF, ze_LeqT, ze_LeqF, ze_Lmlt, ze_Lltm, ze_Lmle, ze_Llem, ze_Lmeq, ze_Leqm, ze_Lmm, lN_add, ze_ch, ze_chd, ze_bt, ze_bf, ze_n0, ze_n1, ze_n2, ze_n3, ze_n4, ze_n5, ze_n6, ze_n7, ze_n8, ze_n9, ze_n10, ze_n11, ze_n12, ze_n13, ze_n14, ze_n15, ze_n16, ze_n17, ze_n18, ze_n19, ze_n20, ze_n21, ze_n22, ze_n23, ze_n24, ze_n25, ze_n26, ze_n27, ze_n28, ze_n29, ze_n30, ze_n31, ze_n32, ze_n33, ze_n34, ze_n35, ze_n36, ze_n37, ze_n38, ze_n39, ze_n40, ze_n48, ze_n63, ze_n64, ze_n65, ze_n80, ze_n100, ze_n128, ze_n200, ze_n255, ze_n300, ze_n320, ze_n384, ze_n400, ze_n512, ze_n1023, ze_n1600, ze_n6400, ze_n9600, ze_n32768, ze_n65535, ze_n65536, ze_n802, ze_n8191, ze_L0, ze_L1, ze_L2, ze_L3, ze_L4, ze_L5, ze_L6, ze_L7, ze_L8, ze_L9, ze_L10, ze_L15, ze_L16, ze_L24, ze_L40, ze_L48, ze_L63, ze_L64, ze_L127, ze_L255, ze_L400, ze_L1024, ze_L2047, ze_L65535]
        rfl
    exact step k 0 zx_fuel (by omega) (by unfold zx_fuel; omega)
theorem zp_R_endOf {A : zd_A} {h : zx_H} (H : zd_R A h) (K : zd_ok A) {m : Nat} (hm : m < zd_M A) (w : Int64) : zs_Ref_endOf (nI m) w h = some (zd_e (zp_end A (zd_mf A m) w)) := by
  have hT := zd_ok_T K
  have hM := zd_ok_M K
  have ht := (zd_ok_m K m hm).1
  have hst := zp_st3 w
  have key : ∀ d c F u, c + d = zp_st w → d < F → zp_tt A (zd_mf A m) w c = some u → zx_loop (fun _ _ _ _ => none) (zs_Ref_endOf_L25_body h) F w (nI u) (nI c) (if c < zp_st w then nI (zp_nk w c) else -nI 1) = some (zd_e (zp_tt A (zd_mf A m) w (zp_st w))) := by
    intro d
    induction d with
    | zero =>
      intro c F u hc hF e1
      obtain ⟨F, rfl⟩ : ∃ G, F = G + 1 := ⟨F - 1, by omega⟩
      have hc : c = zp_st w := hc
      rw [if_neg (by omega), ← hc, e1]
      show zs_Ref_endOf_L25_body h _ w (nI u) (nI c) (-nI 1) = _
      simp (disch := omega) only [zs_Ref_endOf_L25_body, ze_ltm1, ↓zd_bnd, ↓zy_bm, if_true, if_false, ite_true, ite_false, ↓reduceIte, Bool.false_eq_true, Bool.true_eq_false, eq_self, true_and, and_true, false_and, and_false, reduceCtorEq, decide_true, decide_false, not_true_eq_false, not_false_eq_true, ze_ltT, ze_ltF, ze_leT, ze_leF, ze_eqT, ze_eqF, ze_mlt, ze_ltm, ze_mle, ze_lem, ze_meq, ze_eqm, ze_mm, ze_mltm, ze_inT, ze_inF, ze_inM, ze_cl, ze_fin, ze_decT, ze_decF, Nat.reduceSub, Nat.reduceMul, nI_add, Nat.add_sub_cancel, Nat.add_assoc, Nat.reduceAdd, ze_r8, ze_r24, ze_r40, ze_r400, ze_l8, ze_l16, ze_l24, ze_l40, ze_sub, ze_am1, ze_es, ze_en, ze_i64, ze_m64, ze_64i, ze_64m, ze_LltT, ze_LltF, ze_LleT, ze_LleF, ze_LeqT, ze_LeqF, ze_Lmlt, ze_Lltm, ze_Lmle, ze_Llem, ze_Lmeq, ze_Leqm, ze_Lmm, lN_add, ze_ch, ze_chd, ze_bt, ze_bf, ze_n0, ze_n1, ze_n2, ze_n3, ze_n4, ze_n5, ze_n6, ze_n7, ze_n8, ze_n9, ze_n10, ze_n11, ze_n12, ze_n13, ze_n14, ze_n15, ze_n16, ze_n17, ze_n18, ze_n19, ze_n20, ze_n21, ze_n22, ze_n23, ze_n24, ze_n25, ze_n26, ze_n27, ze_n28, ze_n29, ze_n30, ze_n31, ze_n32, ze_n33, ze_n34, ze_n35, ze_n36, ze_n37, ze_n38, ze_n39, ze_n40, ze_n48, ze_n63, ze_n64, ze_n65, ze_n80, ze_n100, ze_n128, ze_n200, ze_n255, ze_n300, ze_n320, ze_n384, ze_n400, ze_n512, ze_n1023, ze_n1600, ze_n6400, ze_n9600, ze_n32768, ze_n65535, ze_n65536, ze_n802, ze_n8191, ze_L0, ze_L1, ze_L2, ze_L3, ze_L4, ze_L5, ze_L6, ze_L7, ze_L8, ze_L9, ze_L10, ze_L15, ze_L16, ze_L24, ze_L40, ze_L48, ze_L63, ze_L64, ze_L127, ze_L255, ze_L400, ze_L1024, ze_L2047, ze_L65535]
    | succ d ih =>
      intro c F u hc hF e1
      obtain ⟨F, rfl⟩ : ∃ G, F = G + 1 := ⟨F - 1, by omega⟩
      have hcs : c < zp_st w := by omega
      have hb := zn_byte_lt w c
      have hu := zp_tt_lt K ht e1
      rw [if_pos hcs]
      have hnk : zp_nk w c < 255 := by unfold zp_nk; omega
      have et : zp_tt A (zd_mf A m) w (c + 1) = if zd_srt A u = 4 then (match zd_pl A u (nI (zp_nk w c)) with | none => none | some p => some (zd_pt A u p)) else none := by
        show (match zp_tt A (zd_mf A m) w c with | none => none | some u => _) = _
        rw [e1]
      have bad : zp_tt A (zd_mf A m) w (c + 1) = none → zp_tt A (zd_mf A m) w (zp_st w) = none := fun z => by
        have := zp_tt_none z (zp_st w - (c + 1))
        rw [show c + 1 + (zp_st w - (c + 1)) = zp_st w by omega] at this
        exact this
      show zs_Ref_endOf_L25_body h _ w (nI u) (nI c) (nI (zp_nk w c)) = _
      by_cases h4 : zd_srt A u = 4
      · rw [if_pos h4] at et
        cases hp : zd_pl A u (nI (zp_nk w c)) with
        | none =>
          rw [hp] at et
          rw [bad et]
          simp (disch := omega) only [zs_Ref_endOf_L25_body, zs_Ref_endOf_J53, zd_R_srt H, zd_R_placeOf H K hu, h4, hp, ze_0lem1, ↓zd_bnd, ↓zy_bm, if_true, if_false, ite_true, ite_false, ↓reduceIte, Bool.false_eq_true, Bool.true_eq_false, eq_self, true_and, and_true, false_and, and_false, reduceCtorEq, decide_true, decide_false, not_true_eq_false, not_false_eq_true, ze_ltT, ze_ltF, ze_leT, ze_leF, ze_eqT, ze_eqF, ze_mlt, ze_ltm, ze_mle, ze_lem, ze_meq, ze_eqm, ze_mm, ze_mltm, ze_inT, ze_inF, ze_inM, ze_cl, ze_fin, ze_decT, ze_decF, Nat.reduceSub, Nat.reduceMul, nI_add, Nat.add_sub_cancel, Nat.add_assoc, Nat.reduceAdd, ze_r8, ze_r24, ze_r40, ze_r400, ze_l8, ze_l16, ze_l24, ze_l40, ze_sub, ze_am1, ze_es, ze_en, ze_i64, ze_m64, ze_64i, ze_64m, ze_LltT, ze_LltF, ze_LleT, ze_LleF, ze_LeqT, ze_LeqF, ze_Lmlt, ze_Lltm, ze_Lmle, ze_Llem, ze_Lmeq, ze_Leqm, ze_Lmm, lN_add, ze_ch, ze_chd, ze_bt, ze_bf, ze_n0, ze_n1, ze_n2, ze_n3, ze_n4, ze_n5, ze_n6, ze_n7, ze_n8, ze_n9, ze_n10, ze_n11, ze_n12, ze_n13, ze_n14, ze_n15, ze_n16, ze_n17, ze_n18, ze_n19, ze_n20, ze_n21, ze_n22, ze_n23, ze_n24, ze_n25, ze_n26, ze_n27, ze_n28, ze_n29, ze_n30, ze_n31, ze_n32, ze_n33, ze_n34, ze_n35, ze_n36, ze_n37, ze_n38, ze_n39, ze_n40, ze_n48, ze_n63, ze_n64, ze_n65, ze_n80, ze_n100, ze_n128, ze_n200, ze_n255, ze_n300, ze_n320, ze_n384, ze_n400, ze_n512, ze_n1023, ze_n1600, ze_n6400, ze_n9600, ze_n32768, ze_n65535, ze_n65536, ze_n802, ze_n8191, ze_L0, ze_L1, ze_L2, ze_L3, ze_L4, ze_L5, ze_L6, ze_L7, ze_L8, ze_L9, ze_L10, ze_L15, ze_L16, ze_L24, ze_L40, ze_L48, ze_L63, ze_L64, ze_L127, ze_L255, ze_L400, ze_L1024, ze_L2047, ze_L65535]
        | some p =>
          rw [hp] at et
          have hpl := (zd_pl_lt hp).1
          have hz := zd_ok_sz K u (by omega)
          have e := ih (c + 1) F (zd_pt A u p) (by omega) (by omega) et
          rw [← e]
          simp (disch := omega) only [zs_Ref_endOf_L25_body, zs_Ref_endOf_J53, zd_R_srt H, zd_R_pt H, zd_R_placeOf H K hu, zp_R_nameOf, h4, hp, ↓zd_bnd, ↓zy_bm, if_true, if_false, ite_true, ite_false, ↓reduceIte, Bool.false_eq_true, Bool.true_eq_false, eq_self, true_and, and_true, false_and, and_false, reduceCtorEq, decide_true, decide_false, not_true_eq_false, not_false_eq_true, ze_ltT, ze_ltF, ze_leT, ze_leF, ze_eqT, ze_eqF, ze_mlt, ze_ltm, ze_mle, ze_lem, ze_meq, ze_eqm, ze_mm, ze_mltm, ze_inT, ze_inF, ze_inM, ze_cl, ze_fin, ze_decT, ze_decF, Nat.reduceSub, Nat.reduceMul, nI_add, Nat.add_sub_cancel, Nat.add_assoc, Nat.reduceAdd, ze_r8, ze_r24, ze_r40, ze_r400, ze_l8, ze_l16, ze_l24, ze_l40, ze_sub, ze_am1, ze_es, ze_en, ze_i64, ze_m64, ze_64i, ze_64m, ze_LltT, ze_LltF, ze_LleT, ze_LleF, ze_LeqT, ze_LeqF, ze_Lmlt, ze_Lltm, ze_Lmle, ze_Llem, ze_Lmeq, ze_Leqm, ze_Lmm, lN_add, ze_ch, ze_chd, ze_bt, ze_bf, ze_n0, ze_n1, ze_n2, ze_n3, ze_n4, ze_n5, ze_n6, ze_n7, ze_n8, ze_n9, ze_n10, ze_n11, ze_n12, ze_n13, ze_n14, ze_n15, ze_n16, ze_n17, ze_n18, ze_n19, ze_n20, ze_n21, ze_n22, ze_n23, ze_n24, ze_n25, ze_n26, ze_n27, ze_n28, ze_n29, ze_n30, ze_n31, ze_n32, ze_n33, ze_n34, ze_n35, ze_n36, ze_n37, ze_n38, ze_n39, ze_n40, ze_n48, ze_n63, ze_n64, ze_n65, ze_n80, ze_n100, ze_n128, ze_n200, ze_n255, ze_n300, ze_n320, ze_n384, ze_n400, ze_n512, ze_n1023, ze_n1600, ze_n6400, ze_n9600, ze_n32768, ze_n65535, ze_n65536, ze_n802, ze_n8191, ze_L0, ze_L1, ze_L2, ze_L3, ze_L4, ze_L5, ze_L6, ze_L7, ze_L8, ze_L9, ze_L10, ze_L15, ze_L16, ze_L24, ze_L40, ze_L48, ze_L63, ze_L64, ze_L127, ze_L255, ze_L400, ze_L1024, ze_L2047, ze_L65535]
          rfl
      · rw [if_neg h4] at et
        rw [bad et]
        have := zg_sortB K hu
        simp (disch := omega) only [zs_Ref_endOf_L25_body, zs_Ref_endOf_J53, zd_R_srt H, ze_0lem1, ↓zd_bnd, ↓zy_bm, if_true, if_false, ite_true, ite_false, ↓reduceIte, Bool.false_eq_true, Bool.true_eq_false, eq_self, true_and, and_true, false_and, and_false, reduceCtorEq, decide_true, decide_false, not_true_eq_false, not_false_eq_true, ze_ltT, ze_ltF, ze_leT, ze_leF, ze_eqT, ze_eqF, ze_mlt, ze_ltm, ze_mle, ze_lem, ze_meq, ze_eqm, ze_mm, ze_mltm, ze_inT, ze_inF, ze_inM, ze_cl, ze_fin, ze_decT, ze_decF, Nat.reduceSub, Nat.reduceMul, nI_add, Nat.add_sub_cancel, Nat.add_assoc, Nat.reduceAdd, ze_r8, ze_r24, ze_r40, ze_r400, ze_l8, ze_l16, ze_l24, ze_l40, ze_sub, ze_am1, ze_es, ze_en, ze_i64, ze_m64, ze_64i, ze_64m, ze_LltT, ze_LltF, ze_LleT, ze_LleF, ze_LeqT, ze_LeqF, ze_Lmlt, ze_Lltm, ze_Lmle, ze_Llem, ze_Lmeq, ze_Leqm, ze_Lmm, lN_add, ze_ch, ze_chd, ze_bt, ze_bf, ze_n0, ze_n1, ze_n2, ze_n3, ze_n4, ze_n5, ze_n6, ze_n7, ze_n8, ze_n9, ze_n10, ze_n11, ze_n12, ze_n13, ze_n14, ze_n15, ze_n16, ze_n17, ze_n18, ze_n19, ze_n20, ze_n21, ze_n22, ze_n23, ze_n24, ze_n25, ze_n26, ze_n27, ze_n28, ze_n29, ze_n30, ze_n31, ze_n32, ze_n33, ze_n34, ze_n35, ze_n36, ze_n37, ze_n38, ze_n39, ze_n40, ze_n48, ze_n63, ze_n64, ze_n65, ze_n80, ze_n100, ze_n128, ze_n200, ze_n255, ze_n300, ze_n320, ze_n384, ze_n400, ze_n512, ze_n1023, ze_n1600, ze_n6400, ze_n9600, ze_n32768, ze_n65535, ze_n65536, ze_n802, ze_n8191, ze_L0, ze_L1, ze_L2, ze_L3, ze_L4, ze_L5, ze_L6, ze_L7, ze_L8, ze_L9, ze_L10, ze_L15, ze_L16, ze_L24, ze_L40, ze_L48, ze_L63, ze_L64, ze_L127, ze_L255, ze_L400, ze_L1024, ze_L2047, ze_L65535]
  unfold zp_end
  have n0 := zp_R_nameOf h w (k := 0) (by omega)
  by_cases c0 : zp_st w = 0
  · rw [if_pos c0]
    rw [if_neg (by omega)] at n0
    simp (disch := omega) only [zs_Ref_endOf, zd_R_mf H, n0, ze_0lem1, ↓zd_bnd, ↓zy_bm, if_true, if_false, ite_true, ite_false, ↓reduceIte, Bool.false_eq_true, Bool.true_eq_false, eq_self, true_and, and_true, false_and, and_false, reduceCtorEq, decide_true, decide_false, not_true_eq_false, not_false_eq_true, ze_ltT, ze_ltF, ze_leT, ze_leF, ze_eqT, ze_eqF, ze_mlt, ze_ltm, ze_mle, ze_lem, ze_meq, ze_eqm, ze_mm, ze_mltm, ze_inT, ze_inF, ze_inM, ze_cl, ze_fin, ze_decT, ze_decF, Nat.reduceSub, Nat.reduceMul, nI_add, Nat.add_sub_cancel, Nat.add_assoc, Nat.reduceAdd, ze_r8, ze_r24, ze_r40, ze_r400, ze_l8, ze_l16, ze_l24, ze_l40, ze_sub, ze_am1, ze_es, ze_en, ze_i64, ze_m64, ze_64i, ze_64m, ze_LltT, ze_LltF, ze_LleT, ze_LleF, ze_LeqT, ze_LeqF, ze_Lmlt, ze_Lltm, ze_Lmle, ze_Llem, ze_Lmeq, ze_Leqm, ze_Lmm, lN_add, ze_ch, ze_chd, ze_bt, ze_bf, ze_n0, ze_n1, ze_n2, ze_n3, ze_n4, ze_n5, ze_n6, ze_n7, ze_n8, ze_n9, ze_n10, ze_n11, ze_n12, ze_n13, ze_n14, ze_n15, ze_n16, ze_n17, ze_n18, ze_n19, ze_n20, ze_n21, ze_n22, ze_n23, ze_n24, ze_n25, ze_n26, ze_n27, ze_n28, ze_n29, ze_n30, ze_n31, ze_n32, ze_n33, ze_n34, ze_n35, ze_n36, ze_n37, ze_n38, ze_n39, ze_n40, ze_n48, ze_n63, ze_n64, ze_n65, ze_n80, ze_n100, ze_n128, ze_n200, ze_n255, ze_n300, ze_n320, ze_n384, ze_n400, ze_n512, ze_n1023, ze_n1600, ze_n6400, ze_n9600, ze_n32768, ze_n65535, ze_n65536, ze_n802, ze_n8191, ze_L0, ze_L1, ze_L2, ze_L3, ze_L4, ze_L5, ze_L6, ze_L7, ze_L8, ze_L9, ze_L10, ze_L15, ze_L16, ze_L24, ze_L40, ze_L48, ze_L63, ze_L64, ze_L127, ze_L255, ze_L400, ze_L1024, ze_L2047, ze_L65535]
  · rw [if_neg c0]
    rw [if_pos (by omega)] at n0
    have hb := zn_byte_lt w 0
    have hnk : zp_nk w 0 < 255 := by unfold zp_nk; omega
    have e := key (zp_st w) 0 zx_fuel (zd_mf A m) (by omega) (by unfold zx_fuel; omega) rfl
    rw [if_pos (by omega)] at e
    rw [← e]
    simp (disch := omega) only [zs_Ref_endOf, zs_Ref_endOf_L25, zd_R_mf H, n0, ↓zd_bnd, ↓zy_bm, if_true, if_false, ite_true, ite_false, ↓reduceIte, Bool.false_eq_true, Bool.true_eq_false, eq_self, true_and, and_true, false_and, and_false, reduceCtorEq, decide_true, decide_false, not_true_eq_false, not_false_eq_true, ze_ltT, ze_ltF, ze_leT, ze_leF, ze_eqT, ze_eqF, ze_mlt, ze_ltm, ze_mle, ze_lem, ze_meq, ze_eqm, ze_mm, ze_mltm, ze_inT, ze_inF, ze_inM, ze_cl, ze_fin, ze_decT, ze_decF, Nat.reduceSub, Nat.reduceMul, nI_add, Nat.add_sub_cancel, Nat.add_assoc, Nat.reduceAdd, ze_r8, ze_r24, ze_r40, ze_r400, ze_l8, ze_l16, ze_l24, ze_l40, ze_sub, ze_am1, ze_es, ze_en, ze_i64, ze_m64, ze_64i, ze_64m, ze_LltT, ze_LltF, ze_LleT, ze_LleF, ze_LeqT, ze_LeqF, ze_Lmlt, ze_Lltm, ze_Lmle, ze_Llem, ze_Lmeq, ze_Leqm, ze_Lmm, lN_add, ze_ch, ze_chd, ze_bt, ze_bf, ze_n0, ze_n1, ze_n2, ze_n3, ze_n4, ze_n5, ze_n6, ze_n7, ze_n8, ze_n9, ze_n10, ze_n11, ze_n12, ze_n13, ze_n14, ze_n15, ze_n16, ze_n17, ze_n18, ze_n19, ze_n20, ze_n21, ze_n22, ze_n23, ze_n24, ze_n25, ze_n26, ze_n27, ze_n28, ze_n29, ze_n30, ze_n31, ze_n32, ze_n33, ze_n34, ze_n35, ze_n36, ze_n37, ze_n38, ze_n39, ze_n40, ze_n48, ze_n63, ze_n64, ze_n65, ze_n80, ze_n100, ze_n128, ze_n200, ze_n255, ze_n300, ze_n320, ze_n384, ze_n400, ze_n512, ze_n1023, ze_n1600, ze_n6400, ze_n9600, ze_n32768, ze_n65535, ze_n65536, ze_n802, ze_n8191, ze_L0, ze_L1, ze_L2, ze_L3, ze_L4, ze_L5, ze_L6, ze_L7, ze_L8, ze_L9, ze_L10, ze_L15, ze_L16, ze_L24, ze_L40, ze_L48, ze_L63, ze_L64, ze_L127, ze_L255, ze_L400, ze_L1024, ze_L2047, ze_L65535]
