/-! the members of a method planned, one by one -/
def zp_wq (A : zd_A) (m p : Nat) : Nat := if zd_srt A (zd_mt A m) = 4 then zp_wp A m p else if zp_con A m (zd_nm A (zd_mf A m) p) = none then 5 else 0
def zp_nm (A : zd_A) (m : Nat) : Nat := if zd_srt A (zd_mt A m) = 4 then zd_sz A (zd_mt A m) else zd_sz A (zd_mf A m)
def zp_qf (A : zd_A) (m p : Nat) : Bool := decide (zp_wq A m p ≠ 0)
def zp_mem (A : zd_A) (k : zx_H) (m p : Nat) : Prop := (zd_srt A (zd_mt A m) = 4 → zp_row A k m p ∧ zp_rowd A k m p) ∧ (¬ zd_srt A (zd_mt A m) = 4 → zp_con A m (zd_nm A (zd_mf A m) p) = some (k.1 59 m p))
theorem zp_ch_fd {A : zd_A} (K : zd_ok A) {h k : zx_H} (x : ∀ a b, a < zd_T A → b < zd_T A → k.1 15 0 (40 * a + b) = h.1 15 0 (40 * a + b) ∨ k.1 15 0 (40 * a + b) = zp_cw (zp_one A a b)) : ∀ n a b, a < zd_T A → b < zd_T A → zp_ch A h n a b → zp_ch A k n a b := by
  intro n
  induction n with
  | zero => exact fun _ _ _ _ _ => trivial
  | succ n ih =>
    intro a b ha hb c
    refine ⟨?_, fun h4 => ?_⟩
    · rcases x a b ha hb with e | e
      · rw [e]; exact c.1
      · exact e
    · obtain ⟨l1, l2⟩ := zp_one4 h4
      have o1 := zd_ok_of K a ha l1
      have o2 := zd_ok_of K b hb l2
      exact ih _ _ (by omega) (by omega) (c.2 h4)
theorem zp_mem_keep {A : zd_A} (K : zd_ok A) {m q : Nat} (hm : m < zd_M A) (hq : q < zp_nm A m) {k l : zx_H} (rw : ∀ j, l.1 60 (8 * m + q) j = k.1 60 (8 * m + q) j ∧ l.2 60 (8 * m + q) j = k.2 60 (8 * m + q) j ∧ l.1 61 (8 * m + q) j = k.1 61 (8 * m + q) j) (h59 : l.1 59 m q = k.1 59 m q) (fd : ∀ a b, a < zd_T A → b < zd_T A → l.1 15 0 (40 * a + b) = k.1 15 0 (40 * a + b) ∨ l.1 15 0 (40 * a + b) = zp_cw (zp_one A a b)) (x : zp_mem A k m q) : zp_mem A l m q := by
  have hme := zd_ok_m K m hm
  refine ⟨fun hs => ?_, fun hs => by rw [h59]; exact x.2 hs⟩
  have hq2 : q < zd_sz A (zd_mt A m) := by
    unfold zp_nm at hq
    rw [if_pos hs] at hq
    exact hq
  have hpt := zd_ok_pt K (zd_mt A m) q hme.2.1 hq2 hs
  obtain ⟨r, d⟩ := x.1 hs
  refine ⟨⟨fun z => (rw 0).1.trans (r.1 z), fun z p hp => ?_, fun z1 z2 => ?_⟩, fun z1 z2 => ⟨fun z => (rw 6).1.trans ((d z1 z2).1 z), fun p hp => ?_⟩⟩
  · obtain ⟨a1, a2, a3, a4⟩ := r.2.1 z p hp
    exact ⟨(rw 0).1.trans a1, (rw 1).2.1.trans a2, (rw 5).1.trans a3, a4⟩
  · obtain ⟨w, e, a1, a2, a3, a4, a5, a6, a7, a8⟩ := r.2.2 z1 z2
    refine ⟨w, e, a1, a2, (rw 0).1.trans a3, (rw 2).1.trans a4, (rw 4).1.trans a5, fun p hp => (rw p).2.2.trans (a6 p hp), fun z => ?_, fun p hp => ?_⟩
    · obtain ⟨b1, b2, b3⟩ := a7 z
      exact ⟨(rw 5).1.trans b1, b2, zp_ch_fd K fd _ _ _ (zp_end_lt K hme.1 a2) hpt b3⟩
    · obtain ⟨f, b1, b2, b3, b4⟩ := a8 p hp
      exact ⟨f, b1, b2, b3, (rw 5).1.trans b4⟩
  · obtain ⟨b1, b2, b3, b4⟩ := (d z1 z2).2 p hp
    exact ⟨(rw 6).1.trans b1, (rw 7).2.1.trans b2, (rw 8).1.trans b3, b4⟩
theorem zp_mem_P {A : zd_A} (K : zd_ok A) {m q i : Nat} (hm : m < zd_M A) (hq : q < zp_nm A m) {k l : zx_H} (x : zp_fP A i k l) (hi : i ≠ 8 * m + q) (y : zp_mem A k m q) : zp_mem A l m q :=
  zp_mem_keep K hm hq (fun j => x.2.2.1 _ j (fun e => hi e.symm)) (by rw [x.1 59 (by decide) (by decide) (by decide)]) x.2.2.2 y
theorem zp_mem_16 {A : zd_A} (K : zd_ok A) {m q : Nat} (hm : m < zd_M A) (hq : q < zp_nm A m) {k : zx_H} (j : Nat) (v : Int32) (y : zp_mem A k m q) : zp_mem A (zx_sI k 16 0 j v) m q :=
  zp_mem_keep K hm hq (fun c => ⟨ze_gIn _ _ _ _ _ _ _ _ (by omega), rfl, ze_gIn _ _ _ _ _ _ _ _ (by omega)⟩) (ze_gIn _ _ _ _ _ _ _ _ (by omega)) (fun a b _ _ => Or.inl (ze_gIn _ _ _ _ _ _ _ _ (by omega))) y
theorem zp_mem_59 {A : zd_A} (K : zd_ok A) {m q p : Nat} (hm : m < zd_M A) (hq : q < zp_nm A m) {k : zx_H} (v : Int32) (hp : q ≠ p) (y : zp_mem A k m q) : zp_mem A (zx_sI k 59 m p v) m q :=
  zp_mem_keep K hm hq (fun c => ⟨ze_gIn _ _ _ _ _ _ _ _ (by omega), rfl, ze_gIn _ _ _ _ _ _ _ _ (by omega)⟩) (ze_gIn _ _ _ _ _ _ _ _ (by omega)) (fun a b _ _ => Or.inl (ze_gIn _ _ _ _ _ _ _ _ (by omega))) y
def zp_post (A : zd_A) (s k : zx_H) (m p w : Nat) : Prop := (w = 0 → k.1 16 0 4 = nI 0 ∧ k.1 16 0 6 = s.1 16 0 6 ∧ zp_mem A k m p) ∧ (w ≠ 0 → k.1 16 0 4 = nI w ∧ k.1 16 0 6 = nI p)
/-- what a turn of the members' loop makes -/
theorem zp_C_turn {A : zd_A} {h0 s : zx_H} (H : zd_C A h0) (K : zd_ok A) {m p : Nat} (hm : m < zd_M A) (hm16 : m < 16) (hp : p < zp_nm A m) (D : zd_kD h0 s) (N : zp_N A s) (R : zp_rok A m) (hi : s.1 54 m 6 = zp_ivx A m) (s4 : s.1 16 0 4 = nI 0) (k119 : Fin 16 → Bool → Int32 → Int32 → zx_H → Option zx_H) : ∃ k, zs_Planner_planMethod_L119_body k119 ⟨m, hm16⟩ (decide (zd_srt A (zd_mt A m) = 4)) (nI (zp_nm A m)) (nI p) s = k119 ⟨m, hm16⟩ (decide (zd_srt A (zd_mt A m) = 4)) (nI (zp_nm A m)) (nI (p + 1)) k ∧ zp_fM A m s k ∧ k.1 54 = s.1 54 ∧ (∀ q, q < zp_nm A m → q ≠ p → zp_mem A s m q → zp_mem A k m q) ∧ zp_post A s k m p (zp_wq A m p) := by
  have hT := zd_ok_T K
  have hme := zd_ok_m K m hm
  have Hs := zq_C H D
  have Ks := zq_ok K (s.1 16 0 4) (s.1 16 0 5) (s.1 16 0 6)
  by_cases hs : zd_srt A (zd_mt A m) = 4
  · have en : zp_nm A m = zd_sz A (zd_mt A m) := if_pos hs
    have hz := zd_ok_sz K (zd_mt A m) (by omega)
    have hp2 : p < zd_sz A (zd_mt A m) := by omega
    have ew : zp_wq A m p = zp_wp A m p := if_pos hs
    obtain ⟨k1, a1, a2, a3⟩ := zp_C_planProperty Hs Ks (zq_N.mpr N) hm hm16 hp2 hs hi
    rw [zq_w1] at a1 a3
    have a2 : zp_fP A (8 * m + p) s k1 := a2
    have w18 := zp_w18 A m p
    have n1 := zp_note k1 (zp_w1 A m p) w18 (nI p)
    have f1 := zp_fM_P (A := A) (m := m) (i := 8 * m + p) (by omega) a2
    have c54 : k1.1 54 = s.1 54 := a2.1 54 (by decide) (by decide) (by decide)
    have c16 : k1.1 16 = s.1 16 := a2.1 16 (by decide) (by decide) (by decide)
    unfold zp_wp at ew
    by_cases h1 : zp_w1 A m p = 0
    case neg =>
      rw [if_neg h1] at n1
      rw [if_pos h1] at ew
      refine ⟨zx_sI (zx_sI k1 16 0 4 (nI (zp_w1 A m p))) 16 0 6 (nI p), ?_, zp_fM_trans (zp_fM_trans f1 (zp_fM_16 _ (by decide) _)) (zp_fM_16 _ (by decide) _), ?_, fun q hq hn y => zp_mem_16 K hm hq _ _ (zp_mem_16 K hm hq _ _ (zp_mem_P K hm hq a2 (by omega) y)), by rw [ew]; exact ⟨fun z => absurd z h1, fun _ => ⟨by simp (disch := omega) only [ze_gIs, ze_gIn, ze_gJs, ze_gJn, zd_gI2, zd_gJ1, ze_sII], ze_gIs _ _ _ _ _⟩⟩⟩
      · simp (disch := omega) only [zs_Planner_planMethod_L119_body, zs_Planner_planMethod_J155, zs_Planner_planMethod_J184, hs, s4, a1, n1, ↓zd_bnd, ↓zy_bm, if_true, if_false, ite_true, ite_false, ↓reduceIte, Bool.false_eq_true, Bool.true_eq_false, eq_self, true_and, and_true, false_and, and_false, reduceCtorEq, decide_true, decide_false, not_true_eq_false, not_false_eq_true, ze_ltT, ze_ltF, ze_leT, ze_leF, ze_eqT, ze_eqF, ze_mlt, ze_ltm, ze_mle, ze_lem, ze_meq, ze_eqm, ze_mm, ze_mltm, ze_inT, ze_inF, ze_inM, ze_cl, ze_fin, ze_decT, ze_decF, Nat.reduceSub, Nat.reduceMul, nI_add, Nat.add_sub_cancel, Nat.add_assoc, Nat.reduceAdd, ze_r8, ze_r24, ze_r40, ze_r400, ze_l8, ze_l16, ze_l24, ze_l40, ze_sub, ze_am1, ze_es, ze_en, ze_i64, ze_m64, ze_64i, ze_64m, ze_LltT, ze_LltF, ze_LleT, ze_LleF, ze_LeqT, ze_LeqF, ze_Lmlt, ze_Lltm, ze_Lmle, ze_Llem, ze_Lmeq, ze_Leqm, ze_Lmm, lN_add, ze_ch, ze_chd, ze_bt, ze_bf, ze_n0, ze_n1, ze_n2, ze_n3, ze_n4, ze_n5, ze_n6, ze_n7, ze_n8, ze_n9, ze_n10, ze_n11, ze_n12, ze_n13, ze_n14, ze_n15, ze_n16, ze_n17, ze_n18, ze_n19, ze_n20, ze_n21, ze_n22, ze_n23, ze_n24, ze_n25, ze_n26, ze_n27, ze_n28, ze_n29, ze_n30, ze_n31, ze_n32, ze_n33, ze_n34, ze_n35, ze_n36, ze_n37, ze_n38, ze_n39, ze_n40, ze_n48, ze_n63, ze_n64, ze_n65, ze_n80, ze_n100, ze_n128, ze_n200, ze_n255, ze_n300, ze_n320, ze_n384, ze_n400, ze_n512, ze_n1023, ze_n1600, ze_n6400, ze_n9600, ze_n32768, ze_n65535, ze_n65536, ze_n802, ze_n8191, ze_L0, ze_L1, ze_L2, ze_L3, ze_L4, ze_L5, ze_L6, ze_L7, ze_L8, ze_L9, ze_L10, ze_L15, ze_L16, ze_L24, ze_L40, ze_L48, ze_L63, ze_L64, ze_L127, ze_L255, ze_L400, ze_L1024, ze_L2047, ze_L65535, ze_gIs, ze_gIn, ze_gJs, ze_gJn, zd_gI2, zd_gJ1, ze_sII]
      · rw [ze_sIF _ _ _ _ (by decide), ze_sIF _ _ _ _ (by decide)]; exact c54
    rw [h1] at a1 n1
    rw [if_pos rfl] at n1
    rw [if_neg (fun z => z h1)] at ew
    have row1 := zq_row.mp (a3 h1)
    have D1 := zd_kD_trans D (zp_fM_kD f1)
    have H1 := zq_C H D1
    have K1 := zq_ok K (k1.1 16 0 4) (k1.1 16 0 5) (k1.1 16 0 6)
    have N1 := zp_fM_N f1 N
    obtain ⟨k2, b1, b2, b3, b4⟩ := zp_C_planDefault H1 K1 (zq_N.mpr N1) hm hm16 hp2 hs (zq_row.mpr row1)
    rw [zq_w2] at b1 b4
    have b2 : zp_fP A (8 * m + p) k1 k2 := b2
    have w28 := zp_w28 A m p
    have n2 := zp_note k2 (zp_w2 A m p) w28 (nI p)
    have f2 := zp_fM_trans f1 (zp_fM_P (A := A) (m := m) (i := 8 * m + p) (by omega) b2)
    have d54 : k2.1 54 = s.1 54 := (b2.1 54 (by decide) (by decide) (by decide)).trans c54
    have d16 : k2.1 16 = s.1 16 := (b2.1 16 (by decide) (by decide) (by decide)).trans c16
    have k14 : k1.1 16 0 4 = nI 0 := by rw [c16]; exact s4
    by_cases h2 : zp_w2 A m p = 0
    case neg =>
      rw [if_neg h2] at n2
      refine ⟨zx_sI (zx_sI k2 16 0 4 (nI (zp_w2 A m p))) 16 0 6 (nI p), ?_, zp_fM_trans (zp_fM_trans f2 (zp_fM_16 _ (by decide) _)) (zp_fM_16 _ (by decide) _), ?_, fun q hq hn y => zp_mem_16 K hm hq _ _ (zp_mem_16 K hm hq _ _ (zp_mem_P K hm hq b2 (by omega) (zp_mem_P K hm hq a2 (by omega) y))), by rw [ew]; exact ⟨fun z => absurd z h2, fun _ => ⟨by simp (disch := omega) only [ze_gIs, ze_gIn, ze_gJs, ze_gJn, zd_gI2, zd_gJ1, ze_sII], ze_gIs _ _ _ _ _⟩⟩⟩
      · simp (disch := omega) only [zs_Planner_planMethod_L119_body, zs_Planner_planMethod_J155, zs_Planner_planMethod_J184, hs, s4, a1, n1, k14, b1, n2, ↓zd_bnd, ↓zy_bm, if_true, if_false, ite_true, ite_false, ↓reduceIte, Bool.false_eq_true, Bool.true_eq_false, eq_self, true_and, and_true, false_and, and_false, reduceCtorEq, decide_true, decide_false, not_true_eq_false, not_false_eq_true, ze_ltT, ze_ltF, ze_leT, ze_leF, ze_eqT, ze_eqF, ze_mlt, ze_ltm, ze_mle, ze_lem, ze_meq, ze_eqm, ze_mm, ze_mltm, ze_inT, ze_inF, ze_inM, ze_cl, ze_fin, ze_decT, ze_decF, Nat.reduceSub, Nat.reduceMul, nI_add, Nat.add_sub_cancel, Nat.add_assoc, Nat.reduceAdd, ze_r8, ze_r24, ze_r40, ze_r400, ze_l8, ze_l16, ze_l24, ze_l40, ze_sub, ze_am1, ze_es, ze_en, ze_i64, ze_m64, ze_64i, ze_64m, ze_LltT, ze_LltF, ze_LleT, ze_LleF, ze_LeqT, ze_LeqF, ze_Lmlt, ze_Lltm, ze_Lmle, ze_Llem, ze_Lmeq, ze_Leqm, ze_Lmm, lN_add, ze_ch, ze_chd, ze_bt, ze_bf, ze_n0, ze_n1, ze_n2, ze_n3, ze_n4, ze_n5, ze_n6, ze_n7, ze_n8, ze_n9, ze_n10, ze_n11, ze_n12, ze_n13, ze_n14, ze_n15, ze_n16, ze_n17, ze_n18, ze_n19, ze_n20, ze_n21, ze_n22, ze_n23, ze_n24, ze_n25, ze_n26, ze_n27, ze_n28, ze_n29, ze_n30, ze_n31, ze_n32, ze_n33, ze_n34, ze_n35, ze_n36, ze_n37, ze_n38, ze_n39, ze_n40, ze_n48, ze_n63, ze_n64, ze_n65, ze_n80, ze_n100, ze_n128, ze_n200, ze_n255, ze_n300, ze_n320, ze_n384, ze_n400, ze_n512, ze_n1023, ze_n1600, ze_n6400, ze_n9600, ze_n32768, ze_n65535, ze_n65536, ze_n802, ze_n8191, ze_L0, ze_L1, ze_L2, ze_L3, ze_L4, ze_L5, ze_L6, ze_L7, ze_L8, ze_L9, ze_L10, ze_L15, ze_L16, ze_L24, ze_L40, ze_L48, ze_L63, ze_L64, ze_L127, ze_L255, ze_L400, ze_L1024, ze_L2047, ze_L65535, ze_gIs, ze_gIn, ze_gJs, ze_gJn, zd_gI2, zd_gJ1, ze_sII]
      · rw [ze_sIF _ _ _ _ (by decide), ze_sIF _ _ _ _ (by decide)]; exact d54
    rw [h2] at b1 n2
    rw [if_pos rfl] at n2
    refine ⟨k2, ?_, f2, d54, fun q hq hn y => zp_mem_P K hm hq b2 (by omega) (zp_mem_P K hm hq a2 (by omega) y), by rw [ew]; exact ⟨fun _ => ⟨by rw [d16]; exact s4, by rw [d16], fun _ => ⟨zq_row.mp b3, zq_rowd.mp (b4 h2)⟩, fun z => absurd hs z⟩, fun z => absurd h2 z⟩⟩
    simp (disch := omega) only [zs_Planner_planMethod_L119_body, zs_Planner_planMethod_J155, zs_Planner_planMethod_J184, hs, s4, a1, n1, k14, b1, n2, ↓zd_bnd, ↓zy_bm, if_true, if_false, ite_true, ite_false, ↓reduceIte, Bool.false_eq_true, Bool.true_eq_false, eq_self, true_and, and_true, false_and, and_false, reduceCtorEq, decide_true, decide_false, not_true_eq_false, not_false_eq_true, ze_ltT, ze_ltF, ze_leT, ze_leF, ze_eqT, ze_eqF, ze_mlt, ze_ltm, ze_mle, ze_lem, ze_meq, ze_eqm, ze_mm, ze_mltm, ze_inT, ze_inF, ze_inM, ze_cl, ze_fin, ze_decT, ze_decF, Nat.reduceSub, Nat.reduceMul, nI_add, Nat.add_sub_cancel, Nat.add_assoc, Nat.reduceAdd, ze_r8, ze_r24, ze_r40, ze_r400, ze_l8, ze_l16, ze_l24, ze_l40, ze_sub, ze_am1, ze_es, ze_en, ze_i64, ze_m64, ze_64i, ze_64m, ze_LltT, ze_LltF, ze_LleT, ze_LleF, ze_LeqT, ze_LeqF, ze_Lmlt, ze_Lltm, ze_Lmle, ze_Llem, ze_Lmeq, ze_Leqm, ze_Lmm, lN_add, ze_ch, ze_chd, ze_bt, ze_bf, ze_n0, ze_n1, ze_n2, ze_n3, ze_n4, ze_n5, ze_n6, ze_n7, ze_n8, ze_n9, ze_n10, ze_n11, ze_n12, ze_n13, ze_n14, ze_n15, ze_n16, ze_n17, ze_n18, ze_n19, ze_n20, ze_n21, ze_n22, ze_n23, ze_n24, ze_n25, ze_n26, ze_n27, ze_n28, ze_n29, ze_n30, ze_n31, ze_n32, ze_n33, ze_n34, ze_n35, ze_n36, ze_n37, ze_n38, ze_n39, ze_n40, ze_n48, ze_n63, ze_n64, ze_n65, ze_n80, ze_n100, ze_n128, ze_n200, ze_n255, ze_n300, ze_n320, ze_n384, ze_n400, ze_n512, ze_n1023, ze_n1600, ze_n6400, ze_n9600, ze_n32768, ze_n65535, ze_n65536, ze_n802, ze_n8191, ze_L0, ze_L1, ze_L2, ze_L3, ze_L4, ze_L5, ze_L6, ze_L7, ze_L8, ze_L9, ze_L10, ze_L15, ze_L16, ze_L24, ze_L40, ze_L48, ze_L63, ze_L64, ze_L127, ze_L255, ze_L400, ze_L1024, ze_L2047, ze_L65535]
  · have en : zp_nm A m = zd_sz A (zd_mf A m) := if_neg hs
    have hz := zd_ok_sz K (zd_mf A m) (by omega)
    have hp2 : p < zd_sz A (zd_mf A m) := by omega
    have a1 := zp_C_planConstant Hs Ks (c := p) hm hm16 hp2 hs hi (zq_rok A _ _ _ R)
    have a1 : zs_Planner_planConstant ⟨m, hm16⟩ (nI p) s = (match zp_con A m (zd_nm A (zd_mf A m) p) with | none => some (nI 5, s) | some v => some (nI 0, zx_sI s 59 m p v)) := a1
    have ew : zp_wq A m p = if zp_con A m (zd_nm A (zd_mf A m) p) = none then 5 else 0 := if_neg hs
    cases ec : zp_con A m (zd_nm A (zd_mf A m) p) with
    | none =>
      rw [ec] at a1
      have a1 : zs_Planner_planConstant ⟨m, hm16⟩ (nI p) s = some (nI 5, s) := a1
      have n1 := zp_note s 5 (by decide) (nI p)
      rw [if_neg (by decide)] at n1
      rw [if_pos ec] at ew
      refine ⟨zx_sI (zx_sI s 16 0 4 (nI 5)) 16 0 6 (nI p), ?_, zp_fM_trans (zp_fM_16 _ (by decide) _) (zp_fM_16 _ (by decide) _), ?_, fun q hq hn y => zp_mem_16 K hm hq _ _ (zp_mem_16 K hm hq _ _ y), by rw [ew]; exact ⟨fun z => absurd z (by decide), fun _ => ⟨by simp (disch := omega) only [ze_gIs, ze_gIn, ze_gJs, ze_gJn, zd_gI2, zd_gJ1, ze_sII], ze_gIs _ _ _ _ _⟩⟩⟩
      · simp (disch := omega) only [zs_Planner_planMethod_L119_body, zs_Planner_planMethod_J155, zs_Planner_planMethod_J184, hs, s4, a1, n1, ↓zd_bnd, ↓zy_bm, if_true, if_false, ite_true, ite_false, ↓reduceIte, Bool.false_eq_true, Bool.true_eq_false, eq_self, true_and, and_true, false_and, and_false, reduceCtorEq, decide_true, decide_false, not_true_eq_false, not_false_eq_true, ze_ltT, ze_ltF, ze_leT, ze_leF, ze_eqT, ze_eqF, ze_mlt, ze_ltm, ze_mle, ze_lem, ze_meq, ze_eqm, ze_mm, ze_mltm, ze_inT, ze_inF, ze_inM, ze_cl, ze_fin, ze_decT, ze_decF, Nat.reduceSub, Nat.reduceMul, nI_add, Nat.add_sub_cancel, Nat.add_assoc, Nat.reduceAdd, ze_r8, ze_r24, ze_r40, ze_r400, ze_l8, ze_l16, ze_l24, ze_l40, ze_sub, ze_am1, ze_es, ze_en, ze_i64, ze_m64, ze_64i, ze_64m, ze_LltT, ze_LltF, ze_LleT, ze_LleF, ze_LeqT, ze_LeqF, ze_Lmlt, ze_Lltm, ze_Lmle, ze_Llem, ze_Lmeq, ze_Leqm, ze_Lmm, lN_add, ze_ch, ze_chd, ze_bt, ze_bf, ze_n0, ze_n1, ze_n2, ze_n3, ze_n4, ze_n5, ze_n6, ze_n7, ze_n8, ze_n9, ze_n10, ze_n11, ze_n12, ze_n13, ze_n14, ze_n15, ze_n16, ze_n17, ze_n18, ze_n19, ze_n20, ze_n21, ze_n22, ze_n23, ze_n24, ze_n25, ze_n26, ze_n27, ze_n28, ze_n29, ze_n30, ze_n31, ze_n32, ze_n33, ze_n34, ze_n35, ze_n36, ze_n37, ze_n38, ze_n39, ze_n40, ze_n48, ze_n63, ze_n64, ze_n65, ze_n80, ze_n100, ze_n128, ze_n200, ze_n255, ze_n300, ze_n320, ze_n384, ze_n400, ze_n512, ze_n1023, ze_n1600, ze_n6400, ze_n9600, ze_n32768, ze_n65535, ze_n65536, ze_n802, ze_n8191, ze_L0, ze_L1, ze_L2, ze_L3, ze_L4, ze_L5, ze_L6, ze_L7, ze_L8, ze_L9, ze_L10, ze_L15, ze_L16, ze_L24, ze_L40, ze_L48, ze_L63, ze_L64, ze_L127, ze_L255, ze_L400, ze_L1024, ze_L2047, ze_L65535, ze_gIs, ze_gIn, ze_gJs, ze_gJn, zd_gI2, zd_gJ1, ze_sII]
      · rw [ze_sIF _ _ _ _ (by decide), ze_sIF _ _ _ _ (by decide)]
    | some v =>
      rw [ec] at a1
      have a1 : zs_Planner_planConstant ⟨m, hm16⟩ (nI p) s = some (nI 0, zx_sI s 59 m p v) := a1
      have n1 := zp_note (zx_sI s 59 m p v) 0 (by decide) (nI p)
      rw [if_pos rfl] at n1
      rw [if_neg (fun z => by rw [ec] at z; cases z)] at ew
      refine ⟨zx_sI s 59 m p v, ?_, zp_fM_59 _ _ _, ze_sIF _ _ _ _ (by decide), fun q hq hn y => zp_mem_59 K hm hq _ hn y, by rw [ew]; exact ⟨fun _ => ⟨by rw [ze_gIn _ _ _ _ _ _ _ _ (by omega)]; exact s4, ze_gIn _ _ _ _ _ _ _ _ (by omega), fun z => absurd z hs, fun _ => by rw [ec]; exact congrArg some (ze_gIs _ _ _ _ _).symm⟩, fun z => absurd rfl z⟩⟩
      · simp (disch := omega) only [zs_Planner_planMethod_L119_body, zs_Planner_planMethod_J155, zs_Planner_planMethod_J184, hs, s4, a1, n1, ↓zd_bnd, ↓zy_bm, if_true, if_false, ite_true, ite_false, ↓reduceIte, Bool.false_eq_true, Bool.true_eq_false, eq_self, true_and, and_true, false_and, and_false, reduceCtorEq, decide_true, decide_false, not_true_eq_false, not_false_eq_true, ze_ltT, ze_ltF, ze_leT, ze_leF, ze_eqT, ze_eqF, ze_mlt, ze_ltm, ze_mle, ze_lem, ze_meq, ze_eqm, ze_mm, ze_mltm, ze_inT, ze_inF, ze_inM, ze_cl, ze_fin, ze_decT, ze_decF, Nat.reduceSub, Nat.reduceMul, nI_add, Nat.add_sub_cancel, Nat.add_assoc, Nat.reduceAdd, ze_r8, ze_r24, ze_r40, ze_r400, ze_l8, ze_l16, ze_l24, ze_l40, ze_sub, ze_am1, ze_es, ze_en, ze_i64, ze_m64, ze_64i, ze_64m, ze_LltT, ze_LltF, ze_LleT, ze_LleF, ze_LeqT, ze_LeqF, ze_Lmlt, ze_Lltm, ze_Lmle, ze_Llem, ze_Lmeq, ze_Leqm, ze_Lmm, lN_add, ze_ch, ze_chd, ze_bt, ze_bf, ze_n0, ze_n1, ze_n2, ze_n3, ze_n4, ze_n5, ze_n6, ze_n7, ze_n8, ze_n9, ze_n10, ze_n11, ze_n12, ze_n13, ze_n14, ze_n15, ze_n16, ze_n17, ze_n18, ze_n19, ze_n20, ze_n21, ze_n22, ze_n23, ze_n24, ze_n25, ze_n26, ze_n27, ze_n28, ze_n29, ze_n30, ze_n31, ze_n32, ze_n33, ze_n34, ze_n35, ze_n36, ze_n37, ze_n38, ze_n39, ze_n40, ze_n48, ze_n63, ze_n64, ze_n65, ze_n80, ze_n100, ze_n128, ze_n200, ze_n255, ze_n300, ze_n320, ze_n384, ze_n400, ze_n512, ze_n1023, ze_n1600, ze_n6400, ze_n9600, ze_n32768, ze_n65535, ze_n65536, ze_n802, ze_n8191, ze_L0, ze_L1, ze_L2, ze_L3, ze_L4, ze_L5, ze_L6, ze_L7, ze_L8, ze_L9, ze_L10, ze_L15, ze_L16, ze_L24, ze_L40, ze_L48, ze_L63, ze_L64, ze_L127, ze_L255, ze_L400, ze_L1024, ze_L2047, ze_L65535]
theorem zp_C_members {A : zd_A} {h0 h : zx_H} (H : zd_C A h0) (K : zd_ok A) {m : Nat} (hm : m < zd_M A) (hm16 : m < 16) (D : zd_kD h0 h) (N : zp_N A h) (R : zp_rok A m) (hi : h.1 54 m 6 = zp_ivx A m) (hf : h.1 16 0 4 = nI 0) : ∃ k, zs_Planner_planMethod_L119 ⟨m, hm16⟩ (decide (zd_srt A (zd_mt A m) = 4)) (nI (zp_nm A m)) (nI 0) h = some k ∧ zp_fM A m h k ∧ k.1 54 = h.1 54 ∧ (match zd_first (zp_qf A m) (zp_nm A m) with | none => k.1 16 0 4 = nI 0 ∧ k.1 16 0 6 = h.1 16 0 6 ∧ ∀ p, p < zp_nm A m → zp_mem A k m p | some p => k.1 16 0 4 = nI (zp_wq A m p) ∧ k.1 16 0 6 = nI p) := by
  have hT := zd_ok_T K
  have hme := zd_ok_m K m hm
  have hn8 : zp_nm A m ≤ 8 := by
    unfold zp_nm
    have := zd_ok_sz K (zd_mt A m) (by omega)
    have := zd_ok_sz K (zd_mf A m) (by omega)
    by_cases c : zd_srt A (zd_mt A m) = 4
    · rw [if_pos c]; omega
    · rw [if_neg c]; omega
  have hw8 : ∀ p, zp_wq A m p < 8 := fun p => by
    unfold zp_wq
    by_cases c : zd_srt A (zd_mt A m) = 4
    · rw [if_pos c]
      have := zp_w18 A m p
      have := zp_w28 A m p
      unfold zp_wp
      by_cases c1 : zp_w1 A m p = 0
      · rw [if_neg (fun z => z c1)]; omega
      · rw [if_pos c1]; omega
    · rw [if_neg c]
      by_cases c2 : zp_con A m (zd_nm A (zd_mf A m) p) = none
      · rw [if_pos c2]; omega
      · rw [if_neg c2]; omega
  have key : ∀ d p F (s : zx_H), p + d = zp_nm A m → d + 1 < F → (∀ q, q < p → zp_qf A m q = false) → zp_fM A m h s → s.1 54 = h.1 54 → s.1 16 0 4 = nI 0 → s.1 16 0 6 = h.1 16 0 6 → (∀ q, q < p → zp_mem A s m q) → ∃ k, zx_loop (fun _ _ _ _ _ => none) zs_Planner_planMethod_L119_body F (⟨m, hm16⟩ : Fin 16) (decide (zd_srt A (zd_mt A m) = 4)) (nI (zp_nm A m)) (nI p) s = some k ∧ zp_fM A m h k ∧ k.1 54 = h.1 54 ∧ (match zd_first (zp_qf A m) (zp_nm A m) with | none => k.1 16 0 4 = nI 0 ∧ k.1 16 0 6 = h.1 16 0 6 ∧ ∀ p, p < zp_nm A m → zp_mem A k m p | some p => k.1 16 0 4 = nI (zp_wq A m p) ∧ k.1 16 0 6 = nI p) := by
    intro d
    induction d with
    | zero =>
      intro p F s hp hF hq x x54 s4 s6 y
      obtain ⟨F, rfl⟩ : ∃ G, F = G + 1 := ⟨F - 1, by omega⟩
      have hp : p = zp_nm A m := hp
      refine ⟨s, ?_, x, x54, ?_⟩
      · show zs_Planner_planMethod_L119_body _ (⟨m, hm16⟩ : Fin 16) _ (nI (zp_nm A m)) (nI p) s = _
        simp (disch := omega) only [zs_Planner_planMethod_L119_body, hp, ↓zd_bnd, ↓zy_bm, if_true, if_false, ite_true, ite_false, ↓reduceIte, Bool.false_eq_true, Bool.true_eq_false, eq_self, true_and, and_true, false_and, and_false, reduceCtorEq, decide_true, decide_false, not_true_eq_false, not_false_eq_true, ze_ltT, ze_ltF, ze_leT, ze_leF, ze_eqT, ze_eqF, ze_mlt, ze_ltm, ze_mle, ze_lem, ze_meq, ze_eqm, ze_mm, ze_mltm, ze_inT, ze_inF, ze_inM, ze_cl, ze_fin, ze_decT, ze_decF, Nat.reduceSub, Nat.reduceMul, nI_add, Nat.add_sub_cancel, Nat.add_assoc, Nat.reduceAdd, ze_r8, ze_r24, ze_r40, ze_r400, ze_l8, ze_l16, ze_l24, ze_l40, ze_sub, ze_am1, ze_es, ze_en, ze_i64, ze_m64, ze_64i, ze_64m, ze_LltT, ze_LltF, ze_LleT, ze_LleF, ze_LeqT, ze_LeqF, ze_Lmlt, ze_Lltm, ze_Lmle, ze_Llem, ze_Lmeq, ze_Leqm, ze_Lmm, lN_add, ze_ch, ze_chd, ze_bt, ze_bf, ze_n0, ze_n1, ze_n2, ze_n3, ze_n4, ze_n5, ze_n6, ze_n7, ze_n8, ze_n9, ze_n10, ze_n11, ze_n12, ze_n13, ze_n14, ze_n15, ze_n16, ze_n17, ze_n18, ze_n19, ze_n20, ze_n21, ze_n22, ze_n23, ze_n24, ze_n25, ze_n26, ze_n27, ze_n28, ze_n29, ze_n30, ze_n31, ze_n32, ze_n33, ze_n34, ze_n35, ze_n36, ze_n37, ze_n38, ze_n39, ze_n40, ze_n48, ze_n63, ze_n64, ze_n65, ze_n80, ze_n100, ze_n128, ze_n200, ze_n255, ze_n300, ze_n320, ze_n384, ze_n400, ze_n512, ze_n1023, ze_n1600, ze_n6400, ze_n9600, ze_n32768, ze_n65535, ze_n65536, ze_n802, ze_n8191, ze_L0, ze_L1, ze_L2, ze_L3, ze_L4, ze_L5, ze_L6, ze_L7, ze_L8, ze_L9, ze_L10, ze_L15, ze_L16, ze_L24, ze_L40, ze_L48, ze_L63, ze_L64, ze_L127, ze_L255, ze_L400, ze_L1024, ze_L2047, ze_L65535]
      · rw [zd_first_none.mpr (fun q hq2 => hq q (by omega))]
        exact ⟨s4, s6, fun q hq2 => y q (by omega)⟩
    | succ d ih =>
      intro p F s hp hF hq x x54 s4 s6 y
      obtain ⟨F, rfl⟩ : ∃ G, F = G + 2 := ⟨F - 2, by omega⟩
      have D1 := zd_kD_trans D (zp_fM_kD x)
      obtain ⟨k, t1, t2, t3, t4, t5⟩ := zp_C_turn H K (p := p) hm hm16 (by omega) D1 (zp_fM_N x N) R (by rw [x54]; exact hi) s4 (zx_loop (fun _ _ _ _ _ => none) zs_Planner_planMethod_L119_body (F + 1))
      cases hc : zp_qf A m p with
      | false =>
        have e0 : zp_wq A m p = 0 := by
          unfold zp_qf at hc
          exact Classical.not_not.mp (of_decide_eq_false hc)
        have t5 := t5.1 e0
        obtain ⟨k2, f1, f2⟩ := ih (p + 1) (F + 1) k (by omega) (by omega) (fun q hq2 => by
          by_cases z : q = p
          · rw [z]; exact hc
          · exact hq q (by omega)) (zp_fM_trans x t2) (t3.trans x54) t5.1 (t5.2.1.trans s6) (fun q hq2 => by
          by_cases z : q = p
          · rw [z]; exact t5.2.2
          · exact t4 q (by omega) z (y q (by omega)))
        exact ⟨k2, t1.trans f1, f2⟩
      | true =>
        have e0 : zp_wq A m p ≠ 0 := by
          unfold zp_qf at hc
          exact of_decide_eq_true hc
        have t5 := t5.2 e0
        have h8 := hw8 p
        refine ⟨k, ?_, zp_fM_trans x t2, t3.trans x54, ?_⟩
        · refine Eq.trans t1 ?_
          show zs_Planner_planMethod_L119_body _ (⟨m, hm16⟩ : Fin 16) _ (nI (zp_nm A m)) (nI (p + 1)) k = _
          by_cases z : zp_nm A m ≤ p + 1
          · simp (disch := omega) only [zs_Planner_planMethod_L119_body, ↓zd_bnd, ↓zy_bm, if_true, if_false, ite_true, ite_false, ↓reduceIte, Bool.false_eq_true, Bool.true_eq_false, eq_self, true_and, and_true, false_and, and_false, reduceCtorEq, decide_true, decide_false, not_true_eq_false, not_false_eq_true, ze_ltT, ze_ltF, ze_leT, ze_leF, ze_eqT, ze_eqF, ze_mlt, ze_ltm, ze_mle, ze_lem, ze_meq, ze_eqm, ze_mm, ze_mltm, ze_inT, ze_inF, ze_inM, ze_cl, ze_fin, ze_decT, ze_decF, Nat.reduceSub, Nat.reduceMul, nI_add, Nat.add_sub_cancel, Nat.add_assoc, Nat.reduceAdd, ze_r8, ze_r24, ze_r40, ze_r400, ze_l8, ze_l16, ze_l24, ze_l40, ze_sub, ze_am1, ze_es, ze_en, ze_i64, ze_m64, ze_64i, ze_64m, ze_LltT, ze_LltF, ze_LleT, ze_LleF, ze_LeqT, ze_LeqF, ze_Lmlt, ze_Lltm, ze_Lmle, ze_Llem, ze_Lmeq, ze_Leqm, ze_Lmm, lN_add, ze_ch, ze_chd, ze_bt, ze_bf, ze_n0, ze_n1, ze_n2, ze_n3, ze_n4, ze_n5, ze_n6, ze_n7, ze_n8, ze_n9, ze_n10, ze_n11, ze_n12, ze_n13, ze_n14, ze_n15, ze_n16, ze_n17, ze_n18, ze_n19, ze_n20, ze_n21, ze_n22, ze_n23, ze_n24, ze_n25, ze_n26, ze_n27, ze_n28, ze_n29, ze_n30, ze_n31, ze_n32, ze_n33, ze_n34, ze_n35, ze_n36, ze_n37, ze_n38, ze_n39, ze_n40, ze_n48, ze_n63, ze_n64, ze_n65, ze_n80, ze_n100, ze_n128, ze_n200, ze_n255, ze_n300, ze_n320, ze_n384, ze_n400, ze_n512, ze_n1023, ze_n1600, ze_n6400, ze_n9600, ze_n32768, ze_n65535, ze_n65536, ze_n802, ze_n8191, ze_L0, ze_L1, ze_L2, ze_L3, ze_L4, ze_L5, ze_L6, ze_L7, ze_L8, ze_L9, ze_L10, ze_L15, ze_L16, ze_L24, ze_L40, ze_L48, ze_L63, ze_L64, ze_L127, ze_L255, ze_L400, ze_L1024, ze_L2047, ze_L65535]
          · simp (disch := omega) only [zs_Planner_planMethod_L119_body, t5.1, ↓zd_bnd, ↓zy_bm, if_true, if_false, ite_true, ite_false, ↓reduceIte, Bool.false_eq_true, Bool.true_eq_false, eq_self, true_and, and_true, false_and, and_false, reduceCtorEq, decide_true, decide_false, not_true_eq_false, not_false_eq_true, ze_ltT, ze_ltF, ze_leT, ze_leF, ze_eqT, ze_eqF, ze_mlt, ze_ltm, ze_mle, ze_lem, ze_meq, ze_eqm, ze_mm, ze_mltm, ze_inT, ze_inF, ze_inM, ze_cl, ze_fin, ze_decT, ze_decF, Nat.reduceSub, Nat.reduceMul, nI_add, Nat.add_sub_cancel, Nat.add_assoc, Nat.reduceAdd, ze_r8, ze_r24, ze_r40, ze_r400, ze_l8, ze_l16, ze_l24, ze_l40, ze_sub, ze_am1, ze_es, ze_en, ze_i64, ze_m64, ze_64i, ze_64m, ze_LltT, ze_LltF, ze_LleT, ze_LleF, ze_LeqT, ze_LeqF, ze_Lmlt, ze_Lltm, ze_Lmle, ze_Llem, ze_Lmeq, ze_Leqm, ze_Lmm, lN_add, ze_ch, ze_chd, ze_bt, ze_bf, ze_n0, ze_n1, ze_n2, ze_n3, ze_n4, ze_n5, ze_n6, ze_n7, ze_n8, ze_n9, ze_n10, ze_n11, ze_n12, ze_n13, ze_n14, ze_n15, ze_n16, ze_n17, ze_n18, ze_n19, ze_n20, ze_n21, ze_n22, ze_n23, ze_n24, ze_n25, ze_n26, ze_n27, ze_n28, ze_n29, ze_n30, ze_n31, ze_n32, ze_n33, ze_n34, ze_n35, ze_n36, ze_n37, ze_n38, ze_n39, ze_n40, ze_n48, ze_n63, ze_n64, ze_n65, ze_n80, ze_n100, ze_n128, ze_n200, ze_n255, ze_n300, ze_n320, ze_n384, ze_n400, ze_n512, ze_n1023, ze_n1600, ze_n6400, ze_n9600, ze_n32768, ze_n65535, ze_n65536, ze_n802, ze_n8191, ze_L0, ze_L1, ze_L2, ze_L3, ze_L4, ze_L5, ze_L6, ze_L7, ze_L8, ze_L9, ze_L10, ze_L15, ze_L16, ze_L24, ze_L40, ze_L48, ze_L63, ze_L64, ze_L127, ze_L255, ze_L400, ze_L1024, ze_L2047, ze_L65535]
        · rw [zd_first_some.mpr ⟨by omega, hc, hq⟩]
          exact t5
  exact key (zp_nm A m) 0 zx_fuel h (by omega) (by unfold zx_fuel; omega) (fun q hq => absurd hq (Nat.not_lt_zero q)) (zp_fM_refl A m h) rfl hf rfl (fun q hq => absurd hq (Nat.not_lt_zero q))
