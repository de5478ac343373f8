/-! a value by its way: same, table, function -/
theorem zp_uq_c (c : Nat → Bool) (b : Nat) (hb : 2 ≤ b) : ∀ n, b ≤ zp_uq c b n → c (zp_uq c b n - b) = true ∧ zp_uq c b n < b + n := by
  intro n
  induction n with
  | zero => intro h; have h : b ≤ 0 := h; omega
  | succ n ih =>
    intro h
    rw [zp_uq_s] at h ⊢
    by_cases c1 : c n = true
    · rw [if_pos c1] at h ⊢
      by_cases c2 : zp_uq c b n = 0
      · rw [if_pos c2] at h ⊢
        rw [Nat.add_sub_cancel_left]
        exact ⟨c1, by omega⟩
      · rw [if_neg c2] at h; omega
    · rw [if_neg c1] at h ⊢
      have := ih h
      exact ⟨this.1, by omega⟩
theorem zm_way {A : zd_A} (K : zd_ok A) {a b : Nat} (hw : 2 ≤ zp_one A a b) : (zp_one A a b = 2 ∧ a = b) ∨ (zp_one A a b = 3 ∧ zp_cv A a b = true) ∨ zp_one A a b = 4 ∨ (∃ f, f < zd_F A ∧ zp_one A a b = 100 + f ∧ zd_ff A f = a ∧ zd_ft A f = b) ∨ (∃ m, m < zd_M A ∧ zp_one A a b = 200 + m ∧ zd_mf A m = a ∧ zd_mt A m = b) ∨ (∃ f, f < zd_F A ∧ zp_one A a b = 300 + f ∧ zp_cv A a (zd_ff A f) = true ∧ zd_ft A f = b) := by
  rw [zp_one_eq] at hw ⊢
  by_cases c0 : a = b
  · rw [if_pos c0]; exact Or.inl ⟨rfl, c0⟩
  · rw [if_neg c0] at hw ⊢
    by_cases c1 : zp_fw A a b false ≠ 0
    · rw [if_pos c1] at hw ⊢
      have r := zp_fw_f_rng A a b
      have q := zp_uq_c (zp_fc A a b false) 100 (by decide) (zd_F A) (by rw [← zp_fw_f]; omega)
      rw [← zp_fw_f] at q
      refine Or.inr (Or.inr (Or.inr (Or.inl ⟨zp_fw A a b false - 100, by omega, by omega, ?_⟩)))
      have e := q.1
      unfold zp_fc at e
      simp only [Bool.and_eq_true, decide_eq_true_eq, if_false, Bool.false_eq_true] at e
      exact ⟨e.2.2, e.1⟩
    · rw [if_neg c1] at hw ⊢
      by_cases c2 : zp_mw A a b ≠ 0
      · rw [if_pos c2] at hw ⊢
        have r := zp_mw_rng A a b
        have q := zp_uq_c (zp_mc A a b) 200 (by decide) (zd_M A) (show 200 ≤ zp_mw A a b by omega)
        have q : zp_mc A a b (zp_mw A a b - 200) = true ∧ zp_mw A a b < 200 + zd_M A := q
        refine Or.inr (Or.inr (Or.inr (Or.inr (Or.inl ⟨zp_mw A a b - 200, by omega, by omega, ?_⟩))))
        have e := q.1
        unfold zp_mc at e
        simp only [Bool.and_eq_true, decide_eq_true_eq] at e
        exact e
      · rw [if_neg c2] at hw ⊢
        unfold zp_rest at hw ⊢
        by_cases c3 : zp_cv A a b = true
        · rw [if_pos c3]; exact Or.inr (Or.inl ⟨rfl, c3⟩)
        · rw [if_neg c3] at hw ⊢
          by_cases c4 : zp_fw A a b true ≠ 0
          · rw [if_pos c4] at hw ⊢
            have r := zp_fw_t_rng A a b
            have q := zp_uq_c (zp_fc A a b true) 300 (by decide) (zd_F A) (by rw [← zp_fw_t]; omega)
            rw [← zp_fw_t] at q
            refine Or.inr (Or.inr (Or.inr (Or.inr (Or.inr ⟨zp_fw A a b true - 300, by omega, by omega, ?_⟩))))
            have e := q.1
            unfold zp_fc at e
            simp only [Bool.and_eq_true, decide_eq_true_eq, if_true] at e
            exact ⟨e.2.2, e.1⟩
          · rw [if_neg c4] at hw ⊢
            by_cases c5 : zd_srt A a = 5 ∧ zd_srt A b = 5
            · rw [if_pos c5]; exact Or.inr (Or.inr (Or.inl rfl))
            · rw [if_neg c5] at hw; omega
/-- what a table converts -/
theorem zm_cv4 {A : zd_A} {a b : Nat} (h : zp_cv A a b = true) : (b < 14 ∧ (a < 14 ∨ a = 14 ∧ zp_kd b ≠ 6)) ∨ (b = 14 ∧ (a < 14 ∨ zd_srt A a = 3)) ∨ (a = 14 ∧ b ≠ 14 ∧ zd_srt A b = 3) := by
  unfold zp_cv at h
  have kd : ∀ t, zp_wh t = true → t < 14 ∧ zp_kd t ≠ 6 := by
    intro t ht
    unfold zp_wh at ht
    simp only [Bool.and_eq_true, decide_eq_true_eq, Bool.not_eq_true', decide_eq_false_iff_not] at ht
    refine ⟨ht.1, ?_⟩
    unfold zp_kd
    split <;> omega
  by_cases c1 : a < 14 ∧ b < 14
  · exact Or.inl ⟨c1.2, Or.inl c1.1⟩
  · rw [if_neg c1] at h
    by_cases c2 : b = 14
    · rw [if_pos c2] at h
      simp only [Bool.or_eq_true, decide_eq_true_eq] at h
      exact Or.inr (Or.inl ⟨c2, h.elim (fun z => Or.inl (kd _ z).1) Or.inr⟩)
    · rw [if_neg c2] at h
      simp only [Bool.and_eq_true, Bool.or_eq_true, decide_eq_true_eq] at h
      obtain ⟨ha, h⟩ := h
      rcases h with z | z
      · exact Or.inl ⟨(kd _ z).1, Or.inr ⟨ha, (kd _ z).2⟩⟩
      · exact Or.inr (Or.inr ⟨ha, c2, z⟩)
theorem zm_Cnul {A : zd_A} {h0 s : zx_H} {n : Nat} (b : Nat) : zm_CX A h0 n s (some (zg_emp b, none)) (some (zg_emp b, s)) := rfl
theorem zm_Rnul {A : zd_A} {h0 s : zx_H} {n : Nat} (X : zm_R A h0 s n) (b : Nat) : zm_RX A h0 n s (some (zg_emp b, none)) (some (zg_emp b, s)) := ⟨s, rfl, zd_gR_refl _ s, X.2.1⟩
/-- the reference's conversion of a value that is there, without what lists do -/
def zm_J43 (a b : Nat) (v : Int64) (k : zx_H) : Option (Int64 × zx_H) := (zs_Ref_converted (nI a) (nI b) v k).bind (fun r10 => ((zs_Ref_isAmount (nI b) r10.2).bind (fun r11 => (if r11 = true then ((zs_Ref_boxed (nI b) r10.1 r10.2).bind (fun r12 => (some (r12.1, r12.2)))) else (some (r10.1, r10.2))))))
theorem zm_table {A : zd_A} {hc hr : zx_H} (HC : zd_C A hc) (HR : zd_R A hr) (K : zd_ok A) {s k : zx_H} {n : Nat} (X : zm_C A hc s n) (Y : zm_R A hr k n) (f0 : s.1 23 0 2 = nI 0) (g0 : k.1 24 0 37 = nI 0) {a b : Nat} (ha : a < zd_T A) (hb : b < zd_T A) (hcv : zp_cv A a b = true) {v : Int64} (hv : zd_val A a v) (hn : ¬ zm_nul a v) : ∃ x, zm_CX A hc n s x (zs_Converter_byTable (nI a) (nI b) v s) ∧ zm_RX A hr n k x (zm_J43 a b v k) ∧ zm_fit A n b x := by
  have hT := zd_ok_T K
  have hO := zd_ok_O K
  have en := zm_C_nulF hn (by omega) s
  unfold zm_J43
  rcases zm_cv4 hcv with ⟨h1, h2⟩ | ⟨rfl, h2⟩ | ⟨rfl, h1, h2⟩
  · obtain ⟨x, e1, e2, e3⟩ := zm_plain HC HR K X Y f0 g0 h1 h2 hv hn
    refine ⟨zm_bb n b x, ?_, ?_, zm_bb_fit K h1 e3⟩
    · have r := zm_C_bb HC K X f0 h1 e1
      have hs : ¬ zd_srt A b = 3 := fun z => by have := zm_cst3 K z hb; omega
      have g : zs_Converter_byTable (nI a) (nI b) v s = (zs_Converter_plain (nI a) v (nI (zp_kd b)) s).bind (fun q => zs_Converter_boxed (nI b) q.1 q.2) := by
        simp (disch := omega) only [zs_Converter_byTable, en, zm_C_isEnum HC K X hb, hs, zm_kindC b h1, zm_bind, ↓zd_bnd, ↓zy_bm, if_true, if_false, ite_true, ite_false, ↓reduceIte, Bool.false_eq_true, Bool.true_eq_false, eq_self, true_and, and_true, false_and, and_false, reduceCtorEq, decide_true, decide_false, not_true_eq_false, not_false_eq_true, ze_ltT, ze_ltF, ze_leT, ze_leF, ze_eqT, ze_eqF, ze_mlt, ze_ltm, ze_mle, ze_lem, ze_meq, ze_eqm, ze_mm, ze_mltm, ze_inT, ze_inF, ze_inM, ze_cl, ze_fin, ze_decT, ze_decF, Nat.reduceSub, Nat.reduceMul, nI_add, Nat.add_sub_cancel, Nat.add_assoc, Nat.reduceAdd, ze_r8, ze_r24, ze_r40, ze_r400, ze_l8, ze_l16, ze_l24, ze_l40, ze_sub, ze_am1, ze_es, ze_en, ze_i64, ze_m64, ze_64i, ze_64m, ze_LltT, ze_LltF, ze_LleT, ze_LleF, ze_LeqT, ze_LeqF, ze_Lmlt, ze_Lltm, ze_Lmle, ze_Llem, ze_Lmeq, ze_Leqm, ze_Lmm, lN_add, ze_ch, ze_chd, ze_bt, ze_bf, ze_n0, ze_n1, ze_n2, ze_n3, ze_n4, ze_n5, ze_n6, ze_n7, ze_n8, ze_n9, ze_n10, ze_n11, ze_n12, ze_n13, ze_n14, ze_n15, ze_n16, ze_n17, ze_n18, ze_n19, ze_n20, ze_n21, ze_n22, ze_n23, ze_n24, ze_n25, ze_n26, ze_n27, ze_n28, ze_n29, ze_n30, ze_n31, ze_n32, ze_n33, ze_n34, ze_n35, ze_n36, ze_n37, ze_n38, ze_n39, ze_n40, ze_n48, ze_n63, ze_n64, ze_n65, ze_n80, ze_n100, ze_n128, ze_n200, ze_n255, ze_n300, ze_n320, ze_n384, ze_n400, ze_n512, ze_n1023, ze_n1600, ze_n6400, ze_n9600, ze_n32768, ze_n65535, ze_n65536, ze_n802, ze_n8191, ze_L0, ze_L1, ze_L2, ze_L3, ze_L4, ze_L5, ze_L6, ze_L7, ze_L8, ze_L9, ze_L10, ze_L15, ze_L16, ze_L24, ze_L40, ze_L48, ze_L63, ze_L64, ze_L127, ze_L255, ze_L400, ze_L1024, ze_L2047, ze_L65535]
        cases zs_Converter_plain (nI a) v (nI (zp_kd b)) s with
        | none => rfl
        | some q => cases e9 : zs_Converter_boxed (nI b) q.1 q.2 <;> simp only [e9]
      rw [g]; exact r
    · have r := zm_R_bb HR K Y g0 h1 e2
      have g : (zs_Ref_converted (nI a) (nI b) v k).bind (fun r10 => ((zs_Ref_isAmount (nI b) r10.2).bind (fun r11 => (if r11 = true then ((zs_Ref_boxed (nI b) r10.1 r10.2).bind (fun r12 => (some (r12.1, r12.2)))) else (some (r10.1, r10.2)))))) = (zs_Ref_converted (nI a) (nI b) v k).bind (fun q => zs_Ref_boxed (nI b) q.1 q.2) := by
        cases zs_Ref_converted (nI a) (nI b) v k with
        | none => rfl
        | some q =>
          show ((zs_Ref_isAmount (nI b) q.2).bind _) = zs_Ref_boxed (nI b) q.1 q.2
          rw [zm_amt h1]
          exact zm_bind _
      rw [g]; exact r
  · have ok := zm_vt_ok K ha h2 hv hn
    refine ⟨zm_tX n (zm_vt A a v).1 (zm_vt A a v).2, zm_C_text HC K X f0 ha h2 hv hn, ?_, zm_tX_fit K ok.1 ok.2⟩
    have r := zm_R_text HR K Y g0 ha h2 hv hn
    have g : (zs_Ref_converted (nI a) (nI 14) v k).bind (fun r10 => ((zs_Ref_isAmount (nI 14) r10.2).bind (fun r11 => (if r11 = true then ((zs_Ref_boxed (nI 14) r10.1 r10.2).bind (fun r12 => (some (r12.1, r12.2)))) else (some (r10.1, r10.2)))))) = zs_Ref_converted (nI a) (nI 14) v k := by
      cases zs_Ref_converted (nI a) (nI 14) v k with
      | none => rfl
      | some q =>
        have e14 := zm_amtF (t := 14) (by omega) (by omega) q.2
        simp only [Option.bind, e14]
        rfl
    rw [g]; exact r
  · have hs2 := zd_ok_s2 K
    have h15 := zm_cst3 K h2 hb
    obtain ⟨o, h3, h4, rfl⟩ := zm_obj K (by omega) (by omega) hv hn
    refine ⟨zm_cx A o b, ?_, ?_, zm_cx_fit K hb h2⟩
    · have r := zm_C_const HC K X h3 h4 hb
      have g : zs_Converter_byTable (nI 14) (nI b) (lN o) s = zs_Converter_constantOf (nI b) (nI o) s := by
        simp (disch := omega) only [zs_Converter_byTable, en, zm_C_isEnum HC K X hb, h2, ↓zd_bnd, ↓zy_bm, if_true, if_false, ite_true, ite_false, ↓reduceIte, Bool.false_eq_true, Bool.true_eq_false, eq_self, true_and, and_true, false_and, and_false, reduceCtorEq, decide_true, decide_false, not_true_eq_false, not_false_eq_true, ze_ltT, ze_ltF, ze_leT, ze_leF, ze_eqT, ze_eqF, ze_mlt, ze_ltm, ze_mle, ze_lem, ze_meq, ze_eqm, ze_mm, ze_mltm, ze_inT, ze_inF, ze_inM, ze_cl, ze_fin, ze_decT, ze_decF, Nat.reduceSub, Nat.reduceMul, nI_add, Nat.add_sub_cancel, Nat.add_assoc, Nat.reduceAdd, ze_r8, ze_r24, ze_r40, ze_r400, ze_l8, ze_l16, ze_l24, ze_l40, ze_sub, ze_am1, ze_es, ze_en, ze_i64, ze_m64, ze_64i, ze_64m, ze_LltT, ze_LltF, ze_LleT, ze_LleF, ze_LeqT, ze_LeqF, ze_Lmlt, ze_Lltm, ze_Lmle, ze_Llem, ze_Lmeq, ze_Leqm, ze_Lmm, lN_add, ze_ch, ze_chd, ze_bt, ze_bf, ze_n0, ze_n1, ze_n2, ze_n3, ze_n4, ze_n5, ze_n6, ze_n7, ze_n8, ze_n9, ze_n10, ze_n11, ze_n12, ze_n13, ze_n14, ze_n15, ze_n16, ze_n17, ze_n18, ze_n19, ze_n20, ze_n21, ze_n22, ze_n23, ze_n24, ze_n25, ze_n26, ze_n27, ze_n28, ze_n29, ze_n30, ze_n31, ze_n32, ze_n33, ze_n34, ze_n35, ze_n36, ze_n37, ze_n38, ze_n39, ze_n40, ze_n48, ze_n63, ze_n64, ze_n65, ze_n80, ze_n100, ze_n128, ze_n200, ze_n255, ze_n300, ze_n320, ze_n384, ze_n400, ze_n512, ze_n1023, ze_n1600, ze_n6400, ze_n9600, ze_n32768, ze_n65535, ze_n65536, ze_n802, ze_n8191, ze_L0, ze_L1, ze_L2, ze_L3, ze_L4, ze_L5, ze_L6, ze_L7, ze_L8, ze_L9, ze_L10, ze_L15, ze_L16, ze_L24, ze_L40, ze_L48, ze_L63, ze_L64, ze_L127, ze_L255, ze_L400, ze_L1024, ze_L2047, ze_L65535]
        cases zs_Converter_constantOf (nI b) (nI o) s <;> rfl
      rw [g]; exact r
    · have r := zm_R_const HR K Y g0 h3 h4 hb
      have g1 : zs_Ref_converted (nI 14) (nI b) (lN o) k = zs_Ref_constant (nI o) (nI b) k := by
        simp (disch := omega) only [zs_Ref_converted, zs_Ref_converted_J32, zm_amtF (t := 14) (by omega) (by omega), zm_amtF (t := b) (by omega) (by omega), ↓zd_bnd, ↓zy_bm, if_true, if_false, ite_true, ite_false, ↓reduceIte, Bool.false_eq_true, Bool.true_eq_false, eq_self, true_and, and_true, false_and, and_false, reduceCtorEq, decide_true, decide_false, not_true_eq_false, not_false_eq_true, ze_ltT, ze_ltF, ze_leT, ze_leF, ze_eqT, ze_eqF, ze_mlt, ze_ltm, ze_mle, ze_lem, ze_meq, ze_eqm, ze_mm, ze_mltm, ze_inT, ze_inF, ze_inM, ze_cl, ze_fin, ze_decT, ze_decF, Nat.reduceSub, Nat.reduceMul, nI_add, Nat.add_sub_cancel, Nat.add_assoc, Nat.reduceAdd, ze_r8, ze_r24, ze_r40, ze_r400, ze_l8, ze_l16, ze_l24, ze_l40, ze_sub, ze_am1, ze_es, ze_en, ze_i64, ze_m64, ze_64i, ze_64m, ze_LltT, ze_LltF, ze_LleT, ze_LleF, ze_LeqT, ze_LeqF, ze_Lmlt, ze_Lltm, ze_Lmle, ze_Llem, ze_Lmeq, ze_Leqm, ze_Lmm, lN_add, ze_ch, ze_chd, ze_bt, ze_bf, ze_n0, ze_n1, ze_n2, ze_n3, ze_n4, ze_n5, ze_n6, ze_n7, ze_n8, ze_n9, ze_n10, ze_n11, ze_n12, ze_n13, ze_n14, ze_n15, ze_n16, ze_n17, ze_n18, ze_n19, ze_n20, ze_n21, ze_n22, ze_n23, ze_n24, ze_n25, ze_n26, ze_n27, ze_n28, ze_n29, ze_n30, ze_n31, ze_n32, ze_n33, ze_n34, ze_n35, ze_n36, ze_n37, ze_n38, ze_n39, ze_n40, ze_n48, ze_n63, ze_n64, ze_n65, ze_n80, ze_n100, ze_n128, ze_n200, ze_n255, ze_n300, ze_n320, ze_n384, ze_n400, ze_n512, ze_n1023, ze_n1600, ze_n6400, ze_n9600, ze_n32768, ze_n65535, ze_n65536, ze_n802, ze_n8191, ze_L0, ze_L1, ze_L2, ze_L3, ze_L4, ze_L5, ze_L6, ze_L7, ze_L8, ze_L9, ze_L10, ze_L15, ze_L16, ze_L24, ze_L40, ze_L48, ze_L63, ze_L64, ze_L127, ze_L255, ze_L400, ze_L1024, ze_L2047, ze_L65535]
        cases zs_Ref_constant (nI o) (nI b) k <;> rfl
      rw [g1]
      have g : (zs_Ref_constant (nI o) (nI b) k).bind (fun r10 => ((zs_Ref_isAmount (nI b) r10.2).bind (fun r11 => (if r11 = true then ((zs_Ref_boxed (nI b) r10.1 r10.2).bind (fun r12 => (some (r12.1, r12.2)))) else (some (r10.1, r10.2)))))) = zs_Ref_constant (nI o) (nI b) k := by
        cases zs_Ref_constant (nI o) (nI b) k with
        | none => rfl
        | some q =>
          show ((zs_Ref_isAmount (nI b) q.2).bind _) = some q
          rw [zm_amtF (by omega) (by omega)]
          rfl
      rw [g]; exact r
theorem zm_d16 : ∀ f, f < 16 → nI (16 + f) / nI 16 = nI 1 ∧ nI (16 + f) - nI 1 * nI 16 = nI f ∧ nI (32 + f) / nI 16 = nI 2 ∧ nI (32 + f) - nI 2 * nI 16 = nI f := by decide +kernel
theorem zm_d48 : nI 48 / nI 16 = nI 3 ∧ nI 64 / nI 16 = nI 4 ∧ nI 0 / nI 16 = nI 0 := by decide
theorem zm_bc_fun {f : Nat} (hf : f < 8) (a : Nat) (b : Int32) (v : Int64) (s : zx_H) : zs_Mapper_become (nI (16 + f)) (nI a) b v s = zs_Converter_byFunction ⟨f, hf⟩ (nI a) v s := by
  obtain ⟨h1, h2, _⟩ := zm_d16 f (by omega)
  simp (disch := omega) only [zs_Mapper_become, h1, h2, zm_bind, ↓zd_bnd, ↓zy_bm, if_true, if_false, ite_true, ite_false, ↓reduceIte, Bool.false_eq_true, Bool.true_eq_false, eq_self, true_and, and_true, false_and, and_false, reduceCtorEq, decide_true, decide_false, not_true_eq_false, not_false_eq_true, ze_ltT, ze_ltF, ze_leT, ze_leF, ze_eqT, ze_eqF, ze_mlt, ze_ltm, ze_mle, ze_lem, ze_meq, ze_eqm, ze_mm, ze_mltm, ze_inT, ze_inF, ze_inM, ze_cl, ze_fin, ze_decT, ze_decF, Nat.reduceSub, Nat.reduceMul, nI_add, Nat.add_sub_cancel, Nat.add_assoc, Nat.reduceAdd, ze_r8, ze_r24, ze_r40, ze_r400, ze_l8, ze_l16, ze_l24, ze_l40, ze_sub, ze_am1, ze_es, ze_en, ze_i64, ze_m64, ze_64i, ze_64m, ze_LltT, ze_LltF, ze_LleT, ze_LleF, ze_LeqT, ze_LeqF, ze_Lmlt, ze_Lltm, ze_Lmle, ze_Llem, ze_Lmeq, ze_Leqm, ze_Lmm, lN_add, ze_ch, ze_chd, ze_bt, ze_bf, ze_n0, ze_n1, ze_n2, ze_n3, ze_n4, ze_n5, ze_n6, ze_n7, ze_n8, ze_n9, ze_n10, ze_n11, ze_n12, ze_n13, ze_n14, ze_n15, ze_n16, ze_n17, ze_n18, ze_n19, ze_n20, ze_n21, ze_n22, ze_n23, ze_n24, ze_n25, ze_n26, ze_n27, ze_n28, ze_n29, ze_n30, ze_n31, ze_n32, ze_n33, ze_n34, ze_n35, ze_n36, ze_n37, ze_n38, ze_n39, ze_n40, ze_n48, ze_n63, ze_n64, ze_n65, ze_n80, ze_n100, ze_n128, ze_n200, ze_n255, ze_n300, ze_n320, ze_n384, ze_n400, ze_n512, ze_n1023, ze_n1600, ze_n6400, ze_n9600, ze_n32768, ze_n65535, ze_n65536, ze_n802, ze_n8191, ze_L0, ze_L1, ze_L2, ze_L3, ze_L4, ze_L5, ze_L6, ze_L7, ze_L8, ze_L9, ze_L10, ze_L15, ze_L16, ze_L24, ze_L40, ze_L48, ze_L63, ze_L64, ze_L127, ze_L255, ze_L400, ze_L1024, ze_L2047, ze_L65535]
  cases zs_Converter_byFunction ⟨f, hf⟩ (nI a) v s <;> rfl
theorem zm_bc_met {m : Nat} (hm : m < 16) (a b : Int32) (v : Int64) (s : zx_H) : zs_Mapper_become (nI (32 + m)) a b v s = zs_Mapper_byMethod (nI m) v s := by
  obtain ⟨_, _, h1, h2⟩ := zm_d16 m hm
  simp (disch := omega) only [zs_Mapper_become, h1, h2, zm_bind, ↓zd_bnd, ↓zy_bm, if_true, if_false, ite_true, ite_false, ↓reduceIte, Bool.false_eq_true, Bool.true_eq_false, eq_self, true_and, and_true, false_and, and_false, reduceCtorEq, decide_true, decide_false, not_true_eq_false, not_false_eq_true, ze_ltT, ze_ltF, ze_leT, ze_leF, ze_eqT, ze_eqF, ze_mlt, ze_ltm, ze_mle, ze_lem, ze_meq, ze_eqm, ze_mm, ze_mltm, ze_inT, ze_inF, ze_inM, ze_cl, ze_fin, ze_decT, ze_decF, Nat.reduceSub, Nat.reduceMul, nI_add, Nat.add_sub_cancel, Nat.add_assoc, Nat.reduceAdd, ze_r8, ze_r24, ze_r40, ze_r400, ze_l8, ze_l16, ze_l24, ze_l40, ze_sub, ze_am1, ze_es, ze_en, ze_i64, ze_m64, ze_64i, ze_64m, ze_LltT, ze_LltF, ze_LleT, ze_LleF, ze_LeqT, ze_LeqF, ze_Lmlt, ze_Lltm, ze_Lmle, ze_Llem, ze_Lmeq, ze_Leqm, ze_Lmm, lN_add, ze_ch, ze_chd, ze_bt, ze_bf, ze_n0, ze_n1, ze_n2, ze_n3, ze_n4, ze_n5, ze_n6, ze_n7, ze_n8, ze_n9, ze_n10, ze_n11, ze_n12, ze_n13, ze_n14, ze_n15, ze_n16, ze_n17, ze_n18, ze_n19, ze_n20, ze_n21, ze_n22, ze_n23, ze_n24, ze_n25, ze_n26, ze_n27, ze_n28, ze_n29, ze_n30, ze_n31, ze_n32, ze_n33, ze_n34, ze_n35, ze_n36, ze_n37, ze_n38, ze_n39, ze_n40, ze_n48, ze_n63, ze_n64, ze_n65, ze_n80, ze_n100, ze_n128, ze_n200, ze_n255, ze_n300, ze_n320, ze_n384, ze_n400, ze_n512, ze_n1023, ze_n1600, ze_n6400, ze_n9600, ze_n32768, ze_n65535, ze_n65536, ze_n802, ze_n8191, ze_L0, ze_L1, ze_L2, ze_L3, ze_L4, ze_L5, ze_L6, ze_L7, ze_L8, ze_L9, ze_L10, ze_L15, ze_L16, ze_L24, ze_L40, ze_L48, ze_L63, ze_L64, ze_L127, ze_L255, ze_L400, ze_L1024, ze_L2047, ze_L65535]
  cases zs_Mapper_byMethod (nI m) v s <;> rfl
theorem zm_bc_tab (a b : Int32) (v : Int64) (s : zx_H) : zs_Mapper_become (nI 48) a b v s = zs_Converter_byTable a b v s := by
  have h1 := zm_d48.1
  simp (disch := omega) only [zs_Mapper_become, h1, zm_bind, ↓zd_bnd, ↓zy_bm, if_true, if_false, ite_true, ite_false, ↓reduceIte, Bool.false_eq_true, Bool.true_eq_false, eq_self, true_and, and_true, false_and, and_false, reduceCtorEq, decide_true, decide_false, not_true_eq_false, not_false_eq_true, ze_ltT, ze_ltF, ze_leT, ze_leF, ze_eqT, ze_eqF, ze_mlt, ze_ltm, ze_mle, ze_lem, ze_meq, ze_eqm, ze_mm, ze_mltm, ze_inT, ze_inF, ze_inM, ze_cl, ze_fin, ze_decT, ze_decF, Nat.reduceSub, Nat.reduceMul, nI_add, Nat.add_sub_cancel, Nat.add_assoc, Nat.reduceAdd, ze_r8, ze_r24, ze_r40, ze_r400, ze_l8, ze_l16, ze_l24, ze_l40, ze_sub, ze_am1, ze_es, ze_en, ze_i64, ze_m64, ze_64i, ze_64m, ze_LltT, ze_LltF, ze_LleT, ze_LleF, ze_LeqT, ze_LeqF, ze_Lmlt, ze_Lltm, ze_Lmle, ze_Llem, ze_Lmeq, ze_Leqm, ze_Lmm, lN_add, ze_ch, ze_chd, ze_bt, ze_bf, ze_n0, ze_n1, ze_n2, ze_n3, ze_n4, ze_n5, ze_n6, ze_n7, ze_n8, ze_n9, ze_n10, ze_n11, ze_n12, ze_n13, ze_n14, ze_n15, ze_n16, ze_n17, ze_n18, ze_n19, ze_n20, ze_n21, ze_n22, ze_n23, ze_n24, ze_n25, ze_n26, ze_n27, ze_n28, ze_n29, ze_n30, ze_n31, ze_n32, ze_n33, ze_n34, ze_n35, ze_n36, ze_n37, ze_n38, ze_n39, ze_n40, ze_n48, ze_n63, ze_n64, ze_n65, ze_n80, ze_n100, ze_n128, ze_n200, ze_n255, ze_n300, ze_n320, ze_n384, ze_n400, ze_n512, ze_n1023, ze_n1600, ze_n6400, ze_n9600, ze_n32768, ze_n65535, ze_n65536, ze_n802, ze_n8191, ze_L0, ze_L1, ze_L2, ze_L3, ze_L4, ze_L5, ze_L6, ze_L7, ze_L8, ze_L9, ze_L10, ze_L15, ze_L16, ze_L24, ze_L40, ze_L48, ze_L63, ze_L64, ze_L127, ze_L255, ze_L400, ze_L1024, ze_L2047, ze_L65535]
  cases zs_Converter_byTable a b v s <;> rfl
theorem zm_bc_list (a b : Int32) (v : Int64) (s : zx_H) : zs_Mapper_become (nI 64) a b v s = zs_Mapper_beginList b v s := by
  have h1 := zm_d48.2.1
  simp (disch := omega) only [zs_Mapper_become, h1, zm_bind, ↓zd_bnd, ↓zy_bm, if_true, if_false, ite_true, ite_false, ↓reduceIte, Bool.false_eq_true, Bool.true_eq_false, eq_self, true_and, and_true, false_and, and_false, reduceCtorEq, decide_true, decide_false, not_true_eq_false, not_false_eq_true, ze_ltT, ze_ltF, ze_leT, ze_leF, ze_eqT, ze_eqF, ze_mlt, ze_ltm, ze_mle, ze_lem, ze_meq, ze_eqm, ze_mm, ze_mltm, ze_inT, ze_inF, ze_inM, ze_cl, ze_fin, ze_decT, ze_decF, Nat.reduceSub, Nat.reduceMul, nI_add, Nat.add_sub_cancel, Nat.add_assoc, Nat.reduceAdd, ze_r8, ze_r24, ze_r40, ze_r400, ze_l8, ze_l16, ze_l24, ze_l40, ze_sub, ze_am1, ze_es, ze_en, ze_i64, ze_m64, ze_64i, ze_64m, ze_LltT, ze_LltF, ze_LleT, ze_LleF, ze_LeqT, ze_LeqF, ze_Lmlt, ze_Lltm, ze_Lmle, ze_Llem, ze_Lmeq, ze_Leqm, ze_Lmm, lN_add, ze_ch, ze_chd, ze_bt, ze_bf, ze_n0, ze_n1, ze_n2, ze_n3, ze_n4, ze_n5, ze_n6, ze_n7, ze_n8, ze_n9, ze_n10, ze_n11, ze_n12, ze_n13, ze_n14, ze_n15, ze_n16, ze_n17, ze_n18, ze_n19, ze_n20, ze_n21, ze_n22, ze_n23, ze_n24, ze_n25, ze_n26, ze_n27, ze_n28, ze_n29, ze_n30, ze_n31, ze_n32, ze_n33, ze_n34, ze_n35, ze_n36, ze_n37, ze_n38, ze_n39, ze_n40, ze_n48, ze_n63, ze_n64, ze_n65, ze_n80, ze_n100, ze_n128, ze_n200, ze_n255, ze_n300, ze_n320, ze_n384, ze_n400, ze_n512, ze_n1023, ze_n1600, ze_n6400, ze_n9600, ze_n32768, ze_n65535, ze_n65536, ze_n802, ze_n8191, ze_L0, ze_L1, ze_L2, ze_L3, ze_L4, ze_L5, ze_L6, ze_L7, ze_L8, ze_L9, ze_L10, ze_L15, ze_L16, ze_L24, ze_L40, ze_L48, ze_L63, ze_L64, ze_L127, ze_L255, ze_L400, ze_L1024, ze_L2047, ze_L65535]
  cases zs_Mapper_beginList b v s <;> rfl
theorem zm_bc_same (a b : Int32) (v : Int64) (s : zx_H) : zs_Mapper_become (nI 0) a b v s = some (v, s) := by
  have h1 := zm_d48.2.2
  simp (disch := omega) only [zs_Mapper_become, h1, ↓zd_bnd, ↓zy_bm, if_true, if_false, ite_true, ite_false, ↓reduceIte, Bool.false_eq_true, Bool.true_eq_false, eq_self, true_and, and_true, false_and, and_false, reduceCtorEq, decide_true, decide_false, not_true_eq_false, not_false_eq_true, ze_ltT, ze_ltF, ze_leT, ze_leF, ze_eqT, ze_eqF, ze_mlt, ze_ltm, ze_mle, ze_lem, ze_meq, ze_eqm, ze_mm, ze_mltm, ze_inT, ze_inF, ze_inM, ze_cl, ze_fin, ze_decT, ze_decF, Nat.reduceSub, Nat.reduceMul, nI_add, Nat.add_sub_cancel, Nat.add_assoc, Nat.reduceAdd, ze_r8, ze_r24, ze_r40, ze_r400, ze_l8, ze_l16, ze_l24, ze_l40, ze_sub, ze_am1, ze_es, ze_en, ze_i64, ze_m64, ze_64i, ze_64m, ze_LltT, ze_LltF, ze_LleT, ze_LleF, ze_LeqT, ze_LeqF, ze_Lmlt, ze_Lltm, ze_Lmle, ze_Llem, ze_Lmeq, ze_Leqm, ze_Lmm, lN_add, ze_ch, ze_chd, ze_bt, ze_bf, ze_n0, ze_n1, ze_n2, ze_n3, ze_n4, ze_n5, ze_n6, ze_n7, ze_n8, ze_n9, ze_n10, ze_n11, ze_n12, ze_n13, ze_n14, ze_n15, ze_n16, ze_n17, ze_n18, ze_n19, ze_n20, ze_n21, ze_n22, ze_n23, ze_n24, ze_n25, ze_n26, ze_n27, ze_n28, ze_n29, ze_n30, ze_n31, ze_n32, ze_n33, ze_n34, ze_n35, ze_n36, ze_n37, ze_n38, ze_n39, ze_n40, ze_n48, ze_n63, ze_n64, ze_n65, ze_n80, ze_n100, ze_n128, ze_n200, ze_n255, ze_n300, ze_n320, ze_n384, ze_n400, ze_n512, ze_n1023, ze_n1600, ze_n6400, ze_n9600, ze_n32768, ze_n65535, ze_n65536, ze_n802, ze_n8191, ze_L0, ze_L1, ze_L2, ze_L3, ze_L4, ze_L5, ze_L6, ze_L7, ze_L8, ze_L9, ze_L10, ze_L15, ze_L16, ze_L24, ze_L40, ze_L48, ze_L63, ze_L64, ze_L127, ze_L255, ze_L400, ze_L1024, ze_L2047, ze_L65535]
theorem zm_hw1 {A : zd_A} {a b : Nat} (h : 2 ≤ zp_hw A a b) : zp_hw A a b = zp_one A a b := (zp_how_or A 40 a b).resolve_left (fun z => by unfold zp_hw at h; omega)
/-- the ways of functions on the class's side -/
theorem zm_fnul {A : zd_A} (K : zd_ok A) {h0 s : zx_H} {n : Nat} (H : zd_C A h0) (X : zm_C A h0 s n) {f : Nat} (hf : f < zd_F A) (hf8 : f < 8) {a : Nat} (ha : a < 2147483648) {v : Int64} (hn : zm_nul a v) : zs_Converter_byFunction ⟨f, hf8⟩ (nI a) v s = some (zg_emp (zd_ft A f), s) := by
  have q := zm_fk K hf
  have c53 := (X.1.1 53 (by decide) (by decide)).1
  have e := zm_C_nulT hn ha s
  have e2 := zg_C_emptyOf s (t := zd_ft A f) (by omega)
  simp (disch := omega) only [zs_Converter_byFunction, e, c53, zd_C_ft H, e2, ↓zd_bnd, ↓zy_bm, if_true, if_false, ite_true, ite_false, ↓reduceIte, Bool.false_eq_true, Bool.true_eq_false, eq_self, true_and, and_true, false_and, and_false, reduceCtorEq, decide_true, decide_false, not_true_eq_false, not_false_eq_true, ze_ltT, ze_ltF, ze_leT, ze_leF, ze_eqT, ze_eqF, ze_mlt, ze_ltm, ze_mle, ze_lem, ze_meq, ze_eqm, ze_mm, ze_mltm, ze_inT, ze_inF, ze_inM, ze_cl, ze_fin, ze_decT, ze_decF, Nat.reduceSub, Nat.reduceMul, nI_add, Nat.add_sub_cancel, Nat.add_assoc, Nat.reduceAdd, ze_r8, ze_r24, ze_r40, ze_r400, ze_l8, ze_l16, ze_l24, ze_l40, ze_sub, ze_am1, ze_es, ze_en, ze_i64, ze_m64, ze_64i, ze_64m, ze_LltT, ze_LltF, ze_LleT, ze_LleF, ze_LeqT, ze_LeqF, ze_Lmlt, ze_Lltm, ze_Lmle, ze_Llem, ze_Lmeq, ze_Leqm, ze_Lmm, lN_add, ze_ch, ze_chd, ze_bt, ze_bf, ze_n0, ze_n1, ze_n2, ze_n3, ze_n4, ze_n5, ze_n6, ze_n7, ze_n8, ze_n9, ze_n10, ze_n11, ze_n12, ze_n13, ze_n14, ze_n15, ze_n16, ze_n17, ze_n18, ze_n19, ze_n20, ze_n21, ze_n22, ze_n23, ze_n24, ze_n25, ze_n26, ze_n27, ze_n28, ze_n29, ze_n30, ze_n31, ze_n32, ze_n33, ze_n34, ze_n35, ze_n36, ze_n37, ze_n38, ze_n39, ze_n40, ze_n48, ze_n63, ze_n64, ze_n65, ze_n80, ze_n100, ze_n128, ze_n200, ze_n255, ze_n300, ze_n320, ze_n384, ze_n400, ze_n512, ze_n1023, ze_n1600, ze_n6400, ze_n9600, ze_n32768, ze_n65535, ze_n65536, ze_n802, ze_n8191, ze_L0, ze_L1, ze_L2, ze_L3, ze_L4, ze_L5, ze_L6, ze_L7, ze_L8, ze_L9, ze_L10, ze_L15, ze_L16, ze_L24, ze_L40, ze_L48, ze_L63, ze_L64, ze_L127, ze_L255, ze_L400, ze_L1024, ze_L2047, ze_L65535]
theorem zm_simple {A : zd_A} {hc hr : zx_H} (HC : zd_C A hc) (HR : zd_R A hr) (K : zd_ok A) {s k : zx_H} {n : Nat} (X : zm_C A hc s n) (Y : zm_R A hr k n) (f0 : s.1 23 0 2 = nI 0) (g0 : k.1 24 0 37 = nI 0) {a b : Nat} (ha : a < zd_T A) (hb : b < zd_T A) (h2 : 2 ≤ zp_hw A a b) (h4 : zp_hw A a b ≠ 4) (hm : ¬ (200 ≤ zp_hw A a b ∧ zp_hw A a b < 300)) {v : Int64} (hv : zd_val A a v) : ∃ x, zm_CX A hc n s x (zs_Mapper_become (zp_cw (zp_hw A a b)) (nI a) (nI b) v s) ∧ zm_RX A hr n k x (zs_Ref_become (nI a) (nI b) v k) ∧ zm_fit A n b x := by
  have hT := zd_ok_T K
  have hF := zd_ok_F K
  have how := zm_R_how HR K Y ha hb
  have e1 := zm_hw1 h2
  have nulT := fun z : zm_nul a v => zm_R_nulT HR K Y ha z
  have nulF := fun z : ¬ zm_nul a v => zm_R_nulF HR K Y ha z
  have emp := zm_R_empty HR K Y hb
  rcases zm_way K (a := a) (b := b) (by omega) with ⟨hw, hab⟩ | ⟨hw, hcv⟩ | hw | ⟨f, hf, hw, hfa, hfb⟩ | ⟨m, _, hw, _⟩ | ⟨f, hf, hw, hfa, hfb⟩
  · subst hab
    rw [e1, hw] at how ⊢
    refine ⟨some (v, none), ?_, ?_, ?_⟩
    · rw [zp_cw2, zm_bc_same]; rfl
    · refine ⟨k, ?_, zd_gR_refl _ k, Y.2.1⟩
      rw [zp_rw2] at how
      simp (disch := omega) only [zs_Ref_become, how, ↓zd_bnd, ↓zy_bm, if_true, if_false, ite_true, ite_false, ↓reduceIte, Bool.false_eq_true, Bool.true_eq_false, eq_self, true_and, and_true, false_and, and_false, reduceCtorEq, decide_true, decide_false, not_true_eq_false, not_false_eq_true, ze_ltT, ze_ltF, ze_leT, ze_leF, ze_eqT, ze_eqF, ze_mlt, ze_ltm, ze_mle, ze_lem, ze_meq, ze_eqm, ze_mm, ze_mltm, ze_inT, ze_inF, ze_inM, ze_cl, ze_fin, ze_decT, ze_decF, Nat.reduceSub, Nat.reduceMul, nI_add, Nat.add_sub_cancel, Nat.add_assoc, Nat.reduceAdd, ze_r8, ze_r24, ze_r40, ze_r400, ze_l8, ze_l16, ze_l24, ze_l40, ze_sub, ze_am1, ze_es, ze_en, ze_i64, ze_m64, ze_64i, ze_64m, ze_LltT, ze_LltF, ze_LleT, ze_LleF, ze_LeqT, ze_LeqF, ze_Lmlt, ze_Lltm, ze_Lmle, ze_Llem, ze_Lmeq, ze_Leqm, ze_Lmm, lN_add, ze_ch, ze_chd, ze_bt, ze_bf, ze_n0, ze_n1, ze_n2, ze_n3, ze_n4, ze_n5, ze_n6, ze_n7, ze_n8, ze_n9, ze_n10, ze_n11, ze_n12, ze_n13, ze_n14, ze_n15, ze_n16, ze_n17, ze_n18, ze_n19, ze_n20, ze_n21, ze_n22, ze_n23, ze_n24, ze_n25, ze_n26, ze_n27, ze_n28, ze_n29, ze_n30, ze_n31, ze_n32, ze_n33, ze_n34, ze_n35, ze_n36, ze_n37, ze_n38, ze_n39, ze_n40, ze_n48, ze_n63, ze_n64, ze_n65, ze_n80, ze_n100, ze_n128, ze_n200, ze_n255, ze_n300, ze_n320, ze_n384, ze_n400, ze_n512, ze_n1023, ze_n1600, ze_n6400, ze_n9600, ze_n32768, ze_n65535, ze_n65536, ze_n802, ze_n8191, ze_L0, ze_L1, ze_L2, ze_L3, ze_L4, ze_L5, ze_L6, ze_L7, ze_L8, ze_L9, ze_L10, ze_L15, ze_L16, ze_L24, ze_L40, ze_L48, ze_L63, ze_L64, ze_L127, ze_L255, ze_L400, ze_L1024, ze_L2047, ze_L65535]
    · show if a < 7 then _ else _
      by_cases c : a < 7
      · rw [if_pos c]; exact (zn_val c v).mp hv
      · rw [if_neg c]; exact (zn_valO K (by omega) v).mp hv
  · rw [e1, hw] at how ⊢
    rw [zp_cw3, zm_bc_tab]
    rw [zp_rw3] at how
    by_cases hn : zm_nul a v
    · refine ⟨some (zg_emp b, none), ?_, ?_, zm_emp_fit A n b⟩
      · have e2 := zm_C_nulT hn (by omega) s
        have e3 := zg_C_emptyOf s (t := b) (by omega)
        simp (disch := omega) only [zs_Converter_byTable, e2, e3, ↓zd_bnd, ↓zy_bm, if_true, if_false, ite_true, ite_false, ↓reduceIte, Bool.false_eq_true, Bool.true_eq_false, eq_self, true_and, and_true, false_and, and_false, reduceCtorEq, decide_true, decide_false, not_true_eq_false, not_false_eq_true, ze_ltT, ze_ltF, ze_leT, ze_leF, ze_eqT, ze_eqF, ze_mlt, ze_ltm, ze_mle, ze_lem, ze_meq, ze_eqm, ze_mm, ze_mltm, ze_inT, ze_inF, ze_inM, ze_cl, ze_fin, ze_decT, ze_decF, Nat.reduceSub, Nat.reduceMul, nI_add, Nat.add_sub_cancel, Nat.add_assoc, Nat.reduceAdd, ze_r8, ze_r24, ze_r40, ze_r400, ze_l8, ze_l16, ze_l24, ze_l40, ze_sub, ze_am1, ze_es, ze_en, ze_i64, ze_m64, ze_64i, ze_64m, ze_LltT, ze_LltF, ze_LleT, ze_LleF, ze_LeqT, ze_LeqF, ze_Lmlt, ze_Lltm, ze_Lmle, ze_Llem, ze_Lmeq, ze_Leqm, ze_Lmm, lN_add, ze_ch, ze_chd, ze_bt, ze_bf, ze_n0, ze_n1, ze_n2, ze_n3, ze_n4, ze_n5, ze_n6, ze_n7, ze_n8, ze_n9, ze_n10, ze_n11, ze_n12, ze_n13, ze_n14, ze_n15, ze_n16, ze_n17, ze_n18, ze_n19, ze_n20, ze_n21, ze_n22, ze_n23, ze_n24, ze_n25, ze_n26, ze_n27, ze_n28, ze_n29, ze_n30, ze_n31, ze_n32, ze_n33, ze_n34, ze_n35, ze_n36, ze_n37, ze_n38, ze_n39, ze_n40, ze_n48, ze_n63, ze_n64, ze_n65, ze_n80, ze_n100, ze_n128, ze_n200, ze_n255, ze_n300, ze_n320, ze_n384, ze_n400, ze_n512, ze_n1023, ze_n1600, ze_n6400, ze_n9600, ze_n32768, ze_n65535, ze_n65536, ze_n802, ze_n8191, ze_L0, ze_L1, ze_L2, ze_L3, ze_L4, ze_L5, ze_L6, ze_L7, ze_L8, ze_L9, ze_L10, ze_L15, ze_L16, ze_L24, ze_L40, ze_L48, ze_L63, ze_L64, ze_L127, ze_L255, ze_L400, ze_L1024, ze_L2047, ze_L65535]
        rfl
      · refine ⟨k, ?_, zd_gR_refl _ k, Y.2.1⟩
        simp (disch := omega) only [zs_Ref_become, zs_Ref_become_J43, how, nulT hn, emp, ↓zd_bnd, ↓zy_bm, if_true, if_false, ite_true, ite_false, ↓reduceIte, Bool.false_eq_true, Bool.true_eq_false, eq_self, true_and, and_true, false_and, and_false, reduceCtorEq, decide_true, decide_false, not_true_eq_false, not_false_eq_true, ze_ltT, ze_ltF, ze_leT, ze_leF, ze_eqT, ze_eqF, ze_mlt, ze_ltm, ze_mle, ze_lem, ze_meq, ze_eqm, ze_mm, ze_mltm, ze_inT, ze_inF, ze_inM, ze_cl, ze_fin, ze_decT, ze_decF, Nat.reduceSub, Nat.reduceMul, nI_add, Nat.add_sub_cancel, Nat.add_assoc, Nat.reduceAdd, ze_r8, ze_r24, ze_r40, ze_r400, ze_l8, ze_l16, ze_l24, ze_l40, ze_sub, ze_am1, ze_es, ze_en, ze_i64, ze_m64, ze_64i, ze_64m, ze_LltT, ze_LltF, ze_LleT, ze_LleF, ze_LeqT, ze_LeqF, ze_Lmlt, ze_Lltm, ze_Lmle, ze_Llem, ze_Lmeq, ze_Leqm, ze_Lmm, lN_add, ze_ch, ze_chd, ze_bt, ze_bf, ze_n0, ze_n1, ze_n2, ze_n3, ze_n4, ze_n5, ze_n6, ze_n7, ze_n8, ze_n9, ze_n10, ze_n11, ze_n12, ze_n13, ze_n14, ze_n15, ze_n16, ze_n17, ze_n18, ze_n19, ze_n20, ze_n21, ze_n22, ze_n23, ze_n24, ze_n25, ze_n26, ze_n27, ze_n28, ze_n29, ze_n30, ze_n31, ze_n32, ze_n33, ze_n34, ze_n35, ze_n36, ze_n37, ze_n38, ze_n39, ze_n40, ze_n48, ze_n63, ze_n64, ze_n65, ze_n80, ze_n100, ze_n128, ze_n200, ze_n255, ze_n300, ze_n320, ze_n384, ze_n400, ze_n512, ze_n1023, ze_n1600, ze_n6400, ze_n9600, ze_n32768, ze_n65535, ze_n65536, ze_n802, ze_n8191, ze_L0, ze_L1, ze_L2, ze_L3, ze_L4, ze_L5, ze_L6, ze_L7, ze_L8, ze_L9, ze_L10, ze_L15, ze_L16, ze_L24, ze_L40, ze_L48, ze_L63, ze_L64, ze_L127, ze_L255, ze_L400, ze_L1024, ze_L2047, ze_L65535]
    · obtain ⟨x, t1, t2, t3⟩ := zm_table HC HR K X Y f0 g0 ha hb hcv hv hn
      refine ⟨x, t1, ?_, t3⟩
      have g : zs_Ref_become (nI a) (nI b) v k = zm_J43 a b v k := by
        unfold zm_J43
        simp (disch := omega) only [zs_Ref_become, zs_Ref_become_J43, how, nulF hn, ↓zd_bnd, ↓zy_bm, if_true, if_false, ite_true, ite_false, ↓reduceIte, Bool.false_eq_true, Bool.true_eq_false, eq_self, true_and, and_true, false_and, and_false, reduceCtorEq, decide_true, decide_false, not_true_eq_false, not_false_eq_true, ze_ltT, ze_ltF, ze_leT, ze_leF, ze_eqT, ze_eqF, ze_mlt, ze_ltm, ze_mle, ze_lem, ze_meq, ze_eqm, ze_mm, ze_mltm, ze_inT, ze_inF, ze_inM, ze_cl, ze_fin, ze_decT, ze_decF, Nat.reduceSub, Nat.reduceMul, nI_add, Nat.add_sub_cancel, Nat.add_assoc, Nat.reduceAdd, ze_r8, ze_r24, ze_r40, ze_r400, ze_l8, ze_l16, ze_l24, ze_l40, ze_sub, ze_am1, ze_es, ze_en, ze_i64, ze_m64, ze_64i, ze_64m, ze_LltT, ze_LltF, ze_LleT, ze_LleF, ze_LeqT, ze_LeqF, ze_Lmlt, ze_Lltm, ze_Lmle, ze_Llem, ze_Lmeq, ze_Leqm, ze_Lmm, lN_add, ze_ch, ze_chd, ze_bt, ze_bf, ze_n0, ze_n1, ze_n2, ze_n3, ze_n4, ze_n5, ze_n6, ze_n7, ze_n8, ze_n9, ze_n10, ze_n11, ze_n12, ze_n13, ze_n14, ze_n15, ze_n16, ze_n17, ze_n18, ze_n19, ze_n20, ze_n21, ze_n22, ze_n23, ze_n24, ze_n25, ze_n26, ze_n27, ze_n28, ze_n29, ze_n30, ze_n31, ze_n32, ze_n33, ze_n34, ze_n35, ze_n36, ze_n37, ze_n38, ze_n39, ze_n40, ze_n48, ze_n63, ze_n64, ze_n65, ze_n80, ze_n100, ze_n128, ze_n200, ze_n255, ze_n300, ze_n320, ze_n384, ze_n400, ze_n512, ze_n1023, ze_n1600, ze_n6400, ze_n9600, ze_n32768, ze_n65535, ze_n65536, ze_n802, ze_n8191, ze_L0, ze_L1, ze_L2, ze_L3, ze_L4, ze_L5, ze_L6, ze_L7, ze_L8, ze_L9, ze_L10, ze_L15, ze_L16, ze_L24, ze_L40, ze_L48, ze_L63, ze_L64, ze_L127, ze_L255, ze_L400, ze_L1024, ze_L2047, ze_L65535]
      rw [g]; exact t2
  · exact absurd (e1.trans hw) h4
  · subst hfa hfb
    rw [e1, hw] at how ⊢
    have q := zm_fk K hf
    rw [zp_cwf (by omega) (by omega), show 100 + f - 84 = 16 + f by omega, zm_bc_fun (show f < 8 by omega)]
    rw [zp_rwn (by omega)] at how
    have sub : nI (100 + f) - nI 100 = nI f := by simp (disch := omega) only [Nat.add_sub_cancel_left, ↓zd_bnd, ↓zy_bm, if_true, if_false, ite_true, ite_false, ↓reduceIte, Bool.false_eq_true, Bool.true_eq_false, eq_self, true_and, and_true, false_and, and_false, reduceCtorEq, decide_true, decide_false, not_true_eq_false, not_false_eq_true, ze_ltT, ze_ltF, ze_leT, ze_leF, ze_eqT, ze_eqF, ze_mlt, ze_ltm, ze_mle, ze_lem, ze_meq, ze_eqm, ze_mm, ze_mltm, ze_inT, ze_inF, ze_inM, ze_cl, ze_fin, ze_decT, ze_decF, Nat.reduceSub, Nat.reduceMul, nI_add, Nat.add_sub_cancel, Nat.add_assoc, Nat.reduceAdd, ze_r8, ze_r24, ze_r40, ze_r400, ze_l8, ze_l16, ze_l24, ze_l40, ze_sub, ze_am1, ze_es, ze_en, ze_i64, ze_m64, ze_64i, ze_64m, ze_LltT, ze_LltF, ze_LleT, ze_LleF, ze_LeqT, ze_LeqF, ze_Lmlt, ze_Lltm, ze_Lmle, ze_Llem, ze_Lmeq, ze_Leqm, ze_Lmm, lN_add, ze_ch, ze_chd, ze_bt, ze_bf, ze_n0, ze_n1, ze_n2, ze_n3, ze_n4, ze_n5, ze_n6, ze_n7, ze_n8, ze_n9, ze_n10, ze_n11, ze_n12, ze_n13, ze_n14, ze_n15, ze_n16, ze_n17, ze_n18, ze_n19, ze_n20, ze_n21, ze_n22, ze_n23, ze_n24, ze_n25, ze_n26, ze_n27, ze_n28, ze_n29, ze_n30, ze_n31, ze_n32, ze_n33, ze_n34, ze_n35, ze_n36, ze_n37, ze_n38, ze_n39, ze_n40, ze_n48, ze_n63, ze_n64, ze_n65, ze_n80, ze_n100, ze_n128, ze_n200, ze_n255, ze_n300, ze_n320, ze_n384, ze_n400, ze_n512, ze_n1023, ze_n1600, ze_n6400, ze_n9600, ze_n32768, ze_n65535, ze_n65536, ze_n802, ze_n8191, ze_L0, ze_L1, ze_L2, ze_L3, ze_L4, ze_L5, ze_L6, ze_L7, ze_L8, ze_L9, ze_L10, ze_L15, ze_L16, ze_L24, ze_L40, ze_L48, ze_L63, ze_L64, ze_L127, ze_L255, ze_L400, ze_L1024, ze_L2047, ze_L65535]
    by_cases hn : zm_nul (zd_ff A f) v
    · refine ⟨some (zg_emp (zd_ft A f), none), ?_, ?_, zm_emp_fit A n _⟩
      · rw [zm_fnul K HC X hf _ (by omega) hn]; rfl
      · refine ⟨k, ?_, zd_gR_refl _ k, Y.2.1⟩
        simp (disch := omega) only [zs_Ref_become, zs_Ref_become_J43, how, nulT hn, emp, ↓zd_bnd, ↓zy_bm, if_true, if_false, ite_true, ite_false, ↓reduceIte, Bool.false_eq_true, Bool.true_eq_false, eq_self, true_and, and_true, false_and, and_false, reduceCtorEq, decide_true, decide_false, not_true_eq_false, not_false_eq_true, ze_ltT, ze_ltF, ze_leT, ze_leF, ze_eqT, ze_eqF, ze_mlt, ze_ltm, ze_mle, ze_lem, ze_meq, ze_eqm, ze_mm, ze_mltm, ze_inT, ze_inF, ze_inM, ze_cl, ze_fin, ze_decT, ze_decF, Nat.reduceSub, Nat.reduceMul, nI_add, Nat.add_sub_cancel, Nat.add_assoc, Nat.reduceAdd, ze_r8, ze_r24, ze_r40, ze_r400, ze_l8, ze_l16, ze_l24, ze_l40, ze_sub, ze_am1, ze_es, ze_en, ze_i64, ze_m64, ze_64i, ze_64m, ze_LltT, ze_LltF, ze_LleT, ze_LleF, ze_LeqT, ze_LeqF, ze_Lmlt, ze_Lltm, ze_Lmle, ze_Llem, ze_Lmeq, ze_Leqm, ze_Lmm, lN_add, ze_ch, ze_chd, ze_bt, ze_bf, ze_n0, ze_n1, ze_n2, ze_n3, ze_n4, ze_n5, ze_n6, ze_n7, ze_n8, ze_n9, ze_n10, ze_n11, ze_n12, ze_n13, ze_n14, ze_n15, ze_n16, ze_n17, ze_n18, ze_n19, ze_n20, ze_n21, ze_n22, ze_n23, ze_n24, ze_n25, ze_n26, ze_n27, ze_n28, ze_n29, ze_n30, ze_n31, ze_n32, ze_n33, ze_n34, ze_n35, ze_n36, ze_n37, ze_n38, ze_n39, ze_n40, ze_n48, ze_n63, ze_n64, ze_n65, ze_n80, ze_n100, ze_n128, ze_n200, ze_n255, ze_n300, ze_n320, ze_n384, ze_n400, ze_n512, ze_n1023, ze_n1600, ze_n6400, ze_n9600, ze_n32768, ze_n65535, ze_n65536, ze_n802, ze_n8191, ze_L0, ze_L1, ze_L2, ze_L3, ze_L4, ze_L5, ze_L6, ze_L7, ze_L8, ze_L9, ze_L10, ze_L15, ze_L16, ze_L24, ze_L40, ze_L48, ze_L63, ze_L64, ze_L127, ze_L255, ze_L400, ze_L1024, ze_L2047, ze_L65535]
    · refine ⟨zm_fx A n f (some (zm_raw A (zd_ff A f) v)), zm_C_fun HC K X f0 (by omega) hf _ hn (zm_C_plainO HC K X q.2.2.1 hv hn), ?_, zm_fx_fit K hf _⟩
      have r := zm_R_funP HR K Y g0 hf (zm_raw A (zd_ff A f) v)
      have ep := zm_R_plain HR K Y q.2.2.1 hv hn
      have g : zs_Ref_become (nI (zd_ff A f)) (nI (zd_ft A f)) v k = zs_Ref_applied (nI f) (zm_raw A (zd_ff A f) v) k := by
        simp (disch := omega) only [zs_Ref_become, zs_Ref_become_J43, how, nulF hn, ep, sub, ↓zd_bnd, ↓zy_bm, if_true, if_false, ite_true, ite_false, ↓reduceIte, Bool.false_eq_true, Bool.true_eq_false, eq_self, true_and, and_true, false_and, and_false, reduceCtorEq, decide_true, decide_false, not_true_eq_false, not_false_eq_true, ze_ltT, ze_ltF, ze_leT, ze_leF, ze_eqT, ze_eqF, ze_mlt, ze_ltm, ze_mle, ze_lem, ze_meq, ze_eqm, ze_mm, ze_mltm, ze_inT, ze_inF, ze_inM, ze_cl, ze_fin, ze_decT, ze_decF, Nat.reduceSub, Nat.reduceMul, nI_add, Nat.add_sub_cancel, Nat.add_assoc, Nat.reduceAdd, ze_r8, ze_r24, ze_r40, ze_r400, ze_l8, ze_l16, ze_l24, ze_l40, ze_sub, ze_am1, ze_es, ze_en, ze_i64, ze_m64, ze_64i, ze_64m, ze_LltT, ze_LltF, ze_LleT, ze_LleF, ze_LeqT, ze_LeqF, ze_Lmlt, ze_Lltm, ze_Lmle, ze_Llem, ze_Lmeq, ze_Leqm, ze_Lmm, lN_add, ze_ch, ze_chd, ze_bt, ze_bf, ze_n0, ze_n1, ze_n2, ze_n3, ze_n4, ze_n5, ze_n6, ze_n7, ze_n8, ze_n9, ze_n10, ze_n11, ze_n12, ze_n13, ze_n14, ze_n15, ze_n16, ze_n17, ze_n18, ze_n19, ze_n20, ze_n21, ze_n22, ze_n23, ze_n24, ze_n25, ze_n26, ze_n27, ze_n28, ze_n29, ze_n30, ze_n31, ze_n32, ze_n33, ze_n34, ze_n35, ze_n36, ze_n37, ze_n38, ze_n39, ze_n40, ze_n48, ze_n63, ze_n64, ze_n65, ze_n80, ze_n100, ze_n128, ze_n200, ze_n255, ze_n300, ze_n320, ze_n384, ze_n400, ze_n512, ze_n1023, ze_n1600, ze_n6400, ze_n9600, ze_n32768, ze_n65535, ze_n65536, ze_n802, ze_n8191, ze_L0, ze_L1, ze_L2, ze_L3, ze_L4, ze_L5, ze_L6, ze_L7, ze_L8, ze_L9, ze_L10, ze_L15, ze_L16, ze_L24, ze_L40, ze_L48, ze_L63, ze_L64, ze_L127, ze_L255, ze_L400, ze_L1024, ze_L2047, ze_L65535]
        cases zs_Ref_applied (nI f) (zm_raw A (zd_ff A f) v) k <;> rfl
      rw [g]; exact r
  · exact absurd ⟨by omega, by have := zd_ok_M K; omega⟩ hm
  · subst hfb
    rw [e1, hw] at how ⊢
    have q := zm_fk K hf
    rw [zp_cwb (by omega), show 300 + f - 284 = 16 + f by omega, zm_bc_fun (show f < 8 by omega)]
    rw [zp_rwn (by omega)] at how
    have sub : nI (300 + f) - nI 300 = nI f := by simp (disch := omega) only [Nat.add_sub_cancel_left, ↓zd_bnd, ↓zy_bm, if_true, if_false, ite_true, ite_false, ↓reduceIte, Bool.false_eq_true, Bool.true_eq_false, eq_self, true_and, and_true, false_and, and_false, reduceCtorEq, decide_true, decide_false, not_true_eq_false, not_false_eq_true, ze_ltT, ze_ltF, ze_leT, ze_leF, ze_eqT, ze_eqF, ze_mlt, ze_ltm, ze_mle, ze_lem, ze_meq, ze_eqm, ze_mm, ze_mltm, ze_inT, ze_inF, ze_inM, ze_cl, ze_fin, ze_decT, ze_decF, Nat.reduceSub, Nat.reduceMul, nI_add, Nat.add_sub_cancel, Nat.add_assoc, Nat.reduceAdd, ze_r8, ze_r24, ze_r40, ze_r400, ze_l8, ze_l16, ze_l24, ze_l40, ze_sub, ze_am1, ze_es, ze_en, ze_i64, ze_m64, ze_64i, ze_64m, ze_LltT, ze_LltF, ze_LleT, ze_LleF, ze_LeqT, ze_LeqF, ze_Lmlt, ze_Lltm, ze_Lmle, ze_Llem, ze_Lmeq, ze_Leqm, ze_Lmm, lN_add, ze_ch, ze_chd, ze_bt, ze_bf, ze_n0, ze_n1, ze_n2, ze_n3, ze_n4, ze_n5, ze_n6, ze_n7, ze_n8, ze_n9, ze_n10, ze_n11, ze_n12, ze_n13, ze_n14, ze_n15, ze_n16, ze_n17, ze_n18, ze_n19, ze_n20, ze_n21, ze_n22, ze_n23, ze_n24, ze_n25, ze_n26, ze_n27, ze_n28, ze_n29, ze_n30, ze_n31, ze_n32, ze_n33, ze_n34, ze_n35, ze_n36, ze_n37, ze_n38, ze_n39, ze_n40, ze_n48, ze_n63, ze_n64, ze_n65, ze_n80, ze_n100, ze_n128, ze_n200, ze_n255, ze_n300, ze_n320, ze_n384, ze_n400, ze_n512, ze_n1023, ze_n1600, ze_n6400, ze_n9600, ze_n32768, ze_n65535, ze_n65536, ze_n802, ze_n8191, ze_L0, ze_L1, ze_L2, ze_L3, ze_L4, ze_L5, ze_L6, ze_L7, ze_L8, ze_L9, ze_L10, ze_L15, ze_L16, ze_L24, ze_L40, ze_L48, ze_L63, ze_L64, ze_L127, ze_L255, ze_L400, ze_L1024, ze_L2047, ze_L65535]
    by_cases hn : zm_nul a v
    · refine ⟨some (zg_emp (zd_ft A f), none), ?_, ?_, zm_emp_fit A n _⟩
      · rw [zm_fnul K HC X hf _ (by omega) hn]; rfl
      · refine ⟨k, ?_, zd_gR_refl _ k, Y.2.1⟩
        simp (disch := omega) only [zs_Ref_become, zs_Ref_become_J43, how, nulT hn, emp, ↓zd_bnd, ↓zy_bm, if_true, if_false, ite_true, ite_false, ↓reduceIte, Bool.false_eq_true, Bool.true_eq_false, eq_self, true_and, and_true, false_and, and_false, reduceCtorEq, decide_true, decide_false, not_true_eq_false, not_false_eq_true, ze_ltT, ze_ltF, ze_leT, ze_leF, ze_eqT, ze_eqF, ze_mlt, ze_ltm, ze_mle, ze_lem, ze_meq, ze_eqm, ze_mm, ze_mltm, ze_inT, ze_inF, ze_inM, ze_cl, ze_fin, ze_decT, ze_decF, Nat.reduceSub, Nat.reduceMul, nI_add, Nat.add_sub_cancel, Nat.add_assoc, Nat.reduceAdd, ze_r8, ze_r24, ze_r40, ze_r400, ze_l8, ze_l16, ze_l24, ze_l40, ze_sub, ze_am1, ze_es, ze_en, ze_i64, ze_m64, ze_64i, ze_64m, ze_LltT, ze_LltF, ze_LleT, ze_LleF, ze_LeqT, ze_LeqF, ze_Lmlt, ze_Lltm, ze_Lmle, ze_Llem, ze_Lmeq, ze_Leqm, ze_Lmm, lN_add, ze_ch, ze_chd, ze_bt, ze_bf, ze_n0, ze_n1, ze_n2, ze_n3, ze_n4, ze_n5, ze_n6, ze_n7, ze_n8, ze_n9, ze_n10, ze_n11, ze_n12, ze_n13, ze_n14, ze_n15, ze_n16, ze_n17, ze_n18, ze_n19, ze_n20, ze_n21, ze_n22, ze_n23, ze_n24, ze_n25, ze_n26, ze_n27, ze_n28, ze_n29, ze_n30, ze_n31, ze_n32, ze_n33, ze_n34, ze_n35, ze_n36, ze_n37, ze_n38, ze_n39, ze_n40, ze_n48, ze_n63, ze_n64, ze_n65, ze_n80, ze_n100, ze_n128, ze_n200, ze_n255, ze_n300, ze_n320, ze_n384, ze_n400, ze_n512, ze_n1023, ze_n1600, ze_n6400, ze_n9600, ze_n32768, ze_n65535, ze_n65536, ze_n802, ze_n8191, ze_L0, ze_L1, ze_L2, ze_L3, ze_L4, ze_L5, ze_L6, ze_L7, ze_L8, ze_L9, ze_L10, ze_L15, ze_L16, ze_L24, ze_L40, ze_L48, ze_L63, ze_L64, ze_L127, ze_L255, ze_L400, ze_L1024, ze_L2047, ze_L65535]
    · have h14 : a < 14 ∨ a = 14 ∧ zp_kd (zd_ff A f) ≠ 6 := by
        rcases zm_cv4 hfa with ⟨_, z⟩ | ⟨z, _⟩ | ⟨z, _⟩
        · exact z
        · omega
        · exact Or.inr ⟨z, by omega⟩
      obtain ⟨x, p1, p2, p3⟩ := zm_plain HC HR K X Y f0 g0 q.2.2.1 h14 hv hn
      refine ⟨zm_fx A n f x, zm_C_fun HC K X f0 (by omega) hf _ hn p1, ?_, zm_fx_fit K hf _⟩
      have r := zm_R_fun HR K Y g0 hf p2
      have c36 := (Y.1.1 36 (by decide) (by decide)).1
      have g : zs_Ref_become (nI a) (nI (zd_ft A f)) v k = (zs_Ref_converted (nI a) (nI (zd_ff A f)) v k).bind (fun r6 => (if (r6.2.1 24 0 37) = 0 then ((zs_Ref_applied (nI f) r6.1 r6.2).bind (fun r7 => (some (r7.1, r7.2)))) else (some ((0 : Int64), r6.2)))) := by
        simp (disch := omega) only [zs_Ref_become, zs_Ref_become_J43, how, nulF hn, sub, c36, zd_R_ff HR, ↓zd_bnd, ↓zy_bm, if_true, if_false, ite_true, ite_false, ↓reduceIte, Bool.false_eq_true, Bool.true_eq_false, eq_self, true_and, and_true, false_and, and_false, reduceCtorEq, decide_true, decide_false, not_true_eq_false, not_false_eq_true, ze_ltT, ze_ltF, ze_leT, ze_leF, ze_eqT, ze_eqF, ze_mlt, ze_ltm, ze_mle, ze_lem, ze_meq, ze_eqm, ze_mm, ze_mltm, ze_inT, ze_inF, ze_inM, ze_cl, ze_fin, ze_decT, ze_decF, Nat.reduceSub, Nat.reduceMul, nI_add, Nat.add_sub_cancel, Nat.add_assoc, Nat.reduceAdd, ze_r8, ze_r24, ze_r40, ze_r400, ze_l8, ze_l16, ze_l24, ze_l40, ze_sub, ze_am1, ze_es, ze_en, ze_i64, ze_m64, ze_64i, ze_64m, ze_LltT, ze_LltF, ze_LleT, ze_LleF, ze_LeqT, ze_LeqF, ze_Lmlt, ze_Lltm, ze_Lmle, ze_Llem, ze_Lmeq, ze_Leqm, ze_Lmm, lN_add, ze_ch, ze_chd, ze_bt, ze_bf, ze_n0, ze_n1, ze_n2, ze_n3, ze_n4, ze_n5, ze_n6, ze_n7, ze_n8, ze_n9, ze_n10, ze_n11, ze_n12, ze_n13, ze_n14, ze_n15, ze_n16, ze_n17, ze_n18, ze_n19, ze_n20, ze_n21, ze_n22, ze_n23, ze_n24, ze_n25, ze_n26, ze_n27, ze_n28, ze_n29, ze_n30, ze_n31, ze_n32, ze_n33, ze_n34, ze_n35, ze_n36, ze_n37, ze_n38, ze_n39, ze_n40, ze_n48, ze_n63, ze_n64, ze_n65, ze_n80, ze_n100, ze_n128, ze_n200, ze_n255, ze_n300, ze_n320, ze_n384, ze_n400, ze_n512, ze_n1023, ze_n1600, ze_n6400, ze_n9600, ze_n32768, ze_n65535, ze_n65536, ze_n802, ze_n8191, ze_L0, ze_L1, ze_L2, ze_L3, ze_L4, ze_L5, ze_L6, ze_L7, ze_L8, ze_L9, ze_L10, ze_L15, ze_L16, ze_L24, ze_L40, ze_L48, ze_L63, ze_L64, ze_L127, ze_L255, ze_L400, ze_L1024, ze_L2047, ze_L65535]
      rw [g]; exact r
