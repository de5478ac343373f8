/-! a value by its way: same, table, function -/
theorem zp_uq_c (c : Nat → Bool) (b : Nat) (hb : 2 ≤ b) : ∀ n, b ≤ zp_uq c b n → c (zp_uq c b n - b) = true ∧ zp_uq c b n < b + n := by
  intro n
  induction n with
  | zero => intro h; have h : b ≤ 0 := h; omega
  | succ n ih =>
    intro h
    rw [zp_uq_s] at h ⊢
    by_cases c1 : c n = true
    · rw [if_pos c1] at h ⊢
      by_cases c2 : zp_uq c b n = 0
      · rw [if_pos c2] at h ⊢
        rw [Nat.add_sub_cancel_left]
        exact ⟨c1, by omega⟩
      · rw [if_neg c2] at h; omega
    · rw [if_neg c1] at h ⊢
      have := ih h
      exact ⟨this.1, by omega⟩
theorem zm_way {A : zd_A} (K : zd_ok A) {a b : Nat} (hw : 2 ≤ zp_one A a b) : (zp_one A a b = 2 ∧ a = b) ∨ (zp_one A a b = 3 ∧ zp_cv A a b = true) ∨ zp_one A a b = 4 ∨ (∃ f, f < zd_F A ∧ zp_one A a b = 100 + f ∧ zd_ff A f = a ∧ zd_ft A f = b) ∨ (∃ m, m < zd_M A ∧ zp_one A a b = 200 + m ∧ zd_mf A m = a ∧ zd_mt A m = b) ∨ (∃ f, f < zd_F A ∧ zp_one A a b = 300 + f ∧ zp_cv A a (zd_ff A f) = true ∧ zd_ft A f = b) := by
  rw [zp_one_eq] at hw ⊢
  by_cases c0 : a = b
  · rw [if_pos c0]; exact Or.inl ⟨rfl, c0⟩
  · rw [if_neg c0] at hw ⊢
    by_cases c1 : zp_fw A a b false ≠ 0
    · rw [if_pos c1] at hw ⊢
      have r := zp_fw_f_rng A a b
      have q := zp_uq_c (zp_fc A a b false) 100 (by decide) (zd_F A) (by rw [← zp_fw_f]; omega)
      rw [← zp_fw_f] at q
      refine Or.inr (Or.inr (Or.inr (Or.inl ⟨zp_fw A a b false - 100, by omega, by omega, ?_⟩)))
      have e := q.1
      unfold zp_fc at e
      simp only [Bool.and_eq_true, decide_eq_true_eq, if_false, Bool.false_eq_true] at e
      exact ⟨e.2.2, e.1⟩
    · rw [if_neg c1] at hw ⊢
      by_cases c2 : zp_mw A a b ≠ 0
      · rw [if_pos c2] at hw ⊢
        have r := zp_mw_rng A a b
        have q := zp_uq_c (zp_mc A a b) 200 (by decide) (zd_M A) (show 200 ≤ zp_mw A a b by omega)
        have q : zp_mc A a b (zp_mw A a b - 200) = true ∧ zp_mw A a b < 200 + zd_M A := q
        refine Or.inr (Or.inr (Or.inr (Or.inr (Or.inl ⟨zp_mw A a b - 200, by omega, by omega, ?_⟩))))
        have e := q.1
        unfold zp_mc at e
        simp only [Bool.and_eq_true, decide_eq_true_eq] at e
        exact e
      · rw [if_neg c2] at hw ⊢
        unfold zp_rest at hw ⊢
        by_cases c3 : zp_cv A a b = true
        · rw [if_pos c3]; exact Or.inr (Or.inl ⟨rfl, c3⟩)
        · rw [if_neg c3] at hw ⊢
          by_cases c4 : zp_fw A a b true ≠ 0
          · rw [if_pos c4] at hw ⊢
            have r := zp_fw_t_rng A a b
            have q := zp_uq_c (zp_fc A a b true) 300 (by decide) (zd_F A) (by rw [← zp_fw_t]; omega)
            rw [← zp_fw_t] at q
            refine Or.inr (Or.inr (Or.inr (Or.inr (Or.inr ⟨zp_fw A a b true - 300, by omega, by omega, ?_⟩))))
            have e := q.1
            unfold zp_fc at e
            simp only [Bool.and_eq_true, decide_eq_true_eq, if_true] at e
            exact ⟨e.2.2, e.1⟩
          · rw [if_neg c4] at hw ⊢
            by_cases c5 : zd_srt A a = 5 ∧ zd_srt A b = 5
            · rw [if_pos c5]; exact Or.inr (Or.inr (Or.inl rfl))
            · rw [if_neg c5] at hw; omega
/-- what a table converts -/
theorem zm_cv4 {A : zd_A} {a b : Nat} (h : zp_cv A a b = true) : (b < 14 ∧ (a < 14 ∨ a = 14 ∧ zp_kd b ≠ 6)) ∨ (b = 14 ∧ (a < 14 ∨ zd_srt A a = 3)) ∨ (a = 14 ∧ b ≠ 14 ∧ zd_srt A b = 3) := by
  unfold zp_cv at h
  have kd : ∀ t, zp_wh t = true → t < 14 ∧ zp_kd t ≠ 6 := by
    intro t ht
    unfold zp_wh at ht
    simp only [Bool.and_eq_true, decide_eq_true_eq, Bool.not_eq_true', decide_eq_false_iff_not] at ht
    refine ⟨ht.1, ?_⟩
    unfold zp_kd
    split <;> omega
  by_cases c1 : a < 14 ∧ b < 14
  · exact Or.inl ⟨c1.2, Or.inl c1.1⟩
  · rw [if_neg c1] at h
    by_cases c2 : b = 14
    · rw [if_pos c2] at h
      simp only [Bool.or_eq_true, decide_eq_true_eq] at h
      exact Or.inr (Or.inl ⟨c2, h.elim (fun z => Or.inl (kd _ z).1) Or.inr⟩)
    · rw [if_neg c2] at h
      simp only [Bool.and_eq_true, Bool.or_eq_true, decide_eq_true_eq] at h
      obtain ⟨ha, h⟩ := h
      rcases h with z | z
      · exact Or.inl ⟨(kd _ z).1, Or.inr ⟨ha, (kd _ z).2⟩⟩
      · exact Or.inr (Or.inr ⟨ha, c2, z⟩)
theorem zm_Cnul {A : zd_A} {h0 s : zx_H} {n : Nat} (b : Nat) : zm_CX A h0 n s (some (zg_emp b, none)) (some (zg_emp b, s)) := rfl
theorem zm_Rnul {A : zd_A} {h0 s : zx_H} {n : Nat} (X : zm_R A h0 s n) (b : Nat) : zm_RX A h0 n s (some (zg_emp b, none)) (some (zg_emp b, s)) := ⟨s, rfl, zd_gR_refl _ s, X.2.1⟩
/-- the reference's conversion of a value that is there, without what lists do -/
def zm_J43 (a b : Nat) (v : Int64) (k : zx_H) : Option (Int64 × zx_H) := (zs_Ref_converted (nI a) (nI b) v k).bind (fun r10 => ((zs_Ref_isAmount (nI b) r10.2).bind (fun r11 => (if r11 = true then ((zs_Ref_boxed (nI b) r10.1 r10.2).bind (fun r12 => (some (r12.1, r12.2)))) else (some (r10.1, r10.2))))))
theorem zm_table {A : zd_A} {hc hr : zx_H} (HC : zd_C A hc) (HR : zd_R A hr) (K : zd_ok A) {s k : zx_H} {n : Nat} (X : zm_C A hc s n) (Y : zm_R A hr k n) (f0 : s.1 23 0 2 = nI 0) (g0 : k.1 24 0 37 = nI 0) {a b : Nat} (ha : a < zd_T A) (hb : b < zd_T A) (hcv : zp_cv A a b = true) {v : Int64} (hv : zd_val A a v) (hn : ¬ zm_nul a v) : ∃ x, zm_CX A hc n s x (zs_Converter_byTable (nI a) (nI b) v s) ∧ zm_RX A hr n k x (zm_J43 a b v k) ∧ zm_fit A n b x := by
  have hT := zd_ok_T K
  have hO := zd_ok_O K
  have en := zm_C_nulF hn (by omega) s
  unfold zm_J43
  rcases zm_cv4 hcv with ⟨h1, h2⟩ | ⟨rfl, h2⟩ | ⟨rfl, h1, h2⟩
  · obtain ⟨x, e1, e2, e3⟩ := zm_plain HC HR K X Y f0 g0 h1 h2 hv hn
    refine ⟨zm_bb n b x, ?_, ?_, zm_bb_fit K h1 e3⟩
    · have r := zm_C_bb HC K X f0 h1 e1
      have hs : ¬ zd_srt A b = 3 := fun z => by have := zm_cst3 K z hb; omega
      have g : zs_Converter_byTable (nI a) (nI b) v s = (zs_Converter_plain (nI a) v (nI (zp_kd b)) s).bind (fun q => zs_Converter_boxed (nI b) q.1 q.2) := by
        simp (disch := omega) only [zs_Converter_byTable, en, zm_C_isEnum HC K X hb, hs, zm_kindC b h1, zm_bind, ↓zd_bnd, ↓zy_bm, if_true, if_false, ite_true, ite_false, ↓reduceIte, Bool.false_eq_true, Bool.true_eq_false, eq_self, true_and, and_true, false_and, and_false, reduceCtorEq, decide_true, decide_false, not_true_eq_false, not_false_eq_true, ze_ltT, ze_ltF, ze_leT, ze_leF, ze_eqT, ze_eqF, ze_mlt, ze_ltm, ze_mle, ze_lem, ze_meq, ze_eqm, ze_mm, ze_mltm, ze_inT, ze_inF, ze_inM, ze_cl, ze_fin, ze_decT, ze_decF, Nat.reduceSub, Nat.reduceMul, nI_add, Nat.add_sub_cancel, Nat.add_assoc, Nat.reduceAdd, ze_r8, ze_r24, ze_r40, ze_r400, ze_l8, ze_l16, ze_l24, ze_l40, ze_sub, ze_am1, ze_es, ze_en, ze_i64, ze_m64, ze_64i, ze_64m, ze_LltT, ze_LltF, ze_LleT, ze_LleF, ze_LeqT, ze_LeqF, ze_Lmlt, ze_Lltm, ze_Lmle, ze_Llem, ze_Lmeq, ze_Leqm, ze_Lmm, lN_add, ze_ch, ze_chd, ze_bt, ze_bf, ze_n0, ze_n1, ze_n2, ze_n3, ze_n4, ze_n5, ze_n6, ze_n7, ze_n8, ze_n9, ze_n10, ze_n11, ze_n12, ze_n13, ze_n14, ze_n15, ze_n16, ze_n17, ze_n18, ze_n19, ze_n20, ze_n21, ze_n22, ze_n23, ze_n24, ze_n25, ze_n26, ze_n27, ze_n28, ze_n29, ze_n30, ze_n31, ze_n32, ze_n33, ze_n34, ze_n35, ze_n36, ze_n37, ze_n38, ze_n39, ze_n40, ze_n48, ze_n63, ze_n64, ze_n65, ze_n80, ze_n100, ze_n128, ze_n200, ze_n255, ze_n300, ze_n320, ze_n384, ze_n400, ze_n512, ze_n1023, ze_n1600, ze_n6400, ze_n9600, ze_n32768, ze_n65535, ze_n65536, ze_n802, ze_n8191, ze_L0, ze_L1, ze_L2, ze_L3, ze_L4, ze_L5, ze_L6, ze_L7, ze_L8, ze_L9, ze_L10, ze_L15, ze_L16, ze_L24, ze_L40, ze_L48, ze_L63, ze_L64, ze_L127, ze_L255, ze_L400, ze_L1024, ze_L2047, ze_L65535]
        cases zs_Converter_plain (nI a) v (nI (zp_kd b)) s with
        | none => rfl
        | some q => cases e9 : zs_Converter_boxed (nI b) q.1 q.2 <;> simp only [e9]
      rw [g]; exact r
    · have r := zm_R_bb HR K Y g0 h1 e2
      have g : (zs_Ref_converted (nI a) (nI b) v k).bind (fun r10 => ((zs_Ref_isAmount (nI b) r10.2).bind (fun r11 => (if r11 = true then ((zs_Ref_boxed (nI b) r10.1 r10.2).bind (fun r12 => (some (r12.1, r12.2)))) else (some (r10.1, r10.2)))))) = (zs_Ref_converted (nI a) (nI b) v k).bind (fun q => zs_Ref_boxed (nI b) q.1 q.2) := by
        cases zs_Ref_converted (nI a) (nI b) v k with
        | none => rfl
        | some q =>
          show ((zs_Ref_isAmount (nI b) q.2).bind _) = zs_Ref_boxed (nI b) q.1 q.2
          rw [zm_amt h1]
          exact zm_bind _
      rw [g]; exact r
  · have ok := zm_vt_ok K ha h2 hv hn
    refine ⟨zm_tX n (zm_vt A a v).1 (zm_vt A a v).2, zm_C_text HC K X f0 ha h2 hv hn, ?_, zm_tX_fit K ok.1 ok.2⟩
    have r := zm_R_text HR K Y g0 ha h2 hv hn
    have g : (zs_Ref_converted (nI a) (nI 14) v k).bind (fun r10 => ((zs_Ref_isAmount (nI 14) r10.2).bind (fun r11 => (if r11 = true then ((zs_Ref_boxed (nI 14) r10.1 r10.2).bind (fun r12 => (some (r12.1, r12.2)))) else (some (r10.1, r10.2)))))) = zs_Ref_converted (nI a) (nI 14) v k := by
      cases zs_Ref_converted (nI a) (nI 14) v k with
      | none => rfl
      | some q =>
        have e14 := zm_amtF (t := 14) (by omega) (by omega) q.2
        simp only [Option.bind, e14]
        rfl
    rw [g]; exact r
  · have hs2 := zd_ok_s2 K
    have h15 := zm_cst3 K h2 hb
    obtain ⟨o, h3, h4, rfl⟩ := zm_obj K (by omega) (by omega) hv hn
    refine ⟨zm_cx A o b, ?_, ?_, zm_cx_fit K hb h2⟩
    · have r := zm_C_const HC K X h3 h4 hb
      have g : zs_Converter_byTable (nI 14) (nI b) (lN o) s = zs_Converter_constantOf (nI b) (nI o) s := by
        simp (disch := omega) only [zs_Converter_byTable, en, zm_C_isEnum HC K X hb, h2, ↓zd_bnd, ↓zy_bm, if_true, if_false, ite_true, ite_false, ↓reduceIte, Bool.false_eq_true, Bool.true_eq_false, eq_self, true_and, and_true, false_and, and_false, reduceCtorEq, decide_true, decide_false, not_true_eq_false, not_false_eq_true, ze_ltT, ze_ltF, ze_leT, ze_leF, ze_eqT, ze_eqF, ze_mlt, ze_ltm, ze_mle, ze_lem, ze_meq, ze_eqm, ze_mm, ze_mltm, ze_inT, ze_inF, ze_inM, ze_cl, ze_fin, ze_decT, ze_decF, Nat.reduceSub, Nat.reduceMul, nI_add, Nat.add_sub_cancel, Nat.add_assoc, Nat.reduceAdd, ze_r8, ze_r24, ze_r40, ze_r400, ze_l8, ze_l16, ze_l24, ze_l40, ze_sub, ze_am1, ze_es, ze_en, ze_i64, ze_m64, ze_64i, ze_64m, ze_LltT, ze_LltF, ze_LleT, ze_LleF, ze_LeqT, ze_LeqF, ze_Lmlt, ze_Lltm, ze_Lmle, ze_Llem, ze_Lmeq, ze_Leqm, ze_Lmm, lN_add, ze_ch, ze_chd, ze_bt, ze_bf, ze_n0, ze_n1, ze_n2, ze_n3, ze_n4, ze_n5, ze_n6, ze_n7, ze_n8, ze_n9, ze_n10, ze_n11, ze_n12, ze_n13, ze_n14, ze_n15, ze_n16, ze_n17, ze_n18, ze_n19, ze_n20, ze_n21, ze_n22, ze_n23, ze_n24, ze_n25, ze_n26, ze_n27, ze_n28, ze_n29, ze_n30, ze_n31, ze_n32, ze_n33, ze_n34, ze_n35, ze_n36, ze_n37, ze_n38, ze_n39, ze_n40, ze_n48, ze_n63, ze_n64, ze_n65, ze_n80, ze_n100, ze_n128, ze_n200, ze_n255, ze_n300, ze_n320, ze_n384, ze_n400, ze_n512, ze_n1023, ze_n1600, ze_n6400, ze_n9600, ze_n32768, ze_n65535, ze_n65536, ze_n802, ze_n8191, ze_L0, ze_L1, ze_L2, ze_L3, ze_L4, ze_L5, ze_L6, ze_L7, ze_L8, ze_L9, ze_L10, ze_L15, ze_L16, ze_L24, ze_L40, ze_L48, ze_L63, ze_L64, ze_L127, ze_L255, ze_L400, ze_L1024, ze_L2047, ze_L65535]
        cases zs_Converter_constantOf (nI b) (nI o) s <;> rfl
      rw [g]; exact r
    · have r := zm_R_const HR K Y g0 h3 h4 hb
      have g1 : zs_Ref_converted (nI 14) (nI b) (lN o) k = zs_Ref_constant (nI o) (nI b) k := by
        simp (disch := omega) only [zs_Ref_converted, zs_Ref_converted_J32, zm_amtF (t := 14) (by omega) (by omega), zm_amtF (t := b) (by omega) (by omega), ↓zd_bnd, ↓zy_bm, if_true, if_false, ite_true, ite_false, ↓reduceIte, Bool.false_eq_true, Bool.true_eq_false, eq_self, true_and, and_true, false_and, and_false, reduceCtorEq, decide_true, decide_false, not_true_eq_false, not_false_eq_true, ze_ltT, ze_ltF, ze_leT, ze_leF, ze_eqT, ze_eqF, ze_mlt, ze_ltm, ze_mle, ze_lem, ze_meq, ze_eqm, ze_mm, ze_mltm, ze_inT, ze_inF, ze_inM, ze_cl, ze_fin, ze_decT, ze_decF, Nat.reduceSub, Nat.reduceMul, nI_add, Nat.add_sub_cancel, Nat.add_assoc, Nat.reduceAdd, ze_r8, ze_r24, ze_r40, ze_r400, ze_l8, ze_l16, ze_l24, ze_l40, ze_sub, ze_am1, ze_es, ze_en, ze_i64, ze_m64, ze_64i, ze_64m, ze_LltT, ze_LltF, ze_LleT, ze_LleF, ze_LeqT, ze_LeqF, ze_Lmlt, ze_Lltm, ze_Lmle, ze_Llem, ze_Lmeq, ze_Leqm, ze_Lmm, lN_add, ze_ch, ze_chd, ze_bt, ze_bf, ze_n0, ze_n1, ze_n2, ze_n3, ze_n4, ze_n5, ze_n6, ze_n7, ze_n8, ze_n9, ze_n10, ze_n11, ze_n12, ze_n13, ze_n14, ze_n15, ze_n16, ze_n17, ze_n18, ze_n19, ze_n20, ze_n21, ze_n22, ze_n23, ze_n24, ze_n25, ze_n26, ze_n27, ze_n28, ze_n29, ze_n30, ze_n31, ze_n32, ze_n33, ze_n34, ze_n35, ze_n36, ze_n37, ze_n38, ze_n39, ze_n40, ze_n48, ze_n63, ze_n64, ze_n65, ze_n80, ze_n100, ze_n128, ze_n200, ze_n255, ze_n300, ze_n320, ze_n384, ze_n400, ze_n512, ze_n1023, ze_n1600, ze_n6400, ze_n9600, ze_n32768, ze_n65535, ze_n65536, ze_n802, ze_n8191, ze_L0, ze_L1, ze_L2, ze_L3, ze_L4, ze_L5, ze_L6, ze_L7, ze_L8, ze_L9, ze_L10, ze_L15, ze_L16, ze_L24, ze_L40, ze_L48, ze_L63, ze_L64, ze_L127, ze_L255, ze_L400, ze_L1024, ze_L2047, ze_L65535]
        cases zs_Ref_constant (nI o) (nI b) k <;> rfl
      rw [g1]
      have g : (zs_Ref_constant (nI o) (nI b) k).bind (fun r10 => ((zs_Ref_isAmount (nI b) r10.2).bind (fun r11 => (if r11 = true then ((zs_Ref_boxed (nI b) r10.1 r10.2).bind (fun r12 => (some (r12.1, r12.2)))) else (some (r10.1, r10.2)))))) = zs_Ref_constant (nI o) (nI b) k := by
        cases zs_Ref_constant (nI o) (nI b) k with
        | none => rfl
        | some q =>
          show ((zs_Ref_isAmount (nI b) q.2).bind _) = some q
          rw [zm_amtF (by omega) (by omega)]
          rfl
      rw [g]; exact r
