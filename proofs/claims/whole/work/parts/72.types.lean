/-! types: a new one -/
def zd_addT (A : zd_A) (s o : Nat) : zd_A := zd_uN (zd_uN (zd_uN (zd_uN A 1 0 0 (zd_T A + 1)) 2 (zd_T A) 0 s) 3 (zd_T A) 0 0) 6 (zd_T A) 0 o
theorem zd_C_add {A : zd_A} {h : zx_H} (H : zd_C A h) (K : zd_ok A) (hT : zd_T A < 40) {f o : Nat} {el : Int32} (hel : f = 3 → el = nI o) : ∃ h1, zs_Types_add (nI f) el h = some (nI (zd_T A), h1) ∧ zd_C (zd_addT A (f + 2) o) h1 ∧ zd_sR h h1 := by
  have e1 : h.1 1 0 5 = nI (zd_T A) := zd_C_T H
  have a1 : nI (zd_T A) < (40 : Int32) := nI_lt hT (by decide)
  have a2 : zx_in (nI (zd_T A)) 40 = true := zd_in1 hT (by decide)
  have a3 : (nI (zd_T A)).toNatClampNeg = zd_T A := nI_clamp (by omega)
  have hz : zd_sz A (zd_T A) = 0 := by
    have := zd_ok_sz0 K (zd_T A) hT
    omega
  refine ⟨zx_sI (zx_sI (zx_sI h 1 0 5 (nI (zd_T A) + 1)) 2 0 (zd_T A) (nI f)) 3 0 (zd_T A) el, ?_, ?_, ?_⟩
  · simp only [zs_Types_add, e1, zd_bnd, a1, a2, a3, if_true]
  · intro q
    match q with
    | 1 => exact nI_1 (zd_T A)
    | 2 =>
      show ∀ t, 15 ≤ t → t < zd_T (zd_addT A (f + 2) o) → _ = nI (zd_srt (zd_addT A (f + 2) o) t - 2)
      intro t h1 h2
      simp only [zd_addT, zd_B_uN, zd_T_uN, zd_srt_uN, zd_sz_uN, zd_nm_uN, zd_pt_uN, zd_of_uN, zd_M_uN, zd_mf_uN, zd_mt_uN, zd_rc_uN, zd_kd_uN, zd_tg_uN, zd_wh_uN, zd_F_uN, zd_ff_uN, zd_ft_uN, zd_fa_uN, zd_fb_uN, zd_d0_uN, zd_d1_uN, zd_d2_uN, zd_O_uN, zd_ty_uN, zd_ln_uN, zd_vl_uN, zd_gI, zd_gI2, reduceIte, false_and, and_false, true_and, and_true, if_true, if_false, Nat.reduceEqDiff, reduceCtorEq, and_self, Nat.succ_ne_self] at h2 ⊢
      by_cases ht : t = zd_T A
      · simp only [if_pos ht, Nat.add_sub_cancel]
      · simp only [if_neg ht]
        exact zd_C_form H t h1 (by omega)
    | 3 =>
      show ∀ t, t < zd_T (zd_addT A (f + 2) o) → zd_srt (zd_addT A (f + 2) o) t = 5 → _ = nI (zd_of (zd_addT A (f + 2) o) t)
      intro t h1 h2
      simp only [zd_addT, zd_B_uN, zd_T_uN, zd_srt_uN, zd_sz_uN, zd_nm_uN, zd_pt_uN, zd_of_uN, zd_M_uN, zd_mf_uN, zd_mt_uN, zd_rc_uN, zd_kd_uN, zd_tg_uN, zd_wh_uN, zd_F_uN, zd_ff_uN, zd_ft_uN, zd_fa_uN, zd_fb_uN, zd_d0_uN, zd_d1_uN, zd_d2_uN, zd_O_uN, zd_ty_uN, zd_ln_uN, zd_vl_uN, zd_gI, zd_gI2, reduceIte, false_and, and_false, true_and, and_true, if_true, if_false, Nat.reduceEqDiff, reduceCtorEq, and_self, Nat.succ_ne_self] at h1 h2 ⊢
      by_cases ht : t = zd_T A
      · simp only [if_pos ht] at h2 ⊢
        exact hel (by omega)
      · simp only [if_neg ht] at h2 ⊢
        exact zd_C_of H t (by omega) h2
    | 4 =>
      show ∀ t, t < 40 → _ = nI (zd_sz (zd_addT A (f + 2) o) t)
      intro t h1
      simp only [zd_addT, zd_B_uN, zd_T_uN, zd_srt_uN, zd_sz_uN, zd_nm_uN, zd_pt_uN, zd_of_uN, zd_M_uN, zd_mf_uN, zd_mt_uN, zd_rc_uN, zd_kd_uN, zd_tg_uN, zd_wh_uN, zd_F_uN, zd_ff_uN, zd_ft_uN, zd_fa_uN, zd_fb_uN, zd_d0_uN, zd_d1_uN, zd_d2_uN, zd_O_uN, zd_ty_uN, zd_ln_uN, zd_vl_uN, zd_gI, zd_gI2, reduceIte, false_and, and_false, true_and, and_true, if_true, if_false, Nat.reduceEqDiff, reduceCtorEq, and_self, Nat.succ_ne_self]
      by_cases ht : t = zd_T A
      · simp only [if_pos ht]
        rw [ht, zd_C_sz H _ hT, hz]
      · simp only [if_neg ht]
        exact zd_C_sz H t h1
    | 5 =>
      show ∀ t k, t < zd_T (zd_addT A (f + 2) o) → k < zd_sz (zd_addT A (f + 2) o) t → _ = nI (zd_nm (zd_addT A (f + 2) o) t k)
      intro t k h1 h2
      simp only [zd_addT, zd_B_uN, zd_T_uN, zd_srt_uN, zd_sz_uN, zd_nm_uN, zd_pt_uN, zd_of_uN, zd_M_uN, zd_mf_uN, zd_mt_uN, zd_rc_uN, zd_kd_uN, zd_tg_uN, zd_wh_uN, zd_F_uN, zd_ff_uN, zd_ft_uN, zd_fa_uN, zd_fb_uN, zd_d0_uN, zd_d1_uN, zd_d2_uN, zd_O_uN, zd_ty_uN, zd_ln_uN, zd_vl_uN, zd_gI, zd_gI2, reduceIte, false_and, and_false, true_and, and_true, if_true, if_false, Nat.reduceEqDiff, reduceCtorEq, and_self, Nat.succ_ne_self] at h1 h2 ⊢
      by_cases ht : t = zd_T A
      · simp only [if_pos ht] at h2
        exact absurd h2 (Nat.not_lt_zero _)
      · simp only [if_neg ht] at h2
        exact zd_C_nm H t k (by omega) h2
    | 6 =>
      show ∀ t k, t < zd_T (zd_addT A (f + 2) o) → k < zd_sz (zd_addT A (f + 2) o) t → zd_srt (zd_addT A (f + 2) o) t = 4 → _ = nI (zd_pt (zd_addT A (f + 2) o) t k)
      intro t k h1 h2 h3
      simp only [zd_addT, zd_B_uN, zd_T_uN, zd_srt_uN, zd_sz_uN, zd_nm_uN, zd_pt_uN, zd_of_uN, zd_M_uN, zd_mf_uN, zd_mt_uN, zd_rc_uN, zd_kd_uN, zd_tg_uN, zd_wh_uN, zd_F_uN, zd_ff_uN, zd_ft_uN, zd_fa_uN, zd_fb_uN, zd_d0_uN, zd_d1_uN, zd_d2_uN, zd_O_uN, zd_ty_uN, zd_ln_uN, zd_vl_uN, zd_gI, zd_gI2, reduceIte, false_and, and_false, true_and, and_true, if_true, if_false, Nat.reduceEqDiff, reduceCtorEq, and_self, Nat.succ_ne_self] at h1 h2 h3 ⊢
      by_cases ht : t = zd_T A
      · simp only [if_pos ht] at h2
        exact absurd h2 (Nat.not_lt_zero _)
      · simp only [if_neg ht] at h2 h3
        exact zd_C_pt H t k (by omega) h2 h3
    | 0 => exact H 0
    | 7 => exact H 7
    | 8 => exact H 8
    | 9 => exact H 9
    | 10 => exact H 10
    | 11 => exact H 11
    | 12 => exact H 12
    | 13 => exact H 13
    | 14 => exact H 14
    | 15 => exact H 15
    | 16 => exact H 16
    | 17 => exact H 17
    | 18 => exact H 18
    | 19 => exact H 19
    | 20 => exact H 20
    | 21 => exact H 21
    | 22 => exact H 22
    | 23 => exact H 23
    | 24 => exact H 24
    | 25 => exact H 25
    | _ + 26 => exact trivial
  · exact zd_sR_I (zd_sR_I (zd_sR_I (zd_sR_refl h) (by unfold zd_fr; decide) _ _ _) (by unfold zd_fr; decide) _ _ _) (by unfold zd_fr; decide) _ _ _
theorem zd_R_newType {A : zd_A} {h : zx_H} (H : zd_R A h) (hT : zd_T A < 40) {s : Nat} (o : Nat) (ho : s ≠ 5) : ∃ h1, zs_Ref_newType (nI s) h = some (nI (zd_T A), h1) ∧ zd_R (zd_addT A s o) h1 ∧ zd_sC h h1 ∧ h1.1 24 0 0 = h.1 24 0 0 := by
  have e1 : h.1 24 0 2 = nI (zd_T A) := zd_R_T H
  have a2 : zx_in (nI (zd_T A)) 40 = true := zd_in1 hT (by decide)
  have a3 : (nI (zd_T A)).toNatClampNeg = zd_T A := nI_clamp (by omega)
  have a4 : nI (zd_T A) + 1 - 1 = nI (zd_T A) := by rw [nI_1]; exact nI_pred _
  refine ⟨zx_sI (zx_sI (zx_sI h 25 0 (zd_T A) (nI s)) 26 0 (zd_T A) 0) 24 0 2 (nI (zd_T A) + 1), ?_, ?_, ?_, ?_⟩
  · simp only [zs_Ref_newType, e1, zd_bnd, a2, a3, a4, if_true, zd_gI, Nat.reduceEqDiff, false_and, and_false, if_false, true_and, and_self]
  · intro q
    match q with
    | 1 => exact nI_1 (zd_T A)
    | 2 =>
      show ∀ t, t < zd_T (zd_addT A s o) → _ = nI (zd_srt (zd_addT A s o) t)
      intro t h1
      simp only [zd_addT, zd_B_uN, zd_T_uN, zd_srt_uN, zd_sz_uN, zd_nm_uN, zd_pt_uN, zd_of_uN, zd_M_uN, zd_mf_uN, zd_mt_uN, zd_rc_uN, zd_kd_uN, zd_tg_uN, zd_wh_uN, zd_F_uN, zd_ff_uN, zd_ft_uN, zd_fa_uN, zd_fb_uN, zd_d0_uN, zd_d1_uN, zd_d2_uN, zd_O_uN, zd_ty_uN, zd_ln_uN, zd_vl_uN, zd_gI, zd_gI2, reduceIte, false_and, and_false, true_and, and_true, if_true, if_false, Nat.reduceEqDiff, reduceCtorEq, and_self, Nat.succ_ne_self] at h1 ⊢
      by_cases ht : t = zd_T A
      · simp only [if_pos ht]
      · simp only [if_neg ht]
        exact zd_R_srt H t (by omega)
    | 3 =>
      show ∀ t, t < zd_T (zd_addT A s o) → _ = nI (zd_sz (zd_addT A s o) t)
      intro t h1
      simp only [zd_addT, zd_B_uN, zd_T_uN, zd_srt_uN, zd_sz_uN, zd_nm_uN, zd_pt_uN, zd_of_uN, zd_M_uN, zd_mf_uN, zd_mt_uN, zd_rc_uN, zd_kd_uN, zd_tg_uN, zd_wh_uN, zd_F_uN, zd_ff_uN, zd_ft_uN, zd_fa_uN, zd_fb_uN, zd_d0_uN, zd_d1_uN, zd_d2_uN, zd_O_uN, zd_ty_uN, zd_ln_uN, zd_vl_uN, zd_gI, zd_gI2, reduceIte, false_and, and_false, true_and, and_true, if_true, if_false, Nat.reduceEqDiff, reduceCtorEq, and_self, Nat.succ_ne_self] at h1 ⊢
      by_cases ht : t = zd_T A
      · simp only [if_pos ht]
        rfl
      · simp only [if_neg ht]
        exact zd_R_sz H t (by omega)
    | 4 =>
      show ∀ t k, t < zd_T (zd_addT A s o) → k < zd_sz (zd_addT A s o) t → _ = nI (zd_nm (zd_addT A s o) t k)
      intro t k h1 h2
      simp only [zd_addT, zd_B_uN, zd_T_uN, zd_srt_uN, zd_sz_uN, zd_nm_uN, zd_pt_uN, zd_of_uN, zd_M_uN, zd_mf_uN, zd_mt_uN, zd_rc_uN, zd_kd_uN, zd_tg_uN, zd_wh_uN, zd_F_uN, zd_ff_uN, zd_ft_uN, zd_fa_uN, zd_fb_uN, zd_d0_uN, zd_d1_uN, zd_d2_uN, zd_O_uN, zd_ty_uN, zd_ln_uN, zd_vl_uN, zd_gI, zd_gI2, reduceIte, false_and, and_false, true_and, and_true, if_true, if_false, Nat.reduceEqDiff, reduceCtorEq, and_self, Nat.succ_ne_self] at h1 h2 ⊢
      by_cases ht : t = zd_T A
      · simp only [if_pos ht] at h2
        exact absurd h2 (Nat.not_lt_zero _)
      · simp only [if_neg ht] at h2
        exact zd_R_nm H t k (by omega) h2
    | 5 =>
      show ∀ t k, t < zd_T (zd_addT A s o) → k < zd_sz (zd_addT A s o) t → zd_srt (zd_addT A s o) t = 4 → _ = nI (zd_pt (zd_addT A s o) t k)
      intro t k h1 h2 h3
      simp only [zd_addT, zd_B_uN, zd_T_uN, zd_srt_uN, zd_sz_uN, zd_nm_uN, zd_pt_uN, zd_of_uN, zd_M_uN, zd_mf_uN, zd_mt_uN, zd_rc_uN, zd_kd_uN, zd_tg_uN, zd_wh_uN, zd_F_uN, zd_ff_uN, zd_ft_uN, zd_fa_uN, zd_fb_uN, zd_d0_uN, zd_d1_uN, zd_d2_uN, zd_O_uN, zd_ty_uN, zd_ln_uN, zd_vl_uN, zd_gI, zd_gI2, reduceIte, false_and, and_false, true_and, and_true, if_true, if_false, Nat.reduceEqDiff, reduceCtorEq, and_self, Nat.succ_ne_self] at h1 h2 h3 ⊢
      by_cases ht : t = zd_T A
      · simp only [if_pos ht] at h2
        exact absurd h2 (Nat.not_lt_zero _)
      · simp only [if_neg ht] at h2 h3
        exact zd_R_pt H t k (by omega) h2 h3
    | 6 =>
      show ∀ t, t < zd_T (zd_addT A s o) → zd_srt (zd_addT A s o) t = 5 → _ = nI (zd_of (zd_addT A s o) t)
      intro t h1 h2
      simp only [zd_addT, zd_B_uN, zd_T_uN, zd_srt_uN, zd_sz_uN, zd_nm_uN, zd_pt_uN, zd_of_uN, zd_M_uN, zd_mf_uN, zd_mt_uN, zd_rc_uN, zd_kd_uN, zd_tg_uN, zd_wh_uN, zd_F_uN, zd_ff_uN, zd_ft_uN, zd_fa_uN, zd_fb_uN, zd_d0_uN, zd_d1_uN, zd_d2_uN, zd_O_uN, zd_ty_uN, zd_ln_uN, zd_vl_uN, zd_gI, zd_gI2, reduceIte, false_and, and_false, true_and, and_true, if_true, if_false, Nat.reduceEqDiff, reduceCtorEq, and_self, Nat.succ_ne_self] at h1 h2 ⊢
      by_cases ht : t = zd_T A
      · simp only [if_pos ht] at h2
        exact absurd h2 ho
      · simp only [if_neg ht] at h2 ⊢
        exact zd_R_of H t (by omega) h2
    | 0 => exact H 0
    | 7 => exact H 7
    | 8 => exact H 8
    | 9 => exact H 9
    | 10 => exact H 10
    | 11 => exact H 11
    | 12 => exact H 12
    | 13 => exact H 13
    | 14 => exact H 14
    | 15 => exact H 15
    | 16 => exact H 16
    | 17 => exact H 17
    | 18 => exact H 18
    | 19 => exact H 19
    | 20 => exact H 20
    | 21 => exact H 21
    | 22 => exact H 22
    | 23 => exact H 23
    | 24 => exact H 24
    | 25 => exact H 25
    | 26 => exact H 26
    | _ + 27 => exact trivial
  · exact zd_sC_I (zd_sC_I (zd_sC_I (zd_sC_refl h) (by unfold zd_fr; decide) _ _ _) (by unfold zd_fr; decide) _ _ _) (by unfold zd_fr; decide) _ _ _
  · rfl
