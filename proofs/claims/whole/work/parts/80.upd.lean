/-! what is told: members, methods, functions, rules (printed by gen80.py) -/
def zg_addM (A : zd_A) (t n y : Nat) : zd_A := zd_uN (zd_uN (zd_uN A 3 t 0 (zd_sz A t + 1)) 4 t (zd_sz A t) n) 5 t (zd_sz A t) y
theorem zg_C_addM {A : zd_A} {h : zx_H} (H : zd_C A h) (K : zd_ok A) {t n y : Nat} {el : Int32} (ht : t < zd_T A) (hz : zd_sz A t < 8) (hel : zd_srt A t = 4 → el = nI y) : zd_C (zg_addM A t n y) (zx_sI (zx_sI (zx_sI h 4 0 t (nI (zd_sz A t + 1))) 5 0 (8 * t + zd_sz A t) (nI n)) 6 0 (8 * t + zd_sz A t) el) := by
  have hT := zd_ok_T K
  have hz8 := zd_ok_sz K
  intro q
  match q with
  | 0 => exact H 0
  | 1 => exact H 1
  | 2 => exact H 2
  | 3 => exact H 3
  | 4 =>
    show ∀ u, u < 40 → (zx_sI (zx_sI (zx_sI h 4 0 t (nI (zd_sz A t + 1))) 5 0 (8 * t + zd_sz A t) (nI n)) 6 0 (8 * t + zd_sz A t) el).1 4 0 u = nI (zd_sz (zg_addM A t n y) u)
    intro u g0
    simp only [zg_addM, zd_B_uN, zd_B_uI, zd_B_uJ, zd_T_uN, zd_T_uI, zd_T_uJ, zd_srt_uN, zd_srt_uI, zd_srt_uJ, zd_sz_uN, zd_sz_uI, zd_sz_uJ, zd_nm_uN, zd_nm_uI, zd_nm_uJ, zd_pt_uN, zd_pt_uI, zd_pt_uJ, zd_of_uN, zd_of_uI, zd_of_uJ, zd_M_uN, zd_M_uI, zd_M_uJ, zd_mf_uN, zd_mf_uI, zd_mf_uJ, zd_mt_uN, zd_mt_uI, zd_mt_uJ, zd_rc_uN, zd_rc_uI, zd_rc_uJ, zd_kd_uN, zd_kd_uI, zd_kd_uJ, zd_tg_uN, zd_tg_uI, zd_tg_uJ, zd_wh_uN, zd_wh_uI, zd_wh_uJ, zd_F_uN, zd_F_uI, zd_F_uJ, zd_ff_uN, zd_ff_uI, zd_ff_uJ, zd_ft_uN, zd_ft_uI, zd_ft_uJ, zd_fa_uN, zd_fa_uI, zd_fa_uJ, zd_fb_uN, zd_fb_uI, zd_fb_uJ, zd_d0_uN, zd_d0_uI, zd_d0_uJ, zd_d1_uN, zd_d1_uI, zd_d1_uJ, zd_d2_uN, zd_d2_uI, zd_d2_uJ, zd_O_uN, zd_O_uI, zd_O_uJ, zd_ty_uN, zd_ty_uI, zd_ty_uJ, zd_ln_uN, zd_ln_uI, zd_ln_uJ, zd_vl_uN, zd_vl_uI, zd_vl_uJ, reduceIte, false_and, and_false, true_and, and_true, if_true, if_false, Nat.reduceEqDiff, reduceCtorEq, and_self, eq_self, Nat.succ_ne_self, zd_gI, zd_gI2, zd_gJ, zd_gJ1] at g0 ⊢
    repeat' split
    all_goals first | rfl | (exfalso; omega) | exact (zd_C_sz H u (by omega)) | (simp only [nI_1]; done) | (rw [nI_1]; done)
  | 5 =>
    show ∀ u k, u < (zd_T (zg_addM A t n y)) → k < zd_sz (zg_addM A t n y) u → (zx_sI (zx_sI (zx_sI h 4 0 t (nI (zd_sz A t + 1))) 5 0 (8 * t + zd_sz A t) (nI n)) 6 0 (8 * t + zd_sz A t) el).1 5 0 (8 * u + k) = nI (zd_nm (zg_addM A t n y) u k)
    intro u k g0 g1
    simp only [zg_addM, zd_B_uN, zd_B_uI, zd_B_uJ, zd_T_uN, zd_T_uI, zd_T_uJ, zd_srt_uN, zd_srt_uI, zd_srt_uJ, zd_sz_uN, zd_sz_uI, zd_sz_uJ, zd_nm_uN, zd_nm_uI, zd_nm_uJ, zd_pt_uN, zd_pt_uI, zd_pt_uJ, zd_of_uN, zd_of_uI, zd_of_uJ, zd_M_uN, zd_M_uI, zd_M_uJ, zd_mf_uN, zd_mf_uI, zd_mf_uJ, zd_mt_uN, zd_mt_uI, zd_mt_uJ, zd_rc_uN, zd_rc_uI, zd_rc_uJ, zd_kd_uN, zd_kd_uI, zd_kd_uJ, zd_tg_uN, zd_tg_uI, zd_tg_uJ, zd_wh_uN, zd_wh_uI, zd_wh_uJ, zd_F_uN, zd_F_uI, zd_F_uJ, zd_ff_uN, zd_ff_uI, zd_ff_uJ, zd_ft_uN, zd_ft_uI, zd_ft_uJ, zd_fa_uN, zd_fa_uI, zd_fa_uJ, zd_fb_uN, zd_fb_uI, zd_fb_uJ, zd_d0_uN, zd_d0_uI, zd_d0_uJ, zd_d1_uN, zd_d1_uI, zd_d1_uJ, zd_d2_uN, zd_d2_uI, zd_d2_uJ, zd_O_uN, zd_O_uI, zd_O_uJ, zd_ty_uN, zd_ty_uI, zd_ty_uJ, zd_ln_uN, zd_ln_uI, zd_ln_uJ, zd_vl_uN, zd_vl_uI, zd_vl_uJ, reduceIte, false_and, and_false, true_and, and_true, if_true, if_false, Nat.reduceEqDiff, reduceCtorEq, and_self, eq_self, Nat.succ_ne_self, zd_gI, zd_gI2] at g0 g1 ⊢
    have := hz8 t (by omega)
    have := hz8 u (by omega)
    by_cases e : u = t
    · subst e
      by_cases e2 : k = zd_sz A u
      · rw [if_pos (by omega), if_pos ⟨rfl, e2⟩]
      · rw [if_pos rfl] at g1
        rw [if_neg (by omega), if_neg (by omega)]
        exact zd_C_nm H u k g0 (by omega)
    · rw [if_neg e] at g1
      rw [if_neg (by omega), if_neg (by omega)]
      exact zd_C_nm H u k g0 g1
  | 6 =>
    show ∀ u k, u < (zd_T (zg_addM A t n y)) → k < zd_sz (zg_addM A t n y) u → zd_srt (zg_addM A t n y) u = 4 → (zx_sI (zx_sI (zx_sI h 4 0 t (nI (zd_sz A t + 1))) 5 0 (8 * t + zd_sz A t) (nI n)) 6 0 (8 * t + zd_sz A t) el).1 6 0 (8 * u + k) = nI (zd_pt (zg_addM A t n y) u k)
    intro u k g0 g1 g2
    simp only [zg_addM, zd_B_uN, zd_B_uI, zd_B_uJ, zd_T_uN, zd_T_uI, zd_T_uJ, zd_srt_uN, zd_srt_uI, zd_srt_uJ, zd_sz_uN, zd_sz_uI, zd_sz_uJ, zd_nm_uN, zd_nm_uI, zd_nm_uJ, zd_pt_uN, zd_pt_uI, zd_pt_uJ, zd_of_uN, zd_of_uI, zd_of_uJ, zd_M_uN, zd_M_uI, zd_M_uJ, zd_mf_uN, zd_mf_uI, zd_mf_uJ, zd_mt_uN, zd_mt_uI, zd_mt_uJ, zd_rc_uN, zd_rc_uI, zd_rc_uJ, zd_kd_uN, zd_kd_uI, zd_kd_uJ, zd_tg_uN, zd_tg_uI, zd_tg_uJ, zd_wh_uN, zd_wh_uI, zd_wh_uJ, zd_F_uN, zd_F_uI, zd_F_uJ, zd_ff_uN, zd_ff_uI, zd_ff_uJ, zd_ft_uN, zd_ft_uI, zd_ft_uJ, zd_fa_uN, zd_fa_uI, zd_fa_uJ, zd_fb_uN, zd_fb_uI, zd_fb_uJ, zd_d0_uN, zd_d0_uI, zd_d0_uJ, zd_d1_uN, zd_d1_uI, zd_d1_uJ, zd_d2_uN, zd_d2_uI, zd_d2_uJ, zd_O_uN, zd_O_uI, zd_O_uJ, zd_ty_uN, zd_ty_uI, zd_ty_uJ, zd_ln_uN, zd_ln_uI, zd_ln_uJ, zd_vl_uN, zd_vl_uI, zd_vl_uJ, reduceIte, false_and, and_false, true_and, and_true, if_true, if_false, Nat.reduceEqDiff, reduceCtorEq, and_self, eq_self, Nat.succ_ne_self, zd_gI, zd_gI2] at g0 g1 g2 ⊢
    have := hz8 t (by omega)
    have := hz8 u (by omega)
    by_cases e : u = t
    · subst e
      by_cases e2 : k = zd_sz A u
      · rw [if_pos (by omega), if_pos ⟨rfl, e2⟩]
        exact hel g2
      · rw [if_pos rfl] at g1
        rw [if_neg (by omega), if_neg (by omega)]
        exact zd_C_pt H u k g0 (by omega) g2
    · rw [if_neg e] at g1
      rw [if_neg (by omega), if_neg (by omega)]
      exact zd_C_pt H u k g0 g1 g2
  | 7 => exact H 7
  | 8 => exact H 8
  | 9 => exact H 9
  | 10 => exact H 10
  | 11 => exact H 11
  | 12 => exact H 12
  | 13 => exact H 13
  | 14 => exact H 14
  | 15 => exact H 15
  | 16 => exact H 16
  | 17 => exact H 17
  | 18 => exact H 18
  | 19 => exact H 19
  | 20 => exact H 20
  | 21 => exact H 21
  | 22 => exact H 22
  | 23 => exact H 23
  | 24 => exact H 24
  | 25 => exact H 25
  | _ + 26 => exact trivial
theorem zg_R_addM {A : zd_A} {h : zx_H} (H : zd_R A h) (K : zd_ok A) {t n y : Nat} (ht : t < zd_T A) (hz : zd_sz A t < 8) : zd_R (zg_addM A t n y) (zx_sI (zx_sI (zx_sI h 27 0 (8 * t + zd_sz A t) (nI n)) 28 0 (8 * t + zd_sz A t) (nI y)) 26 0 t (nI (zd_sz A t + 1))) := by
  have hT := zd_ok_T K
  have hz8 := zd_ok_sz K
  intro q
  match q with
  | 0 => exact H 0
  | 1 => exact H 1
  | 2 => exact H 2
  | 3 =>
    show ∀ u, u < (zd_T (zg_addM A t n y)) → (zx_sI (zx_sI (zx_sI h 27 0 (8 * t + zd_sz A t) (nI n)) 28 0 (8 * t + zd_sz A t) (nI y)) 26 0 t (nI (zd_sz A t + 1))).1 26 0 u = nI (zd_sz (zg_addM A t n y) u)
    intro u g0
    simp only [zg_addM, zd_B_uN, zd_B_uI, zd_B_uJ, zd_T_uN, zd_T_uI, zd_T_uJ, zd_srt_uN, zd_srt_uI, zd_srt_uJ, zd_sz_uN, zd_sz_uI, zd_sz_uJ, zd_nm_uN, zd_nm_uI, zd_nm_uJ, zd_pt_uN, zd_pt_uI, zd_pt_uJ, zd_of_uN, zd_of_uI, zd_of_uJ, zd_M_uN, zd_M_uI, zd_M_uJ, zd_mf_uN, zd_mf_uI, zd_mf_uJ, zd_mt_uN, zd_mt_uI, zd_mt_uJ, zd_rc_uN, zd_rc_uI, zd_rc_uJ, zd_kd_uN, zd_kd_uI, zd_kd_uJ, zd_tg_uN, zd_tg_uI, zd_tg_uJ, zd_wh_uN, zd_wh_uI, zd_wh_uJ, zd_F_uN, zd_F_uI, zd_F_uJ, zd_ff_uN, zd_ff_uI, zd_ff_uJ, zd_ft_uN, zd_ft_uI, zd_ft_uJ, zd_fa_uN, zd_fa_uI, zd_fa_uJ, zd_fb_uN, zd_fb_uI, zd_fb_uJ, zd_d0_uN, zd_d0_uI, zd_d0_uJ, zd_d1_uN, zd_d1_uI, zd_d1_uJ, zd_d2_uN, zd_d2_uI, zd_d2_uJ, zd_O_uN, zd_O_uI, zd_O_uJ, zd_ty_uN, zd_ty_uI, zd_ty_uJ, zd_ln_uN, zd_ln_uI, zd_ln_uJ, zd_vl_uN, zd_vl_uI, zd_vl_uJ, reduceIte, false_and, and_false, true_and, and_true, if_true, if_false, Nat.reduceEqDiff, reduceCtorEq, and_self, eq_self, Nat.succ_ne_self, zd_gI, zd_gI2, zd_gJ, zd_gJ1] at g0 ⊢
    repeat' split
    all_goals first | rfl | (exfalso; omega) | exact (zd_R_sz H u (by omega)) | (simp only [nI_1]; done) | (rw [nI_1]; done)
  | 4 =>
    show ∀ u k, u < (zd_T (zg_addM A t n y)) → k < zd_sz (zg_addM A t n y) u → (zx_sI (zx_sI (zx_sI h 27 0 (8 * t + zd_sz A t) (nI n)) 28 0 (8 * t + zd_sz A t) (nI y)) 26 0 t (nI (zd_sz A t + 1))).1 27 0 (8 * u + k) = nI (zd_nm (zg_addM A t n y) u k)
    intro u k g0 g1
    simp only [zg_addM, zd_B_uN, zd_B_uI, zd_B_uJ, zd_T_uN, zd_T_uI, zd_T_uJ, zd_srt_uN, zd_srt_uI, zd_srt_uJ, zd_sz_uN, zd_sz_uI, zd_sz_uJ, zd_nm_uN, zd_nm_uI, zd_nm_uJ, zd_pt_uN, zd_pt_uI, zd_pt_uJ, zd_of_uN, zd_of_uI, zd_of_uJ, zd_M_uN, zd_M_uI, zd_M_uJ, zd_mf_uN, zd_mf_uI, zd_mf_uJ, zd_mt_uN, zd_mt_uI, zd_mt_uJ, zd_rc_uN, zd_rc_uI, zd_rc_uJ, zd_kd_uN, zd_kd_uI, zd_kd_uJ, zd_tg_uN, zd_tg_uI, zd_tg_uJ, zd_wh_uN, zd_wh_uI, zd_wh_uJ, zd_F_uN, zd_F_uI, zd_F_uJ, zd_ff_uN, zd_ff_uI, zd_ff_uJ, zd_ft_uN, zd_ft_uI, zd_ft_uJ, zd_fa_uN, zd_fa_uI, zd_fa_uJ, zd_fb_uN, zd_fb_uI, zd_fb_uJ, zd_d0_uN, zd_d0_uI, zd_d0_uJ, zd_d1_uN, zd_d1_uI, zd_d1_uJ, zd_d2_uN, zd_d2_uI, zd_d2_uJ, zd_O_uN, zd_O_uI, zd_O_uJ, zd_ty_uN, zd_ty_uI, zd_ty_uJ, zd_ln_uN, zd_ln_uI, zd_ln_uJ, zd_vl_uN, zd_vl_uI, zd_vl_uJ, reduceIte, false_and, and_false, true_and, and_true, if_true, if_false, Nat.reduceEqDiff, reduceCtorEq, and_self, eq_self, Nat.succ_ne_self, zd_gI, zd_gI2] at g0 g1 ⊢
    have := hz8 t (by omega)
    have := hz8 u (by omega)
    by_cases e : u = t
    · subst e
      by_cases e2 : k = zd_sz A u
      · rw [if_pos (by omega), if_pos ⟨rfl, e2⟩]
      · rw [if_pos rfl] at g1
        rw [if_neg (by omega), if_neg (by omega)]
        exact zd_R_nm H u k g0 (by omega)
    · rw [if_neg e] at g1
      rw [if_neg (by omega), if_neg (by omega)]
      exact zd_R_nm H u k g0 g1
  | 5 =>
    show ∀ u k, u < (zd_T (zg_addM A t n y)) → k < zd_sz (zg_addM A t n y) u → zd_srt (zg_addM A t n y) u = 4 → (zx_sI (zx_sI (zx_sI h 27 0 (8 * t + zd_sz A t) (nI n)) 28 0 (8 * t + zd_sz A t) (nI y)) 26 0 t (nI (zd_sz A t + 1))).1 28 0 (8 * u + k) = nI (zd_pt (zg_addM A t n y) u k)
    intro u k g0 g1 g2
    simp only [zg_addM, zd_B_uN, zd_B_uI, zd_B_uJ, zd_T_uN, zd_T_uI, zd_T_uJ, zd_srt_uN, zd_srt_uI, zd_srt_uJ, zd_sz_uN, zd_sz_uI, zd_sz_uJ, zd_nm_uN, zd_nm_uI, zd_nm_uJ, zd_pt_uN, zd_pt_uI, zd_pt_uJ, zd_of_uN, zd_of_uI, zd_of_uJ, zd_M_uN, zd_M_uI, zd_M_uJ, zd_mf_uN, zd_mf_uI, zd_mf_uJ, zd_mt_uN, zd_mt_uI, zd_mt_uJ, zd_rc_uN, zd_rc_uI, zd_rc_uJ, zd_kd_uN, zd_kd_uI, zd_kd_uJ, zd_tg_uN, zd_tg_uI, zd_tg_uJ, zd_wh_uN, zd_wh_uI, zd_wh_uJ, zd_F_uN, zd_F_uI, zd_F_uJ, zd_ff_uN, zd_ff_uI, zd_ff_uJ, zd_ft_uN, zd_ft_uI, zd_ft_uJ, zd_fa_uN, zd_fa_uI, zd_fa_uJ, zd_fb_uN, zd_fb_uI, zd_fb_uJ, zd_d0_uN, zd_d0_uI, zd_d0_uJ, zd_d1_uN, zd_d1_uI, zd_d1_uJ, zd_d2_uN, zd_d2_uI, zd_d2_uJ, zd_O_uN, zd_O_uI, zd_O_uJ, zd_ty_uN, zd_ty_uI, zd_ty_uJ, zd_ln_uN, zd_ln_uI, zd_ln_uJ, zd_vl_uN, zd_vl_uI, zd_vl_uJ, reduceIte, false_and, and_false, true_and, and_true, if_true, if_false, Nat.reduceEqDiff, reduceCtorEq, and_self, eq_self, Nat.succ_ne_self, zd_gI, zd_gI2] at g0 g1 g2 ⊢
    have := hz8 t (by omega)
    have := hz8 u (by omega)
    by_cases e : u = t
    · subst e
      by_cases e2 : k = zd_sz A u
      · rw [if_pos (by omega), if_pos ⟨rfl, e2⟩]
      · rw [if_pos rfl] at g1
        rw [if_neg (by omega), if_neg (by omega)]
        exact zd_R_pt H u k g0 (by omega) g2
    · rw [if_neg e] at g1
      rw [if_neg (by omega), if_neg (by omega)]
      exact zd_R_pt H u k g0 g1 g2
  | 6 => exact H 6
  | 7 => exact H 7
  | 8 => exact H 8
  | 9 => exact H 9
  | 10 => exact H 10
  | 11 => exact H 11
  | 12 => exact H 12
  | 13 => exact H 13
  | 14 => exact H 14
  | 15 => exact H 15
  | 16 => exact H 16
  | 17 => exact H 17
  | 18 => exact H 18
  | 19 => exact H 19
  | 20 => exact H 20
  | 21 => exact H 21
  | 22 => exact H 22
  | 23 => exact H 23
  | 24 => exact H 24
  | 25 => exact H 25
  | 26 => exact H 26
  | _ + 27 => exact trivial
theorem zg_R_addT {A : zd_A} {h : zx_H} (H : zd_R A h) (K : zd_ok A) {s l : Nat} (hT1 : zd_T A < 40) : zd_R (zd_addT A s l) (zx_sI (zx_sI (zx_sI (zx_sI h 25 0 (zd_T A) (nI s)) 26 0 (zd_T A) (nI 0)) 24 0 2 (nI (zd_T A + 1))) 29 0 (zd_T A) (nI l)) := by
  have hT := zd_ok_T K
  have hz0 := zd_ok_sz0 K
  intro q
  match q with
  | 0 => exact H 0
  | 1 =>
    show (zx_sI (zx_sI (zx_sI (zx_sI h 25 0 (zd_T A) (nI s)) 26 0 (zd_T A) (nI 0)) 24 0 2 (nI (zd_T A + 1))) 29 0 (zd_T A) (nI l)).1 24 0 2 = nI (zd_T (zd_addT A s l))
    simp only [zd_addT, zd_B_uN, zd_B_uI, zd_B_uJ, zd_T_uN, zd_T_uI, zd_T_uJ, zd_srt_uN, zd_srt_uI, zd_srt_uJ, zd_sz_uN, zd_sz_uI, zd_sz_uJ, zd_nm_uN, zd_nm_uI, zd_nm_uJ, zd_pt_uN, zd_pt_uI, zd_pt_uJ, zd_of_uN, zd_of_uI, zd_of_uJ, zd_M_uN, zd_M_uI, zd_M_uJ, zd_mf_uN, zd_mf_uI, zd_mf_uJ, zd_mt_uN, zd_mt_uI, zd_mt_uJ, zd_rc_uN, zd_rc_uI, zd_rc_uJ, zd_kd_uN, zd_kd_uI, zd_kd_uJ, zd_tg_uN, zd_tg_uI, zd_tg_uJ, zd_wh_uN, zd_wh_uI, zd_wh_uJ, zd_F_uN, zd_F_uI, zd_F_uJ, zd_ff_uN, zd_ff_uI, zd_ff_uJ, zd_ft_uN, zd_ft_uI, zd_ft_uJ, zd_fa_uN, zd_fa_uI, zd_fa_uJ, zd_fb_uN, zd_fb_uI, zd_fb_uJ, zd_d0_uN, zd_d0_uI, zd_d0_uJ, zd_d1_uN, zd_d1_uI, zd_d1_uJ, zd_d2_uN, zd_d2_uI, zd_d2_uJ, zd_O_uN, zd_O_uI, zd_O_uJ, zd_ty_uN, zd_ty_uI, zd_ty_uJ, zd_ln_uN, zd_ln_uI, zd_ln_uJ, zd_vl_uN, zd_vl_uI, zd_vl_uJ, reduceIte, false_and, and_false, true_and, and_true, if_true, if_false, Nat.reduceEqDiff, reduceCtorEq, and_self, eq_self, Nat.succ_ne_self, zd_gI, zd_gI2, zd_gJ, zd_gJ1] at ⊢
    repeat' split
    all_goals first | rfl | (exfalso; omega) | exact (zd_R_T H ) | (simp only [nI_1]; done) | (rw [nI_1]; done)
  | 2 =>
    show ∀ u, u < (zd_T (zd_addT A s l)) → (zx_sI (zx_sI (zx_sI (zx_sI h 25 0 (zd_T A) (nI s)) 26 0 (zd_T A) (nI 0)) 24 0 2 (nI (zd_T A + 1))) 29 0 (zd_T A) (nI l)).1 25 0 u = nI (zd_srt (zd_addT A s l) u)
    intro u g0
    by_cases e : u = zd_T A
    · subst e
      simp only [zd_addT, zd_B_uN, zd_B_uI, zd_B_uJ, zd_T_uN, zd_T_uI, zd_T_uJ, zd_srt_uN, zd_srt_uI, zd_srt_uJ, zd_sz_uN, zd_sz_uI, zd_sz_uJ, zd_nm_uN, zd_nm_uI, zd_nm_uJ, zd_pt_uN, zd_pt_uI, zd_pt_uJ, zd_of_uN, zd_of_uI, zd_of_uJ, zd_M_uN, zd_M_uI, zd_M_uJ, zd_mf_uN, zd_mf_uI, zd_mf_uJ, zd_mt_uN, zd_mt_uI, zd_mt_uJ, zd_rc_uN, zd_rc_uI, zd_rc_uJ, zd_kd_uN, zd_kd_uI, zd_kd_uJ, zd_tg_uN, zd_tg_uI, zd_tg_uJ, zd_wh_uN, zd_wh_uI, zd_wh_uJ, zd_F_uN, zd_F_uI, zd_F_uJ, zd_ff_uN, zd_ff_uI, zd_ff_uJ, zd_ft_uN, zd_ft_uI, zd_ft_uJ, zd_fa_uN, zd_fa_uI, zd_fa_uJ, zd_fb_uN, zd_fb_uI, zd_fb_uJ, zd_d0_uN, zd_d0_uI, zd_d0_uJ, zd_d1_uN, zd_d1_uI, zd_d1_uJ, zd_d2_uN, zd_d2_uI, zd_d2_uJ, zd_O_uN, zd_O_uI, zd_O_uJ, zd_ty_uN, zd_ty_uI, zd_ty_uJ, zd_ln_uN, zd_ln_uI, zd_ln_uJ, zd_vl_uN, zd_vl_uI, zd_vl_uJ, reduceIte, false_and, and_false, true_and, and_true, if_true, if_false, Nat.reduceEqDiff, reduceCtorEq, and_self, eq_self, Nat.succ_ne_self, zd_gI, zd_gI2, zd_gJ, zd_gJ1] at g0 ⊢
      repeat' split
      all_goals first | rfl | (exfalso; omega) | exact (zd_R_srt H u (by first | assumption | omega)) | (simp only [nI_1]; done)
    · skip
      simp only [zd_addT, zd_B_uN, zd_B_uI, zd_B_uJ, zd_T_uN, zd_T_uI, zd_T_uJ, zd_srt_uN, zd_srt_uI, zd_srt_uJ, zd_sz_uN, zd_sz_uI, zd_sz_uJ, zd_nm_uN, zd_nm_uI, zd_nm_uJ, zd_pt_uN, zd_pt_uI, zd_pt_uJ, zd_of_uN, zd_of_uI, zd_of_uJ, zd_M_uN, zd_M_uI, zd_M_uJ, zd_mf_uN, zd_mf_uI, zd_mf_uJ, zd_mt_uN, zd_mt_uI, zd_mt_uJ, zd_rc_uN, zd_rc_uI, zd_rc_uJ, zd_kd_uN, zd_kd_uI, zd_kd_uJ, zd_tg_uN, zd_tg_uI, zd_tg_uJ, zd_wh_uN, zd_wh_uI, zd_wh_uJ, zd_F_uN, zd_F_uI, zd_F_uJ, zd_ff_uN, zd_ff_uI, zd_ff_uJ, zd_ft_uN, zd_ft_uI, zd_ft_uJ, zd_fa_uN, zd_fa_uI, zd_fa_uJ, zd_fb_uN, zd_fb_uI, zd_fb_uJ, zd_d0_uN, zd_d0_uI, zd_d0_uJ, zd_d1_uN, zd_d1_uI, zd_d1_uJ, zd_d2_uN, zd_d2_uI, zd_d2_uJ, zd_O_uN, zd_O_uI, zd_O_uJ, zd_ty_uN, zd_ty_uI, zd_ty_uJ, zd_ln_uN, zd_ln_uI, zd_ln_uJ, zd_vl_uN, zd_vl_uI, zd_vl_uJ, reduceIte, false_and, and_false, true_and, and_true, if_true, if_false, Nat.reduceEqDiff, reduceCtorEq, and_self, eq_self, Nat.succ_ne_self, zd_gI, zd_gI2, zd_gJ, zd_gJ1, e] at g0 ⊢
      repeat' split
      all_goals first | rfl | (exfalso; omega) | exact (zd_R_srt H u (by first | assumption | omega)) | (simp only [nI_1]; done)
  | 3 =>
    show ∀ u, u < (zd_T (zd_addT A s l)) → (zx_sI (zx_sI (zx_sI (zx_sI h 25 0 (zd_T A) (nI s)) 26 0 (zd_T A) (nI 0)) 24 0 2 (nI (zd_T A + 1))) 29 0 (zd_T A) (nI l)).1 26 0 u = nI (zd_sz (zd_addT A s l) u)
    intro u g0
    by_cases e : u = zd_T A
    · subst e
      simp only [zd_addT, zd_B_uN, zd_B_uI, zd_B_uJ, zd_T_uN, zd_T_uI, zd_T_uJ, zd_srt_uN, zd_srt_uI, zd_srt_uJ, zd_sz_uN, zd_sz_uI, zd_sz_uJ, zd_nm_uN, zd_nm_uI, zd_nm_uJ, zd_pt_uN, zd_pt_uI, zd_pt_uJ, zd_of_uN, zd_of_uI, zd_of_uJ, zd_M_uN, zd_M_uI, zd_M_uJ, zd_mf_uN, zd_mf_uI, zd_mf_uJ, zd_mt_uN, zd_mt_uI, zd_mt_uJ, zd_rc_uN, zd_rc_uI, zd_rc_uJ, zd_kd_uN, zd_kd_uI, zd_kd_uJ, zd_tg_uN, zd_tg_uI, zd_tg_uJ, zd_wh_uN, zd_wh_uI, zd_wh_uJ, zd_F_uN, zd_F_uI, zd_F_uJ, zd_ff_uN, zd_ff_uI, zd_ff_uJ, zd_ft_uN, zd_ft_uI, zd_ft_uJ, zd_fa_uN, zd_fa_uI, zd_fa_uJ, zd_fb_uN, zd_fb_uI, zd_fb_uJ, zd_d0_uN, zd_d0_uI, zd_d0_uJ, zd_d1_uN, zd_d1_uI, zd_d1_uJ, zd_d2_uN, zd_d2_uI, zd_d2_uJ, zd_O_uN, zd_O_uI, zd_O_uJ, zd_ty_uN, zd_ty_uI, zd_ty_uJ, zd_ln_uN, zd_ln_uI, zd_ln_uJ, zd_vl_uN, zd_vl_uI, zd_vl_uJ, reduceIte, false_and, and_false, true_and, and_true, if_true, if_false, Nat.reduceEqDiff, reduceCtorEq, and_self, eq_self, Nat.succ_ne_self, zd_gI, zd_gI2, zd_gJ, zd_gJ1] at g0 ⊢
      repeat' split
      all_goals first | rfl | (exfalso; omega) | exact (zd_R_sz H u (by first | assumption | omega)) | (simp only [nI_1]; done)
    · skip
      simp only [zd_addT, zd_B_uN, zd_B_uI, zd_B_uJ, zd_T_uN, zd_T_uI, zd_T_uJ, zd_srt_uN, zd_srt_uI, zd_srt_uJ, zd_sz_uN, zd_sz_uI, zd_sz_uJ, zd_nm_uN, zd_nm_uI, zd_nm_uJ, zd_pt_uN, zd_pt_uI, zd_pt_uJ, zd_of_uN, zd_of_uI, zd_of_uJ, zd_M_uN, zd_M_uI, zd_M_uJ, zd_mf_uN, zd_mf_uI, zd_mf_uJ, zd_mt_uN, zd_mt_uI, zd_mt_uJ, zd_rc_uN, zd_rc_uI, zd_rc_uJ, zd_kd_uN, zd_kd_uI, zd_kd_uJ, zd_tg_uN, zd_tg_uI, zd_tg_uJ, zd_wh_uN, zd_wh_uI, zd_wh_uJ, zd_F_uN, zd_F_uI, zd_F_uJ, zd_ff_uN, zd_ff_uI, zd_ff_uJ, zd_ft_uN, zd_ft_uI, zd_ft_uJ, zd_fa_uN, zd_fa_uI, zd_fa_uJ, zd_fb_uN, zd_fb_uI, zd_fb_uJ, zd_d0_uN, zd_d0_uI, zd_d0_uJ, zd_d1_uN, zd_d1_uI, zd_d1_uJ, zd_d2_uN, zd_d2_uI, zd_d2_uJ, zd_O_uN, zd_O_uI, zd_O_uJ, zd_ty_uN, zd_ty_uI, zd_ty_uJ, zd_ln_uN, zd_ln_uI, zd_ln_uJ, zd_vl_uN, zd_vl_uI, zd_vl_uJ, reduceIte, false_and, and_false, true_and, and_true, if_true, if_false, Nat.reduceEqDiff, reduceCtorEq, and_self, eq_self, Nat.succ_ne_self, zd_gI, zd_gI2, zd_gJ, zd_gJ1, e] at g0 ⊢
      repeat' split
      all_goals first | rfl | (exfalso; omega) | exact (zd_R_sz H u (by first | assumption | omega)) | (simp only [nI_1]; done)
  | 4 =>
    show ∀ u k, u < (zd_T (zd_addT A s l)) → k < zd_sz (zd_addT A s l) u → (zx_sI (zx_sI (zx_sI (zx_sI h 25 0 (zd_T A) (nI s)) 26 0 (zd_T A) (nI 0)) 24 0 2 (nI (zd_T A + 1))) 29 0 (zd_T A) (nI l)).1 27 0 (8 * u + k) = nI (zd_nm (zd_addT A s l) u k)
    intro u k g0 g1
    by_cases e : u = zd_T A
    · subst e
      simp only [zd_addT, zd_B_uN, zd_B_uI, zd_B_uJ, zd_T_uN, zd_T_uI, zd_T_uJ, zd_srt_uN, zd_srt_uI, zd_srt_uJ, zd_sz_uN, zd_sz_uI, zd_sz_uJ, zd_nm_uN, zd_nm_uI, zd_nm_uJ, zd_pt_uN, zd_pt_uI, zd_pt_uJ, zd_of_uN, zd_of_uI, zd_of_uJ, zd_M_uN, zd_M_uI, zd_M_uJ, zd_mf_uN, zd_mf_uI, zd_mf_uJ, zd_mt_uN, zd_mt_uI, zd_mt_uJ, zd_rc_uN, zd_rc_uI, zd_rc_uJ, zd_kd_uN, zd_kd_uI, zd_kd_uJ, zd_tg_uN, zd_tg_uI, zd_tg_uJ, zd_wh_uN, zd_wh_uI, zd_wh_uJ, zd_F_uN, zd_F_uI, zd_F_uJ, zd_ff_uN, zd_ff_uI, zd_ff_uJ, zd_ft_uN, zd_ft_uI, zd_ft_uJ, zd_fa_uN, zd_fa_uI, zd_fa_uJ, zd_fb_uN, zd_fb_uI, zd_fb_uJ, zd_d0_uN, zd_d0_uI, zd_d0_uJ, zd_d1_uN, zd_d1_uI, zd_d1_uJ, zd_d2_uN, zd_d2_uI, zd_d2_uJ, zd_O_uN, zd_O_uI, zd_O_uJ, zd_ty_uN, zd_ty_uI, zd_ty_uJ, zd_ln_uN, zd_ln_uI, zd_ln_uJ, zd_vl_uN, zd_vl_uI, zd_vl_uJ, reduceIte, false_and, and_false, true_and, and_true, if_true, if_false, Nat.reduceEqDiff, reduceCtorEq, and_self, eq_self, Nat.succ_ne_self, zd_gI, zd_gI2, zd_gJ, zd_gJ1] at g0 g1 ⊢
      repeat' split
      all_goals first | rfl | (exfalso; omega) | exact (zd_R_nm H u k (by first | assumption | omega) (by first | assumption | omega)) | (simp only [nI_1]; done)
    · skip
      simp only [zd_addT, zd_B_uN, zd_B_uI, zd_B_uJ, zd_T_uN, zd_T_uI, zd_T_uJ, zd_srt_uN, zd_srt_uI, zd_srt_uJ, zd_sz_uN, zd_sz_uI, zd_sz_uJ, zd_nm_uN, zd_nm_uI, zd_nm_uJ, zd_pt_uN, zd_pt_uI, zd_pt_uJ, zd_of_uN, zd_of_uI, zd_of_uJ, zd_M_uN, zd_M_uI, zd_M_uJ, zd_mf_uN, zd_mf_uI, zd_mf_uJ, zd_mt_uN, zd_mt_uI, zd_mt_uJ, zd_rc_uN, zd_rc_uI, zd_rc_uJ, zd_kd_uN, zd_kd_uI, zd_kd_uJ, zd_tg_uN, zd_tg_uI, zd_tg_uJ, zd_wh_uN, zd_wh_uI, zd_wh_uJ, zd_F_uN, zd_F_uI, zd_F_uJ, zd_ff_uN, zd_ff_uI, zd_ff_uJ, zd_ft_uN, zd_ft_uI, zd_ft_uJ, zd_fa_uN, zd_fa_uI, zd_fa_uJ, zd_fb_uN, zd_fb_uI, zd_fb_uJ, zd_d0_uN, zd_d0_uI, zd_d0_uJ, zd_d1_uN, zd_d1_uI, zd_d1_uJ, zd_d2_uN, zd_d2_uI, zd_d2_uJ, zd_O_uN, zd_O_uI, zd_O_uJ, zd_ty_uN, zd_ty_uI, zd_ty_uJ, zd_ln_uN, zd_ln_uI, zd_ln_uJ, zd_vl_uN, zd_vl_uI, zd_vl_uJ, reduceIte, false_and, and_false, true_and, and_true, if_true, if_false, Nat.reduceEqDiff, reduceCtorEq, and_self, eq_self, Nat.succ_ne_self, zd_gI, zd_gI2, zd_gJ, zd_gJ1, e] at g0 g1 ⊢
      repeat' split
      all_goals first | rfl | (exfalso; omega) | exact (zd_R_nm H u k (by first | assumption | omega) (by first | assumption | omega)) | (simp only [nI_1]; done)
  | 5 =>
    show ∀ u k, u < (zd_T (zd_addT A s l)) → k < zd_sz (zd_addT A s l) u → zd_srt (zd_addT A s l) u = 4 → (zx_sI (zx_sI (zx_sI (zx_sI h 25 0 (zd_T A) (nI s)) 26 0 (zd_T A) (nI 0)) 24 0 2 (nI (zd_T A + 1))) 29 0 (zd_T A) (nI l)).1 28 0 (8 * u + k) = nI (zd_pt (zd_addT A s l) u k)
    intro u k g0 g1 g2
    by_cases e : u = zd_T A
    · subst e
      simp only [zd_addT, zd_B_uN, zd_B_uI, zd_B_uJ, zd_T_uN, zd_T_uI, zd_T_uJ, zd_srt_uN, zd_srt_uI, zd_srt_uJ, zd_sz_uN, zd_sz_uI, zd_sz_uJ, zd_nm_uN, zd_nm_uI, zd_nm_uJ, zd_pt_uN, zd_pt_uI, zd_pt_uJ, zd_of_uN, zd_of_uI, zd_of_uJ, zd_M_uN, zd_M_uI, zd_M_uJ, zd_mf_uN, zd_mf_uI, zd_mf_uJ, zd_mt_uN, zd_mt_uI, zd_mt_uJ, zd_rc_uN, zd_rc_uI, zd_rc_uJ, zd_kd_uN, zd_kd_uI, zd_kd_uJ, zd_tg_uN, zd_tg_uI, zd_tg_uJ, zd_wh_uN, zd_wh_uI, zd_wh_uJ, zd_F_uN, zd_F_uI, zd_F_uJ, zd_ff_uN, zd_ff_uI, zd_ff_uJ, zd_ft_uN, zd_ft_uI, zd_ft_uJ, zd_fa_uN, zd_fa_uI, zd_fa_uJ, zd_fb_uN, zd_fb_uI, zd_fb_uJ, zd_d0_uN, zd_d0_uI, zd_d0_uJ, zd_d1_uN, zd_d1_uI, zd_d1_uJ, zd_d2_uN, zd_d2_uI, zd_d2_uJ, zd_O_uN, zd_O_uI, zd_O_uJ, zd_ty_uN, zd_ty_uI, zd_ty_uJ, zd_ln_uN, zd_ln_uI, zd_ln_uJ, zd_vl_uN, zd_vl_uI, zd_vl_uJ, reduceIte, false_and, and_false, true_and, and_true, if_true, if_false, Nat.reduceEqDiff, reduceCtorEq, and_self, eq_self, Nat.succ_ne_self, zd_gI, zd_gI2, zd_gJ, zd_gJ1] at g0 g1 g2 ⊢
      repeat' split
      all_goals first | rfl | (exfalso; omega) | exact (zd_R_pt H u k (by first | assumption | omega) (by first | assumption | omega) (by first | assumption | omega)) | (simp only [nI_1]; done)
    · skip
      simp only [zd_addT, zd_B_uN, zd_B_uI, zd_B_uJ, zd_T_uN, zd_T_uI, zd_T_uJ, zd_srt_uN, zd_srt_uI, zd_srt_uJ, zd_sz_uN, zd_sz_uI, zd_sz_uJ, zd_nm_uN, zd_nm_uI, zd_nm_uJ, zd_pt_uN, zd_pt_uI, zd_pt_uJ, zd_of_uN, zd_of_uI, zd_of_uJ, zd_M_uN, zd_M_uI, zd_M_uJ, zd_mf_uN, zd_mf_uI, zd_mf_uJ, zd_mt_uN, zd_mt_uI, zd_mt_uJ, zd_rc_uN, zd_rc_uI, zd_rc_uJ, zd_kd_uN, zd_kd_uI, zd_kd_uJ, zd_tg_uN, zd_tg_uI, zd_tg_uJ, zd_wh_uN, zd_wh_uI, zd_wh_uJ, zd_F_uN, zd_F_uI, zd_F_uJ, zd_ff_uN, zd_ff_uI, zd_ff_uJ, zd_ft_uN, zd_ft_uI, zd_ft_uJ, zd_fa_uN, zd_fa_uI, zd_fa_uJ, zd_fb_uN, zd_fb_uI, zd_fb_uJ, zd_d0_uN, zd_d0_uI, zd_d0_uJ, zd_d1_uN, zd_d1_uI, zd_d1_uJ, zd_d2_uN, zd_d2_uI, zd_d2_uJ, zd_O_uN, zd_O_uI, zd_O_uJ, zd_ty_uN, zd_ty_uI, zd_ty_uJ, zd_ln_uN, zd_ln_uI, zd_ln_uJ, zd_vl_uN, zd_vl_uI, zd_vl_uJ, reduceIte, false_and, and_false, true_and, and_true, if_true, if_false, Nat.reduceEqDiff, reduceCtorEq, and_self, eq_self, Nat.succ_ne_self, zd_gI, zd_gI2, zd_gJ, zd_gJ1, e] at g0 g1 g2 ⊢
      repeat' split
      all_goals first | rfl | (exfalso; omega) | exact (zd_R_pt H u k (by first | assumption | omega) (by first | assumption | omega) (by first | assumption | omega)) | (simp only [nI_1]; done)
  | 6 =>
    show ∀ u, u < (zd_T (zd_addT A s l)) → zd_srt (zd_addT A s l) u = 5 → (zx_sI (zx_sI (zx_sI (zx_sI h 25 0 (zd_T A) (nI s)) 26 0 (zd_T A) (nI 0)) 24 0 2 (nI (zd_T A + 1))) 29 0 (zd_T A) (nI l)).1 29 0 u = nI (zd_of (zd_addT A s l) u)
    intro u g0 g1
    by_cases e : u = zd_T A
    · subst e
      simp only [zd_addT, zd_B_uN, zd_B_uI, zd_B_uJ, zd_T_uN, zd_T_uI, zd_T_uJ, zd_srt_uN, zd_srt_uI, zd_srt_uJ, zd_sz_uN, zd_sz_uI, zd_sz_uJ, zd_nm_uN, zd_nm_uI, zd_nm_uJ, zd_pt_uN, zd_pt_uI, zd_pt_uJ, zd_of_uN, zd_of_uI, zd_of_uJ, zd_M_uN, zd_M_uI, zd_M_uJ, zd_mf_uN, zd_mf_uI, zd_mf_uJ, zd_mt_uN, zd_mt_uI, zd_mt_uJ, zd_rc_uN, zd_rc_uI, zd_rc_uJ, zd_kd_uN, zd_kd_uI, zd_kd_uJ, zd_tg_uN, zd_tg_uI, zd_tg_uJ, zd_wh_uN, zd_wh_uI, zd_wh_uJ, zd_F_uN, zd_F_uI, zd_F_uJ, zd_ff_uN, zd_ff_uI, zd_ff_uJ, zd_ft_uN, zd_ft_uI, zd_ft_uJ, zd_fa_uN, zd_fa_uI, zd_fa_uJ, zd_fb_uN, zd_fb_uI, zd_fb_uJ, zd_d0_uN, zd_d0_uI, zd_d0_uJ, zd_d1_uN, zd_d1_uI, zd_d1_uJ, zd_d2_uN, zd_d2_uI, zd_d2_uJ, zd_O_uN, zd_O_uI, zd_O_uJ, zd_ty_uN, zd_ty_uI, zd_ty_uJ, zd_ln_uN, zd_ln_uI, zd_ln_uJ, zd_vl_uN, zd_vl_uI, zd_vl_uJ, reduceIte, false_and, and_false, true_and, and_true, if_true, if_false, Nat.reduceEqDiff, reduceCtorEq, and_self, eq_self, Nat.succ_ne_self, zd_gI, zd_gI2, zd_gJ, zd_gJ1] at g0 g1 ⊢
      repeat' split
      all_goals first | rfl | (exfalso; omega) | exact (zd_R_of H u (by first | assumption | omega) (by first | assumption | omega)) | (simp only [nI_1]; done)
    · skip
      simp only [zd_addT, zd_B_uN, zd_B_uI, zd_B_uJ, zd_T_uN, zd_T_uI, zd_T_uJ, zd_srt_uN, zd_srt_uI, zd_srt_uJ, zd_sz_uN, zd_sz_uI, zd_sz_uJ, zd_nm_uN, zd_nm_uI, zd_nm_uJ, zd_pt_uN, zd_pt_uI, zd_pt_uJ, zd_of_uN, zd_of_uI, zd_of_uJ, zd_M_uN, zd_M_uI, zd_M_uJ, zd_mf_uN, zd_mf_uI, zd_mf_uJ, zd_mt_uN, zd_mt_uI, zd_mt_uJ, zd_rc_uN, zd_rc_uI, zd_rc_uJ, zd_kd_uN, zd_kd_uI, zd_kd_uJ, zd_tg_uN, zd_tg_uI, zd_tg_uJ, zd_wh_uN, zd_wh_uI, zd_wh_uJ, zd_F_uN, zd_F_uI, zd_F_uJ, zd_ff_uN, zd_ff_uI, zd_ff_uJ, zd_ft_uN, zd_ft_uI, zd_ft_uJ, zd_fa_uN, zd_fa_uI, zd_fa_uJ, zd_fb_uN, zd_fb_uI, zd_fb_uJ, zd_d0_uN, zd_d0_uI, zd_d0_uJ, zd_d1_uN, zd_d1_uI, zd_d1_uJ, zd_d2_uN, zd_d2_uI, zd_d2_uJ, zd_O_uN, zd_O_uI, zd_O_uJ, zd_ty_uN, zd_ty_uI, zd_ty_uJ, zd_ln_uN, zd_ln_uI, zd_ln_uJ, zd_vl_uN, zd_vl_uI, zd_vl_uJ, reduceIte, false_and, and_false, true_and, and_true, if_true, if_false, Nat.reduceEqDiff, reduceCtorEq, and_self, eq_self, Nat.succ_ne_self, zd_gI, zd_gI2, zd_gJ, zd_gJ1, e] at g0 g1 ⊢
      repeat' split
      all_goals first | rfl | (exfalso; omega) | exact (zd_R_of H u (by first | assumption | omega) (by first | assumption | omega)) | (simp only [nI_1]; done)
  | 7 => exact H 7
  | 8 => exact H 8
  | 9 => exact H 9
  | 10 => exact H 10
  | 11 => exact H 11
  | 12 => exact H 12
  | 13 => exact H 13
  | 14 => exact H 14
  | 15 => exact H 15
  | 16 => exact H 16
  | 17 => exact H 17
  | 18 => exact H 18
  | 19 => exact H 19
  | 20 => exact H 20
  | 21 => exact H 21
  | 22 => exact H 22
  | 23 => exact H 23
  | 24 => exact H 24
  | 25 => exact H 25
  | 26 => exact H 26
  | _ + 27 => exact trivial
def zg_addMe (A : zd_A) (f g : Nat) : zd_A := zd_uN (zd_uN (zd_uN A 7 0 0 (zd_M A + 1)) 8 (zd_M A) 0 f) 9 (zd_M A) 0 g
theorem zg_C_addMe {A : zd_A} {h : zx_H} (H : zd_C A h) (K : zd_ok A) {f g : Nat} (hM : zd_M A < 16) : zd_C (zg_addMe A f g) (zx_sI (zx_sI (zx_sI h 11 0 3 (nI (zd_M A + 1))) 54 (zd_M A) 0 (nI f)) 54 (zd_M A) 1 (nI g)) := by
  have hT := zd_ok_T K
  have hr0 := zd_ok_rc0 K
  intro q
  match q with
  | 0 => exact H 0
  | 1 => exact H 1
  | 2 => exact H 2
  | 3 => exact H 3
  | 4 => exact H 4
  | 5 => exact H 5
  | 6 => exact H 6
  | 7 =>
    show (zx_sI (zx_sI (zx_sI h 11 0 3 (nI (zd_M A + 1))) 54 (zd_M A) 0 (nI f)) 54 (zd_M A) 1 (nI g)).1 11 0 2 = nI (zd_F (zg_addMe A f g))
    simp only [zg_addMe, zd_B_uN, zd_B_uI, zd_B_uJ, zd_T_uN, zd_T_uI, zd_T_uJ, zd_srt_uN, zd_srt_uI, zd_srt_uJ, zd_sz_uN, zd_sz_uI, zd_sz_uJ, zd_nm_uN, zd_nm_uI, zd_nm_uJ, zd_pt_uN, zd_pt_uI, zd_pt_uJ, zd_of_uN, zd_of_uI, zd_of_uJ, zd_M_uN, zd_M_uI, zd_M_uJ, zd_mf_uN, zd_mf_uI, zd_mf_uJ, zd_mt_uN, zd_mt_uI, zd_mt_uJ, zd_rc_uN, zd_rc_uI, zd_rc_uJ, zd_kd_uN, zd_kd_uI, zd_kd_uJ, zd_tg_uN, zd_tg_uI, zd_tg_uJ, zd_wh_uN, zd_wh_uI, zd_wh_uJ, zd_F_uN, zd_F_uI, zd_F_uJ, zd_ff_uN, zd_ff_uI, zd_ff_uJ, zd_ft_uN, zd_ft_uI, zd_ft_uJ, zd_fa_uN, zd_fa_uI, zd_fa_uJ, zd_fb_uN, zd_fb_uI, zd_fb_uJ, zd_d0_uN, zd_d0_uI, zd_d0_uJ, zd_d1_uN, zd_d1_uI, zd_d1_uJ, zd_d2_uN, zd_d2_uI, zd_d2_uJ, zd_O_uN, zd_O_uI, zd_O_uJ, zd_ty_uN, zd_ty_uI, zd_ty_uJ, zd_ln_uN, zd_ln_uI, zd_ln_uJ, zd_vl_uN, zd_vl_uI, zd_vl_uJ, reduceIte, false_and, and_false, true_and, and_true, if_true, if_false, Nat.reduceEqDiff, reduceCtorEq, and_self, eq_self, Nat.succ_ne_self, zd_gI, zd_gI2, zd_gJ, zd_gJ1] at ⊢
    repeat' split
    all_goals first | rfl | (exfalso; omega) | exact (zd_C_F H ) | (simp only [nI_1]; done) | (rw [nI_1]; done)
  | 8 =>
    show (zx_sI (zx_sI (zx_sI h 11 0 3 (nI (zd_M A + 1))) 54 (zd_M A) 0 (nI f)) 54 (zd_M A) 1 (nI g)).1 11 0 3 = nI (zd_M (zg_addMe A f g))
    simp only [zg_addMe, zd_B_uN, zd_B_uI, zd_B_uJ, zd_T_uN, zd_T_uI, zd_T_uJ, zd_srt_uN, zd_srt_uI, zd_srt_uJ, zd_sz_uN, zd_sz_uI, zd_sz_uJ, zd_nm_uN, zd_nm_uI, zd_nm_uJ, zd_pt_uN, zd_pt_uI, zd_pt_uJ, zd_of_uN, zd_of_uI, zd_of_uJ, zd_M_uN, zd_M_uI, zd_M_uJ, zd_mf_uN, zd_mf_uI, zd_mf_uJ, zd_mt_uN, zd_mt_uI, zd_mt_uJ, zd_rc_uN, zd_rc_uI, zd_rc_uJ, zd_kd_uN, zd_kd_uI, zd_kd_uJ, zd_tg_uN, zd_tg_uI, zd_tg_uJ, zd_wh_uN, zd_wh_uI, zd_wh_uJ, zd_F_uN, zd_F_uI, zd_F_uJ, zd_ff_uN, zd_ff_uI, zd_ff_uJ, zd_ft_uN, zd_ft_uI, zd_ft_uJ, zd_fa_uN, zd_fa_uI, zd_fa_uJ, zd_fb_uN, zd_fb_uI, zd_fb_uJ, zd_d0_uN, zd_d0_uI, zd_d0_uJ, zd_d1_uN, zd_d1_uI, zd_d1_uJ, zd_d2_uN, zd_d2_uI, zd_d2_uJ, zd_O_uN, zd_O_uI, zd_O_uJ, zd_ty_uN, zd_ty_uI, zd_ty_uJ, zd_ln_uN, zd_ln_uI, zd_ln_uJ, zd_vl_uN, zd_vl_uI, zd_vl_uJ, reduceIte, false_and, and_false, true_and, and_true, if_true, if_false, Nat.reduceEqDiff, reduceCtorEq, and_self, eq_self, Nat.succ_ne_self, zd_gI, zd_gI2, zd_gJ, zd_gJ1] at ⊢
    repeat' split
    all_goals first | rfl | (exfalso; omega) | exact (zd_C_M H ) | (simp only [nI_1]; done) | (rw [nI_1]; done)
  | 9 =>
    show ∀ m, m < (zd_M (zg_addMe A f g)) → (zx_sI (zx_sI (zx_sI h 11 0 3 (nI (zd_M A + 1))) 54 (zd_M A) 0 (nI f)) 54 (zd_M A) 1 (nI g)).1 54 m 0 = nI (zd_mf (zg_addMe A f g) m)
    intro m g0
    simp only [zg_addMe, zd_B_uN, zd_B_uI, zd_B_uJ, zd_T_uN, zd_T_uI, zd_T_uJ, zd_srt_uN, zd_srt_uI, zd_srt_uJ, zd_sz_uN, zd_sz_uI, zd_sz_uJ, zd_nm_uN, zd_nm_uI, zd_nm_uJ, zd_pt_uN, zd_pt_uI, zd_pt_uJ, zd_of_uN, zd_of_uI, zd_of_uJ, zd_M_uN, zd_M_uI, zd_M_uJ, zd_mf_uN, zd_mf_uI, zd_mf_uJ, zd_mt_uN, zd_mt_uI, zd_mt_uJ, zd_rc_uN, zd_rc_uI, zd_rc_uJ, zd_kd_uN, zd_kd_uI, zd_kd_uJ, zd_tg_uN, zd_tg_uI, zd_tg_uJ, zd_wh_uN, zd_wh_uI, zd_wh_uJ, zd_F_uN, zd_F_uI, zd_F_uJ, zd_ff_uN, zd_ff_uI, zd_ff_uJ, zd_ft_uN, zd_ft_uI, zd_ft_uJ, zd_fa_uN, zd_fa_uI, zd_fa_uJ, zd_fb_uN, zd_fb_uI, zd_fb_uJ, zd_d0_uN, zd_d0_uI, zd_d0_uJ, zd_d1_uN, zd_d1_uI, zd_d1_uJ, zd_d2_uN, zd_d2_uI, zd_d2_uJ, zd_O_uN, zd_O_uI, zd_O_uJ, zd_ty_uN, zd_ty_uI, zd_ty_uJ, zd_ln_uN, zd_ln_uI, zd_ln_uJ, zd_vl_uN, zd_vl_uI, zd_vl_uJ, reduceIte, false_and, and_false, true_and, and_true, if_true, if_false, Nat.reduceEqDiff, reduceCtorEq, and_self, eq_self, Nat.succ_ne_self, zd_gI, zd_gI2, zd_gJ, zd_gJ1] at g0 ⊢
    repeat' split
    all_goals first | rfl | (exfalso; omega) | exact (zd_C_mf H m (by omega)) | (simp only [nI_1]; done) | (rw [nI_1]; done)
  | 10 =>
    show ∀ m, m < (zd_M (zg_addMe A f g)) → (zx_sI (zx_sI (zx_sI h 11 0 3 (nI (zd_M A + 1))) 54 (zd_M A) 0 (nI f)) 54 (zd_M A) 1 (nI g)).1 54 m 1 = nI (zd_mt (zg_addMe A f g) m)
    intro m g0
    simp only [zg_addMe, zd_B_uN, zd_B_uI, zd_B_uJ, zd_T_uN, zd_T_uI, zd_T_uJ, zd_srt_uN, zd_srt_uI, zd_srt_uJ, zd_sz_uN, zd_sz_uI, zd_sz_uJ, zd_nm_uN, zd_nm_uI, zd_nm_uJ, zd_pt_uN, zd_pt_uI, zd_pt_uJ, zd_of_uN, zd_of_uI, zd_of_uJ, zd_M_uN, zd_M_uI, zd_M_uJ, zd_mf_uN, zd_mf_uI, zd_mf_uJ, zd_mt_uN, zd_mt_uI, zd_mt_uJ, zd_rc_uN, zd_rc_uI, zd_rc_uJ, zd_kd_uN, zd_kd_uI, zd_kd_uJ, zd_tg_uN, zd_tg_uI, zd_tg_uJ, zd_wh_uN, zd_wh_uI, zd_wh_uJ, zd_F_uN, zd_F_uI, zd_F_uJ, zd_ff_uN, zd_ff_uI, zd_ff_uJ, zd_ft_uN, zd_ft_uI, zd_ft_uJ, zd_fa_uN, zd_fa_uI, zd_fa_uJ, zd_fb_uN, zd_fb_uI, zd_fb_uJ, zd_d0_uN, zd_d0_uI, zd_d0_uJ, zd_d1_uN, zd_d1_uI, zd_d1_uJ, zd_d2_uN, zd_d2_uI, zd_d2_uJ, zd_O_uN, zd_O_uI, zd_O_uJ, zd_ty_uN, zd_ty_uI, zd_ty_uJ, zd_ln_uN, zd_ln_uI, zd_ln_uJ, zd_vl_uN, zd_vl_uI, zd_vl_uJ, reduceIte, false_and, and_false, true_and, and_true, if_true, if_false, Nat.reduceEqDiff, reduceCtorEq, and_self, eq_self, Nat.succ_ne_self, zd_gI, zd_gI2, zd_gJ, zd_gJ1] at g0 ⊢
    repeat' split
    all_goals first | rfl | (exfalso; omega) | exact (zd_C_mt H m (by omega)) | (simp only [nI_1]; done) | (rw [nI_1]; done)
  | 11 =>
    show ∀ m, m < 16 → (zx_sI (zx_sI (zx_sI h 11 0 3 (nI (zd_M A + 1))) 54 (zd_M A) 0 (nI f)) 54 (zd_M A) 1 (nI g)).1 54 m 2 = nI (zd_rc (zg_addMe A f g) m)
    intro m g0
    simp only [zg_addMe, zd_B_uN, zd_B_uI, zd_B_uJ, zd_T_uN, zd_T_uI, zd_T_uJ, zd_srt_uN, zd_srt_uI, zd_srt_uJ, zd_sz_uN, zd_sz_uI, zd_sz_uJ, zd_nm_uN, zd_nm_uI, zd_nm_uJ, zd_pt_uN, zd_pt_uI, zd_pt_uJ, zd_of_uN, zd_of_uI, zd_of_uJ, zd_M_uN, zd_M_uI, zd_M_uJ, zd_mf_uN, zd_mf_uI, zd_mf_uJ, zd_mt_uN, zd_mt_uI, zd_mt_uJ, zd_rc_uN, zd_rc_uI, zd_rc_uJ, zd_kd_uN, zd_kd_uI, zd_kd_uJ, zd_tg_uN, zd_tg_uI, zd_tg_uJ, zd_wh_uN, zd_wh_uI, zd_wh_uJ, zd_F_uN, zd_F_uI, zd_F_uJ, zd_ff_uN, zd_ff_uI, zd_ff_uJ, zd_ft_uN, zd_ft_uI, zd_ft_uJ, zd_fa_uN, zd_fa_uI, zd_fa_uJ, zd_fb_uN, zd_fb_uI, zd_fb_uJ, zd_d0_uN, zd_d0_uI, zd_d0_uJ, zd_d1_uN, zd_d1_uI, zd_d1_uJ, zd_d2_uN, zd_d2_uI, zd_d2_uJ, zd_O_uN, zd_O_uI, zd_O_uJ, zd_ty_uN, zd_ty_uI, zd_ty_uJ, zd_ln_uN, zd_ln_uI, zd_ln_uJ, zd_vl_uN, zd_vl_uI, zd_vl_uJ, reduceIte, false_and, and_false, true_and, and_true, if_true, if_false, Nat.reduceEqDiff, reduceCtorEq, and_self, eq_self, Nat.succ_ne_self, zd_gI, zd_gI2, zd_gJ, zd_gJ1] at g0 ⊢
    repeat' split
    all_goals first | rfl | (exfalso; omega) | exact (zd_C_rc H m (by omega)) | (simp only [nI_1]; done) | (rw [nI_1]; done)
  | 12 =>
    show ∀ m r, m < (zd_M (zg_addMe A f g)) → r < zd_rc (zg_addMe A f g) m → (zx_sI (zx_sI (zx_sI h 11 0 3 (nI (zd_M A + 1))) 54 (zd_M A) 0 (nI f)) 54 (zd_M A) 1 (nI g)).1 55 m r = nI (zd_kd (zg_addMe A f g) m r)
    intro m r g0 g1
    have := hr0 m
    simp only [zg_addMe, zd_B_uN, zd_B_uI, zd_B_uJ, zd_T_uN, zd_T_uI, zd_T_uJ, zd_srt_uN, zd_srt_uI, zd_srt_uJ, zd_sz_uN, zd_sz_uI, zd_sz_uJ, zd_nm_uN, zd_nm_uI, zd_nm_uJ, zd_pt_uN, zd_pt_uI, zd_pt_uJ, zd_of_uN, zd_of_uI, zd_of_uJ, zd_M_uN, zd_M_uI, zd_M_uJ, zd_mf_uN, zd_mf_uI, zd_mf_uJ, zd_mt_uN, zd_mt_uI, zd_mt_uJ, zd_rc_uN, zd_rc_uI, zd_rc_uJ, zd_kd_uN, zd_kd_uI, zd_kd_uJ, zd_tg_uN, zd_tg_uI, zd_tg_uJ, zd_wh_uN, zd_wh_uI, zd_wh_uJ, zd_F_uN, zd_F_uI, zd_F_uJ, zd_ff_uN, zd_ff_uI, zd_ff_uJ, zd_ft_uN, zd_ft_uI, zd_ft_uJ, zd_fa_uN, zd_fa_uI, zd_fa_uJ, zd_fb_uN, zd_fb_uI, zd_fb_uJ, zd_d0_uN, zd_d0_uI, zd_d0_uJ, zd_d1_uN, zd_d1_uI, zd_d1_uJ, zd_d2_uN, zd_d2_uI, zd_d2_uJ, zd_O_uN, zd_O_uI, zd_O_uJ, zd_ty_uN, zd_ty_uI, zd_ty_uJ, zd_ln_uN, zd_ln_uI, zd_ln_uJ, zd_vl_uN, zd_vl_uI, zd_vl_uJ, reduceIte, false_and, and_false, true_and, and_true, if_true, if_false, Nat.reduceEqDiff, reduceCtorEq, and_self, eq_self, Nat.succ_ne_self, zd_gI, zd_gI2, zd_gJ, zd_gJ1] at g0 g1 ⊢
    repeat' split
    all_goals first | rfl | (exfalso; omega) | exact (zd_C_kd H m r (by omega) (by omega)) | (simp only [nI_1]; done) | (rw [nI_1]; done)
  | 13 =>
    show ∀ m r, m < (zd_M (zg_addMe A f g)) → r < zd_rc (zg_addMe A f g) m → (zx_sI (zx_sI (zx_sI h 11 0 3 (nI (zd_M A + 1))) 54 (zd_M A) 0 (nI f)) 54 (zd_M A) 1 (nI g)).1 56 m r = zd_tg (zg_addMe A f g) m r
    intro m r g0 g1
    have := hr0 m
    simp only [zg_addMe, zd_B_uN, zd_B_uI, zd_B_uJ, zd_T_uN, zd_T_uI, zd_T_uJ, zd_srt_uN, zd_srt_uI, zd_srt_uJ, zd_sz_uN, zd_sz_uI, zd_sz_uJ, zd_nm_uN, zd_nm_uI, zd_nm_uJ, zd_pt_uN, zd_pt_uI, zd_pt_uJ, zd_of_uN, zd_of_uI, zd_of_uJ, zd_M_uN, zd_M_uI, zd_M_uJ, zd_mf_uN, zd_mf_uI, zd_mf_uJ, zd_mt_uN, zd_mt_uI, zd_mt_uJ, zd_rc_uN, zd_rc_uI, zd_rc_uJ, zd_kd_uN, zd_kd_uI, zd_kd_uJ, zd_tg_uN, zd_tg_uI, zd_tg_uJ, zd_wh_uN, zd_wh_uI, zd_wh_uJ, zd_F_uN, zd_F_uI, zd_F_uJ, zd_ff_uN, zd_ff_uI, zd_ff_uJ, zd_ft_uN, zd_ft_uI, zd_ft_uJ, zd_fa_uN, zd_fa_uI, zd_fa_uJ, zd_fb_uN, zd_fb_uI, zd_fb_uJ, zd_d0_uN, zd_d0_uI, zd_d0_uJ, zd_d1_uN, zd_d1_uI, zd_d1_uJ, zd_d2_uN, zd_d2_uI, zd_d2_uJ, zd_O_uN, zd_O_uI, zd_O_uJ, zd_ty_uN, zd_ty_uI, zd_ty_uJ, zd_ln_uN, zd_ln_uI, zd_ln_uJ, zd_vl_uN, zd_vl_uI, zd_vl_uJ, reduceIte, false_and, and_false, true_and, and_true, if_true, if_false, Nat.reduceEqDiff, reduceCtorEq, and_self, eq_self, Nat.succ_ne_self, zd_gI, zd_gI2, zd_gJ, zd_gJ1] at g0 g1 ⊢
    repeat' split
    all_goals first | rfl | (exfalso; omega) | exact (zd_C_tg H m r (by omega) (by omega)) | (simp only [nI_1]; done) | (rw [nI_1]; done)
  | 14 =>
    show ∀ m r, m < (zd_M (zg_addMe A f g)) → r < zd_rc (zg_addMe A f g) m → (zx_sI (zx_sI (zx_sI h 11 0 3 (nI (zd_M A + 1))) 54 (zd_M A) 0 (nI f)) 54 (zd_M A) 1 (nI g)).2 57 m r = zd_wh (zg_addMe A f g) m r
    intro m r g0 g1
    have := hr0 m
    simp only [zg_addMe, zd_B_uN, zd_B_uI, zd_B_uJ, zd_T_uN, zd_T_uI, zd_T_uJ, zd_srt_uN, zd_srt_uI, zd_srt_uJ, zd_sz_uN, zd_sz_uI, zd_sz_uJ, zd_nm_uN, zd_nm_uI, zd_nm_uJ, zd_pt_uN, zd_pt_uI, zd_pt_uJ, zd_of_uN, zd_of_uI, zd_of_uJ, zd_M_uN, zd_M_uI, zd_M_uJ, zd_mf_uN, zd_mf_uI, zd_mf_uJ, zd_mt_uN, zd_mt_uI, zd_mt_uJ, zd_rc_uN, zd_rc_uI, zd_rc_uJ, zd_kd_uN, zd_kd_uI, zd_kd_uJ, zd_tg_uN, zd_tg_uI, zd_tg_uJ, zd_wh_uN, zd_wh_uI, zd_wh_uJ, zd_F_uN, zd_F_uI, zd_F_uJ, zd_ff_uN, zd_ff_uI, zd_ff_uJ, zd_ft_uN, zd_ft_uI, zd_ft_uJ, zd_fa_uN, zd_fa_uI, zd_fa_uJ, zd_fb_uN, zd_fb_uI, zd_fb_uJ, zd_d0_uN, zd_d0_uI, zd_d0_uJ, zd_d1_uN, zd_d1_uI, zd_d1_uJ, zd_d2_uN, zd_d2_uI, zd_d2_uJ, zd_O_uN, zd_O_uI, zd_O_uJ, zd_ty_uN, zd_ty_uI, zd_ty_uJ, zd_ln_uN, zd_ln_uI, zd_ln_uJ, zd_vl_uN, zd_vl_uI, zd_vl_uJ, reduceIte, false_and, and_false, true_and, and_true, if_true, if_false, Nat.reduceEqDiff, reduceCtorEq, and_self, eq_self, Nat.succ_ne_self, zd_gI, zd_gI2, zd_gJ, zd_gJ1] at g0 g1 ⊢
    repeat' split
    all_goals first | rfl | (exfalso; omega) | exact (zd_C_wh H m r (by omega) (by omega)) | (simp only [nI_1]; done) | (rw [nI_1]; done)
  | 15 => exact H 15
  | 16 => exact H 16
  | 17 => exact H 17
  | 18 => exact H 18
  | 19 => exact H 19
  | 20 => exact H 20
  | 21 => exact H 21
  | 22 => exact H 22
  | 23 => exact H 23
  | 24 => exact H 24
  | 25 => exact H 25
  | _ + 26 => exact trivial
theorem zg_R_addMe {A : zd_A} {h : zx_H} (H : zd_R A h) (K : zd_ok A) {f g : Nat} (hM : zd_M A < 16) : zd_R (zg_addMe A f g) (zx_sI (zx_sI (zx_sI h 30 0 (zd_M A) (nI f)) 31 0 (zd_M A) (nI g)) 24 0 8 (nI (zd_M A + 1))) := by
  have hT := zd_ok_T K
  have hr0 := zd_ok_rc0 K
  intro q
  match q with
  | 0 => exact H 0
  | 1 => exact H 1
  | 2 => exact H 2
  | 3 => exact H 3
  | 4 => exact H 4
  | 5 => exact H 5
  | 6 => exact H 6
  | 7 =>
    show (zx_sI (zx_sI (zx_sI h 30 0 (zd_M A) (nI f)) 31 0 (zd_M A) (nI g)) 24 0 8 (nI (zd_M A + 1))).1 24 0 8 = nI (zd_M (zg_addMe A f g))
    simp only [zg_addMe, zd_B_uN, zd_B_uI, zd_B_uJ, zd_T_uN, zd_T_uI, zd_T_uJ, zd_srt_uN, zd_srt_uI, zd_srt_uJ, zd_sz_uN, zd_sz_uI, zd_sz_uJ, zd_nm_uN, zd_nm_uI, zd_nm_uJ, zd_pt_uN, zd_pt_uI, zd_pt_uJ, zd_of_uN, zd_of_uI, zd_of_uJ, zd_M_uN, zd_M_uI, zd_M_uJ, zd_mf_uN, zd_mf_uI, zd_mf_uJ, zd_mt_uN, zd_mt_uI, zd_mt_uJ, zd_rc_uN, zd_rc_uI, zd_rc_uJ, zd_kd_uN, zd_kd_uI, zd_kd_uJ, zd_tg_uN, zd_tg_uI, zd_tg_uJ, zd_wh_uN, zd_wh_uI, zd_wh_uJ, zd_F_uN, zd_F_uI, zd_F_uJ, zd_ff_uN, zd_ff_uI, zd_ff_uJ, zd_ft_uN, zd_ft_uI, zd_ft_uJ, zd_fa_uN, zd_fa_uI, zd_fa_uJ, zd_fb_uN, zd_fb_uI, zd_fb_uJ, zd_d0_uN, zd_d0_uI, zd_d0_uJ, zd_d1_uN, zd_d1_uI, zd_d1_uJ, zd_d2_uN, zd_d2_uI, zd_d2_uJ, zd_O_uN, zd_O_uI, zd_O_uJ, zd_ty_uN, zd_ty_uI, zd_ty_uJ, zd_ln_uN, zd_ln_uI, zd_ln_uJ, zd_vl_uN, zd_vl_uI, zd_vl_uJ, reduceIte, false_and, and_false, true_and, and_true, if_true, if_false, Nat.reduceEqDiff, reduceCtorEq, and_self, eq_self, Nat.succ_ne_self, zd_gI, zd_gI2, zd_gJ, zd_gJ1] at ⊢
    repeat' split
    all_goals first | rfl | (exfalso; omega) | exact (zd_R_M H ) | (simp only [nI_1]; done) | (rw [nI_1]; done)
  | 8 =>
    show ∀ m, m < (zd_M (zg_addMe A f g)) → (zx_sI (zx_sI (zx_sI h 30 0 (zd_M A) (nI f)) 31 0 (zd_M A) (nI g)) 24 0 8 (nI (zd_M A + 1))).1 30 0 m = nI (zd_mf (zg_addMe A f g) m)
    intro m g0
    simp only [zg_addMe, zd_B_uN, zd_B_uI, zd_B_uJ, zd_T_uN, zd_T_uI, zd_T_uJ, zd_srt_uN, zd_srt_uI, zd_srt_uJ, zd_sz_uN, zd_sz_uI, zd_sz_uJ, zd_nm_uN, zd_nm_uI, zd_nm_uJ, zd_pt_uN, zd_pt_uI, zd_pt_uJ, zd_of_uN, zd_of_uI, zd_of_uJ, zd_M_uN, zd_M_uI, zd_M_uJ, zd_mf_uN, zd_mf_uI, zd_mf_uJ, zd_mt_uN, zd_mt_uI, zd_mt_uJ, zd_rc_uN, zd_rc_uI, zd_rc_uJ, zd_kd_uN, zd_kd_uI, zd_kd_uJ, zd_tg_uN, zd_tg_uI, zd_tg_uJ, zd_wh_uN, zd_wh_uI, zd_wh_uJ, zd_F_uN, zd_F_uI, zd_F_uJ, zd_ff_uN, zd_ff_uI, zd_ff_uJ, zd_ft_uN, zd_ft_uI, zd_ft_uJ, zd_fa_uN, zd_fa_uI, zd_fa_uJ, zd_fb_uN, zd_fb_uI, zd_fb_uJ, zd_d0_uN, zd_d0_uI, zd_d0_uJ, zd_d1_uN, zd_d1_uI, zd_d1_uJ, zd_d2_uN, zd_d2_uI, zd_d2_uJ, zd_O_uN, zd_O_uI, zd_O_uJ, zd_ty_uN, zd_ty_uI, zd_ty_uJ, zd_ln_uN, zd_ln_uI, zd_ln_uJ, zd_vl_uN, zd_vl_uI, zd_vl_uJ, reduceIte, false_and, and_false, true_and, and_true, if_true, if_false, Nat.reduceEqDiff, reduceCtorEq, and_self, eq_self, Nat.succ_ne_self, zd_gI, zd_gI2, zd_gJ, zd_gJ1] at g0 ⊢
    repeat' split
    all_goals first | rfl | (exfalso; omega) | exact (zd_R_mf H m (by omega)) | (simp only [nI_1]; done) | (rw [nI_1]; done)
  | 9 =>
    show ∀ m, m < (zd_M (zg_addMe A f g)) → (zx_sI (zx_sI (zx_sI h 30 0 (zd_M A) (nI f)) 31 0 (zd_M A) (nI g)) 24 0 8 (nI (zd_M A + 1))).1 31 0 m = nI (zd_mt (zg_addMe A f g) m)
    intro m g0
    simp only [zg_addMe, zd_B_uN, zd_B_uI, zd_B_uJ, zd_T_uN, zd_T_uI, zd_T_uJ, zd_srt_uN, zd_srt_uI, zd_srt_uJ, zd_sz_uN, zd_sz_uI, zd_sz_uJ, zd_nm_uN, zd_nm_uI, zd_nm_uJ, zd_pt_uN, zd_pt_uI, zd_pt_uJ, zd_of_uN, zd_of_uI, zd_of_uJ, zd_M_uN, zd_M_uI, zd_M_uJ, zd_mf_uN, zd_mf_uI, zd_mf_uJ, zd_mt_uN, zd_mt_uI, zd_mt_uJ, zd_rc_uN, zd_rc_uI, zd_rc_uJ, zd_kd_uN, zd_kd_uI, zd_kd_uJ, zd_tg_uN, zd_tg_uI, zd_tg_uJ, zd_wh_uN, zd_wh_uI, zd_wh_uJ, zd_F_uN, zd_F_uI, zd_F_uJ, zd_ff_uN, zd_ff_uI, zd_ff_uJ, zd_ft_uN, zd_ft_uI, zd_ft_uJ, zd_fa_uN, zd_fa_uI, zd_fa_uJ, zd_fb_uN, zd_fb_uI, zd_fb_uJ, zd_d0_uN, zd_d0_uI, zd_d0_uJ, zd_d1_uN, zd_d1_uI, zd_d1_uJ, zd_d2_uN, zd_d2_uI, zd_d2_uJ, zd_O_uN, zd_O_uI, zd_O_uJ, zd_ty_uN, zd_ty_uI, zd_ty_uJ, zd_ln_uN, zd_ln_uI, zd_ln_uJ, zd_vl_uN, zd_vl_uI, zd_vl_uJ, reduceIte, false_and, and_false, true_and, and_true, if_true, if_false, Nat.reduceEqDiff, reduceCtorEq, and_self, eq_self, Nat.succ_ne_self, zd_gI, zd_gI2, zd_gJ, zd_gJ1] at g0 ⊢
    repeat' split
    all_goals first | rfl | (exfalso; omega) | exact (zd_R_mt H m (by omega)) | (simp only [nI_1]; done) | (rw [nI_1]; done)
  | 10 =>
    show ∀ m, m < 16 → (zx_sI (zx_sI (zx_sI h 30 0 (zd_M A) (nI f)) 31 0 (zd_M A) (nI g)) 24 0 8 (nI (zd_M A + 1))).1 32 0 m = nI (zd_rc (zg_addMe A f g) m)
    intro m g0
    simp only [zg_addMe, zd_B_uN, zd_B_uI, zd_B_uJ, zd_T_uN, zd_T_uI, zd_T_uJ, zd_srt_uN, zd_srt_uI, zd_srt_uJ, zd_sz_uN, zd_sz_uI, zd_sz_uJ, zd_nm_uN, zd_nm_uI, zd_nm_uJ, zd_pt_uN, zd_pt_uI, zd_pt_uJ, zd_of_uN, zd_of_uI, zd_of_uJ, zd_M_uN, zd_M_uI, zd_M_uJ, zd_mf_uN, zd_mf_uI, zd_mf_uJ, zd_mt_uN, zd_mt_uI, zd_mt_uJ, zd_rc_uN, zd_rc_uI, zd_rc_uJ, zd_kd_uN, zd_kd_uI, zd_kd_uJ, zd_tg_uN, zd_tg_uI, zd_tg_uJ, zd_wh_uN, zd_wh_uI, zd_wh_uJ, zd_F_uN, zd_F_uI, zd_F_uJ, zd_ff_uN, zd_ff_uI, zd_ff_uJ, zd_ft_uN, zd_ft_uI, zd_ft_uJ, zd_fa_uN, zd_fa_uI, zd_fa_uJ, zd_fb_uN, zd_fb_uI, zd_fb_uJ, zd_d0_uN, zd_d0_uI, zd_d0_uJ, zd_d1_uN, zd_d1_uI, zd_d1_uJ, zd_d2_uN, zd_d2_uI, zd_d2_uJ, zd_O_uN, zd_O_uI, zd_O_uJ, zd_ty_uN, zd_ty_uI, zd_ty_uJ, zd_ln_uN, zd_ln_uI, zd_ln_uJ, zd_vl_uN, zd_vl_uI, zd_vl_uJ, reduceIte, false_and, and_false, true_and, and_true, if_true, if_false, Nat.reduceEqDiff, reduceCtorEq, and_self, eq_self, Nat.succ_ne_self, zd_gI, zd_gI2, zd_gJ, zd_gJ1] at g0 ⊢
    repeat' split
    all_goals first | rfl | (exfalso; omega) | exact (zd_R_rc H m (by omega)) | (simp only [nI_1]; done) | (rw [nI_1]; done)
  | 11 =>
    show ∀ m r, m < (zd_M (zg_addMe A f g)) → r < zd_rc (zg_addMe A f g) m → (zx_sI (zx_sI (zx_sI h 30 0 (zd_M A) (nI f)) 31 0 (zd_M A) (nI g)) 24 0 8 (nI (zd_M A + 1))).1 33 0 (24 * m + r) = nI (zd_kd (zg_addMe A f g) m r)
    intro m r g0 g1
    have := hr0 m
    simp only [zg_addMe, zd_B_uN, zd_B_uI, zd_B_uJ, zd_T_uN, zd_T_uI, zd_T_uJ, zd_srt_uN, zd_srt_uI, zd_srt_uJ, zd_sz_uN, zd_sz_uI, zd_sz_uJ, zd_nm_uN, zd_nm_uI, zd_nm_uJ, zd_pt_uN, zd_pt_uI, zd_pt_uJ, zd_of_uN, zd_of_uI, zd_of_uJ, zd_M_uN, zd_M_uI, zd_M_uJ, zd_mf_uN, zd_mf_uI, zd_mf_uJ, zd_mt_uN, zd_mt_uI, zd_mt_uJ, zd_rc_uN, zd_rc_uI, zd_rc_uJ, zd_kd_uN, zd_kd_uI, zd_kd_uJ, zd_tg_uN, zd_tg_uI, zd_tg_uJ, zd_wh_uN, zd_wh_uI, zd_wh_uJ, zd_F_uN, zd_F_uI, zd_F_uJ, zd_ff_uN, zd_ff_uI, zd_ff_uJ, zd_ft_uN, zd_ft_uI, zd_ft_uJ, zd_fa_uN, zd_fa_uI, zd_fa_uJ, zd_fb_uN, zd_fb_uI, zd_fb_uJ, zd_d0_uN, zd_d0_uI, zd_d0_uJ, zd_d1_uN, zd_d1_uI, zd_d1_uJ, zd_d2_uN, zd_d2_uI, zd_d2_uJ, zd_O_uN, zd_O_uI, zd_O_uJ, zd_ty_uN, zd_ty_uI, zd_ty_uJ, zd_ln_uN, zd_ln_uI, zd_ln_uJ, zd_vl_uN, zd_vl_uI, zd_vl_uJ, reduceIte, false_and, and_false, true_and, and_true, if_true, if_false, Nat.reduceEqDiff, reduceCtorEq, and_self, eq_self, Nat.succ_ne_self, zd_gI, zd_gI2, zd_gJ, zd_gJ1] at g0 g1 ⊢
    repeat' split
    all_goals first | rfl | (exfalso; omega) | exact (zd_R_kd H m r (by omega) (by omega)) | (simp only [nI_1]; done) | (rw [nI_1]; done)
  | 12 =>
    show ∀ m r, m < (zd_M (zg_addMe A f g)) → r < zd_rc (zg_addMe A f g) m → (zx_sI (zx_sI (zx_sI h 30 0 (zd_M A) (nI f)) 31 0 (zd_M A) (nI g)) 24 0 8 (nI (zd_M A + 1))).1 34 0 (24 * m + r) = zd_tg (zg_addMe A f g) m r
    intro m r g0 g1
    have := hr0 m
    simp only [zg_addMe, zd_B_uN, zd_B_uI, zd_B_uJ, zd_T_uN, zd_T_uI, zd_T_uJ, zd_srt_uN, zd_srt_uI, zd_srt_uJ, zd_sz_uN, zd_sz_uI, zd_sz_uJ, zd_nm_uN, zd_nm_uI, zd_nm_uJ, zd_pt_uN, zd_pt_uI, zd_pt_uJ, zd_of_uN, zd_of_uI, zd_of_uJ, zd_M_uN, zd_M_uI, zd_M_uJ, zd_mf_uN, zd_mf_uI, zd_mf_uJ, zd_mt_uN, zd_mt_uI, zd_mt_uJ, zd_rc_uN, zd_rc_uI, zd_rc_uJ, zd_kd_uN, zd_kd_uI, zd_kd_uJ, zd_tg_uN, zd_tg_uI, zd_tg_uJ, zd_wh_uN, zd_wh_uI, zd_wh_uJ, zd_F_uN, zd_F_uI, zd_F_uJ, zd_ff_uN, zd_ff_uI, zd_ff_uJ, zd_ft_uN, zd_ft_uI, zd_ft_uJ, zd_fa_uN, zd_fa_uI, zd_fa_uJ, zd_fb_uN, zd_fb_uI, zd_fb_uJ, zd_d0_uN, zd_d0_uI, zd_d0_uJ, zd_d1_uN, zd_d1_uI, zd_d1_uJ, zd_d2_uN, zd_d2_uI, zd_d2_uJ, zd_O_uN, zd_O_uI, zd_O_uJ, zd_ty_uN, zd_ty_uI, zd_ty_uJ, zd_ln_uN, zd_ln_uI, zd_ln_uJ, zd_vl_uN, zd_vl_uI, zd_vl_uJ, reduceIte, false_and, and_false, true_and, and_true, if_true, if_false, Nat.reduceEqDiff, reduceCtorEq, and_self, eq_self, Nat.succ_ne_self, zd_gI, zd_gI2, zd_gJ, zd_gJ1] at g0 g1 ⊢
    repeat' split
    all_goals first | rfl | (exfalso; omega) | exact (zd_R_tg H m r (by omega) (by omega)) | (simp only [nI_1]; done) | (rw [nI_1]; done)
  | 13 =>
    show ∀ m r, m < (zd_M (zg_addMe A f g)) → r < zd_rc (zg_addMe A f g) m → (zx_sI (zx_sI (zx_sI h 30 0 (zd_M A) (nI f)) 31 0 (zd_M A) (nI g)) 24 0 8 (nI (zd_M A + 1))).2 35 0 (24 * m + r) = zd_wh (zg_addMe A f g) m r
    intro m r g0 g1
    have := hr0 m
    simp only [zg_addMe, zd_B_uN, zd_B_uI, zd_B_uJ, zd_T_uN, zd_T_uI, zd_T_uJ, zd_srt_uN, zd_srt_uI, zd_srt_uJ, zd_sz_uN, zd_sz_uI, zd_sz_uJ, zd_nm_uN, zd_nm_uI, zd_nm_uJ, zd_pt_uN, zd_pt_uI, zd_pt_uJ, zd_of_uN, zd_of_uI, zd_of_uJ, zd_M_uN, zd_M_uI, zd_M_uJ, zd_mf_uN, zd_mf_uI, zd_mf_uJ, zd_mt_uN, zd_mt_uI, zd_mt_uJ, zd_rc_uN, zd_rc_uI, zd_rc_uJ, zd_kd_uN, zd_kd_uI, zd_kd_uJ, zd_tg_uN, zd_tg_uI, zd_tg_uJ, zd_wh_uN, zd_wh_uI, zd_wh_uJ, zd_F_uN, zd_F_uI, zd_F_uJ, zd_ff_uN, zd_ff_uI, zd_ff_uJ, zd_ft_uN, zd_ft_uI, zd_ft_uJ, zd_fa_uN, zd_fa_uI, zd_fa_uJ, zd_fb_uN, zd_fb_uI, zd_fb_uJ, zd_d0_uN, zd_d0_uI, zd_d0_uJ, zd_d1_uN, zd_d1_uI, zd_d1_uJ, zd_d2_uN, zd_d2_uI, zd_d2_uJ, zd_O_uN, zd_O_uI, zd_O_uJ, zd_ty_uN, zd_ty_uI, zd_ty_uJ, zd_ln_uN, zd_ln_uI, zd_ln_uJ, zd_vl_uN, zd_vl_uI, zd_vl_uJ, reduceIte, false_and, and_false, true_and, and_true, if_true, if_false, Nat.reduceEqDiff, reduceCtorEq, and_self, eq_self, Nat.succ_ne_self, zd_gI, zd_gI2, zd_gJ, zd_gJ1] at g0 g1 ⊢
    repeat' split
    all_goals first | rfl | (exfalso; omega) | exact (zd_R_wh H m r (by omega) (by omega)) | (simp only [nI_1]; done) | (rw [nI_1]; done)
  | 14 => exact H 14
  | 15 => exact H 15
  | 16 => exact H 16
  | 17 => exact H 17
  | 18 => exact H 18
  | 19 => exact H 19
  | 20 => exact H 20
  | 21 => exact H 21
  | 22 => exact H 22
  | 23 => exact H 23
  | 24 => exact H 24
  | 25 => exact H 25
  | 26 => exact H 26
  | _ + 27 => exact trivial
def zg_addF (A : zd_A) (f g : Nat) (x y : Int32) : zd_A := zd_uI (zd_uI (zd_uN (zd_uN (zd_uN A 12 0 0 (zd_F A + 1)) 13 (zd_F A) 0 f) 14 (zd_F A) 0 g) 1 (zd_F A) 0 x) 2 (zd_F A) 0 y
theorem zg_C_addF {A : zd_A} {h : zx_H} (H : zd_C A h) (K : zd_ok A) {u g : Nat} {x y : Int32} (hF : zd_F A < 8) : zd_C (zg_addF A u g x y) (zx_sI (zx_sI (zx_sI (zx_sI (zx_sI h 11 0 2 (nI (zd_F A + 1))) 53 (zd_F A) 0 (nI u)) 53 (zd_F A) 1 (nI g)) 53 (zd_F A) 2 x) 53 (zd_F A) 3 y) := by
  have hT := zd_ok_T K
  intro q
  match q with
  | 0 => exact H 0
  | 1 => exact H 1
  | 2 => exact H 2
  | 3 => exact H 3
  | 4 => exact H 4
  | 5 => exact H 5
  | 6 => exact H 6
  | 7 =>
    show (zx_sI (zx_sI (zx_sI (zx_sI (zx_sI h 11 0 2 (nI (zd_F A + 1))) 53 (zd_F A) 0 (nI u)) 53 (zd_F A) 1 (nI g)) 53 (zd_F A) 2 x) 53 (zd_F A) 3 y).1 11 0 2 = nI (zd_F (zg_addF A u g x y))
    simp only [zg_addF, zd_B_uN, zd_B_uI, zd_B_uJ, zd_T_uN, zd_T_uI, zd_T_uJ, zd_srt_uN, zd_srt_uI, zd_srt_uJ, zd_sz_uN, zd_sz_uI, zd_sz_uJ, zd_nm_uN, zd_nm_uI, zd_nm_uJ, zd_pt_uN, zd_pt_uI, zd_pt_uJ, zd_of_uN, zd_of_uI, zd_of_uJ, zd_M_uN, zd_M_uI, zd_M_uJ, zd_mf_uN, zd_mf_uI, zd_mf_uJ, zd_mt_uN, zd_mt_uI, zd_mt_uJ, zd_rc_uN, zd_rc_uI, zd_rc_uJ, zd_kd_uN, zd_kd_uI, zd_kd_uJ, zd_tg_uN, zd_tg_uI, zd_tg_uJ, zd_wh_uN, zd_wh_uI, zd_wh_uJ, zd_F_uN, zd_F_uI, zd_F_uJ, zd_ff_uN, zd_ff_uI, zd_ff_uJ, zd_ft_uN, zd_ft_uI, zd_ft_uJ, zd_fa_uN, zd_fa_uI, zd_fa_uJ, zd_fb_uN, zd_fb_uI, zd_fb_uJ, zd_d0_uN, zd_d0_uI, zd_d0_uJ, zd_d1_uN, zd_d1_uI, zd_d1_uJ, zd_d2_uN, zd_d2_uI, zd_d2_uJ, zd_O_uN, zd_O_uI, zd_O_uJ, zd_ty_uN, zd_ty_uI, zd_ty_uJ, zd_ln_uN, zd_ln_uI, zd_ln_uJ, zd_vl_uN, zd_vl_uI, zd_vl_uJ, reduceIte, false_and, and_false, true_and, and_true, if_true, if_false, Nat.reduceEqDiff, reduceCtorEq, and_self, eq_self, Nat.succ_ne_self, zd_gI, zd_gI2, zd_gJ, zd_gJ1] at ⊢
    repeat' split
    all_goals first | rfl | (exfalso; omega) | exact (zd_C_F H ) | (simp only [nI_1]; done) | (rw [nI_1]; done)
  | 8 =>
    show (zx_sI (zx_sI (zx_sI (zx_sI (zx_sI h 11 0 2 (nI (zd_F A + 1))) 53 (zd_F A) 0 (nI u)) 53 (zd_F A) 1 (nI g)) 53 (zd_F A) 2 x) 53 (zd_F A) 3 y).1 11 0 3 = nI (zd_M (zg_addF A u g x y))
    simp only [zg_addF, zd_B_uN, zd_B_uI, zd_B_uJ, zd_T_uN, zd_T_uI, zd_T_uJ, zd_srt_uN, zd_srt_uI, zd_srt_uJ, zd_sz_uN, zd_sz_uI, zd_sz_uJ, zd_nm_uN, zd_nm_uI, zd_nm_uJ, zd_pt_uN, zd_pt_uI, zd_pt_uJ, zd_of_uN, zd_of_uI, zd_of_uJ, zd_M_uN, zd_M_uI, zd_M_uJ, zd_mf_uN, zd_mf_uI, zd_mf_uJ, zd_mt_uN, zd_mt_uI, zd_mt_uJ, zd_rc_uN, zd_rc_uI, zd_rc_uJ, zd_kd_uN, zd_kd_uI, zd_kd_uJ, zd_tg_uN, zd_tg_uI, zd_tg_uJ, zd_wh_uN, zd_wh_uI, zd_wh_uJ, zd_F_uN, zd_F_uI, zd_F_uJ, zd_ff_uN, zd_ff_uI, zd_ff_uJ, zd_ft_uN, zd_ft_uI, zd_ft_uJ, zd_fa_uN, zd_fa_uI, zd_fa_uJ, zd_fb_uN, zd_fb_uI, zd_fb_uJ, zd_d0_uN, zd_d0_uI, zd_d0_uJ, zd_d1_uN, zd_d1_uI, zd_d1_uJ, zd_d2_uN, zd_d2_uI, zd_d2_uJ, zd_O_uN, zd_O_uI, zd_O_uJ, zd_ty_uN, zd_ty_uI, zd_ty_uJ, zd_ln_uN, zd_ln_uI, zd_ln_uJ, zd_vl_uN, zd_vl_uI, zd_vl_uJ, reduceIte, false_and, and_false, true_and, and_true, if_true, if_false, Nat.reduceEqDiff, reduceCtorEq, and_self, eq_self, Nat.succ_ne_self, zd_gI, zd_gI2, zd_gJ, zd_gJ1] at ⊢
    repeat' split
    all_goals first | rfl | (exfalso; omega) | exact (zd_C_M H ) | (simp only [nI_1]; done) | (rw [nI_1]; done)
  | 9 => exact H 9
  | 10 => exact H 10
  | 11 => exact H 11
  | 12 => exact H 12
  | 13 => exact H 13
  | 14 => exact H 14
  | 15 =>
    show ∀ f, f < (zd_F (zg_addF A u g x y)) → (zx_sI (zx_sI (zx_sI (zx_sI (zx_sI h 11 0 2 (nI (zd_F A + 1))) 53 (zd_F A) 0 (nI u)) 53 (zd_F A) 1 (nI g)) 53 (zd_F A) 2 x) 53 (zd_F A) 3 y).1 53 f 0 = nI (zd_ff (zg_addF A u g x y) f)
    intro f g0
    simp only [zg_addF, zd_B_uN, zd_B_uI, zd_B_uJ, zd_T_uN, zd_T_uI, zd_T_uJ, zd_srt_uN, zd_srt_uI, zd_srt_uJ, zd_sz_uN, zd_sz_uI, zd_sz_uJ, zd_nm_uN, zd_nm_uI, zd_nm_uJ, zd_pt_uN, zd_pt_uI, zd_pt_uJ, zd_of_uN, zd_of_uI, zd_of_uJ, zd_M_uN, zd_M_uI, zd_M_uJ, zd_mf_uN, zd_mf_uI, zd_mf_uJ, zd_mt_uN, zd_mt_uI, zd_mt_uJ, zd_rc_uN, zd_rc_uI, zd_rc_uJ, zd_kd_uN, zd_kd_uI, zd_kd_uJ, zd_tg_uN, zd_tg_uI, zd_tg_uJ, zd_wh_uN, zd_wh_uI, zd_wh_uJ, zd_F_uN, zd_F_uI, zd_F_uJ, zd_ff_uN, zd_ff_uI, zd_ff_uJ, zd_ft_uN, zd_ft_uI, zd_ft_uJ, zd_fa_uN, zd_fa_uI, zd_fa_uJ, zd_fb_uN, zd_fb_uI, zd_fb_uJ, zd_d0_uN, zd_d0_uI, zd_d0_uJ, zd_d1_uN, zd_d1_uI, zd_d1_uJ, zd_d2_uN, zd_d2_uI, zd_d2_uJ, zd_O_uN, zd_O_uI, zd_O_uJ, zd_ty_uN, zd_ty_uI, zd_ty_uJ, zd_ln_uN, zd_ln_uI, zd_ln_uJ, zd_vl_uN, zd_vl_uI, zd_vl_uJ, reduceIte, false_and, and_false, true_and, and_true, if_true, if_false, Nat.reduceEqDiff, reduceCtorEq, and_self, eq_self, Nat.succ_ne_self, zd_gI, zd_gI2, zd_gJ, zd_gJ1] at g0 ⊢
    repeat' split
    all_goals first | rfl | (exfalso; omega) | exact (zd_C_ff H f (by omega)) | (simp only [nI_1]; done) | (rw [nI_1]; done)
  | 16 =>
    show ∀ f, f < (zd_F (zg_addF A u g x y)) → (zx_sI (zx_sI (zx_sI (zx_sI (zx_sI h 11 0 2 (nI (zd_F A + 1))) 53 (zd_F A) 0 (nI u)) 53 (zd_F A) 1 (nI g)) 53 (zd_F A) 2 x) 53 (zd_F A) 3 y).1 53 f 1 = nI (zd_ft (zg_addF A u g x y) f)
    intro f g0
    simp only [zg_addF, zd_B_uN, zd_B_uI, zd_B_uJ, zd_T_uN, zd_T_uI, zd_T_uJ, zd_srt_uN, zd_srt_uI, zd_srt_uJ, zd_sz_uN, zd_sz_uI, zd_sz_uJ, zd_nm_uN, zd_nm_uI, zd_nm_uJ, zd_pt_uN, zd_pt_uI, zd_pt_uJ, zd_of_uN, zd_of_uI, zd_of_uJ, zd_M_uN, zd_M_uI, zd_M_uJ, zd_mf_uN, zd_mf_uI, zd_mf_uJ, zd_mt_uN, zd_mt_uI, zd_mt_uJ, zd_rc_uN, zd_rc_uI, zd_rc_uJ, zd_kd_uN, zd_kd_uI, zd_kd_uJ, zd_tg_uN, zd_tg_uI, zd_tg_uJ, zd_wh_uN, zd_wh_uI, zd_wh_uJ, zd_F_uN, zd_F_uI, zd_F_uJ, zd_ff_uN, zd_ff_uI, zd_ff_uJ, zd_ft_uN, zd_ft_uI, zd_ft_uJ, zd_fa_uN, zd_fa_uI, zd_fa_uJ, zd_fb_uN, zd_fb_uI, zd_fb_uJ, zd_d0_uN, zd_d0_uI, zd_d0_uJ, zd_d1_uN, zd_d1_uI, zd_d1_uJ, zd_d2_uN, zd_d2_uI, zd_d2_uJ, zd_O_uN, zd_O_uI, zd_O_uJ, zd_ty_uN, zd_ty_uI, zd_ty_uJ, zd_ln_uN, zd_ln_uI, zd_ln_uJ, zd_vl_uN, zd_vl_uI, zd_vl_uJ, reduceIte, false_and, and_false, true_and, and_true, if_true, if_false, Nat.reduceEqDiff, reduceCtorEq, and_self, eq_self, Nat.succ_ne_self, zd_gI, zd_gI2, zd_gJ, zd_gJ1] at g0 ⊢
    repeat' split
    all_goals first | rfl | (exfalso; omega) | exact (zd_C_ft H f (by omega)) | (simp only [nI_1]; done) | (rw [nI_1]; done)
  | 17 =>
    show ∀ f, f < (zd_F (zg_addF A u g x y)) → (zx_sI (zx_sI (zx_sI (zx_sI (zx_sI h 11 0 2 (nI (zd_F A + 1))) 53 (zd_F A) 0 (nI u)) 53 (zd_F A) 1 (nI g)) 53 (zd_F A) 2 x) 53 (zd_F A) 3 y).1 53 f 2 = zd_fa (zg_addF A u g x y) f
    intro f g0
    simp only [zg_addF, zd_B_uN, zd_B_uI, zd_B_uJ, zd_T_uN, zd_T_uI, zd_T_uJ, zd_srt_uN, zd_srt_uI, zd_srt_uJ, zd_sz_uN, zd_sz_uI, zd_sz_uJ, zd_nm_uN, zd_nm_uI, zd_nm_uJ, zd_pt_uN, zd_pt_uI, zd_pt_uJ, zd_of_uN, zd_of_uI, zd_of_uJ, zd_M_uN, zd_M_uI, zd_M_uJ, zd_mf_uN, zd_mf_uI, zd_mf_uJ, zd_mt_uN, zd_mt_uI, zd_mt_uJ, zd_rc_uN, zd_rc_uI, zd_rc_uJ, zd_kd_uN, zd_kd_uI, zd_kd_uJ, zd_tg_uN, zd_tg_uI, zd_tg_uJ, zd_wh_uN, zd_wh_uI, zd_wh_uJ, zd_F_uN, zd_F_uI, zd_F_uJ, zd_ff_uN, zd_ff_uI, zd_ff_uJ, zd_ft_uN, zd_ft_uI, zd_ft_uJ, zd_fa_uN, zd_fa_uI, zd_fa_uJ, zd_fb_uN, zd_fb_uI, zd_fb_uJ, zd_d0_uN, zd_d0_uI, zd_d0_uJ, zd_d1_uN, zd_d1_uI, zd_d1_uJ, zd_d2_uN, zd_d2_uI, zd_d2_uJ, zd_O_uN, zd_O_uI, zd_O_uJ, zd_ty_uN, zd_ty_uI, zd_ty_uJ, zd_ln_uN, zd_ln_uI, zd_ln_uJ, zd_vl_uN, zd_vl_uI, zd_vl_uJ, reduceIte, false_and, and_false, true_and, and_true, if_true, if_false, Nat.reduceEqDiff, reduceCtorEq, and_self, eq_self, Nat.succ_ne_self, zd_gI, zd_gI2, zd_gJ, zd_gJ1] at g0 ⊢
    repeat' split
    all_goals first | rfl | (exfalso; omega) | exact (zd_C_fa H f (by omega)) | (simp only [nI_1]; done) | (rw [nI_1]; done)
  | 18 =>
    show ∀ f, f < (zd_F (zg_addF A u g x y)) → (zx_sI (zx_sI (zx_sI (zx_sI (zx_sI h 11 0 2 (nI (zd_F A + 1))) 53 (zd_F A) 0 (nI u)) 53 (zd_F A) 1 (nI g)) 53 (zd_F A) 2 x) 53 (zd_F A) 3 y).1 53 f 3 = zd_fb (zg_addF A u g x y) f
    intro f g0
    simp only [zg_addF, zd_B_uN, zd_B_uI, zd_B_uJ, zd_T_uN, zd_T_uI, zd_T_uJ, zd_srt_uN, zd_srt_uI, zd_srt_uJ, zd_sz_uN, zd_sz_uI, zd_sz_uJ, zd_nm_uN, zd_nm_uI, zd_nm_uJ, zd_pt_uN, zd_pt_uI, zd_pt_uJ, zd_of_uN, zd_of_uI, zd_of_uJ, zd_M_uN, zd_M_uI, zd_M_uJ, zd_mf_uN, zd_mf_uI, zd_mf_uJ, zd_mt_uN, zd_mt_uI, zd_mt_uJ, zd_rc_uN, zd_rc_uI, zd_rc_uJ, zd_kd_uN, zd_kd_uI, zd_kd_uJ, zd_tg_uN, zd_tg_uI, zd_tg_uJ, zd_wh_uN, zd_wh_uI, zd_wh_uJ, zd_F_uN, zd_F_uI, zd_F_uJ, zd_ff_uN, zd_ff_uI, zd_ff_uJ, zd_ft_uN, zd_ft_uI, zd_ft_uJ, zd_fa_uN, zd_fa_uI, zd_fa_uJ, zd_fb_uN, zd_fb_uI, zd_fb_uJ, zd_d0_uN, zd_d0_uI, zd_d0_uJ, zd_d1_uN, zd_d1_uI, zd_d1_uJ, zd_d2_uN, zd_d2_uI, zd_d2_uJ, zd_O_uN, zd_O_uI, zd_O_uJ, zd_ty_uN, zd_ty_uI, zd_ty_uJ, zd_ln_uN, zd_ln_uI, zd_ln_uJ, zd_vl_uN, zd_vl_uI, zd_vl_uJ, reduceIte, false_and, and_false, true_and, and_true, if_true, if_false, Nat.reduceEqDiff, reduceCtorEq, and_self, eq_self, Nat.succ_ne_self, zd_gI, zd_gI2, zd_gJ, zd_gJ1] at g0 ⊢
    repeat' split
    all_goals first | rfl | (exfalso; omega) | exact (zd_C_fb H f (by omega)) | (simp only [nI_1]; done) | (rw [nI_1]; done)
  | 19 => exact H 19
  | 20 => exact H 20
  | 21 => exact H 21
  | 22 => exact H 22
  | 23 => exact H 23
  | 24 => exact H 24
  | 25 => exact H 25
  | _ + 26 => exact trivial
theorem zg_R_addF {A : zd_A} {h : zx_H} (H : zd_R A h) (K : zd_ok A) {u g : Nat} {x y : Int32} (hF : zd_F A < 8) : zd_R (zg_addF A u g x y) (zx_sI (zx_sI (zx_sI (zx_sI (zx_sI h 36 0 (zd_F A) (nI u)) 37 0 (zd_F A) (nI g)) 38 0 (zd_F A) x) 39 0 (zd_F A) y) 24 0 15 (nI (zd_F A + 1))) := by
  have hT := zd_ok_T K
  intro q
  match q with
  | 0 => exact H 0
  | 1 => exact H 1
  | 2 => exact H 2
  | 3 => exact H 3
  | 4 => exact H 4
  | 5 => exact H 5
  | 6 => exact H 6
  | 7 => exact H 7
  | 8 => exact H 8
  | 9 => exact H 9
  | 10 => exact H 10
  | 11 => exact H 11
  | 12 => exact H 12
  | 13 => exact H 13
  | 14 =>
    show (zx_sI (zx_sI (zx_sI (zx_sI (zx_sI h 36 0 (zd_F A) (nI u)) 37 0 (zd_F A) (nI g)) 38 0 (zd_F A) x) 39 0 (zd_F A) y) 24 0 15 (nI (zd_F A + 1))).1 24 0 15 = nI (zd_F (zg_addF A u g x y))
    simp only [zg_addF, zd_B_uN, zd_B_uI, zd_B_uJ, zd_T_uN, zd_T_uI, zd_T_uJ, zd_srt_uN, zd_srt_uI, zd_srt_uJ, zd_sz_uN, zd_sz_uI, zd_sz_uJ, zd_nm_uN, zd_nm_uI, zd_nm_uJ, zd_pt_uN, zd_pt_uI, zd_pt_uJ, zd_of_uN, zd_of_uI, zd_of_uJ, zd_M_uN, zd_M_uI, zd_M_uJ, zd_mf_uN, zd_mf_uI, zd_mf_uJ, zd_mt_uN, zd_mt_uI, zd_mt_uJ, zd_rc_uN, zd_rc_uI, zd_rc_uJ, zd_kd_uN, zd_kd_uI, zd_kd_uJ, zd_tg_uN, zd_tg_uI, zd_tg_uJ, zd_wh_uN, zd_wh_uI, zd_wh_uJ, zd_F_uN, zd_F_uI, zd_F_uJ, zd_ff_uN, zd_ff_uI, zd_ff_uJ, zd_ft_uN, zd_ft_uI, zd_ft_uJ, zd_fa_uN, zd_fa_uI, zd_fa_uJ, zd_fb_uN, zd_fb_uI, zd_fb_uJ, zd_d0_uN, zd_d0_uI, zd_d0_uJ, zd_d1_uN, zd_d1_uI, zd_d1_uJ, zd_d2_uN, zd_d2_uI, zd_d2_uJ, zd_O_uN, zd_O_uI, zd_O_uJ, zd_ty_uN, zd_ty_uI, zd_ty_uJ, zd_ln_uN, zd_ln_uI, zd_ln_uJ, zd_vl_uN, zd_vl_uI, zd_vl_uJ, reduceIte, false_and, and_false, true_and, and_true, if_true, if_false, Nat.reduceEqDiff, reduceCtorEq, and_self, eq_self, Nat.succ_ne_self, zd_gI, zd_gI2, zd_gJ, zd_gJ1] at ⊢
    repeat' split
    all_goals first | rfl | (exfalso; omega) | exact (zd_R_F H ) | (simp only [nI_1]; done) | (rw [nI_1]; done)
  | 15 =>
    show ∀ f, f < (zd_F (zg_addF A u g x y)) → (zx_sI (zx_sI (zx_sI (zx_sI (zx_sI h 36 0 (zd_F A) (nI u)) 37 0 (zd_F A) (nI g)) 38 0 (zd_F A) x) 39 0 (zd_F A) y) 24 0 15 (nI (zd_F A + 1))).1 36 0 f = nI (zd_ff (zg_addF A u g x y) f)
    intro f g0
    simp only [zg_addF, zd_B_uN, zd_B_uI, zd_B_uJ, zd_T_uN, zd_T_uI, zd_T_uJ, zd_srt_uN, zd_srt_uI, zd_srt_uJ, zd_sz_uN, zd_sz_uI, zd_sz_uJ, zd_nm_uN, zd_nm_uI, zd_nm_uJ, zd_pt_uN, zd_pt_uI, zd_pt_uJ, zd_of_uN, zd_of_uI, zd_of_uJ, zd_M_uN, zd_M_uI, zd_M_uJ, zd_mf_uN, zd_mf_uI, zd_mf_uJ, zd_mt_uN, zd_mt_uI, zd_mt_uJ, zd_rc_uN, zd_rc_uI, zd_rc_uJ, zd_kd_uN, zd_kd_uI, zd_kd_uJ, zd_tg_uN, zd_tg_uI, zd_tg_uJ, zd_wh_uN, zd_wh_uI, zd_wh_uJ, zd_F_uN, zd_F_uI, zd_F_uJ, zd_ff_uN, zd_ff_uI, zd_ff_uJ, zd_ft_uN, zd_ft_uI, zd_ft_uJ, zd_fa_uN, zd_fa_uI, zd_fa_uJ, zd_fb_uN, zd_fb_uI, zd_fb_uJ, zd_d0_uN, zd_d0_uI, zd_d0_uJ, zd_d1_uN, zd_d1_uI, zd_d1_uJ, zd_d2_uN, zd_d2_uI, zd_d2_uJ, zd_O_uN, zd_O_uI, zd_O_uJ, zd_ty_uN, zd_ty_uI, zd_ty_uJ, zd_ln_uN, zd_ln_uI, zd_ln_uJ, zd_vl_uN, zd_vl_uI, zd_vl_uJ, reduceIte, false_and, and_false, true_and, and_true, if_true, if_false, Nat.reduceEqDiff, reduceCtorEq, and_self, eq_self, Nat.succ_ne_self, zd_gI, zd_gI2, zd_gJ, zd_gJ1] at g0 ⊢
    repeat' split
    all_goals first | rfl | (exfalso; omega) | exact (zd_R_ff H f (by omega)) | (simp only [nI_1]; done) | (rw [nI_1]; done)
  | 16 =>
    show ∀ f, f < (zd_F (zg_addF A u g x y)) → (zx_sI (zx_sI (zx_sI (zx_sI (zx_sI h 36 0 (zd_F A) (nI u)) 37 0 (zd_F A) (nI g)) 38 0 (zd_F A) x) 39 0 (zd_F A) y) 24 0 15 (nI (zd_F A + 1))).1 37 0 f = nI (zd_ft (zg_addF A u g x y) f)
    intro f g0
    simp only [zg_addF, zd_B_uN, zd_B_uI, zd_B_uJ, zd_T_uN, zd_T_uI, zd_T_uJ, zd_srt_uN, zd_srt_uI, zd_srt_uJ, zd_sz_uN, zd_sz_uI, zd_sz_uJ, zd_nm_uN, zd_nm_uI, zd_nm_uJ, zd_pt_uN, zd_pt_uI, zd_pt_uJ, zd_of_uN, zd_of_uI, zd_of_uJ, zd_M_uN, zd_M_uI, zd_M_uJ, zd_mf_uN, zd_mf_uI, zd_mf_uJ, zd_mt_uN, zd_mt_uI, zd_mt_uJ, zd_rc_uN, zd_rc_uI, zd_rc_uJ, zd_kd_uN, zd_kd_uI, zd_kd_uJ, zd_tg_uN, zd_tg_uI, zd_tg_uJ, zd_wh_uN, zd_wh_uI, zd_wh_uJ, zd_F_uN, zd_F_uI, zd_F_uJ, zd_ff_uN, zd_ff_uI, zd_ff_uJ, zd_ft_uN, zd_ft_uI, zd_ft_uJ, zd_fa_uN, zd_fa_uI, zd_fa_uJ, zd_fb_uN, zd_fb_uI, zd_fb_uJ, zd_d0_uN, zd_d0_uI, zd_d0_uJ, zd_d1_uN, zd_d1_uI, zd_d1_uJ, zd_d2_uN, zd_d2_uI, zd_d2_uJ, zd_O_uN, zd_O_uI, zd_O_uJ, zd_ty_uN, zd_ty_uI, zd_ty_uJ, zd_ln_uN, zd_ln_uI, zd_ln_uJ, zd_vl_uN, zd_vl_uI, zd_vl_uJ, reduceIte, false_and, and_false, true_and, and_true, if_true, if_false, Nat.reduceEqDiff, reduceCtorEq, and_self, eq_self, Nat.succ_ne_self, zd_gI, zd_gI2, zd_gJ, zd_gJ1] at g0 ⊢
    repeat' split
    all_goals first | rfl | (exfalso; omega) | exact (zd_R_ft H f (by omega)) | (simp only [nI_1]; done) | (rw [nI_1]; done)
  | 17 =>
    show ∀ f, f < (zd_F (zg_addF A u g x y)) → (zx_sI (zx_sI (zx_sI (zx_sI (zx_sI h 36 0 (zd_F A) (nI u)) 37 0 (zd_F A) (nI g)) 38 0 (zd_F A) x) 39 0 (zd_F A) y) 24 0 15 (nI (zd_F A + 1))).1 38 0 f = zd_fa (zg_addF A u g x y) f
    intro f g0
    simp only [zg_addF, zd_B_uN, zd_B_uI, zd_B_uJ, zd_T_uN, zd_T_uI, zd_T_uJ, zd_srt_uN, zd_srt_uI, zd_srt_uJ, zd_sz_uN, zd_sz_uI, zd_sz_uJ, zd_nm_uN, zd_nm_uI, zd_nm_uJ, zd_pt_uN, zd_pt_uI, zd_pt_uJ, zd_of_uN, zd_of_uI, zd_of_uJ, zd_M_uN, zd_M_uI, zd_M_uJ, zd_mf_uN, zd_mf_uI, zd_mf_uJ, zd_mt_uN, zd_mt_uI, zd_mt_uJ, zd_rc_uN, zd_rc_uI, zd_rc_uJ, zd_kd_uN, zd_kd_uI, zd_kd_uJ, zd_tg_uN, zd_tg_uI, zd_tg_uJ, zd_wh_uN, zd_wh_uI, zd_wh_uJ, zd_F_uN, zd_F_uI, zd_F_uJ, zd_ff_uN, zd_ff_uI, zd_ff_uJ, zd_ft_uN, zd_ft_uI, zd_ft_uJ, zd_fa_uN, zd_fa_uI, zd_fa_uJ, zd_fb_uN, zd_fb_uI, zd_fb_uJ, zd_d0_uN, zd_d0_uI, zd_d0_uJ, zd_d1_uN, zd_d1_uI, zd_d1_uJ, zd_d2_uN, zd_d2_uI, zd_d2_uJ, zd_O_uN, zd_O_uI, zd_O_uJ, zd_ty_uN, zd_ty_uI, zd_ty_uJ, zd_ln_uN, zd_ln_uI, zd_ln_uJ, zd_vl_uN, zd_vl_uI, zd_vl_uJ, reduceIte, false_and, and_false, true_and, and_true, if_true, if_false, Nat.reduceEqDiff, reduceCtorEq, and_self, eq_self, Nat.succ_ne_self, zd_gI, zd_gI2, zd_gJ, zd_gJ1] at g0 ⊢
    repeat' split
    all_goals first | rfl | (exfalso; omega) | exact (zd_R_fa H f (by omega)) | (simp only [nI_1]; done) | (rw [nI_1]; done)
  | 18 =>
    show ∀ f, f < (zd_F (zg_addF A u g x y)) → (zx_sI (zx_sI (zx_sI (zx_sI (zx_sI h 36 0 (zd_F A) (nI u)) 37 0 (zd_F A) (nI g)) 38 0 (zd_F A) x) 39 0 (zd_F A) y) 24 0 15 (nI (zd_F A + 1))).1 39 0 f = zd_fb (zg_addF A u g x y) f
    intro f g0
    simp only [zg_addF, zd_B_uN, zd_B_uI, zd_B_uJ, zd_T_uN, zd_T_uI, zd_T_uJ, zd_srt_uN, zd_srt_uI, zd_srt_uJ, zd_sz_uN, zd_sz_uI, zd_sz_uJ, zd_nm_uN, zd_nm_uI, zd_nm_uJ, zd_pt_uN, zd_pt_uI, zd_pt_uJ, zd_of_uN, zd_of_uI, zd_of_uJ, zd_M_uN, zd_M_uI, zd_M_uJ, zd_mf_uN, zd_mf_uI, zd_mf_uJ, zd_mt_uN, zd_mt_uI, zd_mt_uJ, zd_rc_uN, zd_rc_uI, zd_rc_uJ, zd_kd_uN, zd_kd_uI, zd_kd_uJ, zd_tg_uN, zd_tg_uI, zd_tg_uJ, zd_wh_uN, zd_wh_uI, zd_wh_uJ, zd_F_uN, zd_F_uI, zd_F_uJ, zd_ff_uN, zd_ff_uI, zd_ff_uJ, zd_ft_uN, zd_ft_uI, zd_ft_uJ, zd_fa_uN, zd_fa_uI, zd_fa_uJ, zd_fb_uN, zd_fb_uI, zd_fb_uJ, zd_d0_uN, zd_d0_uI, zd_d0_uJ, zd_d1_uN, zd_d1_uI, zd_d1_uJ, zd_d2_uN, zd_d2_uI, zd_d2_uJ, zd_O_uN, zd_O_uI, zd_O_uJ, zd_ty_uN, zd_ty_uI, zd_ty_uJ, zd_ln_uN, zd_ln_uI, zd_ln_uJ, zd_vl_uN, zd_vl_uI, zd_vl_uJ, reduceIte, false_and, and_false, true_and, and_true, if_true, if_false, Nat.reduceEqDiff, reduceCtorEq, and_self, eq_self, Nat.succ_ne_self, zd_gI, zd_gI2, zd_gJ, zd_gJ1] at g0 ⊢
    repeat' split
    all_goals first | rfl | (exfalso; omega) | exact (zd_R_fb H f (by omega)) | (simp only [nI_1]; done) | (rw [nI_1]; done)
  | 19 => exact H 19
  | 20 => exact H 20
  | 21 => exact H 21
  | 22 => exact H 22
  | 23 => exact H 23
  | 24 => exact H 24
  | 25 => exact H 25
  | 26 => exact H 26
  | _ + 27 => exact trivial
def zg_tell (A : zd_A) (q kk : Nat) (x : Int32) (y : Int64) : zd_A := zd_uJ (zd_uI (zd_uN (zd_uN A 10 q 0 (zd_rc A q + 1)) 11 q (zd_rc A q) kk) 0 q (zd_rc A q) x) 0 q (zd_rc A q) y
theorem zg_C_tell {A : zd_A} {h : zx_H} (H : zd_C A h) (K : zd_ok A) {q kk : Nat} {x : Int32} {y : Int64} (hq : q < zd_M A) (hr : zd_rc A q < 24) : zd_C (zg_tell A q kk x y) (zx_sI (zx_sJ (zx_sI (zx_sI h 55 q (zd_rc A q) (nI kk)) 56 q (zd_rc A q) x) 57 q (zd_rc A q) y) 54 q 2 (nI (zd_rc A q + 1))) := by
  have hT := zd_ok_T K
  have hr24 := zd_ok_rc K
  have hM := zd_ok_M K
  intro z
  match z with
  | 0 => exact H 0
  | 1 => exact H 1
  | 2 => exact H 2
  | 3 => exact H 3
  | 4 => exact H 4
  | 5 => exact H 5
  | 6 => exact H 6
  | 7 => exact H 7
  | 8 => exact H 8
  | 9 =>
    show ∀ m, m < (zd_M (zg_tell A q kk x y)) → (zx_sI (zx_sJ (zx_sI (zx_sI h 55 q (zd_rc A q) (nI kk)) 56 q (zd_rc A q) x) 57 q (zd_rc A q) y) 54 q 2 (nI (zd_rc A q + 1))).1 54 m 0 = nI (zd_mf (zg_tell A q kk x y) m)
    intro m g0
    simp only [zg_tell, zd_B_uN, zd_B_uI, zd_B_uJ, zd_T_uN, zd_T_uI, zd_T_uJ, zd_srt_uN, zd_srt_uI, zd_srt_uJ, zd_sz_uN, zd_sz_uI, zd_sz_uJ, zd_nm_uN, zd_nm_uI, zd_nm_uJ, zd_pt_uN, zd_pt_uI, zd_pt_uJ, zd_of_uN, zd_of_uI, zd_of_uJ, zd_M_uN, zd_M_uI, zd_M_uJ, zd_mf_uN, zd_mf_uI, zd_mf_uJ, zd_mt_uN, zd_mt_uI, zd_mt_uJ, zd_rc_uN, zd_rc_uI, zd_rc_uJ, zd_kd_uN, zd_kd_uI, zd_kd_uJ, zd_tg_uN, zd_tg_uI, zd_tg_uJ, zd_wh_uN, zd_wh_uI, zd_wh_uJ, zd_F_uN, zd_F_uI, zd_F_uJ, zd_ff_uN, zd_ff_uI, zd_ff_uJ, zd_ft_uN, zd_ft_uI, zd_ft_uJ, zd_fa_uN, zd_fa_uI, zd_fa_uJ, zd_fb_uN, zd_fb_uI, zd_fb_uJ, zd_d0_uN, zd_d0_uI, zd_d0_uJ, zd_d1_uN, zd_d1_uI, zd_d1_uJ, zd_d2_uN, zd_d2_uI, zd_d2_uJ, zd_O_uN, zd_O_uI, zd_O_uJ, zd_ty_uN, zd_ty_uI, zd_ty_uJ, zd_ln_uN, zd_ln_uI, zd_ln_uJ, zd_vl_uN, zd_vl_uI, zd_vl_uJ, reduceIte, false_and, and_false, true_and, and_true, if_true, if_false, Nat.reduceEqDiff, reduceCtorEq, and_self, eq_self, Nat.succ_ne_self, zd_gI, zd_gI2, zd_gJ, zd_gJ1] at g0 ⊢
    repeat' split
    all_goals first | rfl | (exfalso; omega) | exact (zd_C_mf H m (by omega)) | (simp only [nI_1]; done) | (rw [nI_1]; done)
  | 10 =>
    show ∀ m, m < (zd_M (zg_tell A q kk x y)) → (zx_sI (zx_sJ (zx_sI (zx_sI h 55 q (zd_rc A q) (nI kk)) 56 q (zd_rc A q) x) 57 q (zd_rc A q) y) 54 q 2 (nI (zd_rc A q + 1))).1 54 m 1 = nI (zd_mt (zg_tell A q kk x y) m)
    intro m g0
    simp only [zg_tell, zd_B_uN, zd_B_uI, zd_B_uJ, zd_T_uN, zd_T_uI, zd_T_uJ, zd_srt_uN, zd_srt_uI, zd_srt_uJ, zd_sz_uN, zd_sz_uI, zd_sz_uJ, zd_nm_uN, zd_nm_uI, zd_nm_uJ, zd_pt_uN, zd_pt_uI, zd_pt_uJ, zd_of_uN, zd_of_uI, zd_of_uJ, zd_M_uN, zd_M_uI, zd_M_uJ, zd_mf_uN, zd_mf_uI, zd_mf_uJ, zd_mt_uN, zd_mt_uI, zd_mt_uJ, zd_rc_uN, zd_rc_uI, zd_rc_uJ, zd_kd_uN, zd_kd_uI, zd_kd_uJ, zd_tg_uN, zd_tg_uI, zd_tg_uJ, zd_wh_uN, zd_wh_uI, zd_wh_uJ, zd_F_uN, zd_F_uI, zd_F_uJ, zd_ff_uN, zd_ff_uI, zd_ff_uJ, zd_ft_uN, zd_ft_uI, zd_ft_uJ, zd_fa_uN, zd_fa_uI, zd_fa_uJ, zd_fb_uN, zd_fb_uI, zd_fb_uJ, zd_d0_uN, zd_d0_uI, zd_d0_uJ, zd_d1_uN, zd_d1_uI, zd_d1_uJ, zd_d2_uN, zd_d2_uI, zd_d2_uJ, zd_O_uN, zd_O_uI, zd_O_uJ, zd_ty_uN, zd_ty_uI, zd_ty_uJ, zd_ln_uN, zd_ln_uI, zd_ln_uJ, zd_vl_uN, zd_vl_uI, zd_vl_uJ, reduceIte, false_and, and_false, true_and, and_true, if_true, if_false, Nat.reduceEqDiff, reduceCtorEq, and_self, eq_self, Nat.succ_ne_self, zd_gI, zd_gI2, zd_gJ, zd_gJ1] at g0 ⊢
    repeat' split
    all_goals first | rfl | (exfalso; omega) | exact (zd_C_mt H m (by omega)) | (simp only [nI_1]; done) | (rw [nI_1]; done)
  | 11 =>
    show ∀ m, m < 16 → (zx_sI (zx_sJ (zx_sI (zx_sI h 55 q (zd_rc A q) (nI kk)) 56 q (zd_rc A q) x) 57 q (zd_rc A q) y) 54 q 2 (nI (zd_rc A q + 1))).1 54 m 2 = nI (zd_rc (zg_tell A q kk x y) m)
    intro m g0
    simp only [zg_tell, zd_B_uN, zd_B_uI, zd_B_uJ, zd_T_uN, zd_T_uI, zd_T_uJ, zd_srt_uN, zd_srt_uI, zd_srt_uJ, zd_sz_uN, zd_sz_uI, zd_sz_uJ, zd_nm_uN, zd_nm_uI, zd_nm_uJ, zd_pt_uN, zd_pt_uI, zd_pt_uJ, zd_of_uN, zd_of_uI, zd_of_uJ, zd_M_uN, zd_M_uI, zd_M_uJ, zd_mf_uN, zd_mf_uI, zd_mf_uJ, zd_mt_uN, zd_mt_uI, zd_mt_uJ, zd_rc_uN, zd_rc_uI, zd_rc_uJ, zd_kd_uN, zd_kd_uI, zd_kd_uJ, zd_tg_uN, zd_tg_uI, zd_tg_uJ, zd_wh_uN, zd_wh_uI, zd_wh_uJ, zd_F_uN, zd_F_uI, zd_F_uJ, zd_ff_uN, zd_ff_uI, zd_ff_uJ, zd_ft_uN, zd_ft_uI, zd_ft_uJ, zd_fa_uN, zd_fa_uI, zd_fa_uJ, zd_fb_uN, zd_fb_uI, zd_fb_uJ, zd_d0_uN, zd_d0_uI, zd_d0_uJ, zd_d1_uN, zd_d1_uI, zd_d1_uJ, zd_d2_uN, zd_d2_uI, zd_d2_uJ, zd_O_uN, zd_O_uI, zd_O_uJ, zd_ty_uN, zd_ty_uI, zd_ty_uJ, zd_ln_uN, zd_ln_uI, zd_ln_uJ, zd_vl_uN, zd_vl_uI, zd_vl_uJ, reduceIte, false_and, and_false, true_and, and_true, if_true, if_false, Nat.reduceEqDiff, reduceCtorEq, and_self, eq_self, Nat.succ_ne_self, zd_gI, zd_gI2, zd_gJ, zd_gJ1] at g0 ⊢
    repeat' split
    all_goals first | rfl | (exfalso; omega) | exact (zd_C_rc H m (by omega)) | (simp only [nI_1]; done) | (rw [nI_1]; done)
  | 12 =>
    show ∀ m r, m < (zd_M (zg_tell A q kk x y)) → r < zd_rc (zg_tell A q kk x y) m → (zx_sI (zx_sJ (zx_sI (zx_sI h 55 q (zd_rc A q) (nI kk)) 56 q (zd_rc A q) x) 57 q (zd_rc A q) y) 54 q 2 (nI (zd_rc A q + 1))).1 55 m r = nI (zd_kd (zg_tell A q kk x y) m r)
    intro m r g0 g1
    simp only [zg_tell, zd_B_uN, zd_B_uI, zd_B_uJ, zd_T_uN, zd_T_uI, zd_T_uJ, zd_srt_uN, zd_srt_uI, zd_srt_uJ, zd_sz_uN, zd_sz_uI, zd_sz_uJ, zd_nm_uN, zd_nm_uI, zd_nm_uJ, zd_pt_uN, zd_pt_uI, zd_pt_uJ, zd_of_uN, zd_of_uI, zd_of_uJ, zd_M_uN, zd_M_uI, zd_M_uJ, zd_mf_uN, zd_mf_uI, zd_mf_uJ, zd_mt_uN, zd_mt_uI, zd_mt_uJ, zd_rc_uN, zd_rc_uI, zd_rc_uJ, zd_kd_uN, zd_kd_uI, zd_kd_uJ, zd_tg_uN, zd_tg_uI, zd_tg_uJ, zd_wh_uN, zd_wh_uI, zd_wh_uJ, zd_F_uN, zd_F_uI, zd_F_uJ, zd_ff_uN, zd_ff_uI, zd_ff_uJ, zd_ft_uN, zd_ft_uI, zd_ft_uJ, zd_fa_uN, zd_fa_uI, zd_fa_uJ, zd_fb_uN, zd_fb_uI, zd_fb_uJ, zd_d0_uN, zd_d0_uI, zd_d0_uJ, zd_d1_uN, zd_d1_uI, zd_d1_uJ, zd_d2_uN, zd_d2_uI, zd_d2_uJ, zd_O_uN, zd_O_uI, zd_O_uJ, zd_ty_uN, zd_ty_uI, zd_ty_uJ, zd_ln_uN, zd_ln_uI, zd_ln_uJ, zd_vl_uN, zd_vl_uI, zd_vl_uJ, reduceIte, false_and, and_false, true_and, and_true, if_true, if_false, Nat.reduceEqDiff, reduceCtorEq, and_self, eq_self, Nat.succ_ne_self, zd_gI, zd_gI2, zd_gJ, zd_gJ1] at g0 g1 ⊢
    have := hr24 q (by omega)
    have := hr24 m (by omega)
    by_cases e : m = q
    · subst e
      by_cases e2 : r = zd_rc A m
      · first | rw [if_pos (by omega), if_pos ⟨rfl, e2⟩] | rw [if_pos e2, if_pos ⟨rfl, e2⟩] | rw [if_pos ⟨rfl, e2⟩, if_pos ⟨rfl, e2⟩] | (simp only [e2, and_self, if_true]; done)
      · rw [if_pos rfl] at g1
        first | rw [if_neg (by omega), if_neg (by omega)] | rw [if_neg (by omega)]
        exact zd_C_kd H m r g0 (by omega)
    · rw [if_neg e] at g1
      first | rw [if_neg (by omega), if_neg (by omega)] | rw [if_neg (by omega)]
      exact zd_C_kd H m r g0 g1
  | 13 =>
    show ∀ m r, m < (zd_M (zg_tell A q kk x y)) → r < zd_rc (zg_tell A q kk x y) m → (zx_sI (zx_sJ (zx_sI (zx_sI h 55 q (zd_rc A q) (nI kk)) 56 q (zd_rc A q) x) 57 q (zd_rc A q) y) 54 q 2 (nI (zd_rc A q + 1))).1 56 m r = zd_tg (zg_tell A q kk x y) m r
    intro m r g0 g1
    simp only [zg_tell, zd_B_uN, zd_B_uI, zd_B_uJ, zd_T_uN, zd_T_uI, zd_T_uJ, zd_srt_uN, zd_srt_uI, zd_srt_uJ, zd_sz_uN, zd_sz_uI, zd_sz_uJ, zd_nm_uN, zd_nm_uI, zd_nm_uJ, zd_pt_uN, zd_pt_uI, zd_pt_uJ, zd_of_uN, zd_of_uI, zd_of_uJ, zd_M_uN, zd_M_uI, zd_M_uJ, zd_mf_uN, zd_mf_uI, zd_mf_uJ, zd_mt_uN, zd_mt_uI, zd_mt_uJ, zd_rc_uN, zd_rc_uI, zd_rc_uJ, zd_kd_uN, zd_kd_uI, zd_kd_uJ, zd_tg_uN, zd_tg_uI, zd_tg_uJ, zd_wh_uN, zd_wh_uI, zd_wh_uJ, zd_F_uN, zd_F_uI, zd_F_uJ, zd_ff_uN, zd_ff_uI, zd_ff_uJ, zd_ft_uN, zd_ft_uI, zd_ft_uJ, zd_fa_uN, zd_fa_uI, zd_fa_uJ, zd_fb_uN, zd_fb_uI, zd_fb_uJ, zd_d0_uN, zd_d0_uI, zd_d0_uJ, zd_d1_uN, zd_d1_uI, zd_d1_uJ, zd_d2_uN, zd_d2_uI, zd_d2_uJ, zd_O_uN, zd_O_uI, zd_O_uJ, zd_ty_uN, zd_ty_uI, zd_ty_uJ, zd_ln_uN, zd_ln_uI, zd_ln_uJ, zd_vl_uN, zd_vl_uI, zd_vl_uJ, reduceIte, false_and, and_false, true_and, and_true, if_true, if_false, Nat.reduceEqDiff, reduceCtorEq, and_self, eq_self, Nat.succ_ne_self, zd_gI, zd_gI2, zd_gJ, zd_gJ1] at g0 g1 ⊢
    have := hr24 q (by omega)
    have := hr24 m (by omega)
    by_cases e : m = q
    · subst e
      by_cases e2 : r = zd_rc A m
      · first | rw [if_pos (by omega), if_pos ⟨rfl, e2⟩] | rw [if_pos e2, if_pos ⟨rfl, e2⟩] | rw [if_pos ⟨rfl, e2⟩, if_pos ⟨rfl, e2⟩] | (simp only [e2, and_self, if_true]; done)
      · rw [if_pos rfl] at g1
        first | rw [if_neg (by omega), if_neg (by omega)] | rw [if_neg (by omega)]
        exact zd_C_tg H m r g0 (by omega)
    · rw [if_neg e] at g1
      first | rw [if_neg (by omega), if_neg (by omega)] | rw [if_neg (by omega)]
      exact zd_C_tg H m r g0 g1
  | 14 =>
    show ∀ m r, m < (zd_M (zg_tell A q kk x y)) → r < zd_rc (zg_tell A q kk x y) m → (zx_sI (zx_sJ (zx_sI (zx_sI h 55 q (zd_rc A q) (nI kk)) 56 q (zd_rc A q) x) 57 q (zd_rc A q) y) 54 q 2 (nI (zd_rc A q + 1))).2 57 m r = zd_wh (zg_tell A q kk x y) m r
    intro m r g0 g1
    simp only [zg_tell, zd_B_uN, zd_B_uI, zd_B_uJ, zd_T_uN, zd_T_uI, zd_T_uJ, zd_srt_uN, zd_srt_uI, zd_srt_uJ, zd_sz_uN, zd_sz_uI, zd_sz_uJ, zd_nm_uN, zd_nm_uI, zd_nm_uJ, zd_pt_uN, zd_pt_uI, zd_pt_uJ, zd_of_uN, zd_of_uI, zd_of_uJ, zd_M_uN, zd_M_uI, zd_M_uJ, zd_mf_uN, zd_mf_uI, zd_mf_uJ, zd_mt_uN, zd_mt_uI, zd_mt_uJ, zd_rc_uN, zd_rc_uI, zd_rc_uJ, zd_kd_uN, zd_kd_uI, zd_kd_uJ, zd_tg_uN, zd_tg_uI, zd_tg_uJ, zd_wh_uN, zd_wh_uI, zd_wh_uJ, zd_F_uN, zd_F_uI, zd_F_uJ, zd_ff_uN, zd_ff_uI, zd_ff_uJ, zd_ft_uN, zd_ft_uI, zd_ft_uJ, zd_fa_uN, zd_fa_uI, zd_fa_uJ, zd_fb_uN, zd_fb_uI, zd_fb_uJ, zd_d0_uN, zd_d0_uI, zd_d0_uJ, zd_d1_uN, zd_d1_uI, zd_d1_uJ, zd_d2_uN, zd_d2_uI, zd_d2_uJ, zd_O_uN, zd_O_uI, zd_O_uJ, zd_ty_uN, zd_ty_uI, zd_ty_uJ, zd_ln_uN, zd_ln_uI, zd_ln_uJ, zd_vl_uN, zd_vl_uI, zd_vl_uJ, reduceIte, false_and, and_false, true_and, and_true, if_true, if_false, Nat.reduceEqDiff, reduceCtorEq, and_self, eq_self, Nat.succ_ne_self, zd_gI, zd_gI2, zd_gJ, zd_gJ1] at g0 g1 ⊢
    have := hr24 q (by omega)
    have := hr24 m (by omega)
    by_cases e : m = q
    · subst e
      by_cases e2 : r = zd_rc A m
      · first | rw [if_pos (by omega), if_pos ⟨rfl, e2⟩] | rw [if_pos e2, if_pos ⟨rfl, e2⟩] | rw [if_pos ⟨rfl, e2⟩, if_pos ⟨rfl, e2⟩] | (simp only [e2, and_self, if_true]; done)
      · rw [if_pos rfl] at g1
        first | rw [if_neg (by omega), if_neg (by omega)] | rw [if_neg (by omega)]
        exact zd_C_wh H m r g0 (by omega)
    · rw [if_neg e] at g1
      first | rw [if_neg (by omega), if_neg (by omega)] | rw [if_neg (by omega)]
      exact zd_C_wh H m r g0 g1
  | 15 => exact H 15
  | 16 => exact H 16
  | 17 => exact H 17
  | 18 => exact H 18
  | 19 => exact H 19
  | 20 => exact H 20
  | 21 => exact H 21
  | 22 => exact H 22
  | 23 => exact H 23
  | 24 => exact H 24
  | 25 => exact H 25
  | _ + 26 => exact trivial
theorem zg_R_tell {A : zd_A} {h : zx_H} (H : zd_R A h) (K : zd_ok A) {q kk : Nat} {x : Int32} {y : Int64} (hq : q < zd_M A) (hr : zd_rc A q < 24) : zd_R (zg_tell A q kk x y) (zx_sI (zx_sJ (zx_sI (zx_sI h 33 0 (24 * q + zd_rc A q) (nI kk)) 34 0 (24 * q + zd_rc A q) x) 35 0 (24 * q + zd_rc A q) y) 32 0 q (nI (zd_rc A q + 1))) := by
  have hT := zd_ok_T K
  have hr24 := zd_ok_rc K
  have hM := zd_ok_M K
  intro z
  match z with
  | 0 => exact H 0
  | 1 => exact H 1
  | 2 => exact H 2
  | 3 => exact H 3
  | 4 => exact H 4
  | 5 => exact H 5
  | 6 => exact H 6
  | 7 => exact H 7
  | 8 => exact H 8
  | 9 => exact H 9
  | 10 =>
    show ∀ m, m < 16 → (zx_sI (zx_sJ (zx_sI (zx_sI h 33 0 (24 * q + zd_rc A q) (nI kk)) 34 0 (24 * q + zd_rc A q) x) 35 0 (24 * q + zd_rc A q) y) 32 0 q (nI (zd_rc A q + 1))).1 32 0 m = nI (zd_rc (zg_tell A q kk x y) m)
    intro m g0
    simp only [zg_tell, zd_B_uN, zd_B_uI, zd_B_uJ, zd_T_uN, zd_T_uI, zd_T_uJ, zd_srt_uN, zd_srt_uI, zd_srt_uJ, zd_sz_uN, zd_sz_uI, zd_sz_uJ, zd_nm_uN, zd_nm_uI, zd_nm_uJ, zd_pt_uN, zd_pt_uI, zd_pt_uJ, zd_of_uN, zd_of_uI, zd_of_uJ, zd_M_uN, zd_M_uI, zd_M_uJ, zd_mf_uN, zd_mf_uI, zd_mf_uJ, zd_mt_uN, zd_mt_uI, zd_mt_uJ, zd_rc_uN, zd_rc_uI, zd_rc_uJ, zd_kd_uN, zd_kd_uI, zd_kd_uJ, zd_tg_uN, zd_tg_uI, zd_tg_uJ, zd_wh_uN, zd_wh_uI, zd_wh_uJ, zd_F_uN, zd_F_uI, zd_F_uJ, zd_ff_uN, zd_ff_uI, zd_ff_uJ, zd_ft_uN, zd_ft_uI, zd_ft_uJ, zd_fa_uN, zd_fa_uI, zd_fa_uJ, zd_fb_uN, zd_fb_uI, zd_fb_uJ, zd_d0_uN, zd_d0_uI, zd_d0_uJ, zd_d1_uN, zd_d1_uI, zd_d1_uJ, zd_d2_uN, zd_d2_uI, zd_d2_uJ, zd_O_uN, zd_O_uI, zd_O_uJ, zd_ty_uN, zd_ty_uI, zd_ty_uJ, zd_ln_uN, zd_ln_uI, zd_ln_uJ, zd_vl_uN, zd_vl_uI, zd_vl_uJ, reduceIte, false_and, and_false, true_and, and_true, if_true, if_false, Nat.reduceEqDiff, reduceCtorEq, and_self, eq_self, Nat.succ_ne_self, zd_gI, zd_gI2, zd_gJ, zd_gJ1] at g0 ⊢
    repeat' split
    all_goals first | rfl | (exfalso; omega) | exact (zd_R_rc H m (by omega)) | (simp only [nI_1]; done) | (rw [nI_1]; done)
  | 11 =>
    show ∀ m r, m < (zd_M (zg_tell A q kk x y)) → r < zd_rc (zg_tell A q kk x y) m → (zx_sI (zx_sJ (zx_sI (zx_sI h 33 0 (24 * q + zd_rc A q) (nI kk)) 34 0 (24 * q + zd_rc A q) x) 35 0 (24 * q + zd_rc A q) y) 32 0 q (nI (zd_rc A q + 1))).1 33 0 (24 * m + r) = nI (zd_kd (zg_tell A q kk x y) m r)
    intro m r g0 g1
    simp only [zg_tell, zd_B_uN, zd_B_uI, zd_B_uJ, zd_T_uN, zd_T_uI, zd_T_uJ, zd_srt_uN, zd_srt_uI, zd_srt_uJ, zd_sz_uN, zd_sz_uI, zd_sz_uJ, zd_nm_uN, zd_nm_uI, zd_nm_uJ, zd_pt_uN, zd_pt_uI, zd_pt_uJ, zd_of_uN, zd_of_uI, zd_of_uJ, zd_M_uN, zd_M_uI, zd_M_uJ, zd_mf_uN, zd_mf_uI, zd_mf_uJ, zd_mt_uN, zd_mt_uI, zd_mt_uJ, zd_rc_uN, zd_rc_uI, zd_rc_uJ, zd_kd_uN, zd_kd_uI, zd_kd_uJ, zd_tg_uN, zd_tg_uI, zd_tg_uJ, zd_wh_uN, zd_wh_uI, zd_wh_uJ, zd_F_uN, zd_F_uI, zd_F_uJ, zd_ff_uN, zd_ff_uI, zd_ff_uJ, zd_ft_uN, zd_ft_uI, zd_ft_uJ, zd_fa_uN, zd_fa_uI, zd_fa_uJ, zd_fb_uN, zd_fb_uI, zd_fb_uJ, zd_d0_uN, zd_d0_uI, zd_d0_uJ, zd_d1_uN, zd_d1_uI, zd_d1_uJ, zd_d2_uN, zd_d2_uI, zd_d2_uJ, zd_O_uN, zd_O_uI, zd_O_uJ, zd_ty_uN, zd_ty_uI, zd_ty_uJ, zd_ln_uN, zd_ln_uI, zd_ln_uJ, zd_vl_uN, zd_vl_uI, zd_vl_uJ, reduceIte, false_and, and_false, true_and, and_true, if_true, if_false, Nat.reduceEqDiff, reduceCtorEq, and_self, eq_self, Nat.succ_ne_self, zd_gI, zd_gI2, zd_gJ, zd_gJ1] at g0 g1 ⊢
    have := hr24 q (by omega)
    have := hr24 m (by omega)
    by_cases e : m = q
    · subst e
      by_cases e2 : r = zd_rc A m
      · first | rw [if_pos (by omega), if_pos ⟨rfl, e2⟩] | rw [if_pos e2, if_pos ⟨rfl, e2⟩] | rw [if_pos ⟨rfl, e2⟩, if_pos ⟨rfl, e2⟩] | (simp only [e2, and_self, if_true]; done)
      · rw [if_pos rfl] at g1
        first | rw [if_neg (by omega), if_neg (by omega)] | rw [if_neg (by omega)]
        exact zd_R_kd H m r g0 (by omega)
    · rw [if_neg e] at g1
      first | rw [if_neg (by omega), if_neg (by omega)] | rw [if_neg (by omega)]
      exact zd_R_kd H m r g0 g1
  | 12 =>
    show ∀ m r, m < (zd_M (zg_tell A q kk x y)) → r < zd_rc (zg_tell A q kk x y) m → (zx_sI (zx_sJ (zx_sI (zx_sI h 33 0 (24 * q + zd_rc A q) (nI kk)) 34 0 (24 * q + zd_rc A q) x) 35 0 (24 * q + zd_rc A q) y) 32 0 q (nI (zd_rc A q + 1))).1 34 0 (24 * m + r) = zd_tg (zg_tell A q kk x y) m r
    intro m r g0 g1
    simp only [zg_tell, zd_B_uN, zd_B_uI, zd_B_uJ, zd_T_uN, zd_T_uI, zd_T_uJ, zd_srt_uN, zd_srt_uI, zd_srt_uJ, zd_sz_uN, zd_sz_uI, zd_sz_uJ, zd_nm_uN, zd_nm_uI, zd_nm_uJ, zd_pt_uN, zd_pt_uI, zd_pt_uJ, zd_of_uN, zd_of_uI, zd_of_uJ, zd_M_uN, zd_M_uI, zd_M_uJ, zd_mf_uN, zd_mf_uI, zd_mf_uJ, zd_mt_uN, zd_mt_uI, zd_mt_uJ, zd_rc_uN, zd_rc_uI, zd_rc_uJ, zd_kd_uN, zd_kd_uI, zd_kd_uJ, zd_tg_uN, zd_tg_uI, zd_tg_uJ, zd_wh_uN, zd_wh_uI, zd_wh_uJ, zd_F_uN, zd_F_uI, zd_F_uJ, zd_ff_uN, zd_ff_uI, zd_ff_uJ, zd_ft_uN, zd_ft_uI, zd_ft_uJ, zd_fa_uN, zd_fa_uI, zd_fa_uJ, zd_fb_uN, zd_fb_uI, zd_fb_uJ, zd_d0_uN, zd_d0_uI, zd_d0_uJ, zd_d1_uN, zd_d1_uI, zd_d1_uJ, zd_d2_uN, zd_d2_uI, zd_d2_uJ, zd_O_uN, zd_O_uI, zd_O_uJ, zd_ty_uN, zd_ty_uI, zd_ty_uJ, zd_ln_uN, zd_ln_uI, zd_ln_uJ, zd_vl_uN, zd_vl_uI, zd_vl_uJ, reduceIte, false_and, and_false, true_and, and_true, if_true, if_false, Nat.reduceEqDiff, reduceCtorEq, and_self, eq_self, Nat.succ_ne_self, zd_gI, zd_gI2, zd_gJ, zd_gJ1] at g0 g1 ⊢
    have := hr24 q (by omega)
    have := hr24 m (by omega)
    by_cases e : m = q
    · subst e
      by_cases e2 : r = zd_rc A m
      · first | rw [if_pos (by omega), if_pos ⟨rfl, e2⟩] | rw [if_pos e2, if_pos ⟨rfl, e2⟩] | rw [if_pos ⟨rfl, e2⟩, if_pos ⟨rfl, e2⟩] | (simp only [e2, and_self, if_true]; done)
      · rw [if_pos rfl] at g1
        first | rw [if_neg (by omega), if_neg (by omega)] | rw [if_neg (by omega)]
        exact zd_R_tg H m r g0 (by omega)
    · rw [if_neg e] at g1
      first | rw [if_neg (by omega), if_neg (by omega)] | rw [if_neg (by omega)]
      exact zd_R_tg H m r g0 g1
  | 13 =>
    show ∀ m r, m < (zd_M (zg_tell A q kk x y)) → r < zd_rc (zg_tell A q kk x y) m → (zx_sI (zx_sJ (zx_sI (zx_sI h 33 0 (24 * q + zd_rc A q) (nI kk)) 34 0 (24 * q + zd_rc A q) x) 35 0 (24 * q + zd_rc A q) y) 32 0 q (nI (zd_rc A q + 1))).2 35 0 (24 * m + r) = zd_wh (zg_tell A q kk x y) m r
    intro m r g0 g1
    simp only [zg_tell, zd_B_uN, zd_B_uI, zd_B_uJ, zd_T_uN, zd_T_uI, zd_T_uJ, zd_srt_uN, zd_srt_uI, zd_srt_uJ, zd_sz_uN, zd_sz_uI, zd_sz_uJ, zd_nm_uN, zd_nm_uI, zd_nm_uJ, zd_pt_uN, zd_pt_uI, zd_pt_uJ, zd_of_uN, zd_of_uI, zd_of_uJ, zd_M_uN, zd_M_uI, zd_M_uJ, zd_mf_uN, zd_mf_uI, zd_mf_uJ, zd_mt_uN, zd_mt_uI, zd_mt_uJ, zd_rc_uN, zd_rc_uI, zd_rc_uJ, zd_kd_uN, zd_kd_uI, zd_kd_uJ, zd_tg_uN, zd_tg_uI, zd_tg_uJ, zd_wh_uN, zd_wh_uI, zd_wh_uJ, zd_F_uN, zd_F_uI, zd_F_uJ, zd_ff_uN, zd_ff_uI, zd_ff_uJ, zd_ft_uN, zd_ft_uI, zd_ft_uJ, zd_fa_uN, zd_fa_uI, zd_fa_uJ, zd_fb_uN, zd_fb_uI, zd_fb_uJ, zd_d0_uN, zd_d0_uI, zd_d0_uJ, zd_d1_uN, zd_d1_uI, zd_d1_uJ, zd_d2_uN, zd_d2_uI, zd_d2_uJ, zd_O_uN, zd_O_uI, zd_O_uJ, zd_ty_uN, zd_ty_uI, zd_ty_uJ, zd_ln_uN, zd_ln_uI, zd_ln_uJ, zd_vl_uN, zd_vl_uI, zd_vl_uJ, reduceIte, false_and, and_false, true_and, and_true, if_true, if_false, Nat.reduceEqDiff, reduceCtorEq, and_self, eq_self, Nat.succ_ne_self, zd_gI, zd_gI2, zd_gJ, zd_gJ1] at g0 g1 ⊢
    have := hr24 q (by omega)
    have := hr24 m (by omega)
    by_cases e : m = q
    · subst e
      by_cases e2 : r = zd_rc A m
      · first | rw [if_pos (by omega), if_pos ⟨rfl, e2⟩] | rw [if_pos e2, if_pos ⟨rfl, e2⟩] | rw [if_pos ⟨rfl, e2⟩, if_pos ⟨rfl, e2⟩] | (simp only [e2, and_self, if_true]; done)
      · rw [if_pos rfl] at g1
        first | rw [if_neg (by omega), if_neg (by omega)] | rw [if_neg (by omega)]
        exact zd_R_wh H m r g0 (by omega)
    · rw [if_neg e] at g1
      first | rw [if_neg (by omega), if_neg (by omega)] | rw [if_neg (by omega)]
      exact zd_R_wh H m r g0 g1
  | 14 => exact H 14
  | 15 => exact H 15
  | 16 => exact H 16
  | 17 => exact H 17
  | 18 => exact H 18
  | 19 => exact H 19
  | 20 => exact H 20
  | 21 => exact H 21
  | 22 => exact H 22
  | 23 => exact H 23
  | 24 => exact H 24
  | 25 => exact H 25
  | 26 => exact H 26
  | _ + 27 => exact trivial