/-! what is told keeps what always holds (printed by gen81.py) -/
theorem zg_val_mono {A A1 : zd_A} {t : Nat} {v : Int64} (h1 : zd_srt A1 t = zd_srt A t) (h2 : zd_sz A t ≤ zd_sz A1 t) (h3 : ∀ o, o < zd_O A → o < zd_O A1 ∧ zd_ty A1 o = zd_ty A o) (h : zd_val A t v) : zd_val A1 t v := by
  unfold zd_val at h ⊢
  by_cases c : t < 7
  · rw [if_pos c] at h ⊢; exact h
  · rw [if_neg c] at h ⊢
    rw [h1]
    rcases h with h | ⟨h4, k, h5, h6⟩ | ⟨h4, o, h5, h6, h7⟩
    · exact Or.inl h
    · exact Or.inr (Or.inl ⟨h4, k, by omega, h6⟩)
    · exact Or.inr (Or.inr ⟨h4, o, (h3 o h5).1, (h3 o h5).2.trans h6, h7⟩)
theorem zg_addM_sz (A : zd_A) (t n y u : Nat) : zd_sz (zg_addM A t n y) u = if u = t then zd_sz A t + 1 else zd_sz A u := by simp only [zg_addM, zd_B_uN, zd_B_uI, zd_B_uJ, zd_T_uN, zd_T_uI, zd_T_uJ, zd_srt_uN, zd_srt_uI, zd_srt_uJ, zd_sz_uN, zd_sz_uI, zd_sz_uJ, zd_nm_uN, zd_nm_uI, zd_nm_uJ, zd_pt_uN, zd_pt_uI, zd_pt_uJ, zd_of_uN, zd_of_uI, zd_of_uJ, zd_M_uN, zd_M_uI, zd_M_uJ, zd_mf_uN, zd_mf_uI, zd_mf_uJ, zd_mt_uN, zd_mt_uI, zd_mt_uJ, zd_rc_uN, zd_rc_uI, zd_rc_uJ, zd_kd_uN, zd_kd_uI, zd_kd_uJ, zd_tg_uN, zd_tg_uI, zd_tg_uJ, zd_wh_uN, zd_wh_uI, zd_wh_uJ, zd_F_uN, zd_F_uI, zd_F_uJ, zd_ff_uN, zd_ff_uI, zd_ff_uJ, zd_ft_uN, zd_ft_uI, zd_ft_uJ, zd_fa_uN, zd_fa_uI, zd_fa_uJ, zd_fb_uN, zd_fb_uI, zd_fb_uJ, zd_d0_uN, zd_d0_uI, zd_d0_uJ, zd_d1_uN, zd_d1_uI, zd_d1_uJ, zd_d2_uN, zd_d2_uI, zd_d2_uJ, zd_O_uN, zd_O_uI, zd_O_uJ, zd_ty_uN, zd_ty_uI, zd_ty_uJ, zd_ln_uN, zd_ln_uI, zd_ln_uJ, zd_vl_uN, zd_vl_uI, zd_vl_uJ, reduceIte, false_and, and_false, true_and, and_true, if_true, if_false, Nat.reduceEqDiff, reduceCtorEq, and_self, eq_self, Nat.succ_ne_self]
theorem zg_addM_nm (A : zd_A) (t n y u k : Nat) : zd_nm (zg_addM A t n y) u k = if u = t ∧ k = zd_sz A t then n else zd_nm A u k := by simp only [zg_addM, zd_B_uN, zd_B_uI, zd_B_uJ, zd_T_uN, zd_T_uI, zd_T_uJ, zd_srt_uN, zd_srt_uI, zd_srt_uJ, zd_sz_uN, zd_sz_uI, zd_sz_uJ, zd_nm_uN, zd_nm_uI, zd_nm_uJ, zd_pt_uN, zd_pt_uI, zd_pt_uJ, zd_of_uN, zd_of_uI, zd_of_uJ, zd_M_uN, zd_M_uI, zd_M_uJ, zd_mf_uN, zd_mf_uI, zd_mf_uJ, zd_mt_uN, zd_mt_uI, zd_mt_uJ, zd_rc_uN, zd_rc_uI, zd_rc_uJ, zd_kd_uN, zd_kd_uI, zd_kd_uJ, zd_tg_uN, zd_tg_uI, zd_tg_uJ, zd_wh_uN, zd_wh_uI, zd_wh_uJ, zd_F_uN, zd_F_uI, zd_F_uJ, zd_ff_uN, zd_ff_uI, zd_ff_uJ, zd_ft_uN, zd_ft_uI, zd_ft_uJ, zd_fa_uN, zd_fa_uI, zd_fa_uJ, zd_fb_uN, zd_fb_uI, zd_fb_uJ, zd_d0_uN, zd_d0_uI, zd_d0_uJ, zd_d1_uN, zd_d1_uI, zd_d1_uJ, zd_d2_uN, zd_d2_uI, zd_d2_uJ, zd_O_uN, zd_O_uI, zd_O_uJ, zd_ty_uN, zd_ty_uI, zd_ty_uJ, zd_ln_uN, zd_ln_uI, zd_ln_uJ, zd_vl_uN, zd_vl_uI, zd_vl_uJ, reduceIte, false_and, and_false, true_and, and_true, if_true, if_false, Nat.reduceEqDiff, reduceCtorEq, and_self, eq_self, Nat.succ_ne_self]
theorem zg_addM_pt (A : zd_A) (t n y u k : Nat) : zd_pt (zg_addM A t n y) u k = if u = t ∧ k = zd_sz A t then y else zd_pt A u k := by simp only [zg_addM, zd_B_uN, zd_B_uI, zd_B_uJ, zd_T_uN, zd_T_uI, zd_T_uJ, zd_srt_uN, zd_srt_uI, zd_srt_uJ, zd_sz_uN, zd_sz_uI, zd_sz_uJ, zd_nm_uN, zd_nm_uI, zd_nm_uJ, zd_pt_uN, zd_pt_uI, zd_pt_uJ, zd_of_uN, zd_of_uI, zd_of_uJ, zd_M_uN, zd_M_uI, zd_M_uJ, zd_mf_uN, zd_mf_uI, zd_mf_uJ, zd_mt_uN, zd_mt_uI, zd_mt_uJ, zd_rc_uN, zd_rc_uI, zd_rc_uJ, zd_kd_uN, zd_kd_uI, zd_kd_uJ, zd_tg_uN, zd_tg_uI, zd_tg_uJ, zd_wh_uN, zd_wh_uI, zd_wh_uJ, zd_F_uN, zd_F_uI, zd_F_uJ, zd_ff_uN, zd_ff_uI, zd_ff_uJ, zd_ft_uN, zd_ft_uI, zd_ft_uJ, zd_fa_uN, zd_fa_uI, zd_fa_uJ, zd_fb_uN, zd_fb_uI, zd_fb_uJ, zd_d0_uN, zd_d0_uI, zd_d0_uJ, zd_d1_uN, zd_d1_uI, zd_d1_uJ, zd_d2_uN, zd_d2_uI, zd_d2_uJ, zd_O_uN, zd_O_uI, zd_O_uJ, zd_ty_uN, zd_ty_uI, zd_ty_uJ, zd_ln_uN, zd_ln_uI, zd_ln_uJ, zd_vl_uN, zd_vl_uI, zd_vl_uJ, reduceIte, false_and, and_false, true_and, and_true, if_true, if_false, Nat.reduceEqDiff, reduceCtorEq, and_self, eq_self, Nat.succ_ne_self]
theorem zg_ok_addM {A : zd_A} (K : zd_ok A) {t n y : Nat} (ht : t < zd_T A) (hz : zd_sz A t < 8) (hs : zd_srt A t = 3 ∨ zd_srt A t = 4) (hn : n < 64) (hf : ∀ k, k < zd_sz A t → zd_nm A t k ≠ n) (hy : zd_srt A t = 4 → y < zd_T A) (hO : zd_O A = 0 ∨ zd_srt A t = 3) : zd_ok (zg_addM A t n y) := by
  have hT := zd_ok_T K
  have eV : ∀ u v, zd_val A u v → zd_val (zg_addM A t n y) u v := fun u v h => zg_val_mono (A := A) (A1 := zg_addM A t n y) rfl (by rw [zg_addM_sz]; by_cases c : u = t <;> simp only [c, if_true, if_false] <;> omega) (fun q hq => ⟨hq, rfl⟩) h
  intro q
  match q with
  | 0 => exact K 0
  | 1 => exact K 1
  | 2 => exact K 2
  | 3 => exact K 3
  | 4 => exact K 4
  | 5 =>
    intro u h1
    rw [zg_addM_sz]
    have := zd_ok_sz K u h1
    by_cases c : u = t
    · rw [if_pos c]; omega
    · rw [if_neg c]; omega
  | 6 =>
    intro u h1 h2
    rw [zg_addM_sz] at h2
    by_cases c : u = t
    · subst c; exact ⟨ht, hs⟩
    · rw [if_neg c] at h2
      exact zd_ok_sz0 K u h1 h2
  | 7 =>
    intro u k h1 h2
    rw [zg_addM_sz] at h2
    rw [zg_addM_nm]
    by_cases c : u = t
    · subst c
      rw [if_pos rfl] at h2
      by_cases c2 : k = zd_sz A u
      · rw [if_pos ⟨rfl, c2⟩]; exact hn
      · rw [if_neg (by omega)]; exact zd_ok_nm K u k h1 (by omega)
    · rw [if_neg c] at h2
      rw [if_neg (by omega)]
      exact zd_ok_nm K u k h1 h2
  | 8 =>
    intro u j k h1 h2 h3 h4
    rw [zg_addM_sz] at h2 h3
    rw [zg_addM_nm, zg_addM_nm] at h4
    by_cases c : u = t
    · subst c
      rw [if_pos rfl] at h2 h3
      by_cases c2 : k = zd_sz A u
      · by_cases c3 : j = zd_sz A u
        · omega
        · rw [if_neg (show ¬ (u = u ∧ j = zd_sz A u) by omega), if_pos ⟨rfl, c2⟩] at h4
          exact absurd h4 (hf j (by omega))
      · by_cases c3 : j = zd_sz A u
        · rw [if_pos ⟨rfl, c3⟩, if_neg (show ¬ (u = u ∧ k = zd_sz A u) by omega)] at h4
          exact absurd h4.symm (hf k (by omega))
        · rw [if_neg (by omega), if_neg (by omega)] at h4
          exact zd_ok_nm1 K u j k h1 (by omega) (by omega) h4
    · rw [if_neg c] at h2 h3
      rw [if_neg (by omega), if_neg (by omega)] at h4
      exact zd_ok_nm1 K u j k h1 h2 h3 h4
  | 9 =>
    intro u k h1 h2 h3
    rw [zg_addM_sz] at h2
    rw [zg_addM_pt]
    have h1 : u < zd_T A := h1
    have h3 : zd_srt A u = 4 := h3
    show _ < zd_T A
    by_cases c : u = t
    · subst c
      rw [if_pos rfl] at h2
      by_cases c2 : k = zd_sz A u
      · rw [if_pos ⟨rfl, c2⟩]; exact hy h3
      · rw [if_neg (by omega)]; exact zd_ok_pt K u k h1 (by omega) h3
    · rw [if_neg c] at h2
      rw [if_neg (by omega)]
      exact zd_ok_pt K u k h1 h2 h3
  | 10 => exact K 10
  | 11 => exact K 11
  | 12 => exact K 12
  | 13 => exact K 13
  | 14 => exact K 14
  | 15 => exact K 15
  | 16 => exact K 16
  | 17 => exact K 17
  | 18 => exact K 18
  | 19 => exact K 19
  | 20 => exact K 20
  | 21 =>
    exact fun o h1 h2 => ⟨(zd_ok_l1 K o h1 h2).1, eV _ _ (zd_ok_l1 K o h1 h2).2⟩
  | 22 =>
    exact K 22
  | 23 =>
    intro o h1 h2
    have h1 : o < zd_O A := h1
    have h2 : zd_srt A (zd_ty A o) = 4 := h2
    obtain ⟨h3, h4⟩ := zd_ok_l4 K o h1 h2
    show zd_ln A o = zd_sz (zg_addM A t n y) (zd_ty A o) ∧ ∀ k, k < zd_ln A o → zd_val (zg_addM A t n y) (zd_pt (zg_addM A t n y) (zd_ty A o) k) (zd_vl A o k)
    have c : zd_ty A o ≠ t := fun e => by
      rw [e] at h2
      omega
    rw [zg_addM_sz, if_neg c]
    refine ⟨h3, fun k hk => ?_⟩
    rw [zg_addM_pt, if_neg (fun e => c e.1)]
    exact eV _ _ (h4 k hk)
  | 24 =>
    exact fun o h1 h2 => ⟨(zd_ok_l5 K o h1 h2).1, fun k hk => eV _ _ ((zd_ok_l5 K o h1 h2).2 k hk)⟩
  | 25 => exact K 25
  | _ + 26 => exact trivial
theorem zg_ok_addMe {A : zd_A} (K : zd_ok A) {f g : Nat} (hM : zd_M A < 16) (hf : f < zd_T A) (hg : g < zd_T A) (hs : zd_srt A f = 4 ∧ zd_srt A g = 4 ∨ zd_srt A f = 3 ∧ zd_srt A g = 3) : zd_ok (zg_addMe A f g) := by
  have hT := zd_ok_T K
  intro q
  match q with
  | 0 => exact K 0
  | 1 => exact K 1
  | 2 => exact K 2
  | 3 => exact K 3
  | 4 => exact K 4
  | 5 => exact K 5
  | 6 => exact K 6
  | 7 => exact K 7
  | 8 => exact K 8
  | 9 => exact K 9
  | 10 => exact K 10
  | 11 =>
    exact hM
  | 12 =>
    intro m h1
    have h1 : m < zd_M A + 1 := h1
    simp only [zg_addMe, zd_B_uN, zd_B_uI, zd_B_uJ, zd_T_uN, zd_T_uI, zd_T_uJ, zd_srt_uN, zd_srt_uI, zd_srt_uJ, zd_sz_uN, zd_sz_uI, zd_sz_uJ, zd_nm_uN, zd_nm_uI, zd_nm_uJ, zd_pt_uN, zd_pt_uI, zd_pt_uJ, zd_of_uN, zd_of_uI, zd_of_uJ, zd_M_uN, zd_M_uI, zd_M_uJ, zd_mf_uN, zd_mf_uI, zd_mf_uJ, zd_mt_uN, zd_mt_uI, zd_mt_uJ, zd_rc_uN, zd_rc_uI, zd_rc_uJ, zd_kd_uN, zd_kd_uI, zd_kd_uJ, zd_tg_uN, zd_tg_uI, zd_tg_uJ, zd_wh_uN, zd_wh_uI, zd_wh_uJ, zd_F_uN, zd_F_uI, zd_F_uJ, zd_ff_uN, zd_ff_uI, zd_ff_uJ, zd_ft_uN, zd_ft_uI, zd_ft_uJ, zd_fa_uN, zd_fa_uI, zd_fa_uJ, zd_fb_uN, zd_fb_uI, zd_fb_uJ, zd_d0_uN, zd_d0_uI, zd_d0_uJ, zd_d1_uN, zd_d1_uI, zd_d1_uJ, zd_d2_uN, zd_d2_uI, zd_d2_uJ, zd_O_uN, zd_O_uI, zd_O_uJ, zd_ty_uN, zd_ty_uI, zd_ty_uJ, zd_ln_uN, zd_ln_uI, zd_ln_uJ, zd_vl_uN, zd_vl_uI, zd_vl_uJ, reduceIte, false_and, and_false, true_and, and_true, if_true, if_false, Nat.reduceEqDiff, reduceCtorEq, and_self, eq_self, Nat.succ_ne_self]
    by_cases c : m = zd_M A
    · rw [if_pos c, if_pos c]; exact ⟨hf, hg, hs⟩
    · rw [if_neg c, if_neg c]; exact zd_ok_m K m (by omega)
  | 13 => exact K 13
  | 14 =>
    exact fun m h1 h2 => zd_ok_rc0 K m (by have h1 : zd_M A + 1 ≤ m := h1; omega) h2
  | 15 =>
    intro m r h1 h2
    have h1 : m < zd_M A + 1 := h1
    have h2 : r < zd_rc A m := h2
    have := zd_ok_rc0 K m
    exact zd_ok_kd K m r (by omega) h2
  | 16 => exact K 16
  | 17 => exact K 17
  | 18 => exact K 18
  | 19 => exact K 19
  | 20 => exact K 20
  | 21 => exact K 21
  | 22 => exact K 22
  | 23 => exact K 23
  | 24 => exact K 24
  | 25 => exact K 25
  | _ + 26 => exact trivial
theorem zg_ok_addF {A : zd_A} (K : zd_ok A) {f g : Nat} {x y : Int32} (hF : zd_F A < 8) (hf : f < 14 ∧ f ≠ 6 ∧ f ≠ 13) (hg : g < 14 ∧ g ≠ 6 ∧ g ≠ 13) : zd_ok (zg_addF A f g x y) := by
  have hT := zd_ok_T K
  intro q
  match q with
  | 0 => exact K 0
  | 1 => exact K 1
  | 2 => exact K 2
  | 3 => exact K 3
  | 4 => exact K 4
  | 5 => exact K 5
  | 6 => exact K 6
  | 7 => exact K 7
  | 8 => exact K 8
  | 9 => exact K 9
  | 10 => exact K 10
  | 11 => exact K 11
  | 12 => exact K 12
  | 13 => exact K 13
  | 14 => exact K 14
  | 15 => exact K 15
  | 16 =>
    exact hF
  | 17 =>
    intro m h1
    have h1 : m < zd_F A + 1 := h1
    simp only [zg_addF, zd_B_uN, zd_B_uI, zd_B_uJ, zd_T_uN, zd_T_uI, zd_T_uJ, zd_srt_uN, zd_srt_uI, zd_srt_uJ, zd_sz_uN, zd_sz_uI, zd_sz_uJ, zd_nm_uN, zd_nm_uI, zd_nm_uJ, zd_pt_uN, zd_pt_uI, zd_pt_uJ, zd_of_uN, zd_of_uI, zd_of_uJ, zd_M_uN, zd_M_uI, zd_M_uJ, zd_mf_uN, zd_mf_uI, zd_mf_uJ, zd_mt_uN, zd_mt_uI, zd_mt_uJ, zd_rc_uN, zd_rc_uI, zd_rc_uJ, zd_kd_uN, zd_kd_uI, zd_kd_uJ, zd_tg_uN, zd_tg_uI, zd_tg_uJ, zd_wh_uN, zd_wh_uI, zd_wh_uJ, zd_F_uN, zd_F_uI, zd_F_uJ, zd_ff_uN, zd_ff_uI, zd_ff_uJ, zd_ft_uN, zd_ft_uI, zd_ft_uJ, zd_fa_uN, zd_fa_uI, zd_fa_uJ, zd_fb_uN, zd_fb_uI, zd_fb_uJ, zd_d0_uN, zd_d0_uI, zd_d0_uJ, zd_d1_uN, zd_d1_uI, zd_d1_uJ, zd_d2_uN, zd_d2_uI, zd_d2_uJ, zd_O_uN, zd_O_uI, zd_O_uJ, zd_ty_uN, zd_ty_uI, zd_ty_uJ, zd_ln_uN, zd_ln_uI, zd_ln_uJ, zd_vl_uN, zd_vl_uI, zd_vl_uJ, reduceIte, false_and, and_false, true_and, and_true, if_true, if_false, Nat.reduceEqDiff, reduceCtorEq, and_self, eq_self, Nat.succ_ne_self]
    by_cases c : m = zd_F A
    · rw [if_pos c]; exact hf
    · rw [if_neg c]; exact zd_ok_ff K m (by omega)
  | 18 =>
    intro m h1
    have h1 : m < zd_F A + 1 := h1
    simp only [zg_addF, zd_B_uN, zd_B_uI, zd_B_uJ, zd_T_uN, zd_T_uI, zd_T_uJ, zd_srt_uN, zd_srt_uI, zd_srt_uJ, zd_sz_uN, zd_sz_uI, zd_sz_uJ, zd_nm_uN, zd_nm_uI, zd_nm_uJ, zd_pt_uN, zd_pt_uI, zd_pt_uJ, zd_of_uN, zd_of_uI, zd_of_uJ, zd_M_uN, zd_M_uI, zd_M_uJ, zd_mf_uN, zd_mf_uI, zd_mf_uJ, zd_mt_uN, zd_mt_uI, zd_mt_uJ, zd_rc_uN, zd_rc_uI, zd_rc_uJ, zd_kd_uN, zd_kd_uI, zd_kd_uJ, zd_tg_uN, zd_tg_uI, zd_tg_uJ, zd_wh_uN, zd_wh_uI, zd_wh_uJ, zd_F_uN, zd_F_uI, zd_F_uJ, zd_ff_uN, zd_ff_uI, zd_ff_uJ, zd_ft_uN, zd_ft_uI, zd_ft_uJ, zd_fa_uN, zd_fa_uI, zd_fa_uJ, zd_fb_uN, zd_fb_uI, zd_fb_uJ, zd_d0_uN, zd_d0_uI, zd_d0_uJ, zd_d1_uN, zd_d1_uI, zd_d1_uJ, zd_d2_uN, zd_d2_uI, zd_d2_uJ, zd_O_uN, zd_O_uI, zd_O_uJ, zd_ty_uN, zd_ty_uI, zd_ty_uJ, zd_ln_uN, zd_ln_uI, zd_ln_uJ, zd_vl_uN, zd_vl_uI, zd_vl_uJ, reduceIte, false_and, and_false, true_and, and_true, if_true, if_false, Nat.reduceEqDiff, reduceCtorEq, and_self, eq_self, Nat.succ_ne_self]
    by_cases c : m = zd_F A
    · rw [if_pos c]; exact hg
    · rw [if_neg c]; exact zd_ok_ft K m (by omega)
  | 19 => exact K 19
  | 20 => exact K 20
  | 21 => exact K 21
  | 22 => exact K 22
  | 23 => exact K 23
  | 24 => exact K 24
  | 25 => exact K 25
  | _ + 26 => exact trivial
theorem zg_ok_tell {A : zd_A} (K : zd_ok A) {q kk : Nat} {x : Int32} {y : Int64} (hq : q < zd_M A) (hr : zd_rc A q < 24) (hk : kk ≤ 8) : zd_ok (zg_tell A q kk x y) := by
  have hT := zd_ok_T K
  intro z
  match z with
  | 0 => exact K 0
  | 1 => exact K 1
  | 2 => exact K 2
  | 3 => exact K 3
  | 4 => exact K 4
  | 5 => exact K 5
  | 6 => exact K 6
  | 7 => exact K 7
  | 8 => exact K 8
  | 9 => exact K 9
  | 10 => exact K 10
  | 11 => exact K 11
  | 12 => exact K 12
  | 13 =>
    intro m h1
    simp only [zg_tell, zd_B_uN, zd_B_uI, zd_B_uJ, zd_T_uN, zd_T_uI, zd_T_uJ, zd_srt_uN, zd_srt_uI, zd_srt_uJ, zd_sz_uN, zd_sz_uI, zd_sz_uJ, zd_nm_uN, zd_nm_uI, zd_nm_uJ, zd_pt_uN, zd_pt_uI, zd_pt_uJ, zd_of_uN, zd_of_uI, zd_of_uJ, zd_M_uN, zd_M_uI, zd_M_uJ, zd_mf_uN, zd_mf_uI, zd_mf_uJ, zd_mt_uN, zd_mt_uI, zd_mt_uJ, zd_rc_uN, zd_rc_uI, zd_rc_uJ, zd_kd_uN, zd_kd_uI, zd_kd_uJ, zd_tg_uN, zd_tg_uI, zd_tg_uJ, zd_wh_uN, zd_wh_uI, zd_wh_uJ, zd_F_uN, zd_F_uI, zd_F_uJ, zd_ff_uN, zd_ff_uI, zd_ff_uJ, zd_ft_uN, zd_ft_uI, zd_ft_uJ, zd_fa_uN, zd_fa_uI, zd_fa_uJ, zd_fb_uN, zd_fb_uI, zd_fb_uJ, zd_d0_uN, zd_d0_uI, zd_d0_uJ, zd_d1_uN, zd_d1_uI, zd_d1_uJ, zd_d2_uN, zd_d2_uI, zd_d2_uJ, zd_O_uN, zd_O_uI, zd_O_uJ, zd_ty_uN, zd_ty_uI, zd_ty_uJ, zd_ln_uN, zd_ln_uI, zd_ln_uJ, zd_vl_uN, zd_vl_uI, zd_vl_uJ, reduceIte, false_and, and_false, true_and, and_true, if_true, if_false, Nat.reduceEqDiff, reduceCtorEq, and_self, eq_self, Nat.succ_ne_self]
    by_cases c : m = q
    · rw [if_pos c]; omega
    · rw [if_neg c]; exact zd_ok_rc K m h1
  | 14 =>
    intro m h1 h2
    have h1 : zd_M A ≤ m := h1
    simp only [zg_tell, zd_B_uN, zd_B_uI, zd_B_uJ, zd_T_uN, zd_T_uI, zd_T_uJ, zd_srt_uN, zd_srt_uI, zd_srt_uJ, zd_sz_uN, zd_sz_uI, zd_sz_uJ, zd_nm_uN, zd_nm_uI, zd_nm_uJ, zd_pt_uN, zd_pt_uI, zd_pt_uJ, zd_of_uN, zd_of_uI, zd_of_uJ, zd_M_uN, zd_M_uI, zd_M_uJ, zd_mf_uN, zd_mf_uI, zd_mf_uJ, zd_mt_uN, zd_mt_uI, zd_mt_uJ, zd_rc_uN, zd_rc_uI, zd_rc_uJ, zd_kd_uN, zd_kd_uI, zd_kd_uJ, zd_tg_uN, zd_tg_uI, zd_tg_uJ, zd_wh_uN, zd_wh_uI, zd_wh_uJ, zd_F_uN, zd_F_uI, zd_F_uJ, zd_ff_uN, zd_ff_uI, zd_ff_uJ, zd_ft_uN, zd_ft_uI, zd_ft_uJ, zd_fa_uN, zd_fa_uI, zd_fa_uJ, zd_fb_uN, zd_fb_uI, zd_fb_uJ, zd_d0_uN, zd_d0_uI, zd_d0_uJ, zd_d1_uN, zd_d1_uI, zd_d1_uJ, zd_d2_uN, zd_d2_uI, zd_d2_uJ, zd_O_uN, zd_O_uI, zd_O_uJ, zd_ty_uN, zd_ty_uI, zd_ty_uJ, zd_ln_uN, zd_ln_uI, zd_ln_uJ, zd_vl_uN, zd_vl_uI, zd_vl_uJ, reduceIte, false_and, and_false, true_and, and_true, if_true, if_false, Nat.reduceEqDiff, reduceCtorEq, and_self, eq_self, Nat.succ_ne_self]
    rw [if_neg (by omega)]; exact zd_ok_rc0 K m h1 h2
  | 15 =>
    intro m r h1 h2
    have h1 : m < zd_M A := h1
    simp only [zg_tell, zd_B_uN, zd_B_uI, zd_B_uJ, zd_T_uN, zd_T_uI, zd_T_uJ, zd_srt_uN, zd_srt_uI, zd_srt_uJ, zd_sz_uN, zd_sz_uI, zd_sz_uJ, zd_nm_uN, zd_nm_uI, zd_nm_uJ, zd_pt_uN, zd_pt_uI, zd_pt_uJ, zd_of_uN, zd_of_uI, zd_of_uJ, zd_M_uN, zd_M_uI, zd_M_uJ, zd_mf_uN, zd_mf_uI, zd_mf_uJ, zd_mt_uN, zd_mt_uI, zd_mt_uJ, zd_rc_uN, zd_rc_uI, zd_rc_uJ, zd_kd_uN, zd_kd_uI, zd_kd_uJ, zd_tg_uN, zd_tg_uI, zd_tg_uJ, zd_wh_uN, zd_wh_uI, zd_wh_uJ, zd_F_uN, zd_F_uI, zd_F_uJ, zd_ff_uN, zd_ff_uI, zd_ff_uJ, zd_ft_uN, zd_ft_uI, zd_ft_uJ, zd_fa_uN, zd_fa_uI, zd_fa_uJ, zd_fb_uN, zd_fb_uI, zd_fb_uJ, zd_d0_uN, zd_d0_uI, zd_d0_uJ, zd_d1_uN, zd_d1_uI, zd_d1_uJ, zd_d2_uN, zd_d2_uI, zd_d2_uJ, zd_O_uN, zd_O_uI, zd_O_uJ, zd_ty_uN, zd_ty_uI, zd_ty_uJ, zd_ln_uN, zd_ln_uI, zd_ln_uJ, zd_vl_uN, zd_vl_uI, zd_vl_uJ, reduceIte, false_and, and_false, true_and, and_true, if_true, if_false, Nat.reduceEqDiff, reduceCtorEq, and_self, eq_self, Nat.succ_ne_self] at h2 ⊢
    by_cases c : m = q
    · subst c
      rw [if_pos rfl] at h2
      by_cases c2 : r = zd_rc A m
      · rw [if_pos ⟨rfl, c2⟩]; exact hk
      · rw [if_neg (by omega)]; exact zd_ok_kd K m r h1 (by omega)
    · rw [if_neg c] at h2
      rw [if_neg (by omega)]
      exact zd_ok_kd K m r h1 h2
  | 16 => exact K 16
  | 17 => exact K 17
  | 18 => exact K 18
  | 19 => exact K 19
  | 20 => exact K 20
  | 21 => exact K 21
  | 22 => exact K 22
  | 23 => exact K 23
  | 24 => exact K 24
  | 25 => exact K 25
  | _ + 26 => exact trivial