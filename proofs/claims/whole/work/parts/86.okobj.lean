/-! objects keep what always holds (printed by gen86.py) -/
theorem zg_val_newO {A : zd_A} {t n u : Nat} {f : Nat → Int64} {v : Int64} (h : zd_val A u v) : zd_val (zg_newO A t n f) u v := zg_val_mono (A := A) (A1 := zg_newO A t n f) rfl (Nat.le_refl _) (fun q hq => ⟨Nat.lt_succ_of_lt hq, by rw [zg_newO_ty, if_neg (by omega)]⟩) h
theorem zg_ok_newO {A : zd_A} (K : zd_ok A) {t n : Nat} {f : Nat → Int64} (hO : zd_O A < 400) (ht : 7 ≤ t ∧ t < zd_T A ∧ zd_srt A t ≠ 3) (c1 : zd_srt A t = 1 → n = 1 ∧ zd_val A (t - 7) (f 0)) (c2 : zd_srt A t = 2 → n ≤ 24 ∧ ∀ k, k < n → ∃ c, c < 65536 ∧ f k = lN c) (c4 : zd_srt A t = 4 → n = zd_sz A t ∧ ∀ k, k < n → zd_val A (zd_pt A t k) (f k)) (c5 : zd_srt A t = 5 → n ≤ 16 ∧ ∀ k, k < n → zd_val A (zd_of A t) (f k)) : zd_ok (zg_newO A t n f) := by
  have hT := zd_ok_T K
  intro q
  match q with
  | 0 => exact K 0
  | 1 => exact K 1
  | 2 => exact K 2
  | 3 => exact K 3
  | 4 => exact K 4
  | 5 => exact K 5
  | 6 => exact K 6
  | 7 => exact K 7
  | 8 => exact K 8
  | 9 => exact K 9
  | 10 => exact K 10
  | 11 => exact K 11
  | 12 => exact K 12
  | 13 => exact K 13
  | 14 => exact K 14
  | 15 => exact K 15
  | 16 => exact K 16
  | 17 => exact K 17
  | 18 => exact K 18
  | 19 =>
    exact hO
  | 20 =>
    intro o ho
    have ho : o < zd_O A + 1 := ho
    rw [zg_newO_ty]
    by_cases e : o = zd_O A
    · rw [if_pos e]; exact ht
    · rw [if_neg e]; exact zd_ok_ty K o (by omega)
  | 21 =>
    intro o ho hs
    have ho : o < zd_O A + 1 := ho
    rw [zg_newO_ty] at hs
    rw [zg_newO_ty, zg_newO_ln, zg_newO_vl]
    by_cases e : o = zd_O A
    · rw [if_pos e] at hs
      obtain ⟨d1, d2⟩ := c1 hs
      rw [if_pos e, if_pos e, if_pos ⟨e, by omega⟩]; exact ⟨d1, zg_val_newO d2⟩
    · rw [if_neg e] at hs
      rw [if_neg e, if_neg e, if_neg (fun z => e z.1)]; exact ⟨(zd_ok_l1 K o (by omega) hs).1, zg_val_newO (zd_ok_l1 K o (by omega) hs).2⟩
  | 22 =>
    intro o ho hs
    have ho : o < zd_O A + 1 := ho
    rw [zg_newO_ty] at hs
    rw [zg_newO_ln]
    by_cases e : o = zd_O A
    · rw [if_pos e] at hs
      obtain ⟨d1, d2⟩ := c2 hs
      rw [if_pos e]
      refine ⟨d1, fun k hk => ?_⟩
      rw [zg_newO_vl, if_pos ⟨e, hk⟩]
      exact d2 k hk
    · rw [if_neg e] at hs
      rw [if_neg e]
      refine ⟨(zd_ok_l2 K o (by omega) hs).1, fun k hk => ?_⟩
      rw [zg_newO_vl, if_neg (fun z => e z.1)]
      exact (zd_ok_l2 K o (by omega) hs).2 k hk
  | 23 =>
    intro o ho hs
    have ho : o < zd_O A + 1 := ho
    rw [zg_newO_ty] at hs
    rw [zg_newO_ln, zg_newO_ty]
    by_cases e : o = zd_O A
    · rw [if_pos e] at hs
      obtain ⟨d1, d2⟩ := c4 hs
      rw [if_pos e, if_pos e]
      refine ⟨d1, fun k hk => ?_⟩
      rw [zg_newO_vl, if_pos ⟨e, hk⟩]
      exact zg_val_newO (d2 k hk)
    · rw [if_neg e] at hs
      rw [if_neg e, if_neg e]
      refine ⟨(zd_ok_l4 K o (by omega) hs).1, fun k hk => ?_⟩
      rw [zg_newO_vl, if_neg (fun z => e z.1)]
      exact zg_val_newO ((zd_ok_l4 K o (by omega) hs).2 k hk)
  | 24 =>
    intro o ho hs
    have ho : o < zd_O A + 1 := ho
    rw [zg_newO_ty] at hs
    rw [zg_newO_ln, zg_newO_ty]
    by_cases e : o = zd_O A
    · rw [if_pos e] at hs
      obtain ⟨d1, d2⟩ := c5 hs
      rw [if_pos e, if_pos e]
      refine ⟨d1, fun k hk => ?_⟩
      rw [zg_newO_vl, if_pos ⟨e, hk⟩]
      exact zg_val_newO (d2 k hk)
    · rw [if_neg e] at hs
      rw [if_neg e, if_neg e]
      refine ⟨(zd_ok_l5 K o (by omega) hs).1, fun k hk => ?_⟩
      rw [zg_newO_vl, if_neg (fun z => e z.1)]
      exact zg_val_newO ((zd_ok_l5 K o (by omega) hs).2 k hk)
  | 25 => exact K 25
  | _ + 26 => exact trivial
theorem zg_set_vl (A : zd_A) (p i : Nat) (x : Int64) (u k : Nat) : zd_vl (zg_set A p i x) u k = if u = p ∧ k = i then x else zd_vl A u k := by simp only [zg_set, zd_B_uN, zd_B_uI, zd_B_uJ, zd_T_uN, zd_T_uI, zd_T_uJ, zd_srt_uN, zd_srt_uI, zd_srt_uJ, zd_sz_uN, zd_sz_uI, zd_sz_uJ, zd_nm_uN, zd_nm_uI, zd_nm_uJ, zd_pt_uN, zd_pt_uI, zd_pt_uJ, zd_of_uN, zd_of_uI, zd_of_uJ, zd_M_uN, zd_M_uI, zd_M_uJ, zd_mf_uN, zd_mf_uI, zd_mf_uJ, zd_mt_uN, zd_mt_uI, zd_mt_uJ, zd_rc_uN, zd_rc_uI, zd_rc_uJ, zd_kd_uN, zd_kd_uI, zd_kd_uJ, zd_tg_uN, zd_tg_uI, zd_tg_uJ, zd_wh_uN, zd_wh_uI, zd_wh_uJ, zd_F_uN, zd_F_uI, zd_F_uJ, zd_ff_uN, zd_ff_uI, zd_ff_uJ, zd_ft_uN, zd_ft_uI, zd_ft_uJ, zd_fa_uN, zd_fa_uI, zd_fa_uJ, zd_fb_uN, zd_fb_uI, zd_fb_uJ, zd_d0_uN, zd_d0_uI, zd_d0_uJ, zd_d1_uN, zd_d1_uI, zd_d1_uJ, zd_d2_uN, zd_d2_uI, zd_d2_uJ, zd_O_uN, zd_O_uI, zd_O_uJ, zd_ty_uN, zd_ty_uI, zd_ty_uJ, zd_ln_uN, zd_ln_uI, zd_ln_uJ, zd_vl_uN, zd_vl_uI, zd_vl_uJ, zd_B_uR, zd_T_uR, zd_srt_uR, zd_sz_uR, zd_nm_uR, zd_pt_uR, zd_of_uR, zd_M_uR, zd_mf_uR, zd_mt_uR, zd_rc_uR, zd_kd_uR, zd_tg_uR, zd_wh_uR, zd_F_uR, zd_ff_uR, zd_ft_uR, zd_fa_uR, zd_fb_uR, zd_d0_uR, zd_d1_uR, zd_d2_uR, zd_O_uR, zd_ty_uR, zd_ln_uR, zd_vl_uR, reduceIte, false_and, and_false, true_and, and_true, if_true, if_false, Nat.reduceEqDiff, reduceCtorEq, and_self, eq_self, Nat.succ_ne_self]
theorem zg_app_vl (A : zd_A) (p : Nat) (x : Int64) (u k : Nat) : zd_vl (zg_app A p x) u k = if u = p ∧ k = zd_ln A p then x else zd_vl A u k := by simp only [zg_app, zd_B_uN, zd_B_uI, zd_B_uJ, zd_T_uN, zd_T_uI, zd_T_uJ, zd_srt_uN, zd_srt_uI, zd_srt_uJ, zd_sz_uN, zd_sz_uI, zd_sz_uJ, zd_nm_uN, zd_nm_uI, zd_nm_uJ, zd_pt_uN, zd_pt_uI, zd_pt_uJ, zd_of_uN, zd_of_uI, zd_of_uJ, zd_M_uN, zd_M_uI, zd_M_uJ, zd_mf_uN, zd_mf_uI, zd_mf_uJ, zd_mt_uN, zd_mt_uI, zd_mt_uJ, zd_rc_uN, zd_rc_uI, zd_rc_uJ, zd_kd_uN, zd_kd_uI, zd_kd_uJ, zd_tg_uN, zd_tg_uI, zd_tg_uJ, zd_wh_uN, zd_wh_uI, zd_wh_uJ, zd_F_uN, zd_F_uI, zd_F_uJ, zd_ff_uN, zd_ff_uI, zd_ff_uJ, zd_ft_uN, zd_ft_uI, zd_ft_uJ, zd_fa_uN, zd_fa_uI, zd_fa_uJ, zd_fb_uN, zd_fb_uI, zd_fb_uJ, zd_d0_uN, zd_d0_uI, zd_d0_uJ, zd_d1_uN, zd_d1_uI, zd_d1_uJ, zd_d2_uN, zd_d2_uI, zd_d2_uJ, zd_O_uN, zd_O_uI, zd_O_uJ, zd_ty_uN, zd_ty_uI, zd_ty_uJ, zd_ln_uN, zd_ln_uI, zd_ln_uJ, zd_vl_uN, zd_vl_uI, zd_vl_uJ, zd_B_uR, zd_T_uR, zd_srt_uR, zd_sz_uR, zd_nm_uR, zd_pt_uR, zd_of_uR, zd_M_uR, zd_mf_uR, zd_mt_uR, zd_rc_uR, zd_kd_uR, zd_tg_uR, zd_wh_uR, zd_F_uR, zd_ff_uR, zd_ft_uR, zd_fa_uR, zd_fb_uR, zd_d0_uR, zd_d1_uR, zd_d2_uR, zd_O_uR, zd_ty_uR, zd_ln_uR, zd_vl_uR, reduceIte, false_and, and_false, true_and, and_true, if_true, if_false, Nat.reduceEqDiff, reduceCtorEq, and_self, eq_self, Nat.succ_ne_self]
theorem zg_app_ln (A : zd_A) (p : Nat) (x : Int64) (u : Nat) : zd_ln (zg_app A p x) u = if u = p then zd_ln A p + 1 else zd_ln A u := by simp only [zg_app, zd_B_uN, zd_B_uI, zd_B_uJ, zd_T_uN, zd_T_uI, zd_T_uJ, zd_srt_uN, zd_srt_uI, zd_srt_uJ, zd_sz_uN, zd_sz_uI, zd_sz_uJ, zd_nm_uN, zd_nm_uI, zd_nm_uJ, zd_pt_uN, zd_pt_uI, zd_pt_uJ, zd_of_uN, zd_of_uI, zd_of_uJ, zd_M_uN, zd_M_uI, zd_M_uJ, zd_mf_uN, zd_mf_uI, zd_mf_uJ, zd_mt_uN, zd_mt_uI, zd_mt_uJ, zd_rc_uN, zd_rc_uI, zd_rc_uJ, zd_kd_uN, zd_kd_uI, zd_kd_uJ, zd_tg_uN, zd_tg_uI, zd_tg_uJ, zd_wh_uN, zd_wh_uI, zd_wh_uJ, zd_F_uN, zd_F_uI, zd_F_uJ, zd_ff_uN, zd_ff_uI, zd_ff_uJ, zd_ft_uN, zd_ft_uI, zd_ft_uJ, zd_fa_uN, zd_fa_uI, zd_fa_uJ, zd_fb_uN, zd_fb_uI, zd_fb_uJ, zd_d0_uN, zd_d0_uI, zd_d0_uJ, zd_d1_uN, zd_d1_uI, zd_d1_uJ, zd_d2_uN, zd_d2_uI, zd_d2_uJ, zd_O_uN, zd_O_uI, zd_O_uJ, zd_ty_uN, zd_ty_uI, zd_ty_uJ, zd_ln_uN, zd_ln_uI, zd_ln_uJ, zd_vl_uN, zd_vl_uI, zd_vl_uJ, zd_B_uR, zd_T_uR, zd_srt_uR, zd_sz_uR, zd_nm_uR, zd_pt_uR, zd_of_uR, zd_M_uR, zd_mf_uR, zd_mt_uR, zd_rc_uR, zd_kd_uR, zd_tg_uR, zd_wh_uR, zd_F_uR, zd_ff_uR, zd_ft_uR, zd_fa_uR, zd_fb_uR, zd_d0_uR, zd_d1_uR, zd_d2_uR, zd_O_uR, zd_ty_uR, zd_ln_uR, zd_vl_uR, reduceIte, false_and, and_false, true_and, and_true, if_true, if_false, Nat.reduceEqDiff, reduceCtorEq, and_self, eq_self, Nat.succ_ne_self]
theorem zg_val_set {A : zd_A} {p i u : Nat} {x v : Int64} (h : zd_val A u v) : zd_val (zg_set A p i x) u v := h
theorem zg_val_app {A : zd_A} {p u : Nat} {x v : Int64} (h : zd_val A u v) : zd_val (zg_app A p x) u v := h
theorem zg_ok_set {A : zd_A} (K : zd_ok A) {p i : Nat} {x : Int64} (hp : p < zd_O A) (hi : i < zd_ln A p) (hs : zd_srt A (zd_ty A p) = 4) (hv : zd_val A (zd_pt A (zd_ty A p) i) x) : zd_ok (zg_set A p i x) := by
  have hT := zd_ok_T K
  intro q
  match q with
  | 0 => exact K 0
  | 1 => exact K 1
  | 2 => exact K 2
  | 3 => exact K 3
  | 4 => exact K 4
  | 5 => exact K 5
  | 6 => exact K 6
  | 7 => exact K 7
  | 8 => exact K 8
  | 9 => exact K 9
  | 10 => exact K 10
  | 11 => exact K 11
  | 12 => exact K 12
  | 13 => exact K 13
  | 14 => exact K 14
  | 15 => exact K 15
  | 16 => exact K 16
  | 17 => exact K 17
  | 18 => exact K 18
  | 19 => exact K 19
  | 20 => exact K 20
  | 21 =>
    intro o ho hs
    have ho : o < zd_O A := ho
    have hs : zd_srt A (zd_ty A o) = 1 := hs
    have e : o ≠ p := fun z => by rw [z] at hs; omega
    obtain ⟨d1, d2⟩ := zd_ok_l1 K o ho hs
    refine ⟨d1, ?_⟩
    rw [zg_set_vl, if_neg (fun z => e z.1)]
    exact d2
  | 22 =>
    intro o ho hs
    have ho : o < zd_O A := ho
    have hs : zd_srt A (zd_ty A o) = 2 := hs
    have e : o ≠ p := fun z => by rw [z] at hs; omega
    obtain ⟨d1, d2⟩ := zd_ok_l2 K o ho hs
    refine ⟨d1, fun k hk => ?_⟩
    rw [zg_set_vl, if_neg (fun z => e z.1)]
    exact d2 k hk
  | 23 =>
    intro o ho hs
    have ho : o < zd_O A := ho
    have hs : zd_srt A (zd_ty A o) = 4 := hs
    obtain ⟨d1, d2⟩ := zd_ok_l4 K o ho hs
    refine ⟨d1, fun k hk => ?_⟩
    rw [zg_set_vl]
    by_cases e : o = p ∧ k = i
    · rw [if_pos e, e.1, e.2]; exact hv
    · rw [if_neg e]; exact d2 k hk
  | 24 =>
    intro o ho hs
    have ho : o < zd_O A := ho
    have hs : zd_srt A (zd_ty A o) = 5 := hs
    have e : o ≠ p := fun z => by rw [z] at hs; omega
    obtain ⟨d1, d2⟩ := zd_ok_l5 K o ho hs
    refine ⟨d1, fun k hk => ?_⟩
    rw [zg_set_vl, if_neg (fun z => e z.1)]
    exact d2 k hk
  | 25 => exact K 25
  | _ + 26 => exact trivial
theorem zg_ok_app {A : zd_A} (K : zd_ok A) {p : Nat} {x : Int64} (hp : p < zd_O A) (hi : zd_ln A p < 16) (hs : zd_srt A (zd_ty A p) = 5) (hv : zd_val A (zd_of A (zd_ty A p)) x) : zd_ok (zg_app A p x) := by
  have hT := zd_ok_T K
  intro q
  match q with
  | 0 => exact K 0
  | 1 => exact K 1
  | 2 => exact K 2
  | 3 => exact K 3
  | 4 => exact K 4
  | 5 => exact K 5
  | 6 => exact K 6
  | 7 => exact K 7
  | 8 => exact K 8
  | 9 => exact K 9
  | 10 => exact K 10
  | 11 => exact K 11
  | 12 => exact K 12
  | 13 => exact K 13
  | 14 => exact K 14
  | 15 => exact K 15
  | 16 => exact K 16
  | 17 => exact K 17
  | 18 => exact K 18
  | 19 => exact K 19
  | 20 => exact K 20
  | 21 =>
    intro o ho hs
    have ho : o < zd_O A := ho
    have hs : zd_srt A (zd_ty A o) = 1 := hs
    have e : o ≠ p := fun z => by rw [z] at hs; omega
    obtain ⟨d1, d2⟩ := zd_ok_l1 K o ho hs
    rw [zg_app_ln, if_neg e]
    refine ⟨d1, ?_⟩
    rw [zg_app_vl, if_neg (fun z => e z.1)]
    exact d2
  | 22 =>
    intro o ho hs
    have ho : o < zd_O A := ho
    have hs : zd_srt A (zd_ty A o) = 2 := hs
    have e : o ≠ p := fun z => by rw [z] at hs; omega
    obtain ⟨d1, d2⟩ := zd_ok_l2 K o ho hs
    rw [zg_app_ln, if_neg e]
    refine ⟨d1, fun k hk => ?_⟩
    rw [zg_app_vl, if_neg (fun z => e z.1)]
    exact d2 k hk
  | 23 =>
    intro o ho hs
    have ho : o < zd_O A := ho
    have hs : zd_srt A (zd_ty A o) = 4 := hs
    have e : o ≠ p := fun z => by rw [z] at hs; omega
    obtain ⟨d1, d2⟩ := zd_ok_l4 K o ho hs
    rw [zg_app_ln, if_neg e]
    refine ⟨d1, fun k hk => ?_⟩
    rw [zg_app_vl, if_neg (fun z => e z.1)]
    exact d2 k hk
  | 24 =>
    intro o ho hs
    have ho : o < zd_O A := ho
    have hs : zd_srt A (zd_ty A o) = 5 := hs
    obtain ⟨d1, d2⟩ := zd_ok_l5 K o ho hs
    rw [zg_app_ln]
    by_cases c : o = p
    · subst c
      rw [if_pos rfl]
      refine ⟨by omega, fun k hk => ?_⟩
      rw [zg_app_vl]
      by_cases e : k = zd_ln A o
      · rw [if_pos ⟨rfl, e⟩]; exact hv
      · rw [if_neg (fun z => e z.2)]; exact d2 k (by omega)
    · rw [if_neg c]
      refine ⟨d1, fun k hk => ?_⟩
      rw [zg_app_vl, if_neg (fun z => c z.1)]
      exact d2 k hk
  | 25 => exact K 25
  | _ + 26 => exact trivial