/-! what holds of it still holds with a new type -/
theorem zd_val_cong {A A1 : zd_A} {t : Nat} {v : Int64} (h1 : zd_srt A1 t = zd_srt A t) (h2 : zd_sz A1 t = zd_sz A t) (h3 : ∀ o, o < zd_O A → o < zd_O A1 ∧ zd_ty A1 o = zd_ty A o) (h : zd_val A t v) : zd_val A1 t v := by
  unfold zd_val at h ⊢
  by_cases c : t < 7
  · rw [if_pos c] at h ⊢; exact h
  · rw [if_neg c] at h ⊢
    rw [h1, h2]
    rcases h with h | h | ⟨h4, o, h5, h6, h7⟩
    · exact Or.inl h
    · exact Or.inr (Or.inl h)
    · exact Or.inr (Or.inr ⟨h4, o, (h3 o h5).1, (h3 o h5).2.trans h6, h7⟩)
theorem zd_addT_T (A : zd_A) (s o : Nat) : zd_T (zd_addT A s o) = zd_T A + 1 := rfl
theorem zd_addT_srt (A : zd_A) (s o t : Nat) : zd_srt (zd_addT A s o) t = if t = zd_T A then s else zd_srt A t := by simp only [zd_addT, zd_B_uN, zd_T_uN, zd_srt_uN, zd_sz_uN, zd_nm_uN, zd_pt_uN, zd_of_uN, zd_M_uN, zd_mf_uN, zd_mt_uN, zd_rc_uN, zd_kd_uN, zd_tg_uN, zd_wh_uN, zd_F_uN, zd_ff_uN, zd_ft_uN, zd_fa_uN, zd_fb_uN, zd_d0_uN, zd_d1_uN, zd_d2_uN, zd_O_uN, zd_ty_uN, zd_ln_uN, zd_vl_uN, zd_gI, zd_gI2, reduceIte, false_and, and_false, true_and, and_true, if_true, if_false, Nat.reduceEqDiff, reduceCtorEq, and_self, Nat.succ_ne_self]
theorem zd_addT_sz (A : zd_A) (s o t : Nat) : zd_sz (zd_addT A s o) t = if t = zd_T A then 0 else zd_sz A t := by simp only [zd_addT, zd_B_uN, zd_T_uN, zd_srt_uN, zd_sz_uN, zd_nm_uN, zd_pt_uN, zd_of_uN, zd_M_uN, zd_mf_uN, zd_mt_uN, zd_rc_uN, zd_kd_uN, zd_tg_uN, zd_wh_uN, zd_F_uN, zd_ff_uN, zd_ft_uN, zd_fa_uN, zd_fb_uN, zd_d0_uN, zd_d1_uN, zd_d2_uN, zd_O_uN, zd_ty_uN, zd_ln_uN, zd_vl_uN, zd_gI, zd_gI2, reduceIte, false_and, and_false, true_and, and_true, if_true, if_false, Nat.reduceEqDiff, reduceCtorEq, and_self, Nat.succ_ne_self]
theorem zd_addT_of (A : zd_A) (s o t : Nat) : zd_of (zd_addT A s o) t = if t = zd_T A then o else zd_of A t := by simp only [zd_addT, zd_B_uN, zd_T_uN, zd_srt_uN, zd_sz_uN, zd_nm_uN, zd_pt_uN, zd_of_uN, zd_M_uN, zd_mf_uN, zd_mt_uN, zd_rc_uN, zd_kd_uN, zd_tg_uN, zd_wh_uN, zd_F_uN, zd_ff_uN, zd_ft_uN, zd_fa_uN, zd_fb_uN, zd_d0_uN, zd_d1_uN, zd_d2_uN, zd_O_uN, zd_ty_uN, zd_ln_uN, zd_vl_uN, zd_gI, zd_gI2, reduceIte, false_and, and_false, true_and, and_true, if_true, if_false, Nat.reduceEqDiff, reduceCtorEq, and_self, Nat.succ_ne_self]
theorem zd_addT_nm (A : zd_A) (s o t k : Nat) : zd_nm (zd_addT A s o) t k = zd_nm A t k := rfl
theorem zd_addT_pt (A : zd_A) (s o t k : Nat) : zd_pt (zd_addT A s o) t k = zd_pt A t k := rfl
theorem zd_ok_addT {A : zd_A} (K : zd_ok A) (hT : zd_T A < 40) {s o : Nat} (hs : s = 3 ∨ s = 4 ∨ s = 5) (ho : s = 5 → 7 ≤ o ∧ o < zd_T A) : zd_ok (zd_addT A s o) := by
  have hT0 := zd_ok_T K
  have eS : ∀ t, t < zd_T A → zd_srt (zd_addT A s o) t = zd_srt A t := fun t ht => by rw [zd_addT_srt, if_neg (by omega)]
  have eZ : ∀ t, t < zd_T A → zd_sz (zd_addT A s o) t = zd_sz A t := fun t ht => by rw [zd_addT_sz, if_neg (by omega)]
  have eO : ∀ t, t < zd_T A → zd_of (zd_addT A s o) t = zd_of A t := fun t ht => by rw [zd_addT_of, if_neg (by omega)]
  have eV : ∀ t v, t < zd_T A → zd_val A t v → zd_val (zd_addT A s o) t v := fun t v ht h => zd_val_cong (eS t ht) (eZ t ht) (fun q hq => ⟨hq, rfl⟩) h
  have eK : ∀ t k, t < zd_T A + 1 → k < zd_sz (zd_addT A s o) t → t < zd_T A ∧ k < zd_sz A t := fun t k ht h => by
    rw [zd_addT_sz] at h
    by_cases c : t = zd_T A
    · rw [if_pos c] at h; exact absurd h (Nat.not_lt_zero _)
    · rw [if_neg c] at h; exact ⟨by omega, h⟩
  intro q
  match q with
  | 0 => exact ⟨by have := zd_addT_T A s o; omega, by have := zd_addT_T A s o; omega⟩
  | 1 => exact fun t ht => (eS t (by omega)).trans (zd_ok_s0 K t ht)
  | 2 => exact fun t h1 h2 => (eS t (by omega)).trans (zd_ok_s1 K t h1 h2)
  | 3 => exact (eS 14 (by omega)).trans (zd_ok_s2 K)
  | 4 =>
    intro t h1 h2
    have h2 : t < zd_T A + 1 := h2
    rw [zd_addT_srt]
    by_cases c : t = zd_T A
    · rw [if_pos c]; exact hs
    · rw [if_neg c]; exact zd_ok_s3 K t h1 (by omega)
  | 5 =>
    intro t h1
    rw [zd_addT_sz]
    by_cases c : t = zd_T A
    · rw [if_pos c]; omega
    · rw [if_neg c]; exact zd_ok_sz K t h1
  | 6 =>
    intro t h1 h2
    rw [zd_addT_sz] at h2
    by_cases c : t = zd_T A
    · rw [if_pos c] at h2; omega
    · rw [if_neg c] at h2
      obtain ⟨h3, h4⟩ := zd_ok_sz0 K t h1 h2
      exact ⟨Nat.lt_succ_of_lt h3, by rw [eS t h3]; exact h4⟩
  | 7 => exact fun t k h1 h2 => zd_ok_nm K t k (eK t k h1 h2).1 (eK t k h1 h2).2
  | 8 => exact fun t j k h1 h2 h3 h4 => zd_ok_nm1 K t j k (eK t j h1 h2).1 (eK t j h1 h2).2 (eK t k h1 h3).2 h4
  | 9 =>
    intro t k h1 h2 h3
    obtain ⟨h4, h5⟩ := eK t k h1 h2
    rw [eS t h4] at h3
    exact Nat.lt_succ_of_lt (zd_ok_pt K t k h4 h5 h3)
  | 10 =>
    intro t h1 h2
    have h1 : t < zd_T A + 1 := h1
    rw [zd_addT_srt] at h2
    rw [zd_addT_of]
    by_cases c : t = zd_T A
    · rw [if_pos c] at h2 ⊢; rw [c]; exact ho h2
    · rw [if_neg c] at h2 ⊢; exact zd_ok_of K t (by omega) h2
  | 11 => exact K 11
  | 12 =>
    intro m hm
    obtain ⟨h1, h2, h3⟩ := zd_ok_m K m hm
    exact ⟨Nat.lt_succ_of_lt h1, Nat.lt_succ_of_lt h2, by
      show zd_srt (zd_addT A s o) (zd_mf A m) = 4 ∧ zd_srt (zd_addT A s o) (zd_mt A m) = 4 ∨ zd_srt (zd_addT A s o) (zd_mf A m) = 3 ∧ zd_srt (zd_addT A s o) (zd_mt A m) = 3
      rw [eS _ h1, eS _ h2]; exact h3⟩
  | 13 => exact K 13
  | 14 => exact K 14
  | 15 => exact K 15
  | 16 => exact K 16
  | 17 => exact K 17
  | 18 => exact K 18
  | 19 => exact K 19
  | 20 =>
    intro q hq
    obtain ⟨h1, h2, h3⟩ := zd_ok_ty K q hq
    exact ⟨h1, Nat.lt_succ_of_lt h2, by
      show zd_srt (zd_addT A s o) (zd_ty A q) ≠ 3
      rw [eS _ h2]; exact h3⟩
  | 21 =>
    intro q hq h
    obtain ⟨h1, h2, h3⟩ := zd_ok_ty K q hq
    obtain ⟨h4, h5⟩ := zd_ok_l1 K q hq (by rw [← eS _ h2]; exact h)
    exact ⟨h4, eV (zd_ty A q - 7) _ (by omega) h5⟩
  | 22 =>
    intro q hq h
    obtain ⟨h1, h2, h3⟩ := zd_ok_ty K q hq
    exact zd_ok_l2 K q hq (by rw [← eS _ h2]; exact h)
  | 23 =>
    intro q hq h
    obtain ⟨h1, h2, h3⟩ := zd_ok_ty K q hq
    have h6 : zd_srt A (zd_ty A q) = 4 := by rw [← eS _ h2]; exact h
    obtain ⟨h4, h5⟩ := zd_ok_l4 K q hq h6
    refine ⟨h4.trans (eZ _ h2).symm, fun k hk => eV _ _ (zd_ok_pt K (zd_ty A q) k h2 (Nat.lt_of_lt_of_eq hk h4) h6) (h5 k hk)⟩
  | 24 =>
    intro q hq h
    obtain ⟨h1, h2, h3⟩ := zd_ok_ty K q hq
    have h6 : zd_srt A (zd_ty A q) = 5 := by rw [← eS _ h2]; exact h
    obtain ⟨h4, h5⟩ := zd_ok_l5 K q hq h6
    refine ⟨h4, fun k hk => ?_⟩
    show zd_val (zd_addT A s o) (zd_of (zd_addT A s o) (zd_ty A q)) (zd_vl A q k)
    rw [eO _ h2]
    have h7 := zd_ok_of K _ h2 h6
    exact eV _ _ (by omega) (h5 k hk)
  | 25 => exact K 25
  | _ + 26 => exact trivial
