/-! the ops, one by one: bean -/
theorem zd_Cbean1 {A : zd_A} {h : zx_H} (H : zd_C A h) (K : zd_ok A) (hB : zd_B A = 0) (hT : zd_T A < 40) : ∃ h1, zs_Loom_bean h = some (0, nI (zd_T A), h1) ∧ zd_C (zd_addT A 4 0) h1 ∧ zd_sR h h1 := by
  obtain ⟨h1, e1, e2, e3⟩ := zd_C_add (f := 2) (o := 0) (el := -1) H K hT (by decide)
  have b1 : h.1 0 0 5 = 0 := by rw [zd_C_B H, hB]; rfl
  have b2 : zs_Types_isFull h = some false := by
    unfold zs_Types_isFull
    rw [zd_C_T H, if_pos (show nI (zd_T A) < (40 : Int32) from nI_lt hT (by decide))]
  refine ⟨h1, ?_, e2, e3⟩
  unfold zs_Loom_bean
  rw [if_pos b1, b2]
  show ((zs_Types_add (2 : Int32) (-1 : Int32) h).bind fun r2 => some (0, r2.1, r2.2)) = _
  rw [show zs_Types_add (2 : Int32) (-1 : Int32) h = _ from e1]
  rfl
theorem zd_Cbean2 {A : zd_A} {h : zx_H} (H : zd_C A h) (K : zd_ok A) (hn : ¬ (zd_B A = 0 ∧ zd_T A < 40)) (hB : zd_B A ≤ 1) : zs_Loom_bean h = some (2, 0, h) := by
  have hT := (zd_ok_T K).2
  unfold zs_Loom_bean
  rw [zd_C_B H]
  by_cases h1 : zd_B A = 0
  · have h2 : zd_T A = 40 := by omega
    have b2 : zs_Types_isFull h = some true := by
      unfold zs_Types_isFull
      rw [zd_C_T H, h2]
      decide
    rw [h1, if_pos (show nI 0 = 0 from rfl), b2]
    rfl
  · rw [if_neg (nI_ne0 (by omega) (by omega))]
    rfl
theorem zd_Rbean1 {A : zd_A} {h : zx_H} (H : zd_R A h) (hB : zd_B A = 0) (hT : zd_T A < 40) : ∃ h1, zs_Ref_bean h = some (nI (zd_T A), h1) ∧ zd_R (zd_addT A 4 0) h1 ∧ zd_sC h h1 ∧ h1.1 24 0 0 = 0 := by
  have H0 : zd_R A (zx_sI h 24 0 0 0) := fun q => match q with
    | 0 => H 0 | 1 => H 1 | 2 => H 2 | 3 => H 3 | 4 => H 4 | 5 => H 5 | 6 => H 6 | 7 => H 7 | 8 => H 8 | 9 => H 9 | 10 => H 10 | 11 => H 11 | 12 => H 12 | 13 => H 13
    | 14 => H 14 | 15 => H 15 | 16 => H 16 | 17 => H 17 | 18 => H 18 | 19 => H 19 | 20 => H 20 | 21 => H 21 | 22 => H 22 | 23 => H 23 | 24 => H 24 | 25 => H 25 | 26 => H 26
    | _ + 27 => trivial
  obtain ⟨h1, e1, e2, e3, e4⟩ := zd_R_newType (s := 4) H0 hT 0 (by decide)
  refine ⟨h1, ?_, e2, zd_sC_trans (zd_sC_I (zd_sC_refl h) (by unfold zd_fr; decide) _ _ _) e3, e4⟩
  have b1 : h.1 24 0 1 = 0 := by rw [zd_R_B H, hB]; rfl
  have b2 : ¬ h.1 24 0 2 = (40 : Int32) := by
    rw [zd_R_T H]
    exact fun e => by
      have := (nI_eq (by omega) (by decide)).mp (show nI (zd_T A) = nI 40 from e)
      omega
  unfold zs_Ref_bean
  rw [if_pos b1, if_neg b2, zd_bnd]
  show ((zs_Ref_newType (4 : Int32) (zx_sI h 24 0 0 0)).bind fun r2 => some (r2.1, r2.2)) = _
  rw [show zs_Ref_newType (4 : Int32) (zx_sI h 24 0 0 0) = _ from e1]
  rfl
