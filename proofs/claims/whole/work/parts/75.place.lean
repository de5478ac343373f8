theorem zd_i64 {a b : Int32} (h : a.toInt64 = b.toInt64) : a = b := by
  have := congrArg Int64.toInt h
  rw [Int32.toInt_toInt64, Int32.toInt_toInt64] at this
  exact Int32.toInt_inj.mp this
/-! the place of a name -/
def zd_pl (A : zd_A) (t : Nat) (n : Int32) : Option Nat := zd_first (fun k => decide (nI (zd_nm A t k) = n)) (zd_sz A t)
theorem zd_pl_lt {A : zd_A} {t : Nat} {n : Int32} {k : Nat} (h : zd_pl A t n = some k) : k < zd_sz A t ∧ nI (zd_nm A t k) = n := by
  obtain ⟨h1, h2, h3⟩ := zd_first_some.mp h
  exact ⟨h1, of_decide_eq_true h2⟩
theorem zd_ixc (t k : Nat) : nI t * (8 : Int32) + nI k = nI (8 * t + k) := by
  rw [show nI t * (8 : Int32) = nI (t * 8) from pk_mul t 8, nI_add, Nat.mul_comm]
theorem zd_ixr (t k : Nat) : (8 : Int32) * nI t + nI k = nI (8 * t + k) := by
  rw [show (8 : Int32) * nI t = nI (8 * t) from pk_mul 8 t, nI_add]
theorem zd_C_placeOf {A : zd_A} {h : zx_H} (H : zd_C A h) (K : zd_ok A) {t : Nat} (ht : t < zd_T A) (n : Int32) : zs_Types_placeOf (nI t) n.toInt64 h = some (zd_e (zd_pl A t n)) := by
  have hT := zd_ok_T K
  have hz := zd_ok_sz K t (by omega)
  unfold zs_Types_placeOf
  rw [zd_C_T H, if_neg (nI_pos (by omega)), if_neg (nI_ge ht (by omega)), if_pos (zd_in1 (by omega) (by decide)), nI_clamp (by omega), zd_C_sz H t (by omega)]
  unfold zs_Types_placeOf_J22 zs_Types_placeOf_L27
  rw [show (0 : Int32) = nI 0 from rfl]
  have key := zd_search (fun F p => zx_loop (fun _ _ _ _ => none) (zs_Types_placeOf_L27_body h) F (nI t) n.toInt64 (nI (zd_sz A t)) (nI p)) (fun k => decide (nI (zd_nm A t k) = n)) (fun p => some (nI p)) (some (-1 : Int32)) (zd_sz A t)
    (fun F p hp hc => by
      show zs_Types_placeOf_L27_body h _ (nI t) n.toInt64 (nI (zd_sz A t)) (nI p) = _
      unfold zs_Types_placeOf_L27_body
      rw [if_neg (nI_ge hp (by omega)), zd_ixc, if_pos (zd_in1 (by omega) (by decide)), nI_clamp (by omega), zd_C_nm H t p ht hp, if_pos (by rw [of_decide_eq_true hc])])
    (fun F p hp hc => by
      show zs_Types_placeOf_L27_body h _ (nI t) n.toInt64 (nI (zd_sz A t)) (nI p) = _
      unfold zs_Types_placeOf_L27_body
      rw [if_neg (nI_ge hp (by omega)), zd_ixc, if_pos (zd_in1 (by omega) (by decide)), nI_clamp (by omega), zd_C_nm H t p ht hp, if_neg (fun e => of_decide_eq_false hc (zd_i64 e)), nI_1]
      rfl)
    (fun F => by
      show zs_Types_placeOf_L27_body h _ (nI t) n.toInt64 (nI (zd_sz A t)) (nI (zd_sz A t)) = _
      unfold zs_Types_placeOf_L27_body
      rw [if_pos (nI_le (Nat.le_refl _) (by omega))])
    zx_fuel (by unfold zx_fuel; omega)
  refine key.trans ?_
  unfold zd_pl
  cases zd_first (fun k => decide (nI (zd_nm A t k) = n)) (zd_sz A t) <;> rfl
theorem zd_R_placeOf {A : zd_A} {h : zx_H} (H : zd_R A h) (K : zd_ok A) {t : Nat} (ht : t < zd_T A) (n : Int32) : zs_Ref_placeOf (nI t) n h = some (zd_e (zd_pl A t n)) := by
  have hT := zd_ok_T K
  have hz := zd_ok_sz K t (by omega)
  unfold zs_Ref_placeOf zs_Ref_placeOf_L5
  have hb : ∀ (k5 : Int32 → Int32 → Int32 → Int32 → Option Int32) (p : Nat) (f : Int32), p < zd_sz A t → zs_Ref_placeOf_L5_body h k5 (nI t) n f (nI p) = k5 (nI t) n (if decide (nI (zd_nm A t p) = n) = true then nI p else f) (nI (p + 1)) := by
    intro k5 p f hp
    have hs := zd_ok_sz0 K t (by omega) (by omega)
    unfold zs_Ref_placeOf_L5_body
    have h36 : zs_Ref_placeOf_J36 h k5 (nI t) n f (nI p) = k5 (nI t) n (if decide (nI (zd_nm A t p) = n) = true then nI p else f) (nI (p + 1)) := by
      unfold zs_Ref_placeOf_J36 zs_Ref_placeOf_J58
      rw [zd_ixr, if_pos (zd_in1 (by omega) (by decide)), nI_clamp (by omega), zd_R_nm H t p ht hp, nI_1]
      by_cases hc : nI (zd_nm A t p) = n
      · rw [if_pos hc, decide_eq_true hc, if_pos rfl]
      · rw [if_neg hc, decide_eq_false hc, if_neg (by decide)]
    rw [if_pos (zd_in1 (by omega) (by decide)), nI_clamp (by omega), zd_R_sz H t ht, if_neg (nI_ge hp (by omega)), zd_R_srt H t ht, h36]
    have z : zx_in (nI t) 40 = true := zd_in1 (by omega) (by decide)
    rcases hs.2 with h3 | h3
    · rw [h3, if_pos z, if_pos (show nI 3 = (3 : Int32) from rfl)]
    · rw [h3, if_pos z, if_neg (show ¬ nI 4 = (3 : Int32) by decide), if_pos z, if_pos (show nI 4 = (4 : Int32) from rfl)]
  have key := zd_gather (fun F p (f : Int32) => zx_loop (fun _ _ _ _ => none) (zs_Ref_placeOf_L5_body h) F (nI t) n f (nI p)) (fun k f => if decide (nI (zd_nm A t k) = n) = true then nI k else f) (fun f => some f) (zd_sz A t) (fun _ _ => True)
    (fun F p f hp _ => ⟨hb _ p f hp, trivial⟩)
    (fun F f _ => by
      show zs_Ref_placeOf_L5_body h _ (nI t) n f (nI (zd_sz A t)) = _
      unfold zs_Ref_placeOf_L5_body
      rw [if_pos (zd_in1 (by omega) (by decide)), nI_clamp (by omega), zd_R_sz H t ht, if_pos (nI_le (Nat.le_refl _) (by omega))])
    (-1) trivial zx_fuel (by unfold zx_fuel; omega)
  refine key.1.trans ?_
  rw [zd_fold_last (fun k => decide (nI (zd_nm A t k) = n)) (fun k => nI k)]
  rw [zd_last_first (fun p q hp hq h1 h2 => by
    have e1 := of_decide_eq_true h1
    have e2 := of_decide_eq_true h2
    have b1 := zd_ok_nm K t p ht hp
    have b2 := zd_ok_nm K t q ht hq
    exact zd_ok_nm1 K t p q ht hp hq ((nI_eq (by omega) (by omega)).mp (e1.trans e2.symm)))]
  unfold zd_pl
  cases zd_first (fun k => decide (nI (zd_nm A t k) = n)) (zd_sz A t) <;> rfl
