theorem zd_i64 {a b : Int32} (h : a.toInt64 = b.toInt64) : a = b := by
  have := congrArg Int64.toInt h
  rw [Int32.toInt_toInt64, Int32.toInt_toInt64] at this
  exact Int32.toInt_inj.mp this
/-! the place of a name -/
def zd_pl (A : zd_A) (t : Nat) (n : Int32) : Option Nat := zd_first (fun k => decide (nI (zd_nm A t k) = n)) (zd_sz A t)
theorem zd_pl_lt {A : zd_A} {t : Nat} {n : Int32} {k : Nat} (h : zd_pl A t n = some k) : k < zd_sz A t ∧ nI (zd_nm A t k) = n := by
  obtain ⟨h1, h2, h3⟩ := zd_first_some.mp h
  exact ⟨h1, of_decide_eq_true h2⟩
theorem zd_ixc (t k : Nat) : nI t * (8 : Int32) + nI k = nI (8 * t + k) := by
  rw [show nI t * (8 : Int32) = nI (t * 8) from pk_mul t 8, nI_add, Nat.mul_comm]
theorem zd_ixr (t k : Nat) : (8 : Int32) * nI t + nI k = nI (8 * t + k) := by
  rw [show (8 : Int32) * nI t = nI (8 * t) from pk_mul 8 t, nI_add]
theorem zd_C_placeOf {A : zd_A} {h : zx_H} (H : zd_C A h) (K : zd_ok A) {t : Nat} (ht : t < zd_T A) (n : Int32) : zs_Types_placeOf (nI t) n.toInt64 h = some (zd_e (zd_pl A t n)) := by
  have hT := zd_ok_T K
  have hz := zd_ok_sz K t (by omega)
  unfold zs_Types_placeOf
  rw [zd_C_T H, if_neg (nI_pos (by omega)), if_neg (nI_ge ht (by omega)), if_pos (zd_in1 (by omega) (by decide)), nI_clamp (by omega), zd_C_sz H t (by omega)]
  unfold zs_Types_placeOf_J22 zs_Types_placeOf_L27
  rw [show (0 : Int32) = nI 0 from rfl]
  have key := zd_search (fun F p => zx_loop (fun _ _ _ _ => none) (zs_Types_placeOf_L27_body h) F (nI t) n.toInt64 (nI (zd_sz A t)) (nI p)) (fun k => decide (nI (zd_nm A t k) = n)) (fun p => some (nI p)) (some (-1 : Int32)) (zd_sz A t)
    (fun F p hp hc => by
      show zs_Types_placeOf_L27_body h _ (nI t) n.toInt64 (nI (zd_sz A t)) (nI p) = _
      unfold zs_Types_placeOf_L27_body
      rw [if_neg (nI_ge hp (by omega)), zd_ixc, if_pos (zd_in1 (by omega) (by decide)), nI_clamp (by omega), zd_C_nm H t p ht hp, if_pos (by rw [of_decide_eq_true hc])])
    (fun F p hp hc => by
      show zs_Types_placeOf_L27_body h _ (nI t) n.toInt64 (nI (zd_sz A t)) (nI p) = _
      unfold zs_Types_placeOf_L27_body
      rw [if_neg (nI_ge hp (by omega)), zd_ixc, if_pos (zd_in1 (by omega) (by decide)), nI_clamp (by omega), zd_C_nm H t p ht hp, if_neg (fun e => of_decide_eq_false hc (zd_i64 e)), nI_1])
    (fun F => by
      show zs_Types_placeOf_L27_body h _ (nI t) n.toInt64 (nI (zd_sz A t)) (nI (zd_sz A t)) = _
      unfold zs_Types_placeOf_L27_body
      rw [if_pos (nI_le (Nat.le_refl _) (by omega))])
    zx_fuel (by unfold zx_fuel; omega)
  refine key.trans ?_
  unfold zd_pl
  cases zd_first (fun k => decide (nI (zd_nm A t k) = n)) (zd_sz A t) <;> rfl
