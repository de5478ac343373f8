/-! readers of types on both sides, at a type that is there and at one that isn't -/
def zd_out (x : Int32) (n : Nat) : Prop := x < 0 ∨ nI n ≤ x
theorem zd_ok_low {A : zd_A} (K : zd_ok A) {t : Nat} (h : t < 15) : zd_srt A t < 3 := by
  by_cases h1 : t < 7
  · rw [zd_ok_s0 K t h1]; decide
  · by_cases h2 : t < 14
    · rw [zd_ok_s1 K t (by omega) h2]; decide
    · rw [show t = 14 by omega, zd_ok_s2 K]; decide
theorem zd_C_exists {A : zd_A} {h : zx_H} (H : zd_C A h) (K : zd_ok A) {t : Nat} (ht : t < zd_T A) : zs_Types_exists (nI t) h = some true := by
  have hT := zd_ok_T K
  unfold zs_Types_exists
  rw [zd_C_T H, if_neg (nI_pos (by omega)), if_neg (nI_ge ht (by omega))]
theorem zd_C_existsO {A : zd_A} {h : zx_H} (H : zd_C A h) {x : Int32} (hx : zd_out x (zd_T A)) : zs_Types_exists x h = some false := by
  unfold zs_Types_exists
  rw [zd_C_T H]
  rcases hx with h1 | h1
  · rw [if_pos h1]; rfl
  · by_cases h2 : x < 0
    · rw [if_pos h2]; rfl
    · rw [if_neg h2, if_pos h1]; rfl
theorem zd_C_isX {A : zd_A} {h : zx_H} (H : zd_C A h) (K : zd_ok A) {t : Nat} (ht : t < zd_T A) (n : Nat) (hn : 1 ≤ n ∧ n ≤ 3) : (if nI t < (15 : Int32) then some false else (if (h.1 1 0 5) ≤ nI t then some false else (if zx_in (nI t) 40 = true then (if (h.1 2 0 (nI t).toNatClampNeg) = nI n then some true else some false) else none))) = some (decide (zd_srt A t = n + 2)) := by
  have hT := zd_ok_T K
  by_cases h1 : t < 15
  · have := zd_ok_low K h1
    rw [if_pos (show nI t < (15 : Int32) from nI_lt h1 (by decide)), decide_eq_false (by omega)]
  · rw [if_neg (show ¬ nI t < (15 : Int32) from nI_nlt (a := t) (b := 15) (by omega) (by omega)), zd_C_T H, if_neg (nI_ge ht (by omega)), if_pos (zd_in1 (by omega) (by decide)), nI_clamp (by omega), zd_C_form H t (by omega) ht]
    have h3 := zd_ok_s3 K t (by omega) ht
    by_cases h4 : zd_srt A t = n + 2
    · rw [h4, decide_eq_true rfl, if_pos (by rw [Nat.add_sub_cancel])]
    · rw [decide_eq_false h4, if_neg (fun e => by
        have := (nI_eq (by omega) (by omega)).mp e
        omega)]
theorem zd_C_isEnum {A : zd_A} {h : zx_H} (H : zd_C A h) (K : zd_ok A) {t : Nat} (ht : t < zd_T A) : zs_Types_isEnum (nI t) h = some (decide (zd_srt A t = 3)) := zd_C_isX H K ht 1 (by decide)
theorem zd_C_isBean {A : zd_A} {h : zx_H} (H : zd_C A h) (K : zd_ok A) {t : Nat} (ht : t < zd_T A) : zs_Types_isBean (nI t) h = some (decide (zd_srt A t = 4)) := zd_C_isX H K ht 2 (by decide)
theorem zd_C_isList {A : zd_A} {h : zx_H} (H : zd_C A h) (K : zd_ok A) {t : Nat} (ht : t < zd_T A) : zs_Types_isList (nI t) h = some (decide (zd_srt A t = 5)) := zd_C_isX H K ht 3 (by decide)
theorem zd_C_isXO {A : zd_A} {h : zx_H} (H : zd_C A h) (K : zd_ok A) {x : Int32} (hx : zd_out x (zd_T A)) (w : Int32) : (if x < (15 : Int32) then some false else (if (h.1 1 0 5) ≤ x then some false else (if zx_in x 40 = true then (if (h.1 2 0 x.toNatClampNeg) = w then some true else some false) else none))) = some false := by
  by_cases h1 : x < (15 : Int32)
  · rw [if_pos h1]
  · rw [if_neg h1, zd_C_T H]
    rcases hx with h2 | h2
    · refine absurd ?_ h1
      rw [Int32.lt_iff_toInt_lt] at h2 ⊢
      have e1 : (0 : Int32).toInt = 0 := rfl
      have e2 : (15 : Int32).toInt = 15 := rfl
      omega
    · rw [if_pos h2]
theorem zd_C_isEnumO {A : zd_A} {h : zx_H} (H : zd_C A h) (K : zd_ok A) {x : Int32} (hx : zd_out x (zd_T A)) : zs_Types_isEnum x h = some false := zd_C_isXO H K hx 1
theorem zd_C_isBeanO {A : zd_A} {h : zx_H} (H : zd_C A h) (K : zd_ok A) {x : Int32} (hx : zd_out x (zd_T A)) : zs_Types_isBean x h = some false := zd_C_isXO H K hx 2
theorem zd_C_isListO {A : zd_A} {h : zx_H} (H : zd_C A h) (K : zd_ok A) {x : Int32} (hx : zd_out x (zd_T A)) : zs_Types_isList x h = some false := zd_C_isXO H K hx 3
theorem zd_R_isType {A : zd_A} {h : zx_H} (H : zd_R A h) (K : zd_ok A) {t : Nat} (ht : t < zd_T A) : zs_Ref_isType (nI t) h = some true := by
  have hT := zd_ok_T K
  unfold zs_Ref_isType
  rw [zd_R_T H, if_neg (nI_pos (by omega)), if_neg (nI_ge ht (by omega))]
theorem zd_R_isTypeO {A : zd_A} {h : zx_H} (H : zd_R A h) {x : Int32} (hx : zd_out x (zd_T A)) : zs_Ref_isType x h = some false := by
  unfold zs_Ref_isType
  rw [zd_R_T H]
  rcases hx with h1 | h1
  · rw [if_pos h1]; rfl
  · by_cases h2 : x < 0
    · rw [if_pos h2]; rfl
    · rw [if_neg h2, if_pos h1]; rfl
theorem zd_R_isSort {A : zd_A} {h : zx_H} (H : zd_R A h) (K : zd_ok A) {t s : Nat} (ht : t < zd_T A) (hs : s < 6) : zs_Ref_isSort (nI t) (nI s) h = some (decide (zd_srt A t = s)) := by
  have hT := zd_ok_T K
  have h9 : zd_srt A t < 6 := by
    by_cases h1 : t < 15
    · have := zd_ok_low K h1; omega
    · have := zd_ok_s3 K t (by omega) ht; omega
  unfold zs_Ref_isSort
  rw [zd_R_isType H K ht]
  show zs_Ref_isSort_J25 h (nI s) (nI t) = _
  unfold zs_Ref_isSort_J25
  rw [if_pos (zd_in1 (by omega) (by decide)), nI_clamp (by omega), zd_R_srt H t ht]
  by_cases h4 : zd_srt A t = s
  · rw [h4, decide_eq_true rfl, if_pos rfl]
  · rw [decide_eq_false h4, if_neg (fun e => h4 ((nI_eq (by omega) (by omega)).mp e))]
    rfl
theorem zd_R_isSortO {A : zd_A} {h : zx_H} (H : zd_R A h) {x s : Int32} (hx : zd_out x (zd_T A)) : zs_Ref_isSort x s h = some false := by
  unfold zs_Ref_isSort
  rw [zd_R_isTypeO H hx]
  rfl
