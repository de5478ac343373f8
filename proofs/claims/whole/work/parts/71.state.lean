/-! what both sides hold, told once: numbers by (field, i, j), ints and longs likewise (printed by stategen.py) -/
abbrev zd_A : Type := (Nat → Nat → Nat → Nat) × (Nat → Nat → Nat → Int32) × (Nat → Nat → Nat → Int64)
def zd_B (A : zd_A) : Nat := A.1 0 0 0
def zd_T (A : zd_A) : Nat := A.1 1 0 0
def zd_srt (A : zd_A) (i : Nat) : Nat := A.1 2 i 0
def zd_sz (A : zd_A) (i : Nat) : Nat := A.1 3 i 0
def zd_nm (A : zd_A) (i : Nat) (j : Nat) : Nat := A.1 4 i j
def zd_pt (A : zd_A) (i : Nat) (j : Nat) : Nat := A.1 5 i j
def zd_of (A : zd_A) (i : Nat) : Nat := A.1 6 i 0
def zd_M (A : zd_A) : Nat := A.1 7 0 0
def zd_mf (A : zd_A) (i : Nat) : Nat := A.1 8 i 0
def zd_mt (A : zd_A) (i : Nat) : Nat := A.1 9 i 0
def zd_rc (A : zd_A) (i : Nat) : Nat := A.1 10 i 0
def zd_kd (A : zd_A) (i : Nat) (j : Nat) : Nat := A.1 11 i j
def zd_tg (A : zd_A) (i : Nat) (j : Nat) : Int32 := A.2.1 0 i j
def zd_wh (A : zd_A) (i : Nat) (j : Nat) : Int64 := A.2.2 0 i j
def zd_F (A : zd_A) : Nat := A.1 12 0 0
def zd_ff (A : zd_A) (i : Nat) : Nat := A.1 13 i 0
def zd_ft (A : zd_A) (i : Nat) : Nat := A.1 14 i 0
def zd_fa (A : zd_A) (i : Nat) : Int32 := A.2.1 1 i 0
def zd_fb (A : zd_A) (i : Nat) : Int32 := A.2.1 2 i 0
def zd_d0 (A : zd_A) : Int32 := A.2.1 3 0 0
def zd_d1 (A : zd_A) : Int32 := A.2.1 4 0 0
def zd_d2 (A : zd_A) : Int32 := A.2.1 5 0 0
def zd_O (A : zd_A) : Nat := A.1 15 0 0
def zd_ty (A : zd_A) (i : Nat) : Nat := A.1 16 i 0
def zd_ln (A : zd_A) (i : Nat) : Nat := A.1 17 i 0
def zd_vl (A : zd_A) (i : Nat) (j : Nat) : Int64 := A.2.2 1 i j
def zd_uN (A : zd_A) (F i j x : Nat) : zd_A := (fun a b c => if a = F ∧ b = i ∧ c = j then x else A.1 a b c, A.2)
def zd_uI (A : zd_A) (F i j : Nat) (x : Int32) : zd_A := (A.1, fun a b c => if a = F ∧ b = i ∧ c = j then x else A.2.1 a b c, A.2.2)
def zd_uJ (A : zd_A) (F i j : Nat) (x : Int64) : zd_A := (A.1, A.2.1, fun a b c => if a = F ∧ b = i ∧ c = j then x else A.2.2 a b c)
theorem zd_B_uN (A : zd_A) (F a b : Nat) (x : Nat) : zd_B (zd_uN A F a b x) = if 0 = F ∧ 0 = a ∧ 0 = b then x else zd_B A := rfl
theorem zd_B_uI (A : zd_A) (F a b : Nat) (x : Int32) : zd_B (zd_uI A F a b x) = zd_B A := rfl
theorem zd_B_uJ (A : zd_A) (F a b : Nat) (x : Int64) : zd_B (zd_uJ A F a b x) = zd_B A := rfl
theorem zd_T_uN (A : zd_A) (F a b : Nat) (x : Nat) : zd_T (zd_uN A F a b x) = if 1 = F ∧ 0 = a ∧ 0 = b then x else zd_T A := rfl
theorem zd_T_uI (A : zd_A) (F a b : Nat) (x : Int32) : zd_T (zd_uI A F a b x) = zd_T A := rfl
theorem zd_T_uJ (A : zd_A) (F a b : Nat) (x : Int64) : zd_T (zd_uJ A F a b x) = zd_T A := rfl
theorem zd_srt_uN (A : zd_A) (F a b : Nat) (x : Nat) (i : Nat) : zd_srt (zd_uN A F a b x) i = if 2 = F ∧ i = a ∧ 0 = b then x else zd_srt A i := rfl
theorem zd_srt_uI (A : zd_A) (F a b : Nat) (x : Int32) (i : Nat) : zd_srt (zd_uI A F a b x) i = zd_srt A i := rfl
theorem zd_srt_uJ (A : zd_A) (F a b : Nat) (x : Int64) (i : Nat) : zd_srt (zd_uJ A F a b x) i = zd_srt A i := rfl
theorem zd_sz_uN (A : zd_A) (F a b : Nat) (x : Nat) (i : Nat) : zd_sz (zd_uN A F a b x) i = if 3 = F ∧ i = a ∧ 0 = b then x else zd_sz A i := rfl
theorem zd_sz_uI (A : zd_A) (F a b : Nat) (x : Int32) (i : Nat) : zd_sz (zd_uI A F a b x) i = zd_sz A i := rfl
theorem zd_sz_uJ (A : zd_A) (F a b : Nat) (x : Int64) (i : Nat) : zd_sz (zd_uJ A F a b x) i = zd_sz A i := rfl
theorem zd_nm_uN (A : zd_A) (F a b : Nat) (x : Nat) (i : Nat) (j : Nat) : zd_nm (zd_uN A F a b x) i j = if 4 = F ∧ i = a ∧ j = b then x else zd_nm A i j := rfl
theorem zd_nm_uI (A : zd_A) (F a b : Nat) (x : Int32) (i : Nat) (j : Nat) : zd_nm (zd_uI A F a b x) i j = zd_nm A i j := rfl
theorem zd_nm_uJ (A : zd_A) (F a b : Nat) (x : Int64) (i : Nat) (j : Nat) : zd_nm (zd_uJ A F a b x) i j = zd_nm A i j := rfl
theorem zd_pt_uN (A : zd_A) (F a b : Nat) (x : Nat) (i : Nat) (j : Nat) : zd_pt (zd_uN A F a b x) i j = if 5 = F ∧ i = a ∧ j = b then x else zd_pt A i j := rfl
theorem zd_pt_uI (A : zd_A) (F a b : Nat) (x : Int32) (i : Nat) (j : Nat) : zd_pt (zd_uI A F a b x) i j = zd_pt A i j := rfl
theorem zd_pt_uJ (A : zd_A) (F a b : Nat) (x : Int64) (i : Nat) (j : Nat) : zd_pt (zd_uJ A F a b x) i j = zd_pt A i j := rfl
theorem zd_of_uN (A : zd_A) (F a b : Nat) (x : Nat) (i : Nat) : zd_of (zd_uN A F a b x) i = if 6 = F ∧ i = a ∧ 0 = b then x else zd_of A i := rfl
theorem zd_of_uI (A : zd_A) (F a b : Nat) (x : Int32) (i : Nat) : zd_of (zd_uI A F a b x) i = zd_of A i := rfl
theorem zd_of_uJ (A : zd_A) (F a b : Nat) (x : Int64) (i : Nat) : zd_of (zd_uJ A F a b x) i = zd_of A i := rfl
theorem zd_M_uN (A : zd_A) (F a b : Nat) (x : Nat) : zd_M (zd_uN A F a b x) = if 7 = F ∧ 0 = a ∧ 0 = b then x else zd_M A := rfl
theorem zd_M_uI (A : zd_A) (F a b : Nat) (x : Int32) : zd_M (zd_uI A F a b x) = zd_M A := rfl
theorem zd_M_uJ (A : zd_A) (F a b : Nat) (x : Int64) : zd_M (zd_uJ A F a b x) = zd_M A := rfl
theorem zd_mf_uN (A : zd_A) (F a b : Nat) (x : Nat) (i : Nat) : zd_mf (zd_uN A F a b x) i = if 8 = F ∧ i = a ∧ 0 = b then x else zd_mf A i := rfl
theorem zd_mf_uI (A : zd_A) (F a b : Nat) (x : Int32) (i : Nat) : zd_mf (zd_uI A F a b x) i = zd_mf A i := rfl
theorem zd_mf_uJ (A : zd_A) (F a b : Nat) (x : Int64) (i : Nat) : zd_mf (zd_uJ A F a b x) i = zd_mf A i := rfl
theorem zd_mt_uN (A : zd_A) (F a b : Nat) (x : Nat) (i : Nat) : zd_mt (zd_uN A F a b x) i = if 9 = F ∧ i = a ∧ 0 = b then x else zd_mt A i := rfl
theorem zd_mt_uI (A : zd_A) (F a b : Nat) (x : Int32) (i : Nat) : zd_mt (zd_uI A F a b x) i = zd_mt A i := rfl
theorem zd_mt_uJ (A : zd_A) (F a b : Nat) (x : Int64) (i : Nat) : zd_mt (zd_uJ A F a b x) i = zd_mt A i := rfl
theorem zd_rc_uN (A : zd_A) (F a b : Nat) (x : Nat) (i : Nat) : zd_rc (zd_uN A F a b x) i = if 10 = F ∧ i = a ∧ 0 = b then x else zd_rc A i := rfl
theorem zd_rc_uI (A : zd_A) (F a b : Nat) (x : Int32) (i : Nat) : zd_rc (zd_uI A F a b x) i = zd_rc A i := rfl
theorem zd_rc_uJ (A : zd_A) (F a b : Nat) (x : Int64) (i : Nat) : zd_rc (zd_uJ A F a b x) i = zd_rc A i := rfl
theorem zd_kd_uN (A : zd_A) (F a b : Nat) (x : Nat) (i : Nat) (j : Nat) : zd_kd (zd_uN A F a b x) i j = if 11 = F ∧ i = a ∧ j = b then x else zd_kd A i j := rfl
theorem zd_kd_uI (A : zd_A) (F a b : Nat) (x : Int32) (i : Nat) (j : Nat) : zd_kd (zd_uI A F a b x) i j = zd_kd A i j := rfl
theorem zd_kd_uJ (A : zd_A) (F a b : Nat) (x : Int64) (i : Nat) (j : Nat) : zd_kd (zd_uJ A F a b x) i j = zd_kd A i j := rfl
theorem zd_tg_uN (A : zd_A) (F a b : Nat) (x : Nat) (i : Nat) (j : Nat) : zd_tg (zd_uN A F a b x) i j = zd_tg A i j := rfl
theorem zd_tg_uI (A : zd_A) (F a b : Nat) (x : Int32) (i : Nat) (j : Nat) : zd_tg (zd_uI A F a b x) i j = if 0 = F ∧ i = a ∧ j = b then x else zd_tg A i j := rfl
theorem zd_tg_uJ (A : zd_A) (F a b : Nat) (x : Int64) (i : Nat) (j : Nat) : zd_tg (zd_uJ A F a b x) i j = zd_tg A i j := rfl
theorem zd_wh_uN (A : zd_A) (F a b : Nat) (x : Nat) (i : Nat) (j : Nat) : zd_wh (zd_uN A F a b x) i j = zd_wh A i j := rfl
theorem zd_wh_uI (A : zd_A) (F a b : Nat) (x : Int32) (i : Nat) (j : Nat) : zd_wh (zd_uI A F a b x) i j = zd_wh A i j := rfl
theorem zd_wh_uJ (A : zd_A) (F a b : Nat) (x : Int64) (i : Nat) (j : Nat) : zd_wh (zd_uJ A F a b x) i j = if 0 = F ∧ i = a ∧ j = b then x else zd_wh A i j := rfl
theorem zd_F_uN (A : zd_A) (F a b : Nat) (x : Nat) : zd_F (zd_uN A F a b x) = if 12 = F ∧ 0 = a ∧ 0 = b then x else zd_F A := rfl
theorem zd_F_uI (A : zd_A) (F a b : Nat) (x : Int32) : zd_F (zd_uI A F a b x) = zd_F A := rfl
theorem zd_F_uJ (A : zd_A) (F a b : Nat) (x : Int64) : zd_F (zd_uJ A F a b x) = zd_F A := rfl
theorem zd_ff_uN (A : zd_A) (F a b : Nat) (x : Nat) (i : Nat) : zd_ff (zd_uN A F a b x) i = if 13 = F ∧ i = a ∧ 0 = b then x else zd_ff A i := rfl
theorem zd_ff_uI (A : zd_A) (F a b : Nat) (x : Int32) (i : Nat) : zd_ff (zd_uI A F a b x) i = zd_ff A i := rfl
theorem zd_ff_uJ (A : zd_A) (F a b : Nat) (x : Int64) (i : Nat) : zd_ff (zd_uJ A F a b x) i = zd_ff A i := rfl
theorem zd_ft_uN (A : zd_A) (F a b : Nat) (x : Nat) (i : Nat) : zd_ft (zd_uN A F a b x) i = if 14 = F ∧ i = a ∧ 0 = b then x else zd_ft A i := rfl
theorem zd_ft_uI (A : zd_A) (F a b : Nat) (x : Int32) (i : Nat) : zd_ft (zd_uI A F a b x) i = zd_ft A i := rfl
theorem zd_ft_uJ (A : zd_A) (F a b : Nat) (x : Int64) (i : Nat) : zd_ft (zd_uJ A F a b x) i = zd_ft A i := rfl
theorem zd_fa_uN (A : zd_A) (F a b : Nat) (x : Nat) (i : Nat) : zd_fa (zd_uN A F a b x) i = zd_fa A i := rfl
theorem zd_fa_uI (A : zd_A) (F a b : Nat) (x : Int32) (i : Nat) : zd_fa (zd_uI A F a b x) i = if 1 = F ∧ i = a ∧ 0 = b then x else zd_fa A i := rfl
theorem zd_fa_uJ (A : zd_A) (F a b : Nat) (x : Int64) (i : Nat) : zd_fa (zd_uJ A F a b x) i = zd_fa A i := rfl
theorem zd_fb_uN (A : zd_A) (F a b : Nat) (x : Nat) (i : Nat) : zd_fb (zd_uN A F a b x) i = zd_fb A i := rfl
theorem zd_fb_uI (A : zd_A) (F a b : Nat) (x : Int32) (i : Nat) : zd_fb (zd_uI A F a b x) i = if 2 = F ∧ i = a ∧ 0 = b then x else zd_fb A i := rfl
theorem zd_fb_uJ (A : zd_A) (F a b : Nat) (x : Int64) (i : Nat) : zd_fb (zd_uJ A F a b x) i = zd_fb A i := rfl
theorem zd_d0_uN (A : zd_A) (F a b : Nat) (x : Nat) : zd_d0 (zd_uN A F a b x) = zd_d0 A := rfl
theorem zd_d0_uI (A : zd_A) (F a b : Nat) (x : Int32) : zd_d0 (zd_uI A F a b x) = if 3 = F ∧ 0 = a ∧ 0 = b then x else zd_d0 A := rfl
theorem zd_d0_uJ (A : zd_A) (F a b : Nat) (x : Int64) : zd_d0 (zd_uJ A F a b x) = zd_d0 A := rfl
theorem zd_d1_uN (A : zd_A) (F a b : Nat) (x : Nat) : zd_d1 (zd_uN A F a b x) = zd_d1 A := rfl
theorem zd_d1_uI (A : zd_A) (F a b : Nat) (x : Int32) : zd_d1 (zd_uI A F a b x) = if 4 = F ∧ 0 = a ∧ 0 = b then x else zd_d1 A := rfl
theorem zd_d1_uJ (A : zd_A) (F a b : Nat) (x : Int64) : zd_d1 (zd_uJ A F a b x) = zd_d1 A := rfl
theorem zd_d2_uN (A : zd_A) (F a b : Nat) (x : Nat) : zd_d2 (zd_uN A F a b x) = zd_d2 A := rfl
theorem zd_d2_uI (A : zd_A) (F a b : Nat) (x : Int32) : zd_d2 (zd_uI A F a b x) = if 5 = F ∧ 0 = a ∧ 0 = b then x else zd_d2 A := rfl
theorem zd_d2_uJ (A : zd_A) (F a b : Nat) (x : Int64) : zd_d2 (zd_uJ A F a b x) = zd_d2 A := rfl
theorem zd_O_uN (A : zd_A) (F a b : Nat) (x : Nat) : zd_O (zd_uN A F a b x) = if 15 = F ∧ 0 = a ∧ 0 = b then x else zd_O A := rfl
theorem zd_O_uI (A : zd_A) (F a b : Nat) (x : Int32) : zd_O (zd_uI A F a b x) = zd_O A := rfl
theorem zd_O_uJ (A : zd_A) (F a b : Nat) (x : Int64) : zd_O (zd_uJ A F a b x) = zd_O A := rfl
theorem zd_ty_uN (A : zd_A) (F a b : Nat) (x : Nat) (i : Nat) : zd_ty (zd_uN A F a b x) i = if 16 = F ∧ i = a ∧ 0 = b then x else zd_ty A i := rfl
theorem zd_ty_uI (A : zd_A) (F a b : Nat) (x : Int32) (i : Nat) : zd_ty (zd_uI A F a b x) i = zd_ty A i := rfl
theorem zd_ty_uJ (A : zd_A) (F a b : Nat) (x : Int64) (i : Nat) : zd_ty (zd_uJ A F a b x) i = zd_ty A i := rfl
theorem zd_ln_uN (A : zd_A) (F a b : Nat) (x : Nat) (i : Nat) : zd_ln (zd_uN A F a b x) i = if 17 = F ∧ i = a ∧ 0 = b then x else zd_ln A i := rfl
theorem zd_ln_uI (A : zd_A) (F a b : Nat) (x : Int32) (i : Nat) : zd_ln (zd_uI A F a b x) i = zd_ln A i := rfl
theorem zd_ln_uJ (A : zd_A) (F a b : Nat) (x : Int64) (i : Nat) : zd_ln (zd_uJ A F a b x) i = zd_ln A i := rfl
theorem zd_vl_uN (A : zd_A) (F a b : Nat) (x : Nat) (i : Nat) (j : Nat) : zd_vl (zd_uN A F a b x) i j = zd_vl A i j := rfl
theorem zd_vl_uI (A : zd_A) (F a b : Nat) (x : Int32) (i : Nat) (j : Nat) : zd_vl (zd_uI A F a b x) i j = zd_vl A i j := rfl
theorem zd_vl_uJ (A : zd_A) (F a b : Nat) (x : Int64) (i : Nat) (j : Nat) : zd_vl (zd_uJ A F a b x) i j = if 1 = F ∧ i = a ∧ j = b then x else zd_vl A i j := rfl
/-- the class's cells tell it -/
def zd_Cc (A : zd_A) (h : zx_H) : Nat → Prop
  | 0 => h.1 0 0 5 = nI (zd_B A)
  | 1 => h.1 1 0 5 = nI (zd_T A)
  | 2 => ∀ t, 15 ≤ t → t < (zd_T A) → h.1 2 0 t = nI (zd_srt A t - 2)
  | 3 => ∀ t, t < (zd_T A) → zd_srt A t = 5 → h.1 3 0 t = nI (zd_of A t)
  | 4 => ∀ t, t < 40 → h.1 4 0 t = nI (zd_sz A t)
  | 5 => ∀ t k, t < (zd_T A) → k < zd_sz A t → h.1 5 0 (8 * t + k) = nI (zd_nm A t k)
  | 6 => ∀ t k, t < (zd_T A) → k < zd_sz A t → zd_srt A t = 4 → h.1 6 0 (8 * t + k) = nI (zd_pt A t k)
  | 7 => h.1 11 0 2 = nI (zd_F A)
  | 8 => h.1 11 0 3 = nI (zd_M A)
  | 9 => ∀ m, m < (zd_M A) → h.1 54 m 0 = nI (zd_mf A m)
  | 10 => ∀ m, m < (zd_M A) → h.1 54 m 1 = nI (zd_mt A m)
  | 11 => ∀ m, m < 16 → h.1 54 m 2 = nI (zd_rc A m)
  | 12 => ∀ m r, m < (zd_M A) → r < zd_rc A m → h.1 55 m r = nI (zd_kd A m r)
  | 13 => ∀ m r, m < (zd_M A) → r < zd_rc A m → h.1 56 m r = zd_tg A m r
  | 14 => ∀ m r, m < (zd_M A) → r < zd_rc A m → h.2 57 m r = zd_wh A m r
  | 15 => ∀ f, f < (zd_F A) → h.1 53 f 0 = nI (zd_ff A f)
  | 16 => ∀ f, f < (zd_F A) → h.1 53 f 1 = nI (zd_ft A f)
  | 17 => ∀ f, f < (zd_F A) → h.1 53 f 2 = zd_fa A f
  | 18 => ∀ f, f < (zd_F A) → h.1 53 f 3 = zd_fb A f
  | 19 => h.1 16 0 4 = (zd_d0 A)
  | 20 => h.1 16 0 5 = (zd_d1 A)
  | 21 => h.1 16 0 6 = (zd_d2 A)
  | 22 => h.1 7 0 4 = nI (zd_O A)
  | 23 => ∀ o, o < (zd_O A) → h.1 8 0 o = nI (zd_ty A o)
  | 24 => ∀ o, o < (zd_O A) → h.1 9 0 o = nI (zd_ln A o)
  | 25 => ∀ o k, o < (zd_O A) → k < zd_ln A o → h.2 10 0 (24 * o + k) = zd_vl A o k
  | _ => True
def zd_C (A : zd_A) (h : zx_H) : Prop := ∀ k, zd_Cc A h k
theorem zd_C_B {A : zd_A} {h : zx_H} (H : zd_C A h) : h.1 0 0 5 = nI (zd_B A) := H 0
theorem zd_C_T {A : zd_A} {h : zx_H} (H : zd_C A h) : h.1 1 0 5 = nI (zd_T A) := H 1
theorem zd_C_form {A : zd_A} {h : zx_H} (H : zd_C A h) : ∀ t, 15 ≤ t → t < (zd_T A) → h.1 2 0 t = nI (zd_srt A t - 2) := H 2
theorem zd_C_of {A : zd_A} {h : zx_H} (H : zd_C A h) : ∀ t, t < (zd_T A) → zd_srt A t = 5 → h.1 3 0 t = nI (zd_of A t) := H 3
theorem zd_C_sz {A : zd_A} {h : zx_H} (H : zd_C A h) : ∀ t, t < 40 → h.1 4 0 t = nI (zd_sz A t) := H 4
theorem zd_C_nm {A : zd_A} {h : zx_H} (H : zd_C A h) : ∀ t k, t < (zd_T A) → k < zd_sz A t → h.1 5 0 (8 * t + k) = nI (zd_nm A t k) := H 5
theorem zd_C_pt {A : zd_A} {h : zx_H} (H : zd_C A h) : ∀ t k, t < (zd_T A) → k < zd_sz A t → zd_srt A t = 4 → h.1 6 0 (8 * t + k) = nI (zd_pt A t k) := H 6
theorem zd_C_F {A : zd_A} {h : zx_H} (H : zd_C A h) : h.1 11 0 2 = nI (zd_F A) := H 7
theorem zd_C_M {A : zd_A} {h : zx_H} (H : zd_C A h) : h.1 11 0 3 = nI (zd_M A) := H 8
theorem zd_C_mf {A : zd_A} {h : zx_H} (H : zd_C A h) : ∀ m, m < (zd_M A) → h.1 54 m 0 = nI (zd_mf A m) := H 9
theorem zd_C_mt {A : zd_A} {h : zx_H} (H : zd_C A h) : ∀ m, m < (zd_M A) → h.1 54 m 1 = nI (zd_mt A m) := H 10
theorem zd_C_rc {A : zd_A} {h : zx_H} (H : zd_C A h) : ∀ m, m < 16 → h.1 54 m 2 = nI (zd_rc A m) := H 11
theorem zd_C_kd {A : zd_A} {h : zx_H} (H : zd_C A h) : ∀ m r, m < (zd_M A) → r < zd_rc A m → h.1 55 m r = nI (zd_kd A m r) := H 12
theorem zd_C_tg {A : zd_A} {h : zx_H} (H : zd_C A h) : ∀ m r, m < (zd_M A) → r < zd_rc A m → h.1 56 m r = zd_tg A m r := H 13
theorem zd_C_wh {A : zd_A} {h : zx_H} (H : zd_C A h) : ∀ m r, m < (zd_M A) → r < zd_rc A m → h.2 57 m r = zd_wh A m r := H 14
theorem zd_C_ff {A : zd_A} {h : zx_H} (H : zd_C A h) : ∀ f, f < (zd_F A) → h.1 53 f 0 = nI (zd_ff A f) := H 15
theorem zd_C_ft {A : zd_A} {h : zx_H} (H : zd_C A h) : ∀ f, f < (zd_F A) → h.1 53 f 1 = nI (zd_ft A f) := H 16
theorem zd_C_fa {A : zd_A} {h : zx_H} (H : zd_C A h) : ∀ f, f < (zd_F A) → h.1 53 f 2 = zd_fa A f := H 17
theorem zd_C_fb {A : zd_A} {h : zx_H} (H : zd_C A h) : ∀ f, f < (zd_F A) → h.1 53 f 3 = zd_fb A f := H 18
theorem zd_C_d0 {A : zd_A} {h : zx_H} (H : zd_C A h) : h.1 16 0 4 = (zd_d0 A) := H 19
theorem zd_C_d1 {A : zd_A} {h : zx_H} (H : zd_C A h) : h.1 16 0 5 = (zd_d1 A) := H 20
theorem zd_C_d2 {A : zd_A} {h : zx_H} (H : zd_C A h) : h.1 16 0 6 = (zd_d2 A) := H 21
theorem zd_C_O {A : zd_A} {h : zx_H} (H : zd_C A h) : h.1 7 0 4 = nI (zd_O A) := H 22
theorem zd_C_ty {A : zd_A} {h : zx_H} (H : zd_C A h) : ∀ o, o < (zd_O A) → h.1 8 0 o = nI (zd_ty A o) := H 23
theorem zd_C_ln {A : zd_A} {h : zx_H} (H : zd_C A h) : ∀ o, o < (zd_O A) → h.1 9 0 o = nI (zd_ln A o) := H 24
theorem zd_C_vl {A : zd_A} {h : zx_H} (H : zd_C A h) : ∀ o k, o < (zd_O A) → k < zd_ln A o → h.2 10 0 (24 * o + k) = zd_vl A o k := H 25
/-- the reference's cells tell it -/
def zd_Rc (A : zd_A) (h : zx_H) : Nat → Prop
  | 0 => h.1 24 0 1 = nI (zd_B A)
  | 1 => h.1 24 0 2 = nI (zd_T A)
  | 2 => ∀ t, t < (zd_T A) → h.1 25 0 t = nI (zd_srt A t)
  | 3 => ∀ t, t < (zd_T A) → h.1 26 0 t = nI (zd_sz A t)
  | 4 => ∀ t k, t < (zd_T A) → k < zd_sz A t → h.1 27 0 (8 * t + k) = nI (zd_nm A t k)
  | 5 => ∀ t k, t < (zd_T A) → k < zd_sz A t → zd_srt A t = 4 → h.1 28 0 (8 * t + k) = nI (zd_pt A t k)
  | 6 => ∀ t, t < (zd_T A) → zd_srt A t = 5 → h.1 29 0 t = nI (zd_of A t)
  | 7 => h.1 24 0 8 = nI (zd_M A)
  | 8 => ∀ m, m < (zd_M A) → h.1 30 0 m = nI (zd_mf A m)
  | 9 => ∀ m, m < (zd_M A) → h.1 31 0 m = nI (zd_mt A m)
  | 10 => ∀ m, m < 16 → h.1 32 0 m = nI (zd_rc A m)
  | 11 => ∀ m r, m < (zd_M A) → r < zd_rc A m → h.1 33 0 (24 * m + r) = nI (zd_kd A m r)
  | 12 => ∀ m r, m < (zd_M A) → r < zd_rc A m → h.1 34 0 (24 * m + r) = zd_tg A m r
  | 13 => ∀ m r, m < (zd_M A) → r < zd_rc A m → h.2 35 0 (24 * m + r) = zd_wh A m r
  | 14 => h.1 24 0 15 = nI (zd_F A)
  | 15 => ∀ f, f < (zd_F A) → h.1 36 0 f = nI (zd_ff A f)
  | 16 => ∀ f, f < (zd_F A) → h.1 37 0 f = nI (zd_ft A f)
  | 17 => ∀ f, f < (zd_F A) → h.1 38 0 f = zd_fa A f
  | 18 => ∀ f, f < (zd_F A) → h.1 39 0 f = zd_fb A f
  | 19 => h.1 24 0 20 = (zd_d0 A)
  | 20 => h.1 24 0 21 = (zd_d1 A)
  | 21 => h.1 24 0 22 = (zd_d2 A)
  | 22 => h.1 24 0 23 = nI (zd_O A)
  | 23 => ∀ o, o < (zd_O A) → h.1 40 0 o = nI (zd_ty A o)
  | 24 => ∀ o, o < (zd_O A) → h.1 41 0 o = nI (zd_ln A o)
  | 25 => ∀ o k, o < (zd_O A) → k < zd_ln A o → zd_ty A o ≠ 14 → h.2 42 0 (16 * o + k) = zd_vl A o k
  | 26 => ∀ o k, o < (zd_O A) → k < zd_ln A o → zd_ty A o = 14 → (h.1 43 0 (24 * o + k)).toInt64 = zd_vl A o k
  | _ => True
def zd_R (A : zd_A) (h : zx_H) : Prop := ∀ k, zd_Rc A h k
theorem zd_R_B {A : zd_A} {h : zx_H} (H : zd_R A h) : h.1 24 0 1 = nI (zd_B A) := H 0
theorem zd_R_T {A : zd_A} {h : zx_H} (H : zd_R A h) : h.1 24 0 2 = nI (zd_T A) := H 1
theorem zd_R_srt {A : zd_A} {h : zx_H} (H : zd_R A h) : ∀ t, t < (zd_T A) → h.1 25 0 t = nI (zd_srt A t) := H 2
theorem zd_R_sz {A : zd_A} {h : zx_H} (H : zd_R A h) : ∀ t, t < (zd_T A) → h.1 26 0 t = nI (zd_sz A t) := H 3
theorem zd_R_nm {A : zd_A} {h : zx_H} (H : zd_R A h) : ∀ t k, t < (zd_T A) → k < zd_sz A t → h.1 27 0 (8 * t + k) = nI (zd_nm A t k) := H 4
theorem zd_R_pt {A : zd_A} {h : zx_H} (H : zd_R A h) : ∀ t k, t < (zd_T A) → k < zd_sz A t → zd_srt A t = 4 → h.1 28 0 (8 * t + k) = nI (zd_pt A t k) := H 5
theorem zd_R_of {A : zd_A} {h : zx_H} (H : zd_R A h) : ∀ t, t < (zd_T A) → zd_srt A t = 5 → h.1 29 0 t = nI (zd_of A t) := H 6
theorem zd_R_M {A : zd_A} {h : zx_H} (H : zd_R A h) : h.1 24 0 8 = nI (zd_M A) := H 7
theorem zd_R_mf {A : zd_A} {h : zx_H} (H : zd_R A h) : ∀ m, m < (zd_M A) → h.1 30 0 m = nI (zd_mf A m) := H 8
theorem zd_R_mt {A : zd_A} {h : zx_H} (H : zd_R A h) : ∀ m, m < (zd_M A) → h.1 31 0 m = nI (zd_mt A m) := H 9
theorem zd_R_rc {A : zd_A} {h : zx_H} (H : zd_R A h) : ∀ m, m < 16 → h.1 32 0 m = nI (zd_rc A m) := H 10
theorem zd_R_kd {A : zd_A} {h : zx_H} (H : zd_R A h) : ∀ m r, m < (zd_M A) → r < zd_rc A m → h.1 33 0 (24 * m + r) = nI (zd_kd A m r) := H 11
theorem zd_R_tg {A : zd_A} {h : zx_H} (H : zd_R A h) : ∀ m r, m < (zd_M A) → r < zd_rc A m → h.1 34 0 (24 * m + r) = zd_tg A m r := H 12
theorem zd_R_wh {A : zd_A} {h : zx_H} (H : zd_R A h) : ∀ m r, m < (zd_M A) → r < zd_rc A m → h.2 35 0 (24 * m + r) = zd_wh A m r := H 13
theorem zd_R_F {A : zd_A} {h : zx_H} (H : zd_R A h) : h.1 24 0 15 = nI (zd_F A) := H 14
theorem zd_R_ff {A : zd_A} {h : zx_H} (H : zd_R A h) : ∀ f, f < (zd_F A) → h.1 36 0 f = nI (zd_ff A f) := H 15
theorem zd_R_ft {A : zd_A} {h : zx_H} (H : zd_R A h) : ∀ f, f < (zd_F A) → h.1 37 0 f = nI (zd_ft A f) := H 16
theorem zd_R_fa {A : zd_A} {h : zx_H} (H : zd_R A h) : ∀ f, f < (zd_F A) → h.1 38 0 f = zd_fa A f := H 17
theorem zd_R_fb {A : zd_A} {h : zx_H} (H : zd_R A h) : ∀ f, f < (zd_F A) → h.1 39 0 f = zd_fb A f := H 18
theorem zd_R_d0 {A : zd_A} {h : zx_H} (H : zd_R A h) : h.1 24 0 20 = (zd_d0 A) := H 19
theorem zd_R_d1 {A : zd_A} {h : zx_H} (H : zd_R A h) : h.1 24 0 21 = (zd_d1 A) := H 20
theorem zd_R_d2 {A : zd_A} {h : zx_H} (H : zd_R A h) : h.1 24 0 22 = (zd_d2 A) := H 21
theorem zd_R_O {A : zd_A} {h : zx_H} (H : zd_R A h) : h.1 24 0 23 = nI (zd_O A) := H 22
theorem zd_R_ty {A : zd_A} {h : zx_H} (H : zd_R A h) : ∀ o, o < (zd_O A) → h.1 40 0 o = nI (zd_ty A o) := H 23
theorem zd_R_ln {A : zd_A} {h : zx_H} (H : zd_R A h) : ∀ o, o < (zd_O A) → h.1 41 0 o = nI (zd_ln A o) := H 24
theorem zd_R_vl {A : zd_A} {h : zx_H} (H : zd_R A h) : ∀ o k, o < (zd_O A) → k < zd_ln A o → zd_ty A o ≠ 14 → h.2 42 0 (16 * o + k) = zd_vl A o k := H 25
theorem zd_R_ch {A : zd_A} {h : zx_H} (H : zd_R A h) : ∀ o k, o < (zd_O A) → k < zd_ln A o → zd_ty A o = 14 → (h.1 43 0 (24 * o + k)).toInt64 = zd_vl A o k := H 26
/-- a value of a type -/
def zd_val (A : zd_A) (t : Nat) (v : Int64) : Prop :=
  if t < 7 then (if t = 6 then (v &&& 9223372036854775807) ≤ 9218868437227405312 else
    (if t = 0 then -128 ≤ v ∧ v ≤ 127 else if t = 1 then -32768 ≤ v ∧ v ≤ 32767 else if t = 2 then 0 ≤ v ∧ v ≤ 65535 else if t = 3 then -2147483648 ≤ v ∧ v ≤ 2147483647 else if t = 5 then 0 ≤ v ∧ v ≤ 1 else True))
  else v = -1 ∨ (zd_srt A t = 3 ∧ ∃ k, k < zd_sz A t ∧ v = lN k) ∨ (zd_srt A t ≠ 3 ∧ ∃ o, o < (zd_O A) ∧ zd_ty A o = t ∧ v = lN o)
/-- what always holds of it -/
def zd_okc (A : zd_A) : Nat → Prop
  | 0 => 15 ≤ (zd_T A) ∧ (zd_T A) ≤ 40
  | 1 => ∀ t, t < 7 → zd_srt A t = 0
  | 2 => ∀ t, 7 ≤ t → t < 14 → zd_srt A t = 1
  | 3 => zd_srt A 14 = 2
  | 4 => ∀ t, 15 ≤ t → t < (zd_T A) → zd_srt A t = 3 ∨ zd_srt A t = 4 ∨ zd_srt A t = 5
  | 5 => ∀ t, t < 40 → zd_sz A t ≤ 8
  | 6 => ∀ t, t < 40 → 0 < zd_sz A t → t < (zd_T A) ∧ (zd_srt A t = 3 ∨ zd_srt A t = 4)
  | 7 => ∀ t k, t < (zd_T A) → k < zd_sz A t → zd_nm A t k < 64
  | 8 => ∀ t j k, t < (zd_T A) → j < zd_sz A t → k < zd_sz A t → zd_nm A t j = zd_nm A t k → j = k
  | 9 => ∀ t k, t < (zd_T A) → k < zd_sz A t → zd_srt A t = 4 → zd_pt A t k < (zd_T A)
  | 10 => ∀ t, t < (zd_T A) → zd_srt A t = 5 → 7 ≤ zd_of A t ∧ zd_of A t < t
  | 11 => (zd_M A) ≤ 16
  | 12 => ∀ m, m < (zd_M A) → zd_mf A m < (zd_T A) ∧ zd_mt A m < (zd_T A) ∧ (zd_srt A (zd_mf A m) = 4 ∧ zd_srt A (zd_mt A m) = 4 ∨ zd_srt A (zd_mf A m) = 3 ∧ zd_srt A (zd_mt A m) = 3)
  | 13 => ∀ m, m < 16 → zd_rc A m ≤ 24
  | 14 => ∀ m, (zd_M A) ≤ m → m < 16 → zd_rc A m = 0
  | 15 => ∀ m r, m < (zd_M A) → r < zd_rc A m → zd_kd A m r ≤ 8
  | 16 => (zd_F A) ≤ 8
  | 17 => ∀ f, f < (zd_F A) → zd_ff A f < 14 ∧ zd_ff A f ≠ 6 ∧ zd_ff A f ≠ 13
  | 18 => ∀ f, f < (zd_F A) → zd_ft A f < 14 ∧ zd_ft A f ≠ 6 ∧ zd_ft A f ≠ 13
  | 19 => (zd_O A) ≤ 400
  | 20 => ∀ o, o < (zd_O A) → 7 ≤ zd_ty A o ∧ zd_ty A o < (zd_T A) ∧ zd_srt A (zd_ty A o) ≠ 3
  | 21 => ∀ o, o < (zd_O A) → zd_srt A (zd_ty A o) = 1 → zd_ln A o = 1 ∧ zd_val A (zd_ty A o - 7) (zd_vl A o 0)
  | 22 => ∀ o, o < (zd_O A) → zd_srt A (zd_ty A o) = 2 → zd_ln A o ≤ 24 ∧ ∀ k, k < zd_ln A o → ∃ c, c < 65536 ∧ zd_vl A o k = lN c
  | 23 => ∀ o, o < (zd_O A) → zd_srt A (zd_ty A o) = 4 → zd_ln A o = zd_sz A (zd_ty A o) ∧ ∀ k, k < zd_ln A o → zd_val A (zd_pt A (zd_ty A o) k) (zd_vl A o k)
  | 24 => ∀ o, o < (zd_O A) → zd_srt A (zd_ty A o) = 5 → zd_ln A o ≤ 16 ∧ ∀ k, k < zd_ln A o → zd_val A (zd_of A (zd_ty A o)) (zd_vl A o k)
  | 25 => (zd_B A) ≤ 1
  | _ => True
def zd_ok (A : zd_A) : Prop := ∀ k, zd_okc A k
theorem zd_ok_B {A : zd_A} (H : zd_ok A) : (zd_B A) ≤ 1 := H 25
theorem zd_ok_T {A : zd_A} (H : zd_ok A) : 15 ≤ (zd_T A) ∧ (zd_T A) ≤ 40 := H 0
theorem zd_ok_s0 {A : zd_A} (H : zd_ok A) : ∀ t, t < 7 → zd_srt A t = 0 := H 1
theorem zd_ok_s1 {A : zd_A} (H : zd_ok A) : ∀ t, 7 ≤ t → t < 14 → zd_srt A t = 1 := H 2
theorem zd_ok_s2 {A : zd_A} (H : zd_ok A) : zd_srt A 14 = 2 := H 3
theorem zd_ok_s3 {A : zd_A} (H : zd_ok A) : ∀ t, 15 ≤ t → t < (zd_T A) → zd_srt A t = 3 ∨ zd_srt A t = 4 ∨ zd_srt A t = 5 := H 4
theorem zd_ok_sz {A : zd_A} (H : zd_ok A) : ∀ t, t < 40 → zd_sz A t ≤ 8 := H 5
theorem zd_ok_sz0 {A : zd_A} (H : zd_ok A) : ∀ t, t < 40 → 0 < zd_sz A t → t < (zd_T A) ∧ (zd_srt A t = 3 ∨ zd_srt A t = 4) := H 6
theorem zd_ok_nm {A : zd_A} (H : zd_ok A) : ∀ t k, t < (zd_T A) → k < zd_sz A t → zd_nm A t k < 64 := H 7
theorem zd_ok_nm1 {A : zd_A} (H : zd_ok A) : ∀ t j k, t < (zd_T A) → j < zd_sz A t → k < zd_sz A t → zd_nm A t j = zd_nm A t k → j = k := H 8
theorem zd_ok_pt {A : zd_A} (H : zd_ok A) : ∀ t k, t < (zd_T A) → k < zd_sz A t → zd_srt A t = 4 → zd_pt A t k < (zd_T A) := H 9
theorem zd_ok_of {A : zd_A} (H : zd_ok A) : ∀ t, t < (zd_T A) → zd_srt A t = 5 → 7 ≤ zd_of A t ∧ zd_of A t < t := H 10
theorem zd_ok_M {A : zd_A} (H : zd_ok A) : (zd_M A) ≤ 16 := H 11
theorem zd_ok_m {A : zd_A} (H : zd_ok A) : ∀ m, m < (zd_M A) → zd_mf A m < (zd_T A) ∧ zd_mt A m < (zd_T A) ∧ (zd_srt A (zd_mf A m) = 4 ∧ zd_srt A (zd_mt A m) = 4 ∨ zd_srt A (zd_mf A m) = 3 ∧ zd_srt A (zd_mt A m) = 3) := H 12
theorem zd_ok_rc {A : zd_A} (H : zd_ok A) : ∀ m, m < 16 → zd_rc A m ≤ 24 := H 13
theorem zd_ok_rc0 {A : zd_A} (H : zd_ok A) : ∀ m, (zd_M A) ≤ m → m < 16 → zd_rc A m = 0 := H 14
theorem zd_ok_kd {A : zd_A} (H : zd_ok A) : ∀ m r, m < (zd_M A) → r < zd_rc A m → zd_kd A m r ≤ 8 := H 15
theorem zd_ok_F {A : zd_A} (H : zd_ok A) : (zd_F A) ≤ 8 := H 16
theorem zd_ok_ff {A : zd_A} (H : zd_ok A) : ∀ f, f < (zd_F A) → zd_ff A f < 14 ∧ zd_ff A f ≠ 6 ∧ zd_ff A f ≠ 13 := H 17
theorem zd_ok_ft {A : zd_A} (H : zd_ok A) : ∀ f, f < (zd_F A) → zd_ft A f < 14 ∧ zd_ft A f ≠ 6 ∧ zd_ft A f ≠ 13 := H 18
theorem zd_ok_O {A : zd_A} (H : zd_ok A) : (zd_O A) ≤ 400 := H 19
theorem zd_ok_ty {A : zd_A} (H : zd_ok A) : ∀ o, o < (zd_O A) → 7 ≤ zd_ty A o ∧ zd_ty A o < (zd_T A) ∧ zd_srt A (zd_ty A o) ≠ 3 := H 20
theorem zd_ok_l1 {A : zd_A} (H : zd_ok A) : ∀ o, o < (zd_O A) → zd_srt A (zd_ty A o) = 1 → zd_ln A o = 1 ∧ zd_val A (zd_ty A o - 7) (zd_vl A o 0) := H 21
theorem zd_ok_l2 {A : zd_A} (H : zd_ok A) : ∀ o, o < (zd_O A) → zd_srt A (zd_ty A o) = 2 → zd_ln A o ≤ 24 ∧ ∀ k, k < zd_ln A o → ∃ c, c < 65536 ∧ zd_vl A o k = lN c := H 22
theorem zd_ok_l4 {A : zd_A} (H : zd_ok A) : ∀ o, o < (zd_O A) → zd_srt A (zd_ty A o) = 4 → zd_ln A o = zd_sz A (zd_ty A o) ∧ ∀ k, k < zd_ln A o → zd_val A (zd_pt A (zd_ty A o) k) (zd_vl A o k) := H 23
theorem zd_ok_l5 {A : zd_A} (H : zd_ok A) : ∀ o, o < (zd_O A) → zd_srt A (zd_ty A o) = 5 → zd_ln A o ≤ 16 ∧ ∀ k, k < zd_ln A o → zd_val A (zd_of A (zd_ty A o)) (zd_vl A o k) := H 24
theorem zd_C_same {A : zd_A} {h hk : zx_H} (s : zd_sC h hk) (H : zd_C A h) : zd_C A hk := by
  have a : ∀ F, ¬ zd_fr F → hk.1 F = h.1 F := fun F hF => (s F hF).1
  have b : ∀ F, ¬ zd_fr F → hk.2 F = h.2 F := fun F hF => (s F hF).2
  intro q
  match q with
  | 0 => exact (show hk.1 0 0 5 = nI (zd_B A) from by rw [a 0 (by unfold zd_fr; decide)]; exact zd_C_B H)
  | 1 => exact (show hk.1 1 0 5 = nI (zd_T A) from by rw [a 1 (by unfold zd_fr; decide)]; exact zd_C_T H)
  | 2 => exact (show ∀ t, 15 ≤ t → t < (zd_T A) → hk.1 2 0 t = nI (zd_srt A t - 2) from by intro t; rw [a 2 (by unfold zd_fr; decide)]; exact zd_C_form H t)
  | 3 => exact (show ∀ t, t < (zd_T A) → zd_srt A t = 5 → hk.1 3 0 t = nI (zd_of A t) from by intro t; rw [a 3 (by unfold zd_fr; decide)]; exact zd_C_of H t)
  | 4 => exact (show ∀ t, t < 40 → hk.1 4 0 t = nI (zd_sz A t) from by intro t; rw [a 4 (by unfold zd_fr; decide)]; exact zd_C_sz H t)
  | 5 => exact (show ∀ t k, t < (zd_T A) → k < zd_sz A t → hk.1 5 0 (8 * t + k) = nI (zd_nm A t k) from by intro t k; rw [a 5 (by unfold zd_fr; decide)]; exact zd_C_nm H t k)
  | 6 => exact (show ∀ t k, t < (zd_T A) → k < zd_sz A t → zd_srt A t = 4 → hk.1 6 0 (8 * t + k) = nI (zd_pt A t k) from by intro t k; rw [a 6 (by unfold zd_fr; decide)]; exact zd_C_pt H t k)
  | 7 => exact (show hk.1 11 0 2 = nI (zd_F A) from by rw [a 11 (by unfold zd_fr; decide)]; exact zd_C_F H)
  | 8 => exact (show hk.1 11 0 3 = nI (zd_M A) from by rw [a 11 (by unfold zd_fr; decide)]; exact zd_C_M H)
  | 9 => exact (show ∀ m, m < (zd_M A) → hk.1 54 m 0 = nI (zd_mf A m) from by intro m; rw [a 54 (by unfold zd_fr; decide)]; exact zd_C_mf H m)
  | 10 => exact (show ∀ m, m < (zd_M A) → hk.1 54 m 1 = nI (zd_mt A m) from by intro m; rw [a 54 (by unfold zd_fr; decide)]; exact zd_C_mt H m)
  | 11 => exact (show ∀ m, m < 16 → hk.1 54 m 2 = nI (zd_rc A m) from by intro m; rw [a 54 (by unfold zd_fr; decide)]; exact zd_C_rc H m)
  | 12 => exact (show ∀ m r, m < (zd_M A) → r < zd_rc A m → hk.1 55 m r = nI (zd_kd A m r) from by intro m r; rw [a 55 (by unfold zd_fr; decide)]; exact zd_C_kd H m r)
  | 13 => exact (show ∀ m r, m < (zd_M A) → r < zd_rc A m → hk.1 56 m r = zd_tg A m r from by intro m r; rw [a 56 (by unfold zd_fr; decide)]; exact zd_C_tg H m r)
  | 14 => exact (show ∀ m r, m < (zd_M A) → r < zd_rc A m → hk.2 57 m r = zd_wh A m r from by intro m r; rw [b 57 (by unfold zd_fr; decide)]; exact zd_C_wh H m r)
  | 15 => exact (show ∀ f, f < (zd_F A) → hk.1 53 f 0 = nI (zd_ff A f) from by intro f; rw [a 53 (by unfold zd_fr; decide)]; exact zd_C_ff H f)
  | 16 => exact (show ∀ f, f < (zd_F A) → hk.1 53 f 1 = nI (zd_ft A f) from by intro f; rw [a 53 (by unfold zd_fr; decide)]; exact zd_C_ft H f)
  | 17 => exact (show ∀ f, f < (zd_F A) → hk.1 53 f 2 = zd_fa A f from by intro f; rw [a 53 (by unfold zd_fr; decide)]; exact zd_C_fa H f)
  | 18 => exact (show ∀ f, f < (zd_F A) → hk.1 53 f 3 = zd_fb A f from by intro f; rw [a 53 (by unfold zd_fr; decide)]; exact zd_C_fb H f)
  | 19 => exact (show hk.1 16 0 4 = (zd_d0 A) from by rw [a 16 (by unfold zd_fr; decide)]; exact zd_C_d0 H)
  | 20 => exact (show hk.1 16 0 5 = (zd_d1 A) from by rw [a 16 (by unfold zd_fr; decide)]; exact zd_C_d1 H)
  | 21 => exact (show hk.1 16 0 6 = (zd_d2 A) from by rw [a 16 (by unfold zd_fr; decide)]; exact zd_C_d2 H)
  | 22 => exact (show hk.1 7 0 4 = nI (zd_O A) from by rw [a 7 (by unfold zd_fr; decide)]; exact zd_C_O H)
  | 23 => exact (show ∀ o, o < (zd_O A) → hk.1 8 0 o = nI (zd_ty A o) from by intro o; rw [a 8 (by unfold zd_fr; decide)]; exact zd_C_ty H o)
  | 24 => exact (show ∀ o, o < (zd_O A) → hk.1 9 0 o = nI (zd_ln A o) from by intro o; rw [a 9 (by unfold zd_fr; decide)]; exact zd_C_ln H o)
  | 25 => exact (show ∀ o k, o < (zd_O A) → k < zd_ln A o → hk.2 10 0 (24 * o + k) = zd_vl A o k from by intro o k; rw [b 10 (by unfold zd_fr; decide)]; exact zd_C_vl H o k)
  | _ + 26 => exact trivial
theorem zd_R_same {A : zd_A} {h hk : zx_H} (s : zd_sR h hk) (H : zd_R A h) : zd_R A hk := by
  have a : ∀ F, zd_fr F → hk.1 F = h.1 F := fun F hF => (s F hF).1
  have b : ∀ F, zd_fr F → hk.2 F = h.2 F := fun F hF => (s F hF).2
  intro q
  match q with
  | 0 => exact (show hk.1 24 0 1 = nI (zd_B A) from by rw [a 24 (by unfold zd_fr; decide)]; exact zd_R_B H)
  | 1 => exact (show hk.1 24 0 2 = nI (zd_T A) from by rw [a 24 (by unfold zd_fr; decide)]; exact zd_R_T H)
  | 2 => exact (show ∀ t, t < (zd_T A) → hk.1 25 0 t = nI (zd_srt A t) from by intro t; rw [a 25 (by unfold zd_fr; decide)]; exact zd_R_srt H t)
  | 3 => exact (show ∀ t, t < (zd_T A) → hk.1 26 0 t = nI (zd_sz A t) from by intro t; rw [a 26 (by unfold zd_fr; decide)]; exact zd_R_sz H t)
  | 4 => exact (show ∀ t k, t < (zd_T A) → k < zd_sz A t → hk.1 27 0 (8 * t + k) = nI (zd_nm A t k) from by intro t k; rw [a 27 (by unfold zd_fr; decide)]; exact zd_R_nm H t k)
  | 5 => exact (show ∀ t k, t < (zd_T A) → k < zd_sz A t → zd_srt A t = 4 → hk.1 28 0 (8 * t + k) = nI (zd_pt A t k) from by intro t k; rw [a 28 (by unfold zd_fr; decide)]; exact zd_R_pt H t k)
  | 6 => exact (show ∀ t, t < (zd_T A) → zd_srt A t = 5 → hk.1 29 0 t = nI (zd_of A t) from by intro t; rw [a 29 (by unfold zd_fr; decide)]; exact zd_R_of H t)
  | 7 => exact (show hk.1 24 0 8 = nI (zd_M A) from by rw [a 24 (by unfold zd_fr; decide)]; exact zd_R_M H)
  | 8 => exact (show ∀ m, m < (zd_M A) → hk.1 30 0 m = nI (zd_mf A m) from by intro m; rw [a 30 (by unfold zd_fr; decide)]; exact zd_R_mf H m)
  | 9 => exact (show ∀ m, m < (zd_M A) → hk.1 31 0 m = nI (zd_mt A m) from by intro m; rw [a 31 (by unfold zd_fr; decide)]; exact zd_R_mt H m)
  | 10 => exact (show ∀ m, m < 16 → hk.1 32 0 m = nI (zd_rc A m) from by intro m; rw [a 32 (by unfold zd_fr; decide)]; exact zd_R_rc H m)
  | 11 => exact (show ∀ m r, m < (zd_M A) → r < zd_rc A m → hk.1 33 0 (24 * m + r) = nI (zd_kd A m r) from by intro m r; rw [a 33 (by unfold zd_fr; decide)]; exact zd_R_kd H m r)
  | 12 => exact (show ∀ m r, m < (zd_M A) → r < zd_rc A m → hk.1 34 0 (24 * m + r) = zd_tg A m r from by intro m r; rw [a 34 (by unfold zd_fr; decide)]; exact zd_R_tg H m r)
  | 13 => exact (show ∀ m r, m < (zd_M A) → r < zd_rc A m → hk.2 35 0 (24 * m + r) = zd_wh A m r from by intro m r; rw [b 35 (by unfold zd_fr; decide)]; exact zd_R_wh H m r)
  | 14 => exact (show hk.1 24 0 15 = nI (zd_F A) from by rw [a 24 (by unfold zd_fr; decide)]; exact zd_R_F H)
  | 15 => exact (show ∀ f, f < (zd_F A) → hk.1 36 0 f = nI (zd_ff A f) from by intro f; rw [a 36 (by unfold zd_fr; decide)]; exact zd_R_ff H f)
  | 16 => exact (show ∀ f, f < (zd_F A) → hk.1 37 0 f = nI (zd_ft A f) from by intro f; rw [a 37 (by unfold zd_fr; decide)]; exact zd_R_ft H f)
  | 17 => exact (show ∀ f, f < (zd_F A) → hk.1 38 0 f = zd_fa A f from by intro f; rw [a 38 (by unfold zd_fr; decide)]; exact zd_R_fa H f)
  | 18 => exact (show ∀ f, f < (zd_F A) → hk.1 39 0 f = zd_fb A f from by intro f; rw [a 39 (by unfold zd_fr; decide)]; exact zd_R_fb H f)
  | 19 => exact (show hk.1 24 0 20 = (zd_d0 A) from by rw [a 24 (by unfold zd_fr; decide)]; exact zd_R_d0 H)
  | 20 => exact (show hk.1 24 0 21 = (zd_d1 A) from by rw [a 24 (by unfold zd_fr; decide)]; exact zd_R_d1 H)
  | 21 => exact (show hk.1 24 0 22 = (zd_d2 A) from by rw [a 24 (by unfold zd_fr; decide)]; exact zd_R_d2 H)
  | 22 => exact (show hk.1 24 0 23 = nI (zd_O A) from by rw [a 24 (by unfold zd_fr; decide)]; exact zd_R_O H)
  | 23 => exact (show ∀ o, o < (zd_O A) → hk.1 40 0 o = nI (zd_ty A o) from by intro o; rw [a 40 (by unfold zd_fr; decide)]; exact zd_R_ty H o)
  | 24 => exact (show ∀ o, o < (zd_O A) → hk.1 41 0 o = nI (zd_ln A o) from by intro o; rw [a 41 (by unfold zd_fr; decide)]; exact zd_R_ln H o)
  | 25 => exact (show ∀ o k, o < (zd_O A) → k < zd_ln A o → zd_ty A o ≠ 14 → hk.2 42 0 (16 * o + k) = zd_vl A o k from by intro o k; rw [b 42 (by unfold zd_fr; decide)]; exact zd_R_vl H o k)
  | 26 => exact (show ∀ o k, o < (zd_O A) → k < zd_ln A o → zd_ty A o = 14 → (hk.1 43 0 (24 * o + k)).toInt64 = zd_vl A o k from by intro o k; rw [a 43 (by unfold zd_fr; decide)]; exact zd_R_ch H o k)
  | _ + 27 => exact trivial
