/-! objects change nothing of what is planned (printed by gen97o.py) -/
def zr_mk (A : zd_A) (x : Nat → Nat → Nat → Nat) (y : Nat → Nat → Nat → Int64) : zd_A := (fun F => if F < 15 then A.1 F else x F, A.2.1, fun F => if F = 0 then A.2.2 0 else y F)
theorem zr_eq {A B : zd_A} (a : zd_sA A B) : B = zr_mk A B.1 B.2.2 := by
  refine Prod.ext ?_ (Prod.ext a.2.1 ?_)
  · funext F
    show B.1 F = if F < 15 then A.1 F else B.1 F
    by_cases c : F < 15
    · rw [if_pos c]; exact a.1 F c
    · rw [if_neg c]
  · funext F
    show B.2.2 F = if F = 0 then A.2.2 0 else B.2.2 F
    by_cases c : F = 0
    · rw [if_pos c, c]; exact a.2.2
    · rw [if_neg c]
theorem zr_fr (A : zd_A) (x : Nat → Nat → Nat → Nat) (y : Nat → Nat → Nat → Int64) : zp_fr (zr_mk A x y) = zp_fr A := rfl
theorem zr_lr (A : zd_A) (x : Nat → Nat → Nat → Nat) (y : Nat → Nat → Nat → Int64) : zp_lr (zr_mk A x y) = zp_lr A := rfl
theorem zr_nmd (A : zd_A) (x : Nat → Nat → Nat → Nat) (y : Nat → Nat → Nat → Int64) : zp_nmd (zr_mk A x y) = zp_nmd A := rfl
theorem zr_cv (A : zd_A) (x : Nat → Nat → Nat → Nat) (y : Nat → Nat → Nat → Int64) : zp_cv (zr_mk A x y) = zp_cv A := rfl
theorem zr_pl (A : zd_A) (x : Nat → Nat → Nat → Nat) (y : Nat → Nat → Nat → Int64) : zd_pl (zr_mk A x y) = zd_pl A := rfl
theorem zr_plL (A : zd_A) (x : Nat → Nat → Nat → Nat) (y : Nat → Nat → Nat → Int64) : zp_plL (zr_mk A x y) = zp_plL A := rfl
theorem zr_one (A : zd_A) (x : Nat → Nat → Nat → Nat) (y : Nat → Nat → Nat → Int64) : zp_one (zr_mk A x y) = zp_one A := rfl
theorem zr_how (A : zd_A) (x : Nat → Nat → Nat → Nat) (y : Nat → Nat → Nat → Int64) : ∀ n, zp_how (zr_mk A x y) n = zp_how A n := by
  intro n
  induction n with
  | zero => rfl
  | succ n ih =>
    funext a b
    show (if zp_one A a b = 4 then (if zp_how (zr_mk A x y) n (zd_of A a) (zd_of A b) ≤ 1 then zp_how (zr_mk A x y) n (zd_of A a) (zd_of A b) else 4) else zp_one A a b) = _
    rw [ih]
    rfl
theorem zr_hw (A : zd_A) (x : Nat → Nat → Nat → Nat) (y : Nat → Nat → Nat → Int64) : zp_hw (zr_mk A x y) = zp_hw A := zr_how A x y 40
theorem zr_tt (A : zd_A) (x : Nat → Nat → Nat → Nat) (y : Nat → Nat → Nat → Int64) (t : Nat) (w : Int64) : ∀ n, zp_tt (zr_mk A x y) t w n = zp_tt A t w n := by
  intro n
  induction n with
  | zero => rfl
  | succ n ih =>
    show (match zp_tt (zr_mk A x y) t w n with | none => none | some u => if zd_srt A u = 4 then (match zd_pl A u (nI (zp_nk w n)) with | none => none | some p => some (zd_pt A u p)) else none) = _
    rw [ih]
    rfl
theorem zr_end (A : zd_A) (x : Nat → Nat → Nat → Nat) (y : Nat → Nat → Nat → Int64) (t : Nat) (w : Int64) : zp_end (zr_mk A x y) t w = zp_end A t w := by
  unfold zp_end
  rw [zr_tt]
theorem zr_pk (A : zd_A) (x : Nat → Nat → Nat → Nat) (y : Nat → Nat → Nat → Int64) (t : Nat) (w : Int64) (k : Nat) : zp_pk (zr_mk A x y) t w k = zp_pk A t w k := by
  unfold zp_pk
  rw [zr_tt]
  rfl
theorem zr_iv (A : zd_A) (x : Nat → Nat → Nat → Nat) (y : Nat → Nat → Nat → Int64) : zp_iv (zr_mk A x y) = zp_iv A := rfl
theorem zr_ivb (A : zd_A) (x : Nat → Nat → Nat → Nat) (y : Nat → Nat → Nat → Int64) (m : Nat) : zp_ivb (zr_mk A x y) m = zp_ivb A m := rfl
theorem zr_ivx (A : zd_A) (x : Nat → Nat → Nat → Nat) (y : Nat → Nat → Nat → Int64) (m : Nat) : zp_ivx (zr_mk A x y) m = zp_ivx A m := rfl
theorem zr_src (A : zd_A) (x : Nat → Nat → Nat → Nat) (y : Nat → Nat → Nat → Int64) : zp_src (zr_mk A x y) = zp_src A := rfl
theorem zr_fn (A : zd_A) (x : Nat → Nat → Nat → Nat) (y : Nat → Nat → Nat → Int64) : zp_fn (zr_mk A x y) = zp_fn A := rfl
theorem zr_w4 (A : zd_A) (x : Nat → Nat → Nat → Nat) (y : Nat → Nat → Nat → Int64) (m r : Nat) : zp_w4 (zr_mk A x y) m r = zp_w4 A m r := by
  unfold zp_w4
  rw [zr_end]
  rfl
theorem zr_wr (A : zd_A) (x : Nat → Nat → Nat → Nat) (y : Nat → Nat → Nat → Int64) (m r : Nat) : zp_wr (zr_mk A x y) m r = zp_wr A m r := by
  unfold zp_wr
  rw [zr_w4]
  rfl
theorem zr_rok (A : zd_A) (x : Nat → Nat → Nat → Nat) (y : Nat → Nat → Nat → Int64) {m : Nat} (R : zp_rok A m) : zp_rok (zr_mk A x y) m := fun r hr => (zr_wr A x y m r).trans (R r hr)
theorem zr_con (A : zd_A) (x : Nat → Nat → Nat → Nat) (y : Nat → Nat → Nat → Int64) : zp_con (zr_mk A x y) = zp_con A := rfl
theorem zr_wb (A : zd_A) (x : Nat → Nat → Nat → Nat) (y : Nat → Nat → Nat → Int64) (m n e t : Nat) : zp_wb (zr_mk A x y) m n e t = zp_wb A m n e t := by
  unfold zp_wb
  rw [zr_hw]
  rfl
theorem zr_wc (A : zd_A) (x : Nat → Nat → Nat → Nat) (y : Nat → Nat → Nat → Int64) (m p : Nat) : zp_wc (zr_mk A x y) m p = zp_wc A m p := by
  unfold zp_wc
  rw [zr_src]
  show (match zp_src A m (zp_n A m p) with | none => 5 | some w => match zp_end (zr_mk A x y) (zd_mf A m) w with | none => 5 | some e => zp_wb (zr_mk A x y) m (zp_n A m p) e (zp_y A m p)) = _
  cases zp_src A m (zp_n A m p) with
  | none => rfl
  | some w =>
    show (match zp_end (zr_mk A x y) (zd_mf A m) w with | none => 5 | some e => zp_wb (zr_mk A x y) m (zp_n A m p) e (zp_y A m p)) = (match zp_end A (zd_mf A m) w with | none => 5 | some e => zp_wb A m (zp_n A m p) e (zp_y A m p))
    rw [zr_end]
    cases zp_end A (zd_mf A m) w with
    | none => rfl
    | some e => exact zr_wb A x y _ _ _ _
theorem zr_w1 (A : zd_A) (x : Nat → Nat → Nat → Nat) (y : Nat → Nat → Nat → Int64) (m p : Nat) : zp_w1 (zr_mk A x y) m p = zp_w1 A m p := by
  unfold zp_w1
  rw [zr_hw, zr_wc]
  rfl
theorem zr_w2 (A : zd_A) (x : Nat → Nat → Nat → Nat) (y : Nat → Nat → Nat → Int64) (m p : Nat) : zp_w2 (zr_mk A x y) m p = zp_w2 A m p := by
  unfold zp_w2
  rw [zr_hw]
  rfl
theorem zr_wp (A : zd_A) (x : Nat → Nat → Nat → Nat) (y : Nat → Nat → Nat → Int64) (m p : Nat) : zp_wp (zr_mk A x y) m p = zp_wp A m p := by
  unfold zp_wp
  rw [zr_w1, zr_w2]
theorem zr_N {A : zd_A} {x : Nat → Nat → Nat → Nat} {y : Nat → Nat → Nat → Int64} {h : zx_H} : zp_N (zr_mk A x y) h ↔ zp_N A h := Iff.rfl
theorem zr_ft {A : zd_A} {x : Nat → Nat → Nat → Nat} {y : Nat → Nat → Nat → Int64} {h k : zx_H} : zp_ft (zr_mk A x y) h k ↔ zp_ft A h k := Iff.rfl
theorem zr_fP {A : zd_A} {x : Nat → Nat → Nat → Nat} {y : Nat → Nat → Nat → Int64} {i : Nat} {h k : zx_H} : zp_fP (zr_mk A x y) i h k ↔ zp_fP A i h k := Iff.rfl
theorem zr_ch (A : zd_A) (x : Nat → Nat → Nat → Nat) (y : Nat → Nat → Nat → Int64) (h : zx_H) : ∀ n a b, zp_ch (zr_mk A x y) h n a b ↔ zp_ch A h n a b := by
  intro n
  induction n with
  | zero => exact fun _ _ => Iff.rfl
  | succ n ih =>
    intro a b
    show (h.1 15 0 (40 * a + b) = zp_cw (zp_one A a b) ∧ (zp_one A a b = 4 → zp_ch (zr_mk A x y) h n (zd_of A a) (zd_of A b))) ↔ (h.1 15 0 (40 * a + b) = zp_cw (zp_one A a b) ∧ (zp_one A a b = 4 → zp_ch A h n (zd_of A a) (zd_of A b)))
    rw [ih]
theorem zr_row {A : zd_A} {x : Nat → Nat → Nat → Nat} {y : Nat → Nat → Nat → Int64} {k : zx_H} {m p : Nat} : zp_row (zr_mk A x y) k m p ↔ zp_row A k m p := by
  unfold zp_row
  simp only [zr_fr, zr_hw, zr_src, zr_fn, zr_end, zr_pk, zr_ch]
  exact Iff.rfl
theorem zr_rowd {A : zd_A} {x : Nat → Nat → Nat → Nat} {y : Nat → Nat → Nat → Int64} {k : zx_H} {m p : Nat} : zp_rowd (zr_mk A x y) k m p ↔ zp_rowd A k m p := by
  unfold zp_rowd
  simp only [zr_fr, zr_hw]
  exact Iff.rfl
theorem zr_mem {A : zd_A} {x : Nat → Nat → Nat → Nat} {y : Nat → Nat → Nat → Int64} {k : zx_H} {m p : Nat} : zp_mem (zr_mk A x y) k m p ↔ zp_mem A k m p := by
  unfold zp_mem
  rw [zr_row, zr_rowd]
  exact Iff.rfl
theorem zq_mem {A : zd_A} {x y z : Int32} {k : zx_H} {m p : Nat} : zp_mem (zg_dg A x y z) k m p ↔ zp_mem A k m p := by
  unfold zp_mem
  rw [zq_row, zq_rowd]
  exact Iff.rfl
theorem zr_PM {A : zd_A} {x : Nat → Nat → Nat → Nat} {y : Nat → Nat → Nat → Int64} {k : zx_H} {m : Nat} : zp_PM (zr_mk A x y) k m ↔ zp_PM A k m := by
  unfold zp_PM
  simp only [zr_mem]
  exact Iff.rfl
theorem zq_PM {A : zd_A} {x y z : Int32} {k : zx_H} {m : Nat} : zp_PM (zg_dg A x y z) k m ↔ zp_PM A k m := by
  unfold zp_PM
  simp only [zq_mem]
  exact Iff.rfl
theorem zr_dm (A : zd_A) (x : Nat → Nat → Nat → Nat) (y : Nat → Nat → Nat → Int64) (m : Nat) : zp_dm (zr_mk A x y) m = zp_dm A m := by
  have e1 : zp_rf (zr_mk A x y) m = zp_rf A m := by
    funext r
    unfold zp_rf
    rw [zr_wr]
  have e2 : ∀ p, zp_wq (zr_mk A x y) m p = zp_wq A m p := fun p => by
    unfold zp_wq
    rw [zr_wp]
    rfl
  have e3 : zp_qf (zr_mk A x y) m = zp_qf A m := by
    funext p
    unfold zp_qf
    rw [e2]
  unfold zp_dm
  rw [e1, e3]
  simp only [zr_wr, e2]
  rfl
/-- what a built loom keeps -/
def zq_Q (A : zd_A) (h : zx_H) : Prop := zd_B A = 1 → ∀ m, m < zd_M A → zp_PM A h m ∧ zp_dm A m = none
theorem zp_ch_e15 {A : zd_A} {h k : zx_H} (e : k.1 15 = h.1 15) : ∀ n a b, zp_ch A k n a b ↔ zp_ch A h n a b := by
  intro n
  induction n with
  | zero => exact fun _ _ => Iff.rfl
  | succ n ih =>
    intro a b
    show (k.1 15 0 (40 * a + b) = zp_cw (zp_one A a b) ∧ (zp_one A a b = 4 → zp_ch A k n (zd_of A a) (zd_of A b))) ↔ (h.1 15 0 (40 * a + b) = zp_cw (zp_one A a b) ∧ (zp_one A a b = 4 → zp_ch A h n (zd_of A a) (zd_of A b)))
    rw [ih, e]
theorem zp_PM_same {A : zd_A} {h k : zx_H} (e15 : k.1 15 = h.1 15) (e54 : k.1 54 = h.1 54) (e59 : k.1 59 = h.1 59) (e60 : k.1 60 = h.1 60) (e61 : k.1 61 = h.1 61) (f60 : k.2 60 = h.2 60) {m : Nat} (x : zp_PM A h m) : zp_PM A k m := by
  unfold zp_PM zp_mem zp_row zp_rowd at x ⊢
  simp only [e54, e59, e60, e61, f60, zp_ch_e15 e15]
  exact x
theorem zq_Q_ok : zg_Q zq_Q := by
  refine ⟨fun A h hB hB1 => absurd (hB.symm.trans hB1) (by decide), fun A h k s Q hB m hm => ?_⟩
  have f : ∀ F, F = 15 ∨ F = 54 ∨ F = 59 ∨ F = 60 ∨ F = 61 → k.1 F = h.1 F ∧ k.2 F = h.2 F := fun F hF => s F (by unfold zd_fr; simp; omega) (by omega)
  exact ⟨zp_PM_same (f 15 (by decide)).1 (f 54 (by decide)).1 (f 59 (by decide)).1 (f 60 (by decide)).1 (f 61 (by decide)).1 (f 60 (by decide)).2 (Q hB m hm).1, (Q hB m hm).2⟩
theorem zq_Q_ok3 : zg_Q3 zq_Q := by
  intro A B h k a s Q hB m hm
  have hB0 : zd_B B = zd_B A := congrFun (congrFun (a.1 0 (by decide)) 0) 0
  have hM0 : zd_M B = zd_M A := congrFun (congrFun (a.1 7 (by decide)) 0) 0
  have f : ∀ F, F = 15 ∨ F = 54 ∨ F = 59 ∨ F = 60 ∨ F = 61 → k.1 F = h.1 F ∧ k.2 F = h.2 F := fun F hF => s F (by unfold zd_fr; simp; omega) (by omega) (by omega) (by omega)
  have q := Q (by rw [← hB0]; exact hB) m (by rw [← hM0]; exact hm)
  rw [zr_eq a]
  refine ⟨zr_PM.mpr ?_, (zr_dm A _ _ m).trans q.2⟩
  exact zp_PM_same (f 15 (by decide)).1 (f 54 (by decide)).1 (f 59 (by decide)).1 (f 60 (by decide)).1 (f 61 (by decide)).1 (f 60 (by decide)).2 q.1
