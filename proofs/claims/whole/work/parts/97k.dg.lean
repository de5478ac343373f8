/-! what is said of a diagnosis changes nothing else -/
def zg_dg (A : zd_A) (x y z : Int32) : zd_A := zd_uI (zd_uI (zd_uI A 3 0 0 x) 4 0 0 y) 5 0 0 z
theorem zq_fr (A : zd_A) (x y z : Int32) : zp_fr (zg_dg A x y z) = zp_fr A := rfl
theorem zq_lr (A : zd_A) (x y z : Int32) : zp_lr (zg_dg A x y z) = zp_lr A := rfl
theorem zq_nmd (A : zd_A) (x y z : Int32) : zp_nmd (zg_dg A x y z) = zp_nmd A := rfl
theorem zq_cv (A : zd_A) (x y z : Int32) : zp_cv (zg_dg A x y z) = zp_cv A := rfl
theorem zq_pl (A : zd_A) (x y z : Int32) : zd_pl (zg_dg A x y z) = zd_pl A := rfl
theorem zq_plL (A : zd_A) (x y z : Int32) : zp_plL (zg_dg A x y z) = zp_plL A := rfl
theorem zq_one (A : zd_A) (x y z : Int32) : zp_one (zg_dg A x y z) = zp_one A := rfl
theorem zq_how (A : zd_A) (x y z : Int32) : ∀ n, zp_how (zg_dg A x y z) n = zp_how A n := by
  intro n
  induction n with
  | zero => rfl
  | succ n ih =>
    funext a b
    show (if zp_one A a b = 4 then (if zp_how (zg_dg A x y z) n (zd_of A a) (zd_of A b) ≤ 1 then zp_how (zg_dg A x y z) n (zd_of A a) (zd_of A b) else 4) else zp_one A a b) = _
    rw [ih]
    rfl
theorem zq_hw (A : zd_A) (x y z : Int32) : zp_hw (zg_dg A x y z) = zp_hw A := zq_how A x y z 40
theorem zq_tt (A : zd_A) (x y z : Int32) (t : Nat) (w : Int64) : ∀ n, zp_tt (zg_dg A x y z) t w n = zp_tt A t w n := by
  intro n
  induction n with
  | zero => rfl
  | succ n ih =>
    show (match zp_tt (zg_dg A x y z) t w n with | none => none | some u => if zd_srt A u = 4 then (match zd_pl A u (nI (zp_nk w n)) with | none => none | some p => some (zd_pt A u p)) else none) = _
    rw [ih]
    rfl
theorem zq_end (A : zd_A) (x y z : Int32) (t : Nat) (w : Int64) : zp_end (zg_dg A x y z) t w = zp_end A t w := by
  unfold zp_end
  rw [zq_tt]
theorem zq_pk (A : zd_A) (x y z : Int32) (t : Nat) (w : Int64) (k : Nat) : zp_pk (zg_dg A x y z) t w k = zp_pk A t w k := by
  unfold zp_pk
  rw [zq_tt]
  rfl
theorem zq_iv (A : zd_A) (x y z : Int32) : zp_iv (zg_dg A x y z) = zp_iv A := rfl
theorem zq_ivb (A : zd_A) (x y z : Int32) (m : Nat) : zp_ivb (zg_dg A x y z) m = zp_ivb A m := rfl
theorem zq_ivx (A : zd_A) (x y z : Int32) (m : Nat) : zp_ivx (zg_dg A x y z) m = zp_ivx A m := rfl
theorem zq_src (A : zd_A) (x y z : Int32) : zp_src (zg_dg A x y z) = zp_src A := rfl
theorem zq_fn (A : zd_A) (x y z : Int32) : zp_fn (zg_dg A x y z) = zp_fn A := rfl
theorem zq_w4 (A : zd_A) (x y z : Int32) (m r : Nat) : zp_w4 (zg_dg A x y z) m r = zp_w4 A m r := by
  unfold zp_w4
  rw [zq_end]
  rfl
theorem zq_wr (A : zd_A) (x y z : Int32) (m r : Nat) : zp_wr (zg_dg A x y z) m r = zp_wr A m r := by
  unfold zp_wr
  rw [zq_w4]
  rfl
theorem zq_rok (A : zd_A) (x y z : Int32) {m : Nat} (R : zp_rok A m) : zp_rok (zg_dg A x y z) m := fun r hr => (zq_wr A x y z m r).trans (R r hr)
theorem zq_con (A : zd_A) (x y z : Int32) : zp_con (zg_dg A x y z) = zp_con A := rfl
theorem zq_wb (A : zd_A) (x y z : Int32) (m n e t : Nat) : zp_wb (zg_dg A x y z) m n e t = zp_wb A m n e t := by
  unfold zp_wb
  rw [zq_hw]
  rfl
theorem zq_wc (A : zd_A) (x y z : Int32) (m p : Nat) : zp_wc (zg_dg A x y z) m p = zp_wc A m p := by
  unfold zp_wc
  rw [zq_src]
  show (match zp_src A m (zp_n A m p) with | none => 5 | some w => match zp_end (zg_dg A x y z) (zd_mf A m) w with | none => 5 | some e => zp_wb (zg_dg A x y z) m (zp_n A m p) e (zp_y A m p)) = _
  cases zp_src A m (zp_n A m p) with
  | none => rfl
  | some w =>
    show (match zp_end (zg_dg A x y z) (zd_mf A m) w with | none => 5 | some e => zp_wb (zg_dg A x y z) m (zp_n A m p) e (zp_y A m p)) = (match zp_end A (zd_mf A m) w with | none => 5 | some e => zp_wb A m (zp_n A m p) e (zp_y A m p))
    rw [zq_end]
    cases zp_end A (zd_mf A m) w with
    | none => rfl
    | some e => exact zq_wb A x y z _ _ _ _
theorem zq_w1 (A : zd_A) (x y z : Int32) (m p : Nat) : zp_w1 (zg_dg A x y z) m p = zp_w1 A m p := by
  unfold zp_w1
  rw [zq_hw, zq_wc]
  rfl
theorem zq_w2 (A : zd_A) (x y z : Int32) (m p : Nat) : zp_w2 (zg_dg A x y z) m p = zp_w2 A m p := by
  unfold zp_w2
  rw [zq_hw]
  rfl
theorem zq_wp (A : zd_A) (x y z : Int32) (m p : Nat) : zp_wp (zg_dg A x y z) m p = zp_wp A m p := by
  unfold zp_wp
  rw [zq_w1, zq_w2]
theorem zq_N {A : zd_A} {x y z : Int32} {h : zx_H} : zp_N (zg_dg A x y z) h ↔ zp_N A h := Iff.rfl
theorem zq_ft {A : zd_A} {x y z : Int32} {h k : zx_H} : zp_ft (zg_dg A x y z) h k ↔ zp_ft A h k := Iff.rfl
theorem zq_fP {A : zd_A} {x y z : Int32} {i : Nat} {h k : zx_H} : zp_fP (zg_dg A x y z) i h k ↔ zp_fP A i h k := Iff.rfl
theorem zq_ch (A : zd_A) (x y z : Int32) (h : zx_H) : ∀ n a b, zp_ch (zg_dg A x y z) h n a b ↔ zp_ch A h n a b := by
  intro n
  induction n with
  | zero => exact fun _ _ => Iff.rfl
  | succ n ih =>
    intro a b
    show (h.1 15 0 (40 * a + b) = zp_cw (zp_one A a b) ∧ (zp_one A a b = 4 → zp_ch (zg_dg A x y z) h n (zd_of A a) (zd_of A b))) ↔ (h.1 15 0 (40 * a + b) = zp_cw (zp_one A a b) ∧ (zp_one A a b = 4 → zp_ch A h n (zd_of A a) (zd_of A b)))
    rw [ih]
theorem zq_row {A : zd_A} {x y z : Int32} {k : zx_H} {m p : Nat} : zp_row (zg_dg A x y z) k m p ↔ zp_row A k m p := by
  unfold zp_row
  simp only [zq_fr, zq_hw, zq_src, zq_fn, zq_end, zq_pk, zq_ch]
  exact Iff.rfl
theorem zq_rowd {A : zd_A} {x y z : Int32} {k : zx_H} {m p : Nat} : zp_rowd (zg_dg A x y z) k m p ↔ zp_rowd A k m p := by
  unfold zp_rowd
  simp only [zq_fr, zq_hw]
  exact Iff.rfl
theorem zq_ok {A : zd_A} (K : zd_ok A) (x y z : Int32) : zd_ok (zg_dg A x y z) := fun q => match q with
  | 0 => K 0 | 1 => K 1 | 2 => K 2 | 3 => K 3 | 4 => K 4 | 5 => K 5 | 6 => K 6 | 7 => K 7 | 8 => K 8 | 9 => K 9 | 10 => K 10 | 11 => K 11 | 12 => K 12 | 13 => K 13 | 14 => K 14 | 15 => K 15 | 16 => K 16 | 17 => K 17 | 18 => K 18 | 19 => K 19 | 20 => K 20 | 21 => K 21 | 22 => K 22 | 23 => K 23 | 24 => K 24 | 25 => K 25
  | _ + 26 => trivial
/-- the class's side but for the diagnosis -/
def zd_kD (h k : zx_H) : Prop := (∀ F, F ≤ 11 → k.1 F = h.1 F) ∧ (∀ i j, j ≤ 3 → k.1 53 i j = h.1 53 i j) ∧ (∀ i j, j ≤ 2 → k.1 54 i j = h.1 54 i j) ∧ k.1 55 = h.1 55 ∧ k.1 56 = h.1 56 ∧ k.2 57 = h.2 57 ∧ k.2 10 = h.2 10
theorem zq_C {A : zd_A} {h k : zx_H} (H : zd_C A h) (a : zd_kD h k) : zd_C (zg_dg A (k.1 16 0 4) (k.1 16 0 5) (k.1 16 0 6)) k := by
  have hk : zd_kC h ((fun F => if F = 16 then h.1 16 else k.1 F), k.2) := ⟨fun F hF => by
    show (if F = 16 then h.1 16 else k.1 F) = h.1 F
    rw [if_neg (by omega)]
    exact a.1 F hF, rfl, a.2.1, a.2.2.1, a.2.2.2.1, a.2.2.2.2.1, a.2.2.2.2.2.1, a.2.2.2.2.2.2⟩
  have H2 := zd_C_k hk H
  intro q
  match q with
  | 0 => exact H2 0 | 1 => exact H2 1 | 2 => exact H2 2 | 3 => exact H2 3 | 4 => exact H2 4 | 5 => exact H2 5 | 6 => exact H2 6 | 7 => exact H2 7 | 8 => exact H2 8 | 9 => exact H2 9 | 10 => exact H2 10 | 11 => exact H2 11 | 12 => exact H2 12 | 13 => exact H2 13 | 14 => exact H2 14 | 15 => exact H2 15 | 16 => exact H2 16 | 17 => exact H2 17 | 18 => exact H2 18
  | 19 => exact rfl
  | 20 => exact rfl
  | 21 => exact rfl
  | 22 => exact H2 22 | 23 => exact H2 23 | 24 => exact H2 24 | 25 => exact H2 25
  | _ + 26 => exact trivial
