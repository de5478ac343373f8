/-! objects: a new one, a value set, a value more (printed by gen85.py) -/
def zd_uR (A : zd_A) (i n : Nat) (f : Nat → Int64) : zd_A := (A.1, A.2.1, fun a b c => if a = 1 ∧ b = i ∧ c < n then f c else A.2.2 a b c)
theorem zd_B_uR (A : zd_A) (i n : Nat) (f : Nat → Int64) : zd_B (zd_uR A i n f)  = zd_B A  := rfl
theorem zd_T_uR (A : zd_A) (i n : Nat) (f : Nat → Int64) : zd_T (zd_uR A i n f)  = zd_T A  := rfl
theorem zd_srt_uR (A : zd_A) (i n : Nat) (f : Nat → Int64) (u : Nat) : zd_srt (zd_uR A i n f) u = zd_srt A u := rfl
theorem zd_sz_uR (A : zd_A) (i n : Nat) (f : Nat → Int64) (u : Nat) : zd_sz (zd_uR A i n f) u = zd_sz A u := rfl
theorem zd_nm_uR (A : zd_A) (i n : Nat) (f : Nat → Int64) (u : Nat) (v : Nat) : zd_nm (zd_uR A i n f) u v = zd_nm A u v := rfl
theorem zd_pt_uR (A : zd_A) (i n : Nat) (f : Nat → Int64) (u : Nat) (v : Nat) : zd_pt (zd_uR A i n f) u v = zd_pt A u v := rfl
theorem zd_of_uR (A : zd_A) (i n : Nat) (f : Nat → Int64) (u : Nat) : zd_of (zd_uR A i n f) u = zd_of A u := rfl
theorem zd_M_uR (A : zd_A) (i n : Nat) (f : Nat → Int64) : zd_M (zd_uR A i n f)  = zd_M A  := rfl
theorem zd_mf_uR (A : zd_A) (i n : Nat) (f : Nat → Int64) (u : Nat) : zd_mf (zd_uR A i n f) u = zd_mf A u := rfl
theorem zd_mt_uR (A : zd_A) (i n : Nat) (f : Nat → Int64) (u : Nat) : zd_mt (zd_uR A i n f) u = zd_mt A u := rfl
theorem zd_rc_uR (A : zd_A) (i n : Nat) (f : Nat → Int64) (u : Nat) : zd_rc (zd_uR A i n f) u = zd_rc A u := rfl
theorem zd_kd_uR (A : zd_A) (i n : Nat) (f : Nat → Int64) (u : Nat) (v : Nat) : zd_kd (zd_uR A i n f) u v = zd_kd A u v := rfl
theorem zd_tg_uR (A : zd_A) (i n : Nat) (f : Nat → Int64) (u : Nat) (v : Nat) : zd_tg (zd_uR A i n f) u v = zd_tg A u v := rfl
theorem zd_wh_uR (A : zd_A) (i n : Nat) (f : Nat → Int64) (u : Nat) (v : Nat) : zd_wh (zd_uR A i n f) u v = zd_wh A u v := rfl
theorem zd_F_uR (A : zd_A) (i n : Nat) (f : Nat → Int64) : zd_F (zd_uR A i n f)  = zd_F A  := rfl
theorem zd_ff_uR (A : zd_A) (i n : Nat) (f : Nat → Int64) (u : Nat) : zd_ff (zd_uR A i n f) u = zd_ff A u := rfl
theorem zd_ft_uR (A : zd_A) (i n : Nat) (f : Nat → Int64) (u : Nat) : zd_ft (zd_uR A i n f) u = zd_ft A u := rfl
theorem zd_fa_uR (A : zd_A) (i n : Nat) (f : Nat → Int64) (u : Nat) : zd_fa (zd_uR A i n f) u = zd_fa A u := rfl
theorem zd_fb_uR (A : zd_A) (i n : Nat) (f : Nat → Int64) (u : Nat) : zd_fb (zd_uR A i n f) u = zd_fb A u := rfl
theorem zd_d0_uR (A : zd_A) (i n : Nat) (f : Nat → Int64) : zd_d0 (zd_uR A i n f)  = zd_d0 A  := rfl
theorem zd_d1_uR (A : zd_A) (i n : Nat) (f : Nat → Int64) : zd_d1 (zd_uR A i n f)  = zd_d1 A  := rfl
theorem zd_d2_uR (A : zd_A) (i n : Nat) (f : Nat → Int64) : zd_d2 (zd_uR A i n f)  = zd_d2 A  := rfl
theorem zd_O_uR (A : zd_A) (i n : Nat) (f : Nat → Int64) : zd_O (zd_uR A i n f)  = zd_O A  := rfl
theorem zd_ty_uR (A : zd_A) (i n : Nat) (f : Nat → Int64) (u : Nat) : zd_ty (zd_uR A i n f) u = zd_ty A u := rfl
theorem zd_ln_uR (A : zd_A) (i n : Nat) (f : Nat → Int64) (u : Nat) : zd_ln (zd_uR A i n f) u = zd_ln A u := rfl
theorem zd_vl_uR (A : zd_A) (i n : Nat) (f : Nat → Int64) (u v : Nat) : zd_vl (zd_uR A i n f) u v = if u = i ∧ v < n then f v else zd_vl A u v := by
  show (if 1 = 1 ∧ u = i ∧ v < n then f v else zd_vl A u v) = _
  by_cases e : u = i ∧ v < n
  · rw [if_pos e, if_pos ⟨rfl, e⟩]
  · rw [if_neg e, if_neg (fun z => e z.2)]
def zg_newO (A : zd_A) (t n : Nat) (f : Nat → Int64) : zd_A := zd_uR (zd_uN (zd_uN (zd_uN A 15 0 0 (zd_O A + 1)) 16 (zd_O A) 0 t) 17 (zd_O A) 0 n) (zd_O A) n f
theorem zg_newO_O (A : zd_A) (t n : Nat) (f : Nat → Int64) : zd_O (zg_newO A t n f) = zd_O A + 1 := rfl
theorem zg_newO_ty (A : zd_A) (t n : Nat) (f : Nat → Int64) (u : Nat) : zd_ty (zg_newO A t n f) u = if u = zd_O A then t else zd_ty A u := by simp only [zg_newO, zd_B_uN, zd_B_uI, zd_B_uJ, zd_T_uN, zd_T_uI, zd_T_uJ, zd_srt_uN, zd_srt_uI, zd_srt_uJ, zd_sz_uN, zd_sz_uI, zd_sz_uJ, zd_nm_uN, zd_nm_uI, zd_nm_uJ, zd_pt_uN, zd_pt_uI, zd_pt_uJ, zd_of_uN, zd_of_uI, zd_of_uJ, zd_M_uN, zd_M_uI, zd_M_uJ, zd_mf_uN, zd_mf_uI, zd_mf_uJ, zd_mt_uN, zd_mt_uI, zd_mt_uJ, zd_rc_uN, zd_rc_uI, zd_rc_uJ, zd_kd_uN, zd_kd_uI, zd_kd_uJ, zd_tg_uN, zd_tg_uI, zd_tg_uJ, zd_wh_uN, zd_wh_uI, zd_wh_uJ, zd_F_uN, zd_F_uI, zd_F_uJ, zd_ff_uN, zd_ff_uI, zd_ff_uJ, zd_ft_uN, zd_ft_uI, zd_ft_uJ, zd_fa_uN, zd_fa_uI, zd_fa_uJ, zd_fb_uN, zd_fb_uI, zd_fb_uJ, zd_d0_uN, zd_d0_uI, zd_d0_uJ, zd_d1_uN, zd_d1_uI, zd_d1_uJ, zd_d2_uN, zd_d2_uI, zd_d2_uJ, zd_O_uN, zd_O_uI, zd_O_uJ, zd_ty_uN, zd_ty_uI, zd_ty_uJ, zd_ln_uN, zd_ln_uI, zd_ln_uJ, zd_vl_uN, zd_vl_uI, zd_vl_uJ, zd_B_uR, zd_T_uR, zd_srt_uR, zd_sz_uR, zd_nm_uR, zd_pt_uR, zd_of_uR, zd_M_uR, zd_mf_uR, zd_mt_uR, zd_rc_uR, zd_kd_uR, zd_tg_uR, zd_wh_uR, zd_F_uR, zd_ff_uR, zd_ft_uR, zd_fa_uR, zd_fb_uR, zd_d0_uR, zd_d1_uR, zd_d2_uR, zd_O_uR, zd_ty_uR, zd_ln_uR, zd_vl_uR, reduceIte, false_and, and_false, true_and, and_true, if_true, if_false, Nat.reduceEqDiff, reduceCtorEq, and_self, eq_self, Nat.succ_ne_self]
theorem zg_newO_ln (A : zd_A) (t n : Nat) (f : Nat → Int64) (u : Nat) : zd_ln (zg_newO A t n f) u = if u = zd_O A then n else zd_ln A u := by simp only [zg_newO, zd_B_uN, zd_B_uI, zd_B_uJ, zd_T_uN, zd_T_uI, zd_T_uJ, zd_srt_uN, zd_srt_uI, zd_srt_uJ, zd_sz_uN, zd_sz_uI, zd_sz_uJ, zd_nm_uN, zd_nm_uI, zd_nm_uJ, zd_pt_uN, zd_pt_uI, zd_pt_uJ, zd_of_uN, zd_of_uI, zd_of_uJ, zd_M_uN, zd_M_uI, zd_M_uJ, zd_mf_uN, zd_mf_uI, zd_mf_uJ, zd_mt_uN, zd_mt_uI, zd_mt_uJ, zd_rc_uN, zd_rc_uI, zd_rc_uJ, zd_kd_uN, zd_kd_uI, zd_kd_uJ, zd_tg_uN, zd_tg_uI, zd_tg_uJ, zd_wh_uN, zd_wh_uI, zd_wh_uJ, zd_F_uN, zd_F_uI, zd_F_uJ, zd_ff_uN, zd_ff_uI, zd_ff_uJ, zd_ft_uN, zd_ft_uI, zd_ft_uJ, zd_fa_uN, zd_fa_uI, zd_fa_uJ, zd_fb_uN, zd_fb_uI, zd_fb_uJ, zd_d0_uN, zd_d0_uI, zd_d0_uJ, zd_d1_uN, zd_d1_uI, zd_d1_uJ, zd_d2_uN, zd_d2_uI, zd_d2_uJ, zd_O_uN, zd_O_uI, zd_O_uJ, zd_ty_uN, zd_ty_uI, zd_ty_uJ, zd_ln_uN, zd_ln_uI, zd_ln_uJ, zd_vl_uN, zd_vl_uI, zd_vl_uJ, zd_B_uR, zd_T_uR, zd_srt_uR, zd_sz_uR, zd_nm_uR, zd_pt_uR, zd_of_uR, zd_M_uR, zd_mf_uR, zd_mt_uR, zd_rc_uR, zd_kd_uR, zd_tg_uR, zd_wh_uR, zd_F_uR, zd_ff_uR, zd_ft_uR, zd_fa_uR, zd_fb_uR, zd_d0_uR, zd_d1_uR, zd_d2_uR, zd_O_uR, zd_ty_uR, zd_ln_uR, zd_vl_uR, reduceIte, false_and, and_false, true_and, and_true, if_true, if_false, Nat.reduceEqDiff, reduceCtorEq, and_self, eq_self, Nat.succ_ne_self]
theorem zg_newO_vl (A : zd_A) (t n : Nat) (f : Nat → Int64) (u k : Nat) : zd_vl (zg_newO A t n f) u k = if u = zd_O A ∧ k < n then f k else zd_vl A u k := by simp only [zg_newO, zd_B_uN, zd_B_uI, zd_B_uJ, zd_T_uN, zd_T_uI, zd_T_uJ, zd_srt_uN, zd_srt_uI, zd_srt_uJ, zd_sz_uN, zd_sz_uI, zd_sz_uJ, zd_nm_uN, zd_nm_uI, zd_nm_uJ, zd_pt_uN, zd_pt_uI, zd_pt_uJ, zd_of_uN, zd_of_uI, zd_of_uJ, zd_M_uN, zd_M_uI, zd_M_uJ, zd_mf_uN, zd_mf_uI, zd_mf_uJ, zd_mt_uN, zd_mt_uI, zd_mt_uJ, zd_rc_uN, zd_rc_uI, zd_rc_uJ, zd_kd_uN, zd_kd_uI, zd_kd_uJ, zd_tg_uN, zd_tg_uI, zd_tg_uJ, zd_wh_uN, zd_wh_uI, zd_wh_uJ, zd_F_uN, zd_F_uI, zd_F_uJ, zd_ff_uN, zd_ff_uI, zd_ff_uJ, zd_ft_uN, zd_ft_uI, zd_ft_uJ, zd_fa_uN, zd_fa_uI, zd_fa_uJ, zd_fb_uN, zd_fb_uI, zd_fb_uJ, zd_d0_uN, zd_d0_uI, zd_d0_uJ, zd_d1_uN, zd_d1_uI, zd_d1_uJ, zd_d2_uN, zd_d2_uI, zd_d2_uJ, zd_O_uN, zd_O_uI, zd_O_uJ, zd_ty_uN, zd_ty_uI, zd_ty_uJ, zd_ln_uN, zd_ln_uI, zd_ln_uJ, zd_vl_uN, zd_vl_uI, zd_vl_uJ, zd_B_uR, zd_T_uR, zd_srt_uR, zd_sz_uR, zd_nm_uR, zd_pt_uR, zd_of_uR, zd_M_uR, zd_mf_uR, zd_mt_uR, zd_rc_uR, zd_kd_uR, zd_tg_uR, zd_wh_uR, zd_F_uR, zd_ff_uR, zd_ft_uR, zd_fa_uR, zd_fb_uR, zd_d0_uR, zd_d1_uR, zd_d2_uR, zd_O_uR, zd_ty_uR, zd_ln_uR, zd_vl_uR, reduceIte, false_and, and_false, true_and, and_true, if_true, if_false, Nat.reduceEqDiff, reduceCtorEq, and_self, eq_self, Nat.succ_ne_self]
/-- below object n, and beside what maps, the class's cells are the same -/
def zd_fC (n : Nat) (h k : zx_H) : Prop := (∀ F, ¬ (7 ≤ F ∧ F ≤ 10) → ¬ (17 ≤ F ∧ F ≤ 23) → k.1 F = h.1 F ∧ k.2 F = h.2 F) ∧ (∀ o, o < n → k.1 8 0 o = h.1 8 0 o ∧ k.1 9 0 o = h.1 9 0 o) ∧ (∀ j, j < 24 * n → k.2 10 0 j = h.2 10 0 j)
def zd_st (j : Nat) : Prop := j = 1 ∨ j = 2 ∨ j = 8 ∨ j = 15 ∨ j = 20 ∨ j = 21 ∨ j = 22
def zd_fR (n : Nat) (h k : zx_H) : Prop := (∀ F, F ≠ 24 → ¬ (40 ≤ F ∧ F ≤ 51) → k.1 F = h.1 F ∧ k.2 F = h.2 F) ∧ (∀ j, zd_st j → k.1 24 0 j = h.1 24 0 j) ∧ (∀ o, o < n → k.1 40 0 o = h.1 40 0 o ∧ k.1 41 0 o = h.1 41 0 o) ∧ (∀ j, j < 16 * n → k.2 42 0 j = h.2 42 0 j) ∧ (∀ j, j < 24 * n → k.1 43 0 j = h.1 43 0 j)
theorem zd_fC_refl (n : Nat) (h : zx_H) : zd_fC n h h := ⟨fun _ _ _ => ⟨rfl, rfl⟩, fun _ _ => ⟨rfl, rfl⟩, fun _ _ => rfl⟩
theorem zd_fR_refl (n : Nat) (h : zx_H) : zd_fR n h h := ⟨fun _ _ _ => ⟨rfl, rfl⟩, fun _ _ => rfl, fun _ _ => ⟨rfl, rfl⟩, fun _ _ => rfl, fun _ _ => rfl⟩
theorem zd_fC_trans {n : Nat} {h k l : zx_H} (a : zd_fC n h k) (b : zd_fC n k l) : zd_fC n h l := ⟨fun F h1 h2 => ⟨(b.1 F h1 h2).1.trans (a.1 F h1 h2).1, (b.1 F h1 h2).2.trans (a.1 F h1 h2).2⟩, fun o ho => ⟨(b.2.1 o ho).1.trans (a.2.1 o ho).1, (b.2.1 o ho).2.trans (a.2.1 o ho).2⟩, fun j hj => (b.2.2 j hj).trans (a.2.2 j hj)⟩
theorem zd_fR_trans {n : Nat} {h k l : zx_H} (a : zd_fR n h k) (b : zd_fR n k l) : zd_fR n h l := ⟨fun F h1 h2 => ⟨(b.1 F h1 h2).1.trans (a.1 F h1 h2).1, (b.1 F h1 h2).2.trans (a.1 F h1 h2).2⟩, fun j hj => (b.2.1 j hj).trans (a.2.1 j hj), fun o ho => ⟨(b.2.2.1 o ho).1.trans (a.2.2.1 o ho).1, (b.2.2.1 o ho).2.trans (a.2.2.1 o ho).2⟩, fun j hj => (b.2.2.2.1 j hj).trans (a.2.2.2.1 j hj), fun j hj => (b.2.2.2.2 j hj).trans (a.2.2.2.2 j hj)⟩
theorem zd_fC_mono {n m : Nat} {h k : zx_H} (a : zd_fC n h k) (hm : m ≤ n) : zd_fC m h k := ⟨a.1, fun o ho => a.2.1 o (by omega), fun j hj => a.2.2 j (by omega)⟩
theorem zd_fR_mono {n m : Nat} {h k : zx_H} (a : zd_fR n h k) (hm : m ≤ n) : zd_fR m h k := ⟨a.1, a.2.1, fun o ho => a.2.2.1 o (by omega), fun j hj => a.2.2.2.1 j (by omega), fun j hj => a.2.2.2.2 j (by omega)⟩
theorem ze_sIF (h : zx_H) {F G : Nat} (i j : Nat) (x : Int32) (hn : G ≠ F) : (zx_sI h F i j x).1 G = h.1 G := by
  funext b c
  exact if_neg fun e => hn e.1
theorem ze_sJF (h : zx_H) {F G : Nat} (i j : Nat) (x : Int64) (hn : G ≠ F) : (zx_sJ h F i j x).2 G = h.2 G := by
  funext b c
  exact if_neg fun e => hn e.1
theorem zd_fC_I {n : Nat} {h k : zx_H} (a : zd_fC n h k) {F i j : Nat} (x : Int32) (hF : F = 7 ∨ F = 10 ∨ 17 ≤ F ∧ F ≤ 23 ∨ (F = 8 ∨ F = 9) ∧ n ≤ j) : zd_fC n h (zx_sI k F i j x) := by
  refine zd_fC_trans a ⟨fun G h1 h2 => ⟨ze_sIF _ _ _ _ (by omega), rfl⟩, fun o ho => ⟨ze_gIn _ _ _ _ _ _ _ _ (by omega), ze_gIn _ _ _ _ _ _ _ _ (by omega)⟩, fun j _ => rfl⟩
theorem zd_fC_J {n : Nat} {h k : zx_H} (a : zd_fC n h k) {F i j : Nat} (x : Int64) (hF : F = 7 ∨ F = 8 ∨ F = 9 ∨ 17 ≤ F ∧ F ≤ 23 ∨ F = 10 ∧ 24 * n ≤ j) : zd_fC n h (zx_sJ k F i j x) := by
  refine zd_fC_trans a ⟨fun G h1 h2 => ⟨rfl, ze_sJF _ _ _ _ (by omega)⟩, fun o ho => ⟨rfl, rfl⟩, fun c hc => ze_gJn _ _ _ _ _ _ _ _ (by omega)⟩
theorem zd_fR_I {n : Nat} {h k : zx_H} (a : zd_fR n h k) {F i j : Nat} (x : Int32) (hF : F = 24 ∧ ¬ zd_st j ∨ F = 42 ∨ 44 ≤ F ∧ F ≤ 51 ∨ (F = 40 ∨ F = 41) ∧ n ≤ j ∨ F = 43 ∧ 24 * n ≤ j) : zd_fR n h (zx_sI k F i j x) := by
  refine zd_fR_trans a ⟨fun G h1 h2 => ⟨ze_sIF _ _ _ _ (by omega), rfl⟩, fun c hc => ze_gIn _ _ _ _ _ _ _ _ (fun e => ?_), fun o ho => ⟨ze_gIn _ _ _ _ _ _ _ _ (by omega), ze_gIn _ _ _ _ _ _ _ _ (by omega)⟩, fun j _ => rfl, fun c hc => ze_gIn _ _ _ _ _ _ _ _ (by omega)⟩
  rcases hF with hF | hF
  · exact hF.2 (e.2.2 ▸ hc)
  · omega
theorem zd_fR_J {n : Nat} {h k : zx_H} (a : zd_fR n h k) {F i j : Nat} (x : Int64) (hF : F = 40 ∨ F = 41 ∨ 43 ≤ F ∧ F ≤ 51 ∨ F = 42 ∧ 16 * n ≤ j) : zd_fR n h (zx_sJ k F i j x) := by
  refine zd_fR_trans a ⟨fun G h1 h2 => ⟨rfl, ze_sJF _ _ _ _ (by omega)⟩, fun c hc => rfl, fun o ho => ⟨rfl, rfl⟩, fun c hc => ze_gJn _ _ _ _ _ _ _ _ (by omega), fun j _ => rfl⟩
theorem zd_fC_sR {n : Nat} {h k : zx_H} (a : zd_fC n h k) : zd_sR h k := fun F hF => a.1 F (by unfold zd_fr at hF; simp at hF; omega) (by unfold zd_fr at hF; simp at hF; omega)
theorem zd_fR_sC {n : Nat} {h k : zx_H} (a : zd_fR n h k) : zd_sC h k := fun F hF => a.1 F (fun e => hF (by unfold zd_fr; rw [e]; decide)) (fun e => hF (by unfold zd_fr; simp; omega))
theorem zg_C_newO {A : zd_A} {h k : zx_H} (H : zd_C A h) {t n : Nat} {f : Nat → Int64} (a : zd_fC (zd_O A) h k) (hl : ∀ o, o < zd_O A → zd_ln A o ≤ 24) (e1 : k.1 7 0 4 = nI (zd_O A + 1)) (e2 : k.1 8 0 (zd_O A) = nI t) (e3 : k.1 9 0 (zd_O A) = nI n) (e4 : ∀ i, i < n → k.2 10 0 (24 * zd_O A + i) = f i) : zd_C (zg_newO A t n f) k := by
  intro q
  match q with
  | 0 =>
    have e := zd_C_B H
    rw [← (a.1 0 (by decide) (by decide)).1] at e
    exact e
  | 1 =>
    have e := zd_C_T H
    rw [← (a.1 1 (by decide) (by decide)).1] at e
    exact e
  | 2 => exact fun t g0 g1 => (show _ = _ from by rw [(a.1 2 (by decide) (by decide)).1]; exact zd_C_form H t g0 g1)
  | 3 => exact fun t g0 g1 => (show _ = _ from by rw [(a.1 3 (by decide) (by decide)).1]; exact zd_C_of H t g0 g1)
  | 4 => exact fun t g0 => (show _ = _ from by rw [(a.1 4 (by decide) (by decide)).1]; exact zd_C_sz H t g0)
  | 5 => exact fun t k g0 g1 => (show _ = _ from by rw [(a.1 5 (by decide) (by decide)).1]; exact zd_C_nm H t k g0 g1)
  | 6 => exact fun t k g0 g1 g2 => (show _ = _ from by rw [(a.1 6 (by decide) (by decide)).1]; exact zd_C_pt H t k g0 g1 g2)
  | 7 =>
    have e := zd_C_F H
    rw [← (a.1 11 (by decide) (by decide)).1] at e
    exact e
  | 8 =>
    have e := zd_C_M H
    rw [← (a.1 11 (by decide) (by decide)).1] at e
    exact e
  | 9 => exact fun m g0 => (show _ = _ from by rw [(a.1 54 (by decide) (by decide)).1]; exact zd_C_mf H m g0)
  | 10 => exact fun m g0 => (show _ = _ from by rw [(a.1 54 (by decide) (by decide)).1]; exact zd_C_mt H m g0)
  | 11 => exact fun m g0 => (show _ = _ from by rw [(a.1 54 (by decide) (by decide)).1]; exact zd_C_rc H m g0)
  | 12 => exact fun m r g0 g1 => (show _ = _ from by rw [(a.1 55 (by decide) (by decide)).1]; exact zd_C_kd H m r g0 g1)
  | 13 => exact fun m r g0 g1 => (show _ = _ from by rw [(a.1 56 (by decide) (by decide)).1]; exact zd_C_tg H m r g0 g1)
  | 14 => exact fun m r g0 g1 => (show _ = _ from by rw [(a.1 57 (by decide) (by decide)).2]; exact zd_C_wh H m r g0 g1)
  | 15 => exact fun f g0 => (show _ = _ from by rw [(a.1 53 (by decide) (by decide)).1]; exact zd_C_ff H f g0)
  | 16 => exact fun f g0 => (show _ = _ from by rw [(a.1 53 (by decide) (by decide)).1]; exact zd_C_ft H f g0)
  | 17 => exact fun f g0 => (show _ = _ from by rw [(a.1 53 (by decide) (by decide)).1]; exact zd_C_fa H f g0)
  | 18 => exact fun f g0 => (show _ = _ from by rw [(a.1 53 (by decide) (by decide)).1]; exact zd_C_fb H f g0)
  | 19 =>
    have e := zd_C_d0 H
    rw [← (a.1 16 (by decide) (by decide)).1] at e
    exact e
  | 20 =>
    have e := zd_C_d1 H
    rw [← (a.1 16 (by decide) (by decide)).1] at e
    exact e
  | 21 =>
    have e := zd_C_d2 H
    rw [← (a.1 16 (by decide) (by decide)).1] at e
    exact e
  | 22 => exact e1
  | 23 =>
    intro o ho
    have ho : o < zd_O A + 1 := ho
    rw [zg_newO_ty]
    by_cases e : o = zd_O A
    · rw [if_pos e, e]; exact e2
    · rw [if_neg e, (a.2.1 o (by omega)).1]; exact zd_C_ty H o (by omega)
  | 24 =>
    intro o ho
    have ho : o < zd_O A + 1 := ho
    rw [zg_newO_ln]
    by_cases e : o = zd_O A
    · rw [if_pos e, e]; exact e3
    · rw [if_neg e, (a.2.1 o (by omega)).2]; exact zd_C_ln H o (by omega)
  | 25 =>
    intro o i ho hi
    have ho : o < zd_O A + 1 := ho
    rw [zg_newO_ln] at hi
    rw [zg_newO_vl]
    by_cases e : o = zd_O A
    · rw [if_pos e] at hi
      rw [if_pos ⟨e, hi⟩, e]; exact e4 i hi
    · rw [if_neg e] at hi
      have := hl o (by omega)
      rw [if_neg (fun z => e z.1), a.2.2 _ (by omega)]; exact zd_C_vl H o i (by omega) hi
  | _ + 26 => exact trivial
theorem zg_R_newO {A : zd_A} {h k : zx_H} (H : zd_R A h) (K : zd_ok A) {t n : Nat} {f : Nat → Int64} (a : zd_fR (zd_O A) h k) (e1 : k.1 24 0 23 = nI (zd_O A + 1)) (e2 : k.1 40 0 (zd_O A) = nI t) (e3 : k.1 41 0 (zd_O A) = nI n) (e4 : t ≠ 14 → ∀ i, i < n → k.2 42 0 (16 * zd_O A + i) = f i) (e5 : t = 14 → ∀ i, i < n → (k.1 43 0 (24 * zd_O A + i)).toInt64 = f i) : zd_R (zg_newO A t n f) k := by
  have hl : ∀ o, o < zd_O A → zd_ln A o ≤ 24 := fun o ho => zf_ln K ho
  intro q
  match q with
  | 0 =>
    have e := zd_R_B H
    rw [← a.2.1 1 (by unfold zd_st; decide)] at e
    exact e
  | 1 =>
    have e := zd_R_T H
    rw [← a.2.1 2 (by unfold zd_st; decide)] at e
    exact e
  | 2 => exact fun t g0 => (show _ = _ from by rw [(a.1 25 (by decide) (by decide)).1]; exact zd_R_srt H t g0)
  | 3 => exact fun t g0 => (show _ = _ from by rw [(a.1 26 (by decide) (by decide)).1]; exact zd_R_sz H t g0)
  | 4 => exact fun t k g0 g1 => (show _ = _ from by rw [(a.1 27 (by decide) (by decide)).1]; exact zd_R_nm H t k g0 g1)
  | 5 => exact fun t k g0 g1 g2 => (show _ = _ from by rw [(a.1 28 (by decide) (by decide)).1]; exact zd_R_pt H t k g0 g1 g2)
  | 6 => exact fun t g0 g1 => (show _ = _ from by rw [(a.1 29 (by decide) (by decide)).1]; exact zd_R_of H t g0 g1)
  | 7 =>
    have e := zd_R_M H
    rw [← a.2.1 8 (by unfold zd_st; decide)] at e
    exact e
  | 8 => exact fun m g0 => (show _ = _ from by rw [(a.1 30 (by decide) (by decide)).1]; exact zd_R_mf H m g0)
  | 9 => exact fun m g0 => (show _ = _ from by rw [(a.1 31 (by decide) (by decide)).1]; exact zd_R_mt H m g0)
  | 10 => exact fun m g0 => (show _ = _ from by rw [(a.1 32 (by decide) (by decide)).1]; exact zd_R_rc H m g0)
  | 11 => exact fun m r g0 g1 => (show _ = _ from by rw [(a.1 33 (by decide) (by decide)).1]; exact zd_R_kd H m r g0 g1)
  | 12 => exact fun m r g0 g1 => (show _ = _ from by rw [(a.1 34 (by decide) (by decide)).1]; exact zd_R_tg H m r g0 g1)
  | 13 => exact fun m r g0 g1 => (show _ = _ from by rw [(a.1 35 (by decide) (by decide)).2]; exact zd_R_wh H m r g0 g1)
  | 14 =>
    have e := zd_R_F H
    rw [← a.2.1 15 (by unfold zd_st; decide)] at e
    exact e
  | 15 => exact fun f g0 => (show _ = _ from by rw [(a.1 36 (by decide) (by decide)).1]; exact zd_R_ff H f g0)
  | 16 => exact fun f g0 => (show _ = _ from by rw [(a.1 37 (by decide) (by decide)).1]; exact zd_R_ft H f g0)
  | 17 => exact fun f g0 => (show _ = _ from by rw [(a.1 38 (by decide) (by decide)).1]; exact zd_R_fa H f g0)
  | 18 => exact fun f g0 => (show _ = _ from by rw [(a.1 39 (by decide) (by decide)).1]; exact zd_R_fb H f g0)
  | 19 =>
    have e := zd_R_d0 H
    rw [← a.2.1 20 (by unfold zd_st; decide)] at e
    exact e
  | 20 =>
    have e := zd_R_d1 H
    rw [← a.2.1 21 (by unfold zd_st; decide)] at e
    exact e
  | 21 =>
    have e := zd_R_d2 H
    rw [← a.2.1 22 (by unfold zd_st; decide)] at e
    exact e
  | 22 => exact e1
  | 23 =>
    intro o ho
    have ho : o < zd_O A + 1 := ho
    rw [zg_newO_ty]
    by_cases e : o = zd_O A
    · rw [if_pos e, e]; exact e2
    · rw [if_neg e, (a.2.2.1 o (by omega)).1]; exact zd_R_ty H o (by omega)
  | 24 =>
    intro o ho
    have ho : o < zd_O A + 1 := ho
    rw [zg_newO_ln]
    by_cases e : o = zd_O A
    · rw [if_pos e, e]; exact e3
    · rw [if_neg e, (a.2.2.1 o (by omega)).2]; exact zd_R_ln H o (by omega)
  | 25 =>
    intro o i ho hi h14
    have ho : o < zd_O A + 1 := ho
    rw [zg_newO_ln] at hi
    rw [zg_newO_ty] at h14
    rw [zg_newO_vl]
    by_cases e : o = zd_O A
    · rw [if_pos e] at hi h14
      rw [if_pos ⟨e, hi⟩, e]; exact e4 h14 i hi
    · rw [if_neg e] at hi h14
      have := zg_len K (o := o) (by omega) h14
      rw [if_neg (fun z => e z.1), a.2.2.2.1 _ (by omega)]; exact zd_R_vl H o i (by omega) hi h14
  | 26 =>
    intro o i ho hi h14
    have ho : o < zd_O A + 1 := ho
    rw [zg_newO_ln] at hi
    rw [zg_newO_ty] at h14
    rw [zg_newO_vl]
    by_cases e : o = zd_O A
    · rw [if_pos e] at hi h14
      rw [if_pos ⟨e, hi⟩, e]; exact e5 h14 i hi
    · rw [if_neg e] at hi h14
      have := hl o (by omega)
      rw [if_neg (fun z => e z.1), a.2.2.2.2 _ (by omega)]; exact zd_R_ch H o i (by omega) hi h14
  | _ + 27 => exact trivial
def zg_set (A : zd_A) (p i : Nat) (x : Int64) : zd_A := zd_uJ A 1 p i x
def zg_app (A : zd_A) (p : Nat) (x : Int64) : zd_A := zd_uN (zd_uJ A 1 p (zd_ln A p) x) 17 p 0 (zd_ln A p + 1)
theorem zg_C_set {A : zd_A} {h : zx_H} (H : zd_C A h) (K : zd_ok A) {p i : Nat} {x : Int64} (hp : p < zd_O A) (hi : i < zd_ln A p) : zd_C (zg_set A p i x) (zx_sJ h 10 0 (24 * p + i) x) := by
  have hT := zd_ok_T K
  have hl : ∀ o, o < zd_O A → zd_ln A o ≤ 24 := fun o ho => zf_ln K ho
  intro q
  match q with
  | 0 => exact H 0
  | 1 => exact H 1
  | 2 => exact H 2
  | 3 => exact H 3
  | 4 => exact H 4
  | 5 => exact H 5
  | 6 => exact H 6
  | 7 => exact H 7
  | 8 => exact H 8
  | 9 => exact H 9
  | 10 => exact H 10
  | 11 => exact H 11
  | 12 => exact H 12
  | 13 => exact H 13
  | 14 => exact H 14
  | 15 => exact H 15
  | 16 => exact H 16
  | 17 => exact H 17
  | 18 => exact H 18
  | 19 => exact H 19
  | 20 => exact H 20
  | 21 => exact H 21
  | 22 => exact H 22
  | 23 => exact H 23
  | 24 => exact H 24
  | 25 =>
    show ∀ o k, o < (zd_O (zg_set A p i x)) → k < zd_ln (zg_set A p i x) o → (zx_sJ h 10 0 (24 * p + i) x).2 10 0 (24 * o + k) = zd_vl (zg_set A p i x) o k
    intro o k g0 g1
    simp only [zg_set, zd_B_uN, zd_B_uI, zd_B_uJ, zd_T_uN, zd_T_uI, zd_T_uJ, zd_srt_uN, zd_srt_uI, zd_srt_uJ, zd_sz_uN, zd_sz_uI, zd_sz_uJ, zd_nm_uN, zd_nm_uI, zd_nm_uJ, zd_pt_uN, zd_pt_uI, zd_pt_uJ, zd_of_uN, zd_of_uI, zd_of_uJ, zd_M_uN, zd_M_uI, zd_M_uJ, zd_mf_uN, zd_mf_uI, zd_mf_uJ, zd_mt_uN, zd_mt_uI, zd_mt_uJ, zd_rc_uN, zd_rc_uI, zd_rc_uJ, zd_kd_uN, zd_kd_uI, zd_kd_uJ, zd_tg_uN, zd_tg_uI, zd_tg_uJ, zd_wh_uN, zd_wh_uI, zd_wh_uJ, zd_F_uN, zd_F_uI, zd_F_uJ, zd_ff_uN, zd_ff_uI, zd_ff_uJ, zd_ft_uN, zd_ft_uI, zd_ft_uJ, zd_fa_uN, zd_fa_uI, zd_fa_uJ, zd_fb_uN, zd_fb_uI, zd_fb_uJ, zd_d0_uN, zd_d0_uI, zd_d0_uJ, zd_d1_uN, zd_d1_uI, zd_d1_uJ, zd_d2_uN, zd_d2_uI, zd_d2_uJ, zd_O_uN, zd_O_uI, zd_O_uJ, zd_ty_uN, zd_ty_uI, zd_ty_uJ, zd_ln_uN, zd_ln_uI, zd_ln_uJ, zd_vl_uN, zd_vl_uI, zd_vl_uJ, zd_B_uR, zd_T_uR, zd_srt_uR, zd_sz_uR, zd_nm_uR, zd_pt_uR, zd_of_uR, zd_M_uR, zd_mf_uR, zd_mt_uR, zd_rc_uR, zd_kd_uR, zd_tg_uR, zd_wh_uR, zd_F_uR, zd_ff_uR, zd_ft_uR, zd_fa_uR, zd_fb_uR, zd_d0_uR, zd_d1_uR, zd_d2_uR, zd_O_uR, zd_ty_uR, zd_ln_uR, zd_vl_uR, reduceIte, false_and, and_false, true_and, and_true, if_true, if_false, Nat.reduceEqDiff, reduceCtorEq, and_self, eq_self, Nat.succ_ne_self, zd_gJ, zd_gJ1, zd_gI, zd_gI2] at g0 g1 ⊢
    have := hl p (by omega)
    have := hl o (by omega)
    by_cases e : o = p
    · subst e
      by_cases e2 : k = i
      · subst e2; rw [if_pos rfl, if_pos ⟨rfl, rfl⟩]
      · rw [if_neg (by omega), if_neg (by omega)]
        exact zd_C_vl H o k g0 (by omega)
    · rw [if_neg (by omega), if_neg (by omega)]
      exact zd_C_vl H o k g0 g1
  | _ + 26 => exact trivial
theorem zg_C_app {A : zd_A} {h : zx_H} (H : zd_C A h) (K : zd_ok A) {p : Nat} {x : Int64} (hp : p < zd_O A) (hi : zd_ln A p < 24) : zd_C (zg_app A p x) (zx_sI (zx_sJ h 10 0 (24 * p + zd_ln A p) x) 9 0 p (nI (zd_ln A p + 1))) := by
  have hT := zd_ok_T K
  have hl : ∀ o, o < zd_O A → zd_ln A o ≤ 24 := fun o ho => zf_ln K ho
  intro q
  match q with
  | 0 => exact H 0
  | 1 => exact H 1
  | 2 => exact H 2
  | 3 => exact H 3
  | 4 => exact H 4
  | 5 => exact H 5
  | 6 => exact H 6
  | 7 => exact H 7
  | 8 => exact H 8
  | 9 => exact H 9
  | 10 => exact H 10
  | 11 => exact H 11
  | 12 => exact H 12
  | 13 => exact H 13
  | 14 => exact H 14
  | 15 => exact H 15
  | 16 => exact H 16
  | 17 => exact H 17
  | 18 => exact H 18
  | 19 => exact H 19
  | 20 => exact H 20
  | 21 => exact H 21
  | 22 => exact H 22
  | 23 => exact H 23
  | 24 =>
    show ∀ o, o < (zd_O (zg_app A p x)) → (zx_sI (zx_sJ h 10 0 (24 * p + zd_ln A p) x) 9 0 p (nI (zd_ln A p + 1))).1 9 0 o = nI (zd_ln (zg_app A p x) o)
    intro o g0
    simp only [zg_app, zd_B_uN, zd_B_uI, zd_B_uJ, zd_T_uN, zd_T_uI, zd_T_uJ, zd_srt_uN, zd_srt_uI, zd_srt_uJ, zd_sz_uN, zd_sz_uI, zd_sz_uJ, zd_nm_uN, zd_nm_uI, zd_nm_uJ, zd_pt_uN, zd_pt_uI, zd_pt_uJ, zd_of_uN, zd_of_uI, zd_of_uJ, zd_M_uN, zd_M_uI, zd_M_uJ, zd_mf_uN, zd_mf_uI, zd_mf_uJ, zd_mt_uN, zd_mt_uI, zd_mt_uJ, zd_rc_uN, zd_rc_uI, zd_rc_uJ, zd_kd_uN, zd_kd_uI, zd_kd_uJ, zd_tg_uN, zd_tg_uI, zd_tg_uJ, zd_wh_uN, zd_wh_uI, zd_wh_uJ, zd_F_uN, zd_F_uI, zd_F_uJ, zd_ff_uN, zd_ff_uI, zd_ff_uJ, zd_ft_uN, zd_ft_uI, zd_ft_uJ, zd_fa_uN, zd_fa_uI, zd_fa_uJ, zd_fb_uN, zd_fb_uI, zd_fb_uJ, zd_d0_uN, zd_d0_uI, zd_d0_uJ, zd_d1_uN, zd_d1_uI, zd_d1_uJ, zd_d2_uN, zd_d2_uI, zd_d2_uJ, zd_O_uN, zd_O_uI, zd_O_uJ, zd_ty_uN, zd_ty_uI, zd_ty_uJ, zd_ln_uN, zd_ln_uI, zd_ln_uJ, zd_vl_uN, zd_vl_uI, zd_vl_uJ, zd_B_uR, zd_T_uR, zd_srt_uR, zd_sz_uR, zd_nm_uR, zd_pt_uR, zd_of_uR, zd_M_uR, zd_mf_uR, zd_mt_uR, zd_rc_uR, zd_kd_uR, zd_tg_uR, zd_wh_uR, zd_F_uR, zd_ff_uR, zd_ft_uR, zd_fa_uR, zd_fb_uR, zd_d0_uR, zd_d1_uR, zd_d2_uR, zd_O_uR, zd_ty_uR, zd_ln_uR, zd_vl_uR, reduceIte, false_and, and_false, true_and, and_true, if_true, if_false, Nat.reduceEqDiff, reduceCtorEq, and_self, eq_self, Nat.succ_ne_self, zd_gI, zd_gI2, zd_gJ, zd_gJ1] at g0 ⊢
    repeat' split
    all_goals first | rfl | (exfalso; omega) | exact (zd_C_ln H o (by omega)) | (simp only [nI_1]; done) | (rw [nI_1]; done)
  | 25 =>
    show ∀ o k, o < (zd_O (zg_app A p x)) → k < zd_ln (zg_app A p x) o → (zx_sI (zx_sJ h 10 0 (24 * p + zd_ln A p) x) 9 0 p (nI (zd_ln A p + 1))).2 10 0 (24 * o + k) = zd_vl (zg_app A p x) o k
    intro o k g0 g1
    simp only [zg_app, zd_B_uN, zd_B_uI, zd_B_uJ, zd_T_uN, zd_T_uI, zd_T_uJ, zd_srt_uN, zd_srt_uI, zd_srt_uJ, zd_sz_uN, zd_sz_uI, zd_sz_uJ, zd_nm_uN, zd_nm_uI, zd_nm_uJ, zd_pt_uN, zd_pt_uI, zd_pt_uJ, zd_of_uN, zd_of_uI, zd_of_uJ, zd_M_uN, zd_M_uI, zd_M_uJ, zd_mf_uN, zd_mf_uI, zd_mf_uJ, zd_mt_uN, zd_mt_uI, zd_mt_uJ, zd_rc_uN, zd_rc_uI, zd_rc_uJ, zd_kd_uN, zd_kd_uI, zd_kd_uJ, zd_tg_uN, zd_tg_uI, zd_tg_uJ, zd_wh_uN, zd_wh_uI, zd_wh_uJ, zd_F_uN, zd_F_uI, zd_F_uJ, zd_ff_uN, zd_ff_uI, zd_ff_uJ, zd_ft_uN, zd_ft_uI, zd_ft_uJ, zd_fa_uN, zd_fa_uI, zd_fa_uJ, zd_fb_uN, zd_fb_uI, zd_fb_uJ, zd_d0_uN, zd_d0_uI, zd_d0_uJ, zd_d1_uN, zd_d1_uI, zd_d1_uJ, zd_d2_uN, zd_d2_uI, zd_d2_uJ, zd_O_uN, zd_O_uI, zd_O_uJ, zd_ty_uN, zd_ty_uI, zd_ty_uJ, zd_ln_uN, zd_ln_uI, zd_ln_uJ, zd_vl_uN, zd_vl_uI, zd_vl_uJ, zd_B_uR, zd_T_uR, zd_srt_uR, zd_sz_uR, zd_nm_uR, zd_pt_uR, zd_of_uR, zd_M_uR, zd_mf_uR, zd_mt_uR, zd_rc_uR, zd_kd_uR, zd_tg_uR, zd_wh_uR, zd_F_uR, zd_ff_uR, zd_ft_uR, zd_fa_uR, zd_fb_uR, zd_d0_uR, zd_d1_uR, zd_d2_uR, zd_O_uR, zd_ty_uR, zd_ln_uR, zd_vl_uR, reduceIte, false_and, and_false, true_and, and_true, if_true, if_false, Nat.reduceEqDiff, reduceCtorEq, and_self, eq_self, Nat.succ_ne_self, zd_gJ, zd_gJ1, zd_gI, zd_gI2] at g0 g1 ⊢
    have := hl p (by omega)
    have := hl o (by omega)
    by_cases e : o = p
    · subst e
      by_cases e2 : k = zd_ln A o
      · subst e2; rw [if_pos rfl, if_pos ⟨rfl, rfl⟩]
      · rw [if_pos rfl] at g1
        rw [if_neg (by omega), if_neg (by omega)]
        exact zd_C_vl H o k g0 (by omega)
    · rw [if_neg e] at g1
      rw [if_neg (by omega), if_neg (by omega)]
      exact zd_C_vl H o k g0 g1
  | _ + 26 => exact trivial
theorem zg_R_set {A : zd_A} {h : zx_H} (H : zd_R A h) (K : zd_ok A) {p i : Nat} {x : Int64} (hp : p < zd_O A) (hi : i < zd_ln A p) (h14 : zd_ty A p ≠ 14) : zd_R (zg_set A p i x) (zx_sJ h 42 0 (16 * p + i) x) := by
  have hT := zd_ok_T K
  intro q
  match q with
  | 0 => exact H 0
  | 1 => exact H 1
  | 2 => exact H 2
  | 3 => exact H 3
  | 4 => exact H 4
  | 5 => exact H 5
  | 6 => exact H 6
  | 7 => exact H 7
  | 8 => exact H 8
  | 9 => exact H 9
  | 10 => exact H 10
  | 11 => exact H 11
  | 12 => exact H 12
  | 13 => exact H 13
  | 14 => exact H 14
  | 15 => exact H 15
  | 16 => exact H 16
  | 17 => exact H 17
  | 18 => exact H 18
  | 19 => exact H 19
  | 20 => exact H 20
  | 21 => exact H 21
  | 22 => exact H 22
  | 23 => exact H 23
  | 24 => exact H 24
  | 25 =>
    show ∀ o k, o < (zd_O (zg_set A p i x)) → k < zd_ln (zg_set A p i x) o → zd_ty (zg_set A p i x) o ≠ 14 → (zx_sJ h 42 0 (16 * p + i) x).2 42 0 (16 * o + k) = zd_vl (zg_set A p i x) o k
    intro o k g0 g1 g2
    simp only [zg_set, zd_B_uN, zd_B_uI, zd_B_uJ, zd_T_uN, zd_T_uI, zd_T_uJ, zd_srt_uN, zd_srt_uI, zd_srt_uJ, zd_sz_uN, zd_sz_uI, zd_sz_uJ, zd_nm_uN, zd_nm_uI, zd_nm_uJ, zd_pt_uN, zd_pt_uI, zd_pt_uJ, zd_of_uN, zd_of_uI, zd_of_uJ, zd_M_uN, zd_M_uI, zd_M_uJ, zd_mf_uN, zd_mf_uI, zd_mf_uJ, zd_mt_uN, zd_mt_uI, zd_mt_uJ, zd_rc_uN, zd_rc_uI, zd_rc_uJ, zd_kd_uN, zd_kd_uI, zd_kd_uJ, zd_tg_uN, zd_tg_uI, zd_tg_uJ, zd_wh_uN, zd_wh_uI, zd_wh_uJ, zd_F_uN, zd_F_uI, zd_F_uJ, zd_ff_uN, zd_ff_uI, zd_ff_uJ, zd_ft_uN, zd_ft_uI, zd_ft_uJ, zd_fa_uN, zd_fa_uI, zd_fa_uJ, zd_fb_uN, zd_fb_uI, zd_fb_uJ, zd_d0_uN, zd_d0_uI, zd_d0_uJ, zd_d1_uN, zd_d1_uI, zd_d1_uJ, zd_d2_uN, zd_d2_uI, zd_d2_uJ, zd_O_uN, zd_O_uI, zd_O_uJ, zd_ty_uN, zd_ty_uI, zd_ty_uJ, zd_ln_uN, zd_ln_uI, zd_ln_uJ, zd_vl_uN, zd_vl_uI, zd_vl_uJ, zd_B_uR, zd_T_uR, zd_srt_uR, zd_sz_uR, zd_nm_uR, zd_pt_uR, zd_of_uR, zd_M_uR, zd_mf_uR, zd_mt_uR, zd_rc_uR, zd_kd_uR, zd_tg_uR, zd_wh_uR, zd_F_uR, zd_ff_uR, zd_ft_uR, zd_fa_uR, zd_fb_uR, zd_d0_uR, zd_d1_uR, zd_d2_uR, zd_O_uR, zd_ty_uR, zd_ln_uR, zd_vl_uR, reduceIte, false_and, and_false, true_and, and_true, if_true, if_false, Nat.reduceEqDiff, reduceCtorEq, and_self, eq_self, Nat.succ_ne_self, zd_gJ, zd_gJ1, zd_gI, zd_gI2] at g0 g1 g2 ⊢
    have := zg_len K (o := p) (by omega) h14
    have := zg_len K (o := o) (by omega) g2
    by_cases e : o = p
    · subst e
      by_cases e2 : k = i
      · subst e2; rw [if_pos rfl, if_pos ⟨rfl, rfl⟩]
      · rw [if_neg (by omega), if_neg (by omega)]
        exact zd_R_vl H o k g0 (by omega) g2
    · rw [if_neg (by omega), if_neg (by omega)]
      exact zd_R_vl H o k g0 g1 g2
  | 26 =>
    show ∀ o k, o < (zd_O (zg_set A p i x)) → k < zd_ln (zg_set A p i x) o → zd_ty (zg_set A p i x) o = 14 → ((zx_sJ h 42 0 (16 * p + i) x).1 43 0 (24 * o + k)).toInt64 = zd_vl (zg_set A p i x) o k
    intro o k g0 g1 g2
    have e : o ≠ p := fun e => h14 (e ▸ g2)
    simp only [zg_set, zd_B_uN, zd_B_uI, zd_B_uJ, zd_T_uN, zd_T_uI, zd_T_uJ, zd_srt_uN, zd_srt_uI, zd_srt_uJ, zd_sz_uN, zd_sz_uI, zd_sz_uJ, zd_nm_uN, zd_nm_uI, zd_nm_uJ, zd_pt_uN, zd_pt_uI, zd_pt_uJ, zd_of_uN, zd_of_uI, zd_of_uJ, zd_M_uN, zd_M_uI, zd_M_uJ, zd_mf_uN, zd_mf_uI, zd_mf_uJ, zd_mt_uN, zd_mt_uI, zd_mt_uJ, zd_rc_uN, zd_rc_uI, zd_rc_uJ, zd_kd_uN, zd_kd_uI, zd_kd_uJ, zd_tg_uN, zd_tg_uI, zd_tg_uJ, zd_wh_uN, zd_wh_uI, zd_wh_uJ, zd_F_uN, zd_F_uI, zd_F_uJ, zd_ff_uN, zd_ff_uI, zd_ff_uJ, zd_ft_uN, zd_ft_uI, zd_ft_uJ, zd_fa_uN, zd_fa_uI, zd_fa_uJ, zd_fb_uN, zd_fb_uI, zd_fb_uJ, zd_d0_uN, zd_d0_uI, zd_d0_uJ, zd_d1_uN, zd_d1_uI, zd_d1_uJ, zd_d2_uN, zd_d2_uI, zd_d2_uJ, zd_O_uN, zd_O_uI, zd_O_uJ, zd_ty_uN, zd_ty_uI, zd_ty_uJ, zd_ln_uN, zd_ln_uI, zd_ln_uJ, zd_vl_uN, zd_vl_uI, zd_vl_uJ, zd_B_uR, zd_T_uR, zd_srt_uR, zd_sz_uR, zd_nm_uR, zd_pt_uR, zd_of_uR, zd_M_uR, zd_mf_uR, zd_mt_uR, zd_rc_uR, zd_kd_uR, zd_tg_uR, zd_wh_uR, zd_F_uR, zd_ff_uR, zd_ft_uR, zd_fa_uR, zd_fb_uR, zd_d0_uR, zd_d1_uR, zd_d2_uR, zd_O_uR, zd_ty_uR, zd_ln_uR, zd_vl_uR, reduceIte, false_and, and_false, true_and, and_true, if_true, if_false, Nat.reduceEqDiff, reduceCtorEq, and_self, eq_self, Nat.succ_ne_self, zd_gJ, zd_gJ1, zd_gI, zd_gI2] at g0 g1 g2 ⊢
    rw [if_neg (fun z => e z.1)]
    exact zd_R_ch H o k g0 g1 g2
  | _ + 27 => exact trivial
theorem zg_R_app {A : zd_A} {h : zx_H} (H : zd_R A h) (K : zd_ok A) {p : Nat} {x : Int64} (hp : p < zd_O A) (hi : zd_ln A p < 16) (h14 : zd_ty A p ≠ 14) : zd_R (zg_app A p x) (zx_sI (zx_sJ h 42 0 (16 * p + zd_ln A p) x) 41 0 p (nI (zd_ln A p + 1))) := by
  have hT := zd_ok_T K
  intro q
  match q with
  | 0 => exact H 0
  | 1 => exact H 1
  | 2 => exact H 2
  | 3 => exact H 3
  | 4 => exact H 4
  | 5 => exact H 5
  | 6 => exact H 6
  | 7 => exact H 7
  | 8 => exact H 8
  | 9 => exact H 9
  | 10 => exact H 10
  | 11 => exact H 11
  | 12 => exact H 12
  | 13 => exact H 13
  | 14 => exact H 14
  | 15 => exact H 15
  | 16 => exact H 16
  | 17 => exact H 17
  | 18 => exact H 18
  | 19 => exact H 19
  | 20 => exact H 20
  | 21 => exact H 21
  | 22 => exact H 22
  | 23 => exact H 23
  | 24 =>
    show ∀ o, o < (zd_O (zg_app A p x)) → (zx_sI (zx_sJ h 42 0 (16 * p + zd_ln A p) x) 41 0 p (nI (zd_ln A p + 1))).1 41 0 o = nI (zd_ln (zg_app A p x) o)
    intro o g0
    simp only [zg_app, zd_B_uN, zd_B_uI, zd_B_uJ, zd_T_uN, zd_T_uI, zd_T_uJ, zd_srt_uN, zd_srt_uI, zd_srt_uJ, zd_sz_uN, zd_sz_uI, zd_sz_uJ, zd_nm_uN, zd_nm_uI, zd_nm_uJ, zd_pt_uN, zd_pt_uI, zd_pt_uJ, zd_of_uN, zd_of_uI, zd_of_uJ, zd_M_uN, zd_M_uI, zd_M_uJ, zd_mf_uN, zd_mf_uI, zd_mf_uJ, zd_mt_uN, zd_mt_uI, zd_mt_uJ, zd_rc_uN, zd_rc_uI, zd_rc_uJ, zd_kd_uN, zd_kd_uI, zd_kd_uJ, zd_tg_uN, zd_tg_uI, zd_tg_uJ, zd_wh_uN, zd_wh_uI, zd_wh_uJ, zd_F_uN, zd_F_uI, zd_F_uJ, zd_ff_uN, zd_ff_uI, zd_ff_uJ, zd_ft_uN, zd_ft_uI, zd_ft_uJ, zd_fa_uN, zd_fa_uI, zd_fa_uJ, zd_fb_uN, zd_fb_uI, zd_fb_uJ, zd_d0_uN, zd_d0_uI, zd_d0_uJ, zd_d1_uN, zd_d1_uI, zd_d1_uJ, zd_d2_uN, zd_d2_uI, zd_d2_uJ, zd_O_uN, zd_O_uI, zd_O_uJ, zd_ty_uN, zd_ty_uI, zd_ty_uJ, zd_ln_uN, zd_ln_uI, zd_ln_uJ, zd_vl_uN, zd_vl_uI, zd_vl_uJ, zd_B_uR, zd_T_uR, zd_srt_uR, zd_sz_uR, zd_nm_uR, zd_pt_uR, zd_of_uR, zd_M_uR, zd_mf_uR, zd_mt_uR, zd_rc_uR, zd_kd_uR, zd_tg_uR, zd_wh_uR, zd_F_uR, zd_ff_uR, zd_ft_uR, zd_fa_uR, zd_fb_uR, zd_d0_uR, zd_d1_uR, zd_d2_uR, zd_O_uR, zd_ty_uR, zd_ln_uR, zd_vl_uR, reduceIte, false_and, and_false, true_and, and_true, if_true, if_false, Nat.reduceEqDiff, reduceCtorEq, and_self, eq_self, Nat.succ_ne_self, zd_gI, zd_gI2, zd_gJ, zd_gJ1] at g0 ⊢
    repeat' split
    all_goals first | rfl | (exfalso; omega) | exact (zd_R_ln H o (by omega)) | (simp only [nI_1]; done) | (rw [nI_1]; done)
  | 25 =>
    show ∀ o k, o < (zd_O (zg_app A p x)) → k < zd_ln (zg_app A p x) o → zd_ty (zg_app A p x) o ≠ 14 → (zx_sI (zx_sJ h 42 0 (16 * p + zd_ln A p) x) 41 0 p (nI (zd_ln A p + 1))).2 42 0 (16 * o + k) = zd_vl (zg_app A p x) o k
    intro o k g0 g1 g2
    simp only [zg_app, zd_B_uN, zd_B_uI, zd_B_uJ, zd_T_uN, zd_T_uI, zd_T_uJ, zd_srt_uN, zd_srt_uI, zd_srt_uJ, zd_sz_uN, zd_sz_uI, zd_sz_uJ, zd_nm_uN, zd_nm_uI, zd_nm_uJ, zd_pt_uN, zd_pt_uI, zd_pt_uJ, zd_of_uN, zd_of_uI, zd_of_uJ, zd_M_uN, zd_M_uI, zd_M_uJ, zd_mf_uN, zd_mf_uI, zd_mf_uJ, zd_mt_uN, zd_mt_uI, zd_mt_uJ, zd_rc_uN, zd_rc_uI, zd_rc_uJ, zd_kd_uN, zd_kd_uI, zd_kd_uJ, zd_tg_uN, zd_tg_uI, zd_tg_uJ, zd_wh_uN, zd_wh_uI, zd_wh_uJ, zd_F_uN, zd_F_uI, zd_F_uJ, zd_ff_uN, zd_ff_uI, zd_ff_uJ, zd_ft_uN, zd_ft_uI, zd_ft_uJ, zd_fa_uN, zd_fa_uI, zd_fa_uJ, zd_fb_uN, zd_fb_uI, zd_fb_uJ, zd_d0_uN, zd_d0_uI, zd_d0_uJ, zd_d1_uN, zd_d1_uI, zd_d1_uJ, zd_d2_uN, zd_d2_uI, zd_d2_uJ, zd_O_uN, zd_O_uI, zd_O_uJ, zd_ty_uN, zd_ty_uI, zd_ty_uJ, zd_ln_uN, zd_ln_uI, zd_ln_uJ, zd_vl_uN, zd_vl_uI, zd_vl_uJ, zd_B_uR, zd_T_uR, zd_srt_uR, zd_sz_uR, zd_nm_uR, zd_pt_uR, zd_of_uR, zd_M_uR, zd_mf_uR, zd_mt_uR, zd_rc_uR, zd_kd_uR, zd_tg_uR, zd_wh_uR, zd_F_uR, zd_ff_uR, zd_ft_uR, zd_fa_uR, zd_fb_uR, zd_d0_uR, zd_d1_uR, zd_d2_uR, zd_O_uR, zd_ty_uR, zd_ln_uR, zd_vl_uR, reduceIte, false_and, and_false, true_and, and_true, if_true, if_false, Nat.reduceEqDiff, reduceCtorEq, and_self, eq_self, Nat.succ_ne_self, zd_gJ, zd_gJ1, zd_gI, zd_gI2] at g0 g1 g2 ⊢
    have := zg_len K (o := p) (by omega) h14
    have := zg_len K (o := o) (by omega) g2
    by_cases e : o = p
    · subst e
      by_cases e2 : k = zd_ln A o
      · subst e2; rw [if_pos rfl, if_pos ⟨rfl, rfl⟩]
      · rw [if_pos rfl] at g1
        rw [if_neg (by omega), if_neg (by omega)]
        exact zd_R_vl H o k g0 (by omega) g2
    · rw [if_neg e] at g1
      rw [if_neg (by omega), if_neg (by omega)]
      exact zd_R_vl H o k g0 g1 g2
  | 26 =>
    show ∀ o k, o < (zd_O (zg_app A p x)) → k < zd_ln (zg_app A p x) o → zd_ty (zg_app A p x) o = 14 → ((zx_sI (zx_sJ h 42 0 (16 * p + zd_ln A p) x) 41 0 p (nI (zd_ln A p + 1))).1 43 0 (24 * o + k)).toInt64 = zd_vl (zg_app A p x) o k
    intro o k g0 g1 g2
    have e : o ≠ p := fun e => h14 (e ▸ g2)
    simp only [zg_app, zd_B_uN, zd_B_uI, zd_B_uJ, zd_T_uN, zd_T_uI, zd_T_uJ, zd_srt_uN, zd_srt_uI, zd_srt_uJ, zd_sz_uN, zd_sz_uI, zd_sz_uJ, zd_nm_uN, zd_nm_uI, zd_nm_uJ, zd_pt_uN, zd_pt_uI, zd_pt_uJ, zd_of_uN, zd_of_uI, zd_of_uJ, zd_M_uN, zd_M_uI, zd_M_uJ, zd_mf_uN, zd_mf_uI, zd_mf_uJ, zd_mt_uN, zd_mt_uI, zd_mt_uJ, zd_rc_uN, zd_rc_uI, zd_rc_uJ, zd_kd_uN, zd_kd_uI, zd_kd_uJ, zd_tg_uN, zd_tg_uI, zd_tg_uJ, zd_wh_uN, zd_wh_uI, zd_wh_uJ, zd_F_uN, zd_F_uI, zd_F_uJ, zd_ff_uN, zd_ff_uI, zd_ff_uJ, zd_ft_uN, zd_ft_uI, zd_ft_uJ, zd_fa_uN, zd_fa_uI, zd_fa_uJ, zd_fb_uN, zd_fb_uI, zd_fb_uJ, zd_d0_uN, zd_d0_uI, zd_d0_uJ, zd_d1_uN, zd_d1_uI, zd_d1_uJ, zd_d2_uN, zd_d2_uI, zd_d2_uJ, zd_O_uN, zd_O_uI, zd_O_uJ, zd_ty_uN, zd_ty_uI, zd_ty_uJ, zd_ln_uN, zd_ln_uI, zd_ln_uJ, zd_vl_uN, zd_vl_uI, zd_vl_uJ, zd_B_uR, zd_T_uR, zd_srt_uR, zd_sz_uR, zd_nm_uR, zd_pt_uR, zd_of_uR, zd_M_uR, zd_mf_uR, zd_mt_uR, zd_rc_uR, zd_kd_uR, zd_tg_uR, zd_wh_uR, zd_F_uR, zd_ff_uR, zd_ft_uR, zd_fa_uR, zd_fb_uR, zd_d0_uR, zd_d1_uR, zd_d2_uR, zd_O_uR, zd_ty_uR, zd_ln_uR, zd_vl_uR, reduceIte, false_and, and_false, true_and, and_true, if_true, if_false, Nat.reduceEqDiff, reduceCtorEq, and_self, eq_self, Nat.succ_ne_self, zd_gJ, zd_gJ1, zd_gI, zd_gI2] at g0 g1 g2 ⊢
    rw [if_neg e] at g1
    rw [if_neg (fun z => e z.1)]
    exact zd_R_ch H o k g0 g1 g2
  | _ + 27 => exact trivial