/-! only what maps was written: A goes on telling it -/
theorem zm_C_old {A : zd_A} {h k : zx_H} (H : zd_C A h) (K : zd_ok A) (a : zd_fC (zd_O A) h k) (e1 : k.1 7 0 4 = nI (zd_O A)) : zd_C A k := by
  intro q
  match q with
  | 0 =>
    have e := zd_C_B H
    rw [← (a.1 0 (by decide) (by decide)).1] at e
    exact e
  | 1 =>
    have e := zd_C_T H
    rw [← (a.1 1 (by decide) (by decide)).1] at e
    exact e
  | 2 => exact fun t g0 g1 => (show _ = _ from by rw [(a.1 2 (by decide) (by decide)).1]; exact zd_C_form H t g0 g1)
  | 3 => exact fun t g0 g1 => (show _ = _ from by rw [(a.1 3 (by decide) (by decide)).1]; exact zd_C_of H t g0 g1)
  | 4 => exact fun t g0 => (show _ = _ from by rw [(a.1 4 (by decide) (by decide)).1]; exact zd_C_sz H t g0)
  | 5 => exact fun t k g0 g1 => (show _ = _ from by rw [(a.1 5 (by decide) (by decide)).1]; exact zd_C_nm H t k g0 g1)
  | 6 => exact fun t k g0 g1 g2 => (show _ = _ from by rw [(a.1 6 (by decide) (by decide)).1]; exact zd_C_pt H t k g0 g1 g2)
  | 7 =>
    have e := zd_C_F H
    rw [← (a.1 11 (by decide) (by decide)).1] at e
    exact e
  | 8 =>
    have e := zd_C_M H
    rw [← (a.1 11 (by decide) (by decide)).1] at e
    exact e
  | 9 => exact fun m g0 => (show _ = _ from by rw [(a.1 54 (by decide) (by decide)).1]; exact zd_C_mf H m g0)
  | 10 => exact fun m g0 => (show _ = _ from by rw [(a.1 54 (by decide) (by decide)).1]; exact zd_C_mt H m g0)
  | 11 => exact fun m g0 => (show _ = _ from by rw [(a.1 54 (by decide) (by decide)).1]; exact zd_C_rc H m g0)
  | 12 => exact fun m r g0 g1 => (show _ = _ from by rw [(a.1 55 (by decide) (by decide)).1]; exact zd_C_kd H m r g0 g1)
  | 13 => exact fun m r g0 g1 => (show _ = _ from by rw [(a.1 56 (by decide) (by decide)).1]; exact zd_C_tg H m r g0 g1)
  | 14 => exact fun m r g0 g1 => (show _ = _ from by rw [(a.1 57 (by decide) (by decide)).2]; exact zd_C_wh H m r g0 g1)
  | 15 => exact fun f g0 => (show _ = _ from by rw [(a.1 53 (by decide) (by decide)).1]; exact zd_C_ff H f g0)
  | 16 => exact fun f g0 => (show _ = _ from by rw [(a.1 53 (by decide) (by decide)).1]; exact zd_C_ft H f g0)
  | 17 => exact fun f g0 => (show _ = _ from by rw [(a.1 53 (by decide) (by decide)).1]; exact zd_C_fa H f g0)
  | 18 => exact fun f g0 => (show _ = _ from by rw [(a.1 53 (by decide) (by decide)).1]; exact zd_C_fb H f g0)
  | 19 =>
    have e := zd_C_d0 H
    rw [← (a.1 16 (by decide) (by decide)).1] at e
    exact e
  | 20 =>
    have e := zd_C_d1 H
    rw [← (a.1 16 (by decide) (by decide)).1] at e
    exact e
  | 21 =>
    have e := zd_C_d2 H
    rw [← (a.1 16 (by decide) (by decide)).1] at e
    exact e
  | 22 => exact e1
  | 23 => exact fun o ho => (show _ = _ from by rw [(a.2.1 o ho).1]; exact zd_C_ty H o ho)
  | 24 => exact fun o ho => (show _ = _ from by rw [(a.2.1 o ho).2]; exact zd_C_ln H o ho)
  | 25 =>
    intro o i ho hi
    have := zf_ln K ho
    show k.2 10 0 (24 * o + i) = _
    rw [a.2.2 _ (by omega)]
    exact zd_C_vl H o i ho hi
  | _ + 26 => exact trivial
theorem zm_R_old {A : zd_A} {h k : zx_H} (H : zd_R A h) (K : zd_ok A) (a : zd_fR (zd_O A) h k) (e1 : k.1 24 0 23 = nI (zd_O A)) : zd_R A k := by
  intro q
  match q with
  | 0 =>
    have e := zd_R_B H
    rw [← a.2.1 1 (by unfold zd_st; decide)] at e
    exact e
  | 1 =>
    have e := zd_R_T H
    rw [← a.2.1 2 (by unfold zd_st; decide)] at e
    exact e
  | 2 => exact fun t g0 => (show _ = _ from by rw [(a.1 25 (by decide) (by decide)).1]; exact zd_R_srt H t g0)
  | 3 => exact fun t g0 => (show _ = _ from by rw [(a.1 26 (by decide) (by decide)).1]; exact zd_R_sz H t g0)
  | 4 => exact fun t k g0 g1 => (show _ = _ from by rw [(a.1 27 (by decide) (by decide)).1]; exact zd_R_nm H t k g0 g1)
  | 5 => exact fun t k g0 g1 g2 => (show _ = _ from by rw [(a.1 28 (by decide) (by decide)).1]; exact zd_R_pt H t k g0 g1 g2)
  | 6 => exact fun t g0 g1 => (show _ = _ from by rw [(a.1 29 (by decide) (by decide)).1]; exact zd_R_of H t g0 g1)
  | 7 =>
    have e := zd_R_M H
    rw [← a.2.1 8 (by unfold zd_st; decide)] at e
    exact e
  | 8 => exact fun m g0 => (show _ = _ from by rw [(a.1 30 (by decide) (by decide)).1]; exact zd_R_mf H m g0)
  | 9 => exact fun m g0 => (show _ = _ from by rw [(a.1 31 (by decide) (by decide)).1]; exact zd_R_mt H m g0)
  | 10 => exact fun m g0 => (show _ = _ from by rw [(a.1 32 (by decide) (by decide)).1]; exact zd_R_rc H m g0)
  | 11 => exact fun m r g0 g1 => (show _ = _ from by rw [(a.1 33 (by decide) (by decide)).1]; exact zd_R_kd H m r g0 g1)
  | 12 => exact fun m r g0 g1 => (show _ = _ from by rw [(a.1 34 (by decide) (by decide)).1]; exact zd_R_tg H m r g0 g1)
  | 13 => exact fun m r g0 g1 => (show _ = _ from by rw [(a.1 35 (by decide) (by decide)).2]; exact zd_R_wh H m r g0 g1)
  | 14 =>
    have e := zd_R_F H
    rw [← a.2.1 15 (by unfold zd_st; decide)] at e
    exact e
  | 15 => exact fun f g0 => (show _ = _ from by rw [(a.1 36 (by decide) (by decide)).1]; exact zd_R_ff H f g0)
  | 16 => exact fun f g0 => (show _ = _ from by rw [(a.1 37 (by decide) (by decide)).1]; exact zd_R_ft H f g0)
  | 17 => exact fun f g0 => (show _ = _ from by rw [(a.1 38 (by decide) (by decide)).1]; exact zd_R_fa H f g0)
  | 18 => exact fun f g0 => (show _ = _ from by rw [(a.1 39 (by decide) (by decide)).1]; exact zd_R_fb H f g0)
  | 19 =>
    have e := zd_R_d0 H
    rw [← a.2.1 20 (by unfold zd_st; decide)] at e
    exact e
  | 20 =>
    have e := zd_R_d1 H
    rw [← a.2.1 21 (by unfold zd_st; decide)] at e
    exact e
  | 21 =>
    have e := zd_R_d2 H
    rw [← a.2.1 22 (by unfold zd_st; decide)] at e
    exact e
  | 22 => exact e1
  | 23 => exact fun o ho => (show _ = _ from by rw [(a.2.2.1 o ho).1]; exact zd_R_ty H o ho)
  | 24 => exact fun o ho => (show _ = _ from by rw [(a.2.2.1 o ho).2]; exact zd_R_ln H o ho)
  | 25 =>
    intro o i ho hi h14
    have := zg_len K (o := o) ho h14
    show k.2 42 0 (16 * o + i) = _
    rw [a.2.2.2.1 _ (by omega)]
    exact zd_R_vl H o i ho hi h14
  | 26 =>
    intro o i ho hi h14
    have := zf_ln K ho
    show (k.1 43 0 (24 * o + i)).toInt64 = _
    rw [a.2.2.2.2 _ (by omega)]
    exact zd_R_ch H o i ho hi h14
  | _ + 27 => exact trivial
/-- what a step has made -/
theorem zm_C_new {B : zd_A} {s s1 : zx_H} {n : Nat} (H : zd_C B s) (K : zd_ok B) (hn : n = zd_O B) (a : zd_fC n s s1) {ob : zm_Ob} (o : zm_obC n ob s1) : zd_C (zm_new B ob) s1 := by
  subst hn
  cases ob with
  | none => exact zm_C_old H K a o
  | some q =>
    obtain ⟨t, c, f⟩ := q
    obtain ⟨_, o1, o2, o3, o4⟩ := o
    exact zg_C_newO H a (fun o ho => zf_ln K ho) o1 o2 o3 o4
theorem zm_R_new {B : zd_A} {s s1 : zx_H} {n : Nat} (H : zd_R B s) (K : zd_ok B) (hn : n = zd_O B) (a : zd_fR n s s1) {ob : zm_Ob} (o : zm_obR n ob s1) : zd_R (zm_new B ob) s1 := by
  subst hn
  cases ob with
  | none => exact zm_R_old H K a o
  | some q =>
    obtain ⟨t, c, f⟩ := q
    obtain ⟨_, o1, o2, o3, o4, o5⟩ := o
    exact zg_R_newO H K a o1 o2 o3 o4 o5
theorem zm_ok_new {B : zd_A} (K : zd_ok B) {b : Nat} (hb : b < zd_T B) {v : Int64} {ob : zm_Ob} {G : zm_G} (hO : ob ≠ none → zd_O B < 400) (f : zm_fitZ B b (some (v, ob, G))) : zd_ok (zm_new B ob) ∧ zd_val (zm_new B ob) b v := by
  cases ob with
  | none => exact ⟨K, f⟩
  | some q =>
    obtain ⟨t, c, g⟩ := q
    obtain ⟨hv, htb, h1, h2, h3, h4, h5, h6⟩ := f
    subst hv htb
    have hT := zd_ok_T K
    have hO := hO (fun z => by cases z)
    have s1 : zd_srt B t = 1 → 7 ≤ t ∧ t < 14 := fun hs => by
      by_cases c : t < 14
      · exact ⟨h1, c⟩
      · by_cases c2 : t = 14
        · have := zd_ok_s2 K; rw [← c2] at this; omega
        · have := zd_ok_s3 K t (by omega) hb; omega
    refine ⟨zg_ok_newO K hO ⟨h1, hb, h2⟩ (fun hs => ?_) h4 (fun hs => ?_) (fun hs => ?_), ?_⟩
    · have := s1 hs
      exact ⟨(h3 hs).1, (zn_val (by omega) _).mpr (h3 hs).2⟩
    · have q := h5 hs
      refine ⟨q.1, fun i hi => ?_⟩
      rw [q.2 i hi]
      exact zg_emp_val K
    · have q := h6 hs
      exact ⟨by omega, fun i hi => by omega⟩
    · show zd_val (zg_newO B t c g) t (lN (zd_O B))
      unfold zd_val
      rw [if_neg (by omega)]
      refine Or.inr (Or.inr ⟨h2, zd_O B, Nat.lt_succ_self _, ?_, rfl⟩)
      rw [zg_newO_ty, if_pos rfl]
