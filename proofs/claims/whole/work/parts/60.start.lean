theorem zw_27 : (Jvm.Cond.classLink "BeanLoomLaw" (8 : Nat) "BeanLoom") ∈ zx_G := zx_Gt 27 (by decide +kernel) rfl
theorem zw_28 : (Jvm.Cond.instantiable "BeanLoom" (6 : Nat)) ∈ zx_G := zx_Gt 28 (by decide +kernel) rfl
theorem zw_1101 : (Jvm.Cond.classLink "BeanLoomLaw" (63 : Nat) "BeanLoomModel") ∈ zx_G := zx_Gt 1101 (by decide +kernel) rfl
theorem zw_1102 : (Jvm.Cond.instantiable "BeanLoomModel" (40 : Nat)) ∈ zx_G := zx_Gt 1102 (by decide +kernel) rfl
theorem zw_31 : (Jvm.Cond.code ({ cls := "BeanLoom", name := "<init>", desc := "()V" } : Jvm.MethodName) prog_1_method_1_code (2 : Nat) (Option.none : Option Jvm.ClassFile.FieldType)) ∈ zx_G := zx_Gt 31 (by decide +kernel) rfl
theorem zw_29 : (Jvm.Cond.methodLink "BeanLoomLaw" (62 : Nat) ({ cls := "BeanLoom", name := "<init>", desc := "()V" } : Jvm.MethodName)) ∈ zx_G := zx_Gt 29 (by decide +kernel) rfl
theorem zw_30 : (Jvm.Cond.instanceMethod ({ cls := "BeanLoom", name := "<init>", desc := "()V" } : Jvm.MethodName)) ∈ zx_G := zx_Gt 30 (by decide +kernel) rfl
theorem zw_1105 : (Jvm.Cond.code ({ cls := "BeanLoomModel", name := "<init>", desc := "()V" } : Jvm.MethodName) prog_14_method_1_code (2 : Nat) (Option.none : Option Jvm.ClassFile.FieldType)) ∈ zx_G := zx_Gt 1105 (by decide +kernel) rfl
theorem zw_1103 : (Jvm.Cond.methodLink "BeanLoomLaw" (65 : Nat) ({ cls := "BeanLoomModel", name := "<init>", desc := "()V" } : Jvm.MethodName)) ∈ zx_G := zx_Gt 1103 (by decide +kernel) rfl
theorem zw_1104 : (Jvm.Cond.instanceMethod ({ cls := "BeanLoomModel", name := "<init>", desc := "()V" } : Jvm.MethodName)) ∈ zx_G := zx_Gt 1104 (by decide +kernel) rfl
/-! ===== the first world ===== -/
def zx_h0 : zx_H := (fun F i j => match F, j with
  | 1, 5 => 15
  | 16, 5 => -1
  | 16, 6 => -1
  | 24, 2 => 15
  | 24, 21 => -1
  | 24, 22 => -1
  | 25, j => zc_sort 15 j
  | _, _ => 0, fun _ _ _ => 0)
def zx_mk (D : va_G) (kc : Nat → ClassId) (N0 : Nat) (xa : Nat → Nat) : zx_K := (D, kc, fun k => N0 + zx_ord k, N0, xa)
theorem zx_mk_ok (D : va_G) (kc : Nat → ClassId) (N0 : Nat) (xa : Nat → Nat) : zx_ok (zx_mk D kc N0 xa) := by
  refine ⟨fun i j hi hj e => ?_, fun i hi => Nat.le_add_right _ _⟩
  have e1 : zx_ord i = zx_ord j := Nat.add_left_cancel e
  have h1 := (zx_ord_al i hi).2
  have h2 := (zx_ord_al j hj).2
  rw [e1] at h1
  have h3 := (zx_pl_fam i hi).1
  have h4 := (zx_pl_fam j hj).1
  rw [← h1] at h3
  rw [← h2] at h4
  exact h3.symm.trans h4
theorem zx_mk_KO (D : va_G) (kc : Nat → ClassId) (N0 : Nat) (xa : Nat → Nat) : zx_KO (zx_mk D kc N0 xa) := fun _ => rfl
/-- the same cell: equal, or arrays of references whose places are -/
def zx_alk (e e1 : va_E) : Prop := e = e1 ∨ ∃ (kc n : Nat) (f g : Nat → Option Nat), e = .inl (kc, n, .inr (.inr (.inr (.inr f)))) ∧ e1 = .inl (kc, n, .inr (.inr (.inr (.inr g)))) ∧ ∀ q, q < n → f q = g q
theorem zx_arrV_ext {kc n : Nat} {f g : Nat → Value} (h : ∀ j, j < n → f j = g j) : arrV kc n f = arrV kc n g := by
  have e : (fun j : Fin n => f j.val) = fun j : Fin n => g j.val := funext fun j => h j.val j.isLt
  unfold arrV
  rw [e]
theorem zx_alk_at {D : va_G} {cl : List vw_C} {a : Nat} {e e1 : va_E} {H : Heap} (h : zx_alk e e1) (h1 : va_at D cl (a, e) H) : va_at D cl (a, e1) H := by
  rcases h with rfl | ⟨kc, n, f, g, rfl, rfl, hfg⟩
  · exact h1
  · refine Eq.trans h1 (congrArg some ?_)
    show arrV kc n (fun j => va_rf (f j)) = arrV kc n (fun j => va_rf (g j))
    exact zx_arrV_ext (fun j hj => by rw [hfg j hj])
theorem zx_last9 {K : zx_K} (hO : zx_KO K) {c : Nat → va_E} {h : zx_H} {H : Heap} (hP : zx_hp K c zx_NP H) (hc : ∀ j, j < zx_NP → zx_alk (c j) (zx_cF K h (zx_al j).1 (zx_al j).2)) : va_P (zx_kD K) zx_cl (zx_wd K h) H := by
  intro k q hq
  by_cases hk : k < zx_NP
  · rw [zx_wd_k K h hk] at hq
    cases hq
    obtain ⟨h1, h2⟩ := zx_ord_al k hk
    have h3 := hP.2 (zx_ord k) _ (zx_wl_at h1)
    have h4 := zx_alk_at (hc _ h1) h3
    rw [h2, ← hO k] at h4
    exact h4
  · rw [zx_wd_out K h (Nat.not_lt.mp hk)] at hq
    cases hq
def zx_all : Nat → (Nat → Prop) → Nat → Prop
  | 0, _, _ => True
  | n + 1, p, k => p k ∧ zx_all n p (k + 1)
theorem zx_all_at {p : Nat → Prop} : ∀ (n k : Nat), zx_all n p k → ∀ j, k ≤ j → j < k + n → p j := by
  intro n
  induction n with
  | zero => intro k _ j h1 h2; omega
  | succ n ih =>
    intro k h j h1 h2
    by_cases hj : j = k
    · subst hj; exact h.1
    · exact ih (k + 1) h.2 j (by omega) (by omega)

def zx_c1 (K : zx_K) (c : Nat → va_E) : Nat → va_E := zc_Loom K (zx_up c 0 (.inr (0, [.null, .null, .null, .null, .null, .int 0])))
def zx_c2 (K : zx_K) (c : Nat → va_E) : Nat → va_E := zc_Ref K (zx_up (zx_c1 K c) 386 (.inr (11, [.int 0, .int 0, .int 0, .null, .null, .null, .null, .null, .int 0, .null, .null, .null, .null, .null, .null, .int 0, .null, .null, .null, .null, .int 0, .int 0, .int 0, .int 0, .null, .null, .null, .null, .int 0, .null, .null, .null, .int 0, .null, .null, .null, .null, .int 0, .int 0, .null]))) 15
def zx_c3 (K : zx_K) (c : Nat → va_E) : Nat → va_E := zx_up (zx_c2 K c) 414 (.inl (zx_kc K 1, 1, .inr (.inl (fun _ => 0))))
set_option maxHeartbeats 4000000 in
set_option maxRecDepth 100000 in
theorem zx_fin_0 (D : va_G) (kc : Nat → ClassId) (N0 : Nat) (xa : Nat → Nat) (c : Nat → va_E) : zx_all 35 (fun j => zx_alk (zx_c3 (zx_mk D kc N0 xa) c j) (zx_cF (zx_mk D kc N0 xa) zx_h0 (zx_al j).1 (zx_al j).2)) 0 :=
  ⟨.inl rfl, .inl rfl, .inl rfl, .inl rfl, .inl rfl, .inl rfl, .inl rfl, .inl rfl, .inr ⟨_, 8, _, _, rfl, rfl, fun q hq => match q, hq with | 0, _ => rfl | 1, _ => rfl | 2, _ => rfl | 3, _ => rfl | 4, _ => rfl | 5, _ => rfl | 6, _ => rfl | 7, _ => rfl | q + 8, h => absurd h (by omega)⟩, .inr ⟨_, 16, _, _, rfl, rfl, fun q hq => match q, hq with | 0, _ => rfl | 1, _ => rfl | 2, _ => rfl | 3, _ => rfl | 4, _ => rfl | 5, _ => rfl | 6, _ => rfl | 7, _ => rfl | 8, _ => rfl | 9, _ => rfl | 10, _ => rfl | 11, _ => rfl | 12, _ => rfl | 13, _ => rfl | 14, _ => rfl | 15, _ => rfl | q + 16, h => absurd h (by omega)⟩, .inl rfl, .inl rfl, .inl rfl, .inl rfl, .inl rfl, .inl rfl, .inl rfl, .inl rfl, .inl rfl, .inl rfl, .inl rfl, .inl rfl, .inr ⟨_, 8, _, _, rfl, rfl, fun q hq => match q, hq with | 0, _ => rfl | 1, _ => rfl | 2, _ => rfl | 3, _ => rfl | 4, _ => rfl | 5, _ => rfl | 6, _ => rfl | 7, _ => rfl | q + 8, h => absurd h (by omega)⟩, .inl rfl, .inl rfl, .inl rfl, .inl rfl, .inl rfl, .inl rfl, .inl rfl, .inl rfl, .inl rfl, .inl rfl, .inl rfl, .inl rfl, trivial⟩
set_option maxHeartbeats 4000000 in
set_option maxRecDepth 100000 in
theorem zx_fin_35 (D : va_G) (kc : Nat → ClassId) (N0 : Nat) (xa : Nat → Nat) (c : Nat → va_E) : zx_all 35 (fun j => zx_alk (zx_c3 (zx_mk D kc N0 xa) c j) (zx_cF (zx_mk D kc N0 xa) zx_h0 (zx_al j).1 (zx_al j).2)) 35 :=
  ⟨.inl rfl, .inl rfl, .inl rfl, .inl rfl, .inl rfl, .inl rfl, .inl rfl, .inl rfl, .inl rfl, .inr ⟨_, 8, _, _, rfl, rfl, fun q hq => match q, hq with | 0, _ => rfl | 1, _ => rfl | 2, _ => rfl | 3, _ => rfl | 4, _ => rfl | 5, _ => rfl | 6, _ => rfl | 7, _ => rfl | q + 8, h => absurd h (by omega)⟩, .inl rfl, .inl rfl, .inl rfl, .inl rfl, .inl rfl, .inl rfl, .inl rfl, .inl rfl, .inl rfl, .inl rfl, .inl rfl, .inl rfl, .inl rfl, .inl rfl, .inl rfl, .inl rfl, .inl rfl, .inl rfl, .inl rfl, .inl rfl, .inl rfl, .inr ⟨_, 8, _, _, rfl, rfl, fun q hq => match q, hq with | 0, _ => rfl | 1, _ => rfl | 2, _ => rfl | 3, _ => rfl | 4, _ => rfl | 5, _ => rfl | 6, _ => rfl | 7, _ => rfl | q + 8, h => absurd h (by omega)⟩, .inl rfl, .inl rfl, .inl rfl, trivial⟩
set_option maxHeartbeats 4000000 in
set_option maxRecDepth 100000 in
theorem zx_fin_70 (D : va_G) (kc : Nat → ClassId) (N0 : Nat) (xa : Nat → Nat) (c : Nat → va_E) : zx_all 35 (fun j => zx_alk (zx_c3 (zx_mk D kc N0 xa) c j) (zx_cF (zx_mk D kc N0 xa) zx_h0 (zx_al j).1 (zx_al j).2)) 70 :=
  ⟨.inl rfl, .inl rfl, .inl rfl, .inl rfl, .inl rfl, .inl rfl, .inl rfl, .inl rfl, .inl rfl, .inl rfl, .inl rfl, .inl rfl, .inl rfl, .inl rfl, .inl rfl, .inl rfl, .inl rfl, .inl rfl, .inr ⟨_, 8, _, _, rfl, rfl, fun q hq => match q, hq with | 0, _ => rfl | 1, _ => rfl | 2, _ => rfl | 3, _ => rfl | 4, _ => rfl | 5, _ => rfl | 6, _ => rfl | 7, _ => rfl | q + 8, h => absurd h (by omega)⟩, .inl rfl, .inl rfl, .inl rfl, .inl rfl, .inl rfl, .inl rfl, .inl rfl, .inl rfl, .inl rfl, .inl rfl, .inl rfl, .inl rfl, .inl rfl, .inl rfl, .inl rfl, .inl rfl, trivial⟩
set_option maxHeartbeats 4000000 in
set_option maxRecDepth 100000 in
theorem zx_fin_105 (D : va_G) (kc : Nat → ClassId) (N0 : Nat) (xa : Nat → Nat) (c : Nat → va_E) : zx_all 35 (fun j => zx_alk (zx_c3 (zx_mk D kc N0 xa) c j) (zx_cF (zx_mk D kc N0 xa) zx_h0 (zx_al j).1 (zx_al j).2)) 105 :=
  ⟨.inl rfl, .inl rfl, .inl rfl, .inl rfl, .inl rfl, .inr ⟨_, 8, _, _, rfl, rfl, fun q hq => match q, hq with | 0, _ => rfl | 1, _ => rfl | 2, _ => rfl | 3, _ => rfl | 4, _ => rfl | 5, _ => rfl | 6, _ => rfl | 7, _ => rfl | q + 8, h => absurd h (by omega)⟩, .inl rfl, .inl rfl, .inl rfl, .inl rfl, .inl rfl, .inl rfl, .inl rfl, .inl rfl, .inl rfl, .inl rfl, .inl rfl, .inl rfl, .inl rfl, .inl rfl, .inl rfl, .inl rfl, .inl rfl, .inl rfl, .inl rfl, .inl rfl, .inl rfl, .inr ⟨_, 8, _, _, rfl, rfl, fun q hq => match q, hq with | 0, _ => rfl | 1, _ => rfl | 2, _ => rfl | 3, _ => rfl | 4, _ => rfl | 5, _ => rfl | 6, _ => rfl | 7, _ => rfl | q + 8, h => absurd h (by omega)⟩, .inl rfl, .inl rfl, .inl rfl, .inl rfl, .inl rfl, .inl rfl, .inl rfl, trivial⟩
set_option maxHeartbeats 4000000 in
set_option maxRecDepth 100000 in
theorem zx_fin_140 (D : va_G) (kc : Nat → ClassId) (N0 : Nat) (xa : Nat → Nat) (c : Nat → va_E) : zx_all 35 (fun j => zx_alk (zx_c3 (zx_mk D kc N0 xa) c j) (zx_cF (zx_mk D kc N0 xa) zx_h0 (zx_al j).1 (zx_al j).2)) 140 :=
  ⟨.inl rfl, .inl rfl, .inl rfl, .inl rfl, .inl rfl, .inl rfl, .inl rfl, .inl rfl, .inl rfl, .inl rfl, .inl rfl, .inl rfl, .inl rfl, .inl rfl, .inr ⟨_, 8, _, _, rfl, rfl, fun q hq => match q, hq with | 0, _ => rfl | 1, _ => rfl | 2, _ => rfl | 3, _ => rfl | 4, _ => rfl | 5, _ => rfl | 6, _ => rfl | 7, _ => rfl | q + 8, h => absurd h (by omega)⟩, .inl rfl, .inl rfl, .inl rfl, .inl rfl, .inl rfl, .inl rfl, .inl rfl, .inl rfl, .inl rfl, .inl rfl, .inl rfl, .inl rfl, .inl rfl, .inl rfl, .inl rfl, .inl rfl, .inl rfl, .inl rfl, .inl rfl, .inl rfl, trivial⟩
set_option maxHeartbeats 4000000 in
set_option maxRecDepth 100000 in
theorem zx_fin_175 (D : va_G) (kc : Nat → ClassId) (N0 : Nat) (xa : Nat → Nat) (c : Nat → va_E) : zx_all 35 (fun j => zx_alk (zx_c3 (zx_mk D kc N0 xa) c j) (zx_cF (zx_mk D kc N0 xa) zx_h0 (zx_al j).1 (zx_al j).2)) 175 :=
  ⟨.inl rfl, .inr ⟨_, 8, _, _, rfl, rfl, fun q hq => match q, hq with | 0, _ => rfl | 1, _ => rfl | 2, _ => rfl | 3, _ => rfl | 4, _ => rfl | 5, _ => rfl | 6, _ => rfl | 7, _ => rfl | q + 8, h => absurd h (by omega)⟩, .inl rfl, .inl rfl, .inl rfl, .inl rfl, .inl rfl, .inl rfl, .inl rfl, .inl rfl, .inl rfl, .inl rfl, .inl rfl, .inl rfl, .inl rfl, .inl rfl, .inl rfl, .inl rfl, .inl rfl, .inl rfl, .inl rfl, .inl rfl, .inl rfl, .inr ⟨_, 8, _, _, rfl, rfl, fun q hq => match q, hq with | 0, _ => rfl | 1, _ => rfl | 2, _ => rfl | 3, _ => rfl | 4, _ => rfl | 5, _ => rfl | 6, _ => rfl | 7, _ => rfl | q + 8, h => absurd h (by omega)⟩, .inl rfl, .inl rfl, .inl rfl, .inl rfl, .inl rfl, .inl rfl, .inl rfl, .inl rfl, .inl rfl, .inl rfl, .inl rfl, trivial⟩
set_option maxHeartbeats 4000000 in
set_option maxRecDepth 100000 in
theorem zx_fin_210 (D : va_G) (kc : Nat → ClassId) (N0 : Nat) (xa : Nat → Nat) (c : Nat → va_E) : zx_all 35 (fun j => zx_alk (zx_c3 (zx_mk D kc N0 xa) c j) (zx_cF (zx_mk D kc N0 xa) zx_h0 (zx_al j).1 (zx_al j).2)) 210 :=
  ⟨.inl rfl, .inl rfl, .inl rfl, .inl rfl, .inl rfl, .inl rfl, .inl rfl, .inl rfl, .inl rfl, .inl rfl, .inr ⟨_, 8, _, _, rfl, rfl, fun q hq => match q, hq with | 0, _ => rfl | 1, _ => rfl | 2, _ => rfl | 3, _ => rfl | 4, _ => rfl | 5, _ => rfl | 6, _ => rfl | 7, _ => rfl | q + 8, h => absurd h (by omega)⟩, .inl rfl, .inl rfl, .inl rfl, .inl rfl, .inl rfl, .inl rfl, .inl rfl, .inl rfl, .inl rfl, .inl rfl, .inl rfl, .inl rfl, .inl rfl, .inl rfl, .inl rfl, .inl rfl, .inl rfl, .inl rfl, .inl rfl, .inl rfl, .inl rfl, .inr ⟨_, 8, _, _, rfl, rfl, fun q hq => match q, hq with | 0, _ => rfl | 1, _ => rfl | 2, _ => rfl | 3, _ => rfl | 4, _ => rfl | 5, _ => rfl | 6, _ => rfl | 7, _ => rfl | q + 8, h => absurd h (by omega)⟩, .inl rfl, .inl rfl, trivial⟩
set_option maxHeartbeats 4000000 in
set_option maxRecDepth 100000 in
theorem zx_fin_245 (D : va_G) (kc : Nat → ClassId) (N0 : Nat) (xa : Nat → Nat) (c : Nat → va_E) : zx_all 35 (fun j => zx_alk (zx_c3 (zx_mk D kc N0 xa) c j) (zx_cF (zx_mk D kc N0 xa) zx_h0 (zx_al j).1 (zx_al j).2)) 245 :=
  ⟨.inl rfl, .inl rfl, .inl rfl, .inl rfl, .inl rfl, .inl rfl, .inl rfl, .inl rfl, .inl rfl, .inl rfl, .inl rfl, .inl rfl, .inl rfl, .inl rfl, .inl rfl, .inl rfl, .inl rfl, .inl rfl, .inl rfl, .inr ⟨_, 8, _, _, rfl, rfl, fun q hq => match q, hq with | 0, _ => rfl | 1, _ => rfl | 2, _ => rfl | 3, _ => rfl | 4, _ => rfl | 5, _ => rfl | 6, _ => rfl | 7, _ => rfl | q + 8, h => absurd h (by omega)⟩, .inl rfl, .inl rfl, .inl rfl, .inl rfl, .inl rfl, .inl rfl, .inl rfl, .inl rfl, .inl rfl, .inl rfl, .inl rfl, .inl rfl, .inl rfl, .inl rfl, .inl rfl, trivial⟩
set_option maxHeartbeats 4000000 in
set_option maxRecDepth 100000 in
theorem zx_fin_280 (D : va_G) (kc : Nat → ClassId) (N0 : Nat) (xa : Nat → Nat) (c : Nat → va_E) : zx_all 35 (fun j => zx_alk (zx_c3 (zx_mk D kc N0 xa) c j) (zx_cF (zx_mk D kc N0 xa) zx_h0 (zx_al j).1 (zx_al j).2)) 280 :=
  ⟨.inl rfl, .inl rfl, .inl rfl, .inl rfl, .inl rfl, .inl rfl, .inr ⟨_, 8, _, _, rfl, rfl, fun q hq => match q, hq with | 0, _ => rfl | 1, _ => rfl | 2, _ => rfl | 3, _ => rfl | 4, _ => rfl | 5, _ => rfl | 6, _ => rfl | 7, _ => rfl | q + 8, h => absurd h (by omega)⟩, .inl rfl, .inl rfl, .inl rfl, .inl rfl, .inl rfl, .inl rfl, .inl rfl, .inl rfl, .inl rfl, .inl rfl, .inl rfl, .inl rfl, .inl rfl, .inl rfl, .inl rfl, .inl rfl, .inl rfl, .inl rfl, .inl rfl, .inl rfl, .inl rfl, .inr ⟨_, 8, _, _, rfl, rfl, fun q hq => match q, hq with | 0, _ => rfl | 1, _ => rfl | 2, _ => rfl | 3, _ => rfl | 4, _ => rfl | 5, _ => rfl | 6, _ => rfl | 7, _ => rfl | q + 8, h => absurd h (by omega)⟩, .inl rfl, .inl rfl, .inl rfl, .inl rfl, .inl rfl, .inl rfl, trivial⟩
set_option maxHeartbeats 4000000 in
set_option maxRecDepth 100000 in
theorem zx_fin_315 (D : va_G) (kc : Nat → ClassId) (N0 : Nat) (xa : Nat → Nat) (c : Nat → va_E) : zx_all 35 (fun j => zx_alk (zx_c3 (zx_mk D kc N0 xa) c j) (zx_cF (zx_mk D kc N0 xa) zx_h0 (zx_al j).1 (zx_al j).2)) 315 :=
  ⟨.inl rfl, .inl rfl, .inl rfl, .inl rfl, .inl rfl, .inl rfl, .inl rfl, .inl rfl, .inl rfl, .inl rfl, .inl rfl, .inl rfl, .inl rfl, .inl rfl, .inl rfl, .inr ⟨_, 8, _, _, rfl, rfl, fun q hq => match q, hq with | 0, _ => rfl | 1, _ => rfl | 2, _ => rfl | 3, _ => rfl | 4, _ => rfl | 5, _ => rfl | 6, _ => rfl | 7, _ => rfl | q + 8, h => absurd h (by omega)⟩, .inl rfl, .inl rfl, .inl rfl, .inl rfl, .inl rfl, .inl rfl, .inl rfl, .inl rfl, .inl rfl, .inl rfl, .inl rfl, .inl rfl, .inl rfl, .inl rfl, .inl rfl, .inl rfl, .inl rfl, .inl rfl, .inl rfl, trivial⟩
set_option maxHeartbeats 4000000 in
set_option maxRecDepth 100000 in
theorem zx_fin_350 (D : va_G) (kc : Nat → ClassId) (N0 : Nat) (xa : Nat → Nat) (c : Nat → va_E) : zx_all 35 (fun j => zx_alk (zx_c3 (zx_mk D kc N0 xa) c j) (zx_cF (zx_mk D kc N0 xa) zx_h0 (zx_al j).1 (zx_al j).2)) 350 :=
  ⟨.inl rfl, .inl rfl, .inr ⟨_, 8, _, _, rfl, rfl, fun q hq => match q, hq with | 0, _ => rfl | 1, _ => rfl | 2, _ => rfl | 3, _ => rfl | 4, _ => rfl | 5, _ => rfl | 6, _ => rfl | 7, _ => rfl | q + 8, h => absurd h (by omega)⟩, .inl rfl, .inl rfl, .inl rfl, .inl rfl, .inl rfl, .inl rfl, .inl rfl, .inl rfl, .inl rfl, .inl rfl, .inl rfl, .inl rfl, .inl rfl, .inl rfl, .inl rfl, .inl rfl, .inl rfl, .inl rfl, .inl rfl, .inl rfl, .inl rfl, .inl rfl, .inl rfl, .inl rfl, .inl rfl, .inl rfl, .inl rfl, .inl rfl, .inl rfl, .inl rfl, .inl rfl, .inl rfl, trivial⟩
set_option maxHeartbeats 4000000 in
set_option maxRecDepth 100000 in
theorem zx_fin_385 (D : va_G) (kc : Nat → ClassId) (N0 : Nat) (xa : Nat → Nat) (c : Nat → va_E) : zx_all 30 (fun j => zx_alk (zx_c3 (zx_mk D kc N0 xa) c j) (zx_cF (zx_mk D kc N0 xa) zx_h0 (zx_al j).1 (zx_al j).2)) 385 :=
  ⟨.inl rfl, .inl rfl, .inl rfl, .inl rfl, .inl rfl, .inl rfl, .inl rfl, .inl rfl, .inl rfl, .inl rfl, .inl rfl, .inl rfl, .inl rfl, .inl rfl, .inl rfl, .inl rfl, .inl rfl, .inl rfl, .inl rfl, .inl rfl, .inl rfl, .inl rfl, .inl rfl, .inl rfl, .inl rfl, .inl rfl, .inl rfl, .inl rfl, .inl rfl, .inl rfl, trivial⟩
theorem zx_fin_all (D : va_G) (kc : Nat → ClassId) (N0 : Nat) (xa : Nat → Nat) (c : Nat → va_E) : ∀ j, j < zx_NP → zx_alk (zx_c3 (zx_mk D kc N0 xa) c j) (zx_cF (zx_mk D kc N0 xa) zx_h0 (zx_al j).1 (zx_al j).2) := by
  intro j hj
  have hj : j < 415 := hj
  by_cases h0 : j < 35
  · exact zx_all_at 35 0 (zx_fin_0 D kc N0 xa c) j (by omega) (by omega)
  by_cases h35 : j < 70
  · exact zx_all_at 35 35 (zx_fin_35 D kc N0 xa c) j (by omega) (by omega)
  by_cases h70 : j < 105
  · exact zx_all_at 35 70 (zx_fin_70 D kc N0 xa c) j (by omega) (by omega)
  by_cases h105 : j < 140
  · exact zx_all_at 35 105 (zx_fin_105 D kc N0 xa c) j (by omega) (by omega)
  by_cases h140 : j < 175
  · exact zx_all_at 35 140 (zx_fin_140 D kc N0 xa c) j (by omega) (by omega)
  by_cases h175 : j < 210
  · exact zx_all_at 35 175 (zx_fin_175 D kc N0 xa c) j (by omega) (by omega)
  by_cases h210 : j < 245
  · exact zx_all_at 35 210 (zx_fin_210 D kc N0 xa c) j (by omega) (by omega)
  by_cases h245 : j < 280
  · exact zx_all_at 35 245 (zx_fin_245 D kc N0 xa c) j (by omega) (by omega)
  by_cases h280 : j < 315
  · exact zx_all_at 35 280 (zx_fin_280 D kc N0 xa c) j (by omega) (by omega)
  by_cases h315 : j < 350
  · exact zx_all_at 35 315 (zx_fin_315 D kc N0 xa c) j (by omega) (by omega)
  by_cases h350 : j < 385
  · exact zx_all_at 35 350 (zx_fin_350 D kc N0 xa c) j (by omega) (by omega)
  by_cases h385 : j < 415
  · exact zx_all_at 30 385 (zx_fin_385 D kc N0 xa c) j (by omega) (by omega)
  omega
set_option maxRecDepth 100000 in
theorem zx_pm {b : Nat} {s : State} (hgv : (Jvm.Cond.and given_1 narrow_1).before #[Value.ref b] s = true) : ∀ w ∈ flatC (Jvm.Cond.and given_1 narrow_1), w.before #[Value.ref b] s = true := flat_of_before _ hgv
set_option maxRecDepth 100000 in
theorem zx_stLEAST {b : Nat} {s : State} {A : Nat → Prop} (hts : ∀ w ∈ lw_tbl, w.before #[Value.ref b] s = true) (hgv : (Jvm.Cond.and given_1 narrow_1).before #[Value.ref b] s = true) (hA : ∀ a : Nat, a < s.heap.size → ¬ A a) : ∃ t : Nat, va_Z "BeanLoom$Basics" "LEAST" "[J" (.ref t) A s s.heap ∧ va_T .long t 6 (fun j => .long (zx_least j)) A s s.heap := by
  have hp := zx_pm hgv
  have hl : (Term.length (.static "BeanLoom$Basics" "LEAST" "[J")).eval #[Value.ref b] s none [] s = some (.int (Int32.ofNat 6)) := va_eqt (hp (.eq (.length (.static "BeanLoom$Basics" "LEAST" "[J")) (.int 6)) (by decide +kernel))
  obtain ⟨t, h1, h2⟩ := va_Tof (args := #[Value.ref b]) (tm := (.static "BeanLoom$Basics" "LEAST" "[J")) (ty := .long) (N := 6) (f := fun j => .long (zx_least j)) (A := A) (by decide) (hp (.arrayOf (.static "BeanLoom$Basics" "LEAST" "[J") .long) (by decide +kernel)) hl (fun j hj => by
    rcases (show j = 0 ∨ j = 1 ∨ j = 2 ∨ j = 3 ∨ j = 4 ∨ j = 5 by omega) with rfl | rfl | rfl | rfl | rfl | rfl
    · exact va_eqtl (hp (.eq (.elem (.static "BeanLoom$Basics" "LEAST" "[J") (.int 0)) (.long (-128))) (by decide +kernel))
    · exact va_eqtl (hp (.eq (.elem (.static "BeanLoom$Basics" "LEAST" "[J") (.int 1)) (.long (-32768))) (by decide +kernel))
    · exact va_eqtl (hp (.eq (.elem (.static "BeanLoom$Basics" "LEAST" "[J") (.int 2)) (.long (0))) (by decide +kernel))
    · exact va_eqtl (hp (.eq (.elem (.static "BeanLoom$Basics" "LEAST" "[J") (.int 3)) (.long (-2147483648))) (by decide +kernel))
    · exact va_eqtl (hp (.eq (.elem (.static "BeanLoom$Basics" "LEAST" "[J") (.int 4)) (.long (-9223372036854775808))) (by decide +kernel))
    · exact va_eqtl (hp (.eq (.elem (.static "BeanLoom$Basics" "LEAST" "[J") (.int 5)) (.long (0))) (by decide +kernel))) hA
  exact ⟨t, va_Zof (hts (Jvm.Cond.laysStatic "BeanLoom$Basics" "LEAST" "[J") (List.mem_append_right _ (List.mem_of_getElem? (i := 411) (by decide +kernel)))) (hts (Jvm.Cond.initialized "BeanLoom$Basics") (List.mem_append_right _ (List.mem_of_getElem? (i := 18) (by decide +kernel)))) h1 hA, h2⟩
set_option maxRecDepth 100000 in
theorem zx_stMOST {b : Nat} {s : State} {A : Nat → Prop} (hts : ∀ w ∈ lw_tbl, w.before #[Value.ref b] s = true) (hgv : (Jvm.Cond.and given_1 narrow_1).before #[Value.ref b] s = true) (hA : ∀ a : Nat, a < s.heap.size → ¬ A a) : ∃ t : Nat, va_Z "BeanLoom$Basics" "MOST" "[J" (.ref t) A s s.heap ∧ va_T .long t 6 (fun j => .long (zx_most j)) A s s.heap := by
  have hp := zx_pm hgv
  have hl : (Term.length (.static "BeanLoom$Basics" "MOST" "[J")).eval #[Value.ref b] s none [] s = some (.int (Int32.ofNat 6)) := va_eqt (hp (.eq (.length (.static "BeanLoom$Basics" "MOST" "[J")) (.int 6)) (by decide +kernel))
  obtain ⟨t, h1, h2⟩ := va_Tof (args := #[Value.ref b]) (tm := (.static "BeanLoom$Basics" "MOST" "[J")) (ty := .long) (N := 6) (f := fun j => .long (zx_most j)) (A := A) (by decide) (hp (.arrayOf (.static "BeanLoom$Basics" "MOST" "[J") .long) (by decide +kernel)) hl (fun j hj => by
    rcases (show j = 0 ∨ j = 1 ∨ j = 2 ∨ j = 3 ∨ j = 4 ∨ j = 5 by omega) with rfl | rfl | rfl | rfl | rfl | rfl
    · exact va_eqtl (hp (.eq (.elem (.static "BeanLoom$Basics" "MOST" "[J") (.int 0)) (.long (127))) (by decide +kernel))
    · exact va_eqtl (hp (.eq (.elem (.static "BeanLoom$Basics" "MOST" "[J") (.int 1)) (.long (32767))) (by decide +kernel))
    · exact va_eqtl (hp (.eq (.elem (.static "BeanLoom$Basics" "MOST" "[J") (.int 2)) (.long (65535))) (by decide +kernel))
    · exact va_eqtl (hp (.eq (.elem (.static "BeanLoom$Basics" "MOST" "[J") (.int 3)) (.long (2147483647))) (by decide +kernel))
    · exact va_eqtl (hp (.eq (.elem (.static "BeanLoom$Basics" "MOST" "[J") (.int 4)) (.long (9223372036854775807))) (by decide +kernel))
    · exact va_eqtl (hp (.eq (.elem (.static "BeanLoom$Basics" "MOST" "[J") (.int 5)) (.long (1))) (by decide +kernel))) hA
  exact ⟨t, va_Zof (hts (Jvm.Cond.laysStatic "BeanLoom$Basics" "MOST" "[J") (List.mem_append_right _ (List.mem_of_getElem? (i := 413) (by decide +kernel)))) (hts (Jvm.Cond.initialized "BeanLoom$Basics") (List.mem_append_right _ (List.mem_of_getElem? (i := 18) (by decide +kernel)))) h1 hA, h2⟩
def zx_tm (i : Nat) : Term := if i = 0 then .string "BeanLoom$Converter" 136 else .string "BeanLoom$Converter" 138
set_option maxRecDepth 100000 in
set_option maxHeartbeats 4000000 in
theorem zx_stS {b : Nat} {s : State} {A : Nat → Prop} (hts : ∀ w ∈ lw_tbl, w.before #[Value.ref b] s = true) (hgv : (Jvm.Cond.and given_1 narrow_1).before #[Value.ref b] s = true) (hA : ∀ a : Nat, a < s.heap.size → ¬ A a) : ∃ adK adV : Nat → Nat, vk_S 2 [4, 5] [[116, 114, 117, 101], [102, 97, 108, 115, 101]] adK adV A s s.heap ∧ vk_R "BeanLoom$Converter" 136 "true" (adK 0) s ∧ vk_R "BeanLoom$Converter" 138 "false" (adK 1) s := by
  have hp := zx_pm hgv
  obtain ⟨adK, adV, h1, h2⟩ := vk_Sof (args := #[Value.ref b]) (s := s) (N := 2) (tm := zx_tm) (len := [4, 5]) (byt := [[116, 114, 117, 101], [102, 97, 108, 115, 101]]) (A := A) (by decide) (fun i hi => by
    rcases (show i = 0 ∨ i = 1 by omega) with rfl | rfl
    · exact hp (.exactly (.string "BeanLoom$Converter" 136) "java/lang/String") (by decide +kernel)
    · exact hp (.exactly (.string "BeanLoom$Converter" 138) "java/lang/String") (by decide +kernel)) (fun i hi => by
    rcases (show i = 0 ∨ i = 1 by omega) with rfl | rfl
    · exact hp (.eq (.field (.string "BeanLoom$Converter" 136) "java/lang/String" "coder" "B") (.int 0)) (by decide +kernel)
    · exact hp (.eq (.field (.string "BeanLoom$Converter" 138) "java/lang/String" "coder" "B") (.int 0)) (by decide +kernel)) (fun i hi => by
    rcases (show i = 0 ∨ i = 1 by omega) with rfl | rfl
    · exact hp (.arrayOf (.field (.string "BeanLoom$Converter" 136) "java/lang/String" "value" "[B") .byte) (by decide +kernel)
    · exact hp (.arrayOf (.field (.string "BeanLoom$Converter" 138) "java/lang/String" "value" "[B") .byte) (by decide +kernel)) (fun i hi => by
    rcases (show i = 0 ∨ i = 1 by omega) with rfl | rfl
    · exact hp (.eq (.length (.field (.string "BeanLoom$Converter" 136) "java/lang/String" "value" "[B")) (.int 4)) (by decide +kernel)
    · exact hp (.eq (.length (.field (.string "BeanLoom$Converter" 138) "java/lang/String" "value" "[B")) (.int 5)) (by decide +kernel)) (fun i hi j hj => by
    rcases (show i = 0 ∨ i = 1 by omega) with rfl | rfl
    · have hj : j < 4 := hj
      rcases (show j = 0 ∨ j = 1 ∨ j = 2 ∨ j = 3 by omega) with rfl | rfl | rfl | rfl
      · exact hp (.eq (.elem (.field (.string "BeanLoom$Converter" 136) "java/lang/String" "value" "[B") (.int 0)) (.int 116)) (by decide +kernel)
      · exact hp (.eq (.elem (.field (.string "BeanLoom$Converter" 136) "java/lang/String" "value" "[B") (.int 1)) (.int 114)) (by decide +kernel)
      · exact hp (.eq (.elem (.field (.string "BeanLoom$Converter" 136) "java/lang/String" "value" "[B") (.int 2)) (.int 117)) (by decide +kernel)
      · exact hp (.eq (.elem (.field (.string "BeanLoom$Converter" 136) "java/lang/String" "value" "[B") (.int 3)) (.int 101)) (by decide +kernel)
    · have hj : j < 5 := hj
      rcases (show j = 0 ∨ j = 1 ∨ j = 2 ∨ j = 3 ∨ j = 4 by omega) with rfl | rfl | rfl | rfl | rfl
      · exact hp (.eq (.elem (.field (.string "BeanLoom$Converter" 138) "java/lang/String" "value" "[B") (.int 0)) (.int 102)) (by decide +kernel)
      · exact hp (.eq (.elem (.field (.string "BeanLoom$Converter" 138) "java/lang/String" "value" "[B") (.int 1)) (.int 97)) (by decide +kernel)
      · exact hp (.eq (.elem (.field (.string "BeanLoom$Converter" 138) "java/lang/String" "value" "[B") (.int 2)) (.int 108)) (by decide +kernel)
      · exact hp (.eq (.elem (.field (.string "BeanLoom$Converter" 138) "java/lang/String" "value" "[B") (.int 3)) (.int 115)) (by decide +kernel)
      · exact hp (.eq (.elem (.field (.string "BeanLoom$Converter" 138) "java/lang/String" "value" "[B") (.int 4)) (.int 101)) (by decide +kernel)) (fun i j hi hj hne => by
    rcases (show i = 0 ∨ i = 1 by omega) with rfl | rfl
    · rcases (show j = 1 by omega) with rfl
      exact Or.inl (hp (.not (.eq (.string "BeanLoom$Converter" 136) (.string "BeanLoom$Converter" 138))) (by decide +kernel))
    · rcases (show j = 0 by omega) with rfl
      exact Or.inr (hp (.not (.eq (.string "BeanLoom$Converter" 136) (.string "BeanLoom$Converter" 138))) (by decide +kernel))) hA
  exact ⟨adK, adV, h1, vk_R.of (hts (Jvm.Cond.stringRef "BeanLoom$Converter" (136 : Nat) "true") (List.mem_append_right _ (List.mem_of_getElem? (i := 965) (by decide +kernel)))) (h2 0 (by decide)), vk_R.of (hts (Jvm.Cond.stringRef "BeanLoom$Converter" (138 : Nat) "false") (List.mem_append_right _ (List.mem_of_getElem? (i := 966) (by decide +kernel)))) (h2 1 (by decide))⟩
set_option maxRecDepth 100000 in
set_option maxHeartbeats 4000000 in
theorem zx_stR {b : Nat} {s : State} (hts : ∀ w ∈ lw_tbl, w.before #[Value.ref b] s = true) (hgv : (Jvm.Cond.and given_1 narrow_1).before #[Value.ref b] s = true) : ∀ q ∈ zx_strs, ∃ a, vk_R q.1 q.2.1 q.2.2 a s := by
  have hp := zx_pm hgv
  have key : ∀ (o : String) (k : Nat) (tx : String), (Cond.stringRef o k tx).before #[Value.ref b] s = true → (Cond.exactly (.string o k) "java/lang/String").before #[Value.ref b] s = true → ∃ a, vk_R o k tx a s := fun o k tx h1 h2 => by
    obtain ⟨a, _, _, _, h3, -⟩ := Cond.exactly_spec h2
    exact ⟨a, vk_R.of h1 h3⟩
  intro q hq
  unfold zx_strs at hq
  simp only [List.mem_cons, List.not_mem_nil, or_false] at hq
  rcases hq with rfl | rfl | rfl | rfl | rfl | rfl | rfl | rfl | rfl | rfl | rfl | rfl | rfl | rfl | rfl | rfl | rfl | rfl | rfl | rfl
  · exact key _ _ _ (hts (Jvm.Cond.stringRef "BeanLoom" (65 : Nat) "not 1 to 8 different names") (List.mem_append_right _ (List.mem_of_getElem? (i := 516) (by decide +kernel)))) (hp (.exactly (.string "BeanLoom" 65) "java/lang/String") (by decide +kernel))
  · exact key _ _ _ (hts (Jvm.Cond.stringRef "BeanLoom" (76 : Nat) "built, or no room for a type") (List.mem_append_right _ (List.mem_of_getElem? (i := 556) (by decide +kernel)))) (hp (.exactly (.string "BeanLoom" 76) "java/lang/String") (by decide +kernel))
  · exact key _ _ _ (hts (Jvm.Cond.stringRef "BeanLoom" (102 : Nat) "no such bean, name or type, or the name is taken") (List.mem_append_right _ (List.mem_of_getElem? (i := 594) (by decide +kernel)))) (hp (.exactly (.string "BeanLoom" 102) "java/lang/String") (by decide +kernel))
  · exact key _ _ _ (hts (Jvm.Cond.stringRef "BeanLoom" (112 : Nat) "built, no room for a property, or there are objects") (List.mem_append_right _ (List.mem_of_getElem? (i := 596) (by decide +kernel)))) (hp (.exactly (.string "BeanLoom" 112) "java/lang/String") (by decide +kernel))
  · exact key _ _ _ (hts (Jvm.Cond.stringRef "BeanLoom" (119 : Nat) "no such type, or a primitive one") (List.mem_append_right _ (List.mem_of_getElem? (i := 605) (by decide +kernel)))) (hp (.exactly (.string "BeanLoom" 119) "java/lang/String") (by decide +kernel))
  · exact key _ _ _ (hts (Jvm.Cond.stringRef "BeanLoom" (127 : Nat) "neither two beans nor two enums") (List.mem_append_right _ (List.mem_of_getElem? (i := 618) (by decide +kernel)))) (hp (.exactly (.string "BeanLoom" 127) "java/lang/String") (by decide +kernel))
  · exact key _ _ _ (hts (Jvm.Cond.stringRef "BeanLoom" (133 : Nat) "built, or no room for a method") (List.mem_append_right _ (List.mem_of_getElem? (i := 619) (by decide +kernel)))) (hp (.exactly (.string "BeanLoom" 133) "java/lang/String") (by decide +kernel))
  · exact key _ _ _ (hts (Jvm.Cond.stringRef "BeanLoom" (141 : Nat) "not from whole numbers to whole numbers") (List.mem_append_right _ (List.mem_of_getElem? (i := 634) (by decide +kernel)))) (hp (.exactly (.string "BeanLoom" 141) "java/lang/String") (by decide +kernel))
  · exact key _ _ _ (hts (Jvm.Cond.stringRef "BeanLoom" (146 : Nat) "built, or no room for a function") (List.mem_append_right _ (List.mem_of_getElem? (i := 635) (by decide +kernel)))) (hp (.exactly (.string "BeanLoom" 146) "java/lang/String") (by decide +kernel))
  · exact key _ _ _ (hts (Jvm.Cond.stringRef "BeanLoom" (156 : Nat) "no such method or kind") (List.mem_append_right _ (List.mem_of_getElem? (i := 651) (by decide +kernel)))) (hp (.exactly (.string "BeanLoom" 156) "java/lang/String") (by decide +kernel))
  · exact key _ _ _ (hts (Jvm.Cond.stringRef "BeanLoom" (167 : Nat) "built, or no room for a rule") (List.mem_append_right _ (List.mem_of_getElem? (i := 652) (by decide +kernel)))) (hp (.exactly (.string "BeanLoom" 167) "java/lang/String") (by decide +kernel))
  · exact key _ _ _ (hts (Jvm.Cond.stringRef "BeanLoom" (173 : Nat) "built already") (List.mem_append_right _ (List.mem_of_getElem? (i := 664) (by decide +kernel)))) (hp (.exactly (.string "BeanLoom" 173) "java/lang/String") (by decide +kernel))
  · exact key _ _ _ (hts (Jvm.Cond.stringRef "BeanLoom" (181 : Nat) "there is a diagnosis") (List.mem_append_right _ (List.mem_of_getElem? (i := 786) (by decide +kernel)))) (hp (.exactly (.string "BeanLoom" 181) "java/lang/String") (by decide +kernel))
  · exact key _ _ _ (hts (Jvm.Cond.stringRef "BeanLoom" (202 : Nat) "a type without objects, or no value of the box") (List.mem_append_right _ (List.mem_of_getElem? (i := 799) (by decide +kernel)))) (hp (.exactly (.string "BeanLoom" 202) "java/lang/String") (by decide +kernel))
  · exact key _ _ _ (hts (Jvm.Cond.stringRef "BeanLoom" (205 : Nat) "no room for an object") (List.mem_append_right _ (List.mem_of_getElem? (i := 804) (by decide +kernel)))) (hp (.exactly (.string "BeanLoom" 205) "java/lang/String") (by decide +kernel))
  · exact key _ _ _ (hts (Jvm.Cond.stringRef "BeanLoom" (246 : Nat) "no such method, or no value of its first type") (List.mem_append_right _ (List.mem_of_getElem? (i := 833) (by decide +kernel)))) (hp (.exactly (.string "BeanLoom" 246) "java/lang/String") (by decide +kernel))
  · exact key _ _ _ (hts (Jvm.Cond.stringRef "BeanLoom" (248 : Nat) "not built") (List.mem_append_right _ (List.mem_of_getElem? (i := 834) (by decide +kernel)))) (hp (.exactly (.string "BeanLoom" 248) "java/lang/String") (by decide +kernel))
  · exact key _ _ _ (hts (Jvm.Cond.stringRef "BeanLoom" (263 : Nat) "something fails, or too many objects") (List.mem_append_right _ (List.mem_of_getElem? (i := 1060) (by decide +kernel)))) (hp (.exactly (.string "BeanLoom" 263) "java/lang/String") (by decide +kernel))
  · exact key _ _ _ (hts (Jvm.Cond.stringRef "BeanLoom" (268 : Nat) "no such object or place") (List.mem_append_right _ (List.mem_of_getElem? (i := 1084) (by decide +kernel)))) (hp (.exactly (.string "BeanLoom" 268) "java/lang/String") (by decide +kernel))
  · exact key _ _ _ (hts (Jvm.Cond.stringRef "BeanLoom" (278 : Nat) "no such object or what") (List.mem_append_right _ (List.mem_of_getElem? (i := 1100) (by decide +kernel)))) (hp (.exactly (.string "BeanLoom" 278) "java/lang/String") (by decide +kernel))
set_option maxRecDepth 100000 in
set_option maxHeartbeats 4000000 in
theorem zx_st1 {b : Nat} {s : State} {K : zx_K} (hts : ∀ w ∈ lw_tbl, w.before #[Value.ref b] s = true) (hgv : (Jvm.Cond.and given_1 narrow_1).before #[Value.ref b] s = true) (hA : ∀ a : Nat, a < s.heap.size → ¬ zx_A K a) : zx_S1 K s := by
  have hp := zx_pm hgv
  refine ⟨fun w hw => va_Nw.of (zx_N_on hw) (hts w (List.mem_append_right _ (List.mem_filter.mp hw).1)), fun C hC => ?_, fun x hx y hy hn => ?_, va_Zqof (hts (Jvm.Cond.laysStatic "jdk/internal/util/Preconditions" "SIOOBE_FORMATTER" "Ljava/util/function/BiFunction;") (List.mem_append_right _ (List.mem_of_getElem? (i := 996) (by decide +kernel)))) (hts (Jvm.Cond.initialized "jdk/internal/util/Preconditions") (List.mem_append_right _ (List.mem_of_getElem? (i := 23) (by decide +kernel)))) (hp (.isRef (.static "jdk/internal/util/Preconditions" "SIOOBE_FORMATTER" "Ljava/util/function/BiFunction;")) (by decide +kernel)) hA⟩
  · simp only [List.mem_cons, List.not_mem_nil, or_false] at hC
    rcases hC with rfl | rfl | rfl
    · exact va_AO.of (hts (Jvm.Cond.arrayOver (Jvm.ClassFile.FieldType.object "BeanLoom$Function")) (List.mem_append_right _ (List.mem_of_getElem? (i := 68) (by decide +kernel))))
    · exact va_AO.of (hts (Jvm.Cond.arrayOver (Jvm.ClassFile.FieldType.object "BeanLoom$Method")) (List.mem_append_right _ (List.mem_of_getElem? (i := 70) (by decide +kernel))))
    · exact va_AO.of (hts (Jvm.Cond.arrayOver (Jvm.ClassFile.FieldType.object "BeanLoom$Plan")) (List.mem_append_right _ (List.mem_of_getElem? (i := 107) (by decide +kernel))))
  · unfold zx_ex at hx hy
    simp only [List.mem_cons, List.not_mem_nil, or_false] at hx hy
    rcases hx with rfl | rfl | rfl | rfl <;> rcases hy with rfl | rfl | rfl | rfl <;> first | exact absurd rfl hn | exact va_Nc.of (hp _ (by decide +kernel))
set_option maxRecDepth 100000 in
set_option maxHeartbeats 4000000 in
theorem zx_start {b : Nat} {s : State} (hts : ∀ w ∈ lw_tbl, w.before #[Value.ref b] s = true) (hgv : (Jvm.Cond.and given_1 narrow_1).before #[Value.ref b] s = true) : ∃ (D : va_G) (kc : Nat → ClassId) (xa : Nat → Nat), va_K (zx_kD (zx_mk D kc s.heap.size xa)) zx_cl (zx_tys (zx_mk D kc s.heap.size xa)) s ∧ zx_kcs (zx_mk D kc s.heap.size xa) s ∧ zx_S (zx_mk D kc s.heap.size xa) s := by
  have hp := zx_pm hgv
  have hA0 : ∀ a : Nat, a < s.heap.size → ¬ (fun q : Nat => s.heap.size ≤ q) a := fun a h1 h2 => absurd h1 (Nat.not_lt.mpr h2)
  have hG : ∀ w ∈ zx_G, w.before #[Value.ref b] s = true := fun w hw => hts w (List.mem_filter.mp hw).1
  obtain ⟨c0, i0, hKn0⟩ := u_known (C := zx_RLoom) (T := zx_TLoom) (N := 6) (n := 6) hG zx_inLoom (hts (Jvm.Cond.instantiable "BeanLoom" (6 : Nat)) (List.mem_append_right _ (List.mem_of_getElem? (i := 28) (by decide +kernel))))
  obtain ⟨c1, i1, hKn1⟩ := u_known (C := zx_RTypes) (T := zx_TTypes) (N := 6) (n := 6) hG zx_inTypes (hts (Jvm.Cond.instantiable "BeanLoom$Types" (6 : Nat)) (List.mem_append_right _ (List.mem_of_getElem? (i := 36) (by decide +kernel))))
  obtain ⟨c2, i2, hKn2⟩ := u_known (C := zx_RStore) (T := zx_TStore) (N := 5) (n := 5) hG zx_inStore (hts (Jvm.Cond.instantiable "BeanLoom$Store" (5 : Nat)) (List.mem_append_right _ (List.mem_of_getElem? (i := 228) (by decide +kernel))))
  obtain ⟨c3, i3, hKn3⟩ := u_known (C := zx_RModel) (T := zx_TModel) (N := 4) (n := 4) hG zx_inModel (hts (Jvm.Cond.instantiable "BeanLoom$Model" (4 : Nat)) (List.mem_append_right _ (List.mem_of_getElem? (i := 62) (by decide +kernel))))
  obtain ⟨c4, i4, hKn4⟩ := u_known (C := zx_RWays) (T := zx_TWays) (N := 3) (n := 3) hG zx_inWays (hts (Jvm.Cond.instantiable "BeanLoom$Ways" (3 : Nat)) (List.mem_append_right _ (List.mem_of_getElem? (i := 250) (by decide +kernel))))
  obtain ⟨c5, i5, hKn5⟩ := u_known (C := zx_RPlanner) (T := zx_TPlanner) (N := 7) (n := 7) hG zx_inPlanner (hts (Jvm.Cond.instantiable "BeanLoom$Planner" (7 : Nat)) (List.mem_append_right _ (List.mem_of_getElem? (i := 266) (by decide +kernel))))
  obtain ⟨c6, i6, hKn6⟩ := u_known (C := zx_RMapper) (T := zx_TMapper) (N := 11) (n := 11) hG zx_inMapper (hts (Jvm.Cond.instantiable "BeanLoom$Mapper" (11 : Nat)) (List.mem_append_right _ (List.mem_of_getElem? (i := 299) (by decide +kernel))))
  obtain ⟨c7, i7, hKn7⟩ := u_known (C := zx_RConverter) (T := zx_TConverter) (N := 3) (n := 3) hG zx_inConverter (hts (Jvm.Cond.instantiable "BeanLoom$Converter" (3 : Nat)) (List.mem_append_right _ (List.mem_of_getElem? (i := 305) (by decide +kernel))))
  obtain ⟨c8, i8, hKn8⟩ := u_known (C := zx_RFunction) (T := zx_TFunction) (N := 5) (n := 5) hG zx_inFunction (hts (Jvm.Cond.instantiable "BeanLoom$Function" (5 : Nat)) (List.mem_append_right _ (List.mem_of_getElem? (i := 71) (by decide +kernel))))
  obtain ⟨c9, i9, hKn9⟩ := u_known (C := zx_RMethod) (T := zx_TMethod) (N := 10) (n := 10) hG zx_inMethod (hts (Jvm.Cond.instantiable "BeanLoom$Method" (10 : Nat)) (List.mem_append_right _ (List.mem_of_getElem? (i := 101) (by decide +kernel))))
  obtain ⟨c10, i10, hKn10⟩ := u_known (C := zx_RPlan) (T := zx_TPlan) (N := 9) (n := 9) hG zx_inPlan (hts (Jvm.Cond.instantiable "BeanLoom$Plan" (9 : Nat)) (List.mem_append_right _ (List.mem_of_getElem? (i := 108) (by decide +kernel))))
  obtain ⟨c11, i11, hKn11⟩ := u_known (C := zx_RRef) (T := zx_TRef) (N := 40) (n := 40) hG zx_inRef (hts (Jvm.Cond.instantiable "BeanLoomModel" (40 : Nat)) (List.mem_append_right _ (List.mem_of_getElem? (i := 1102) (by decide +kernel))))
  obtain ⟨kI, kkI, cmI, fI1, fI2, fI3⟩ := Cond.arrayClass_spec (hts (Jvm.Cond.arrayClass Jvm.ClassFile.FieldType.int) (List.mem_append_right _ (List.mem_of_getElem? (i := 60) (by decide +kernel))))
  obtain ⟨kJ, kkJ, cmJ, fJ1, fJ2, fJ3⟩ := Cond.arrayClass_spec (hts (Jvm.Cond.arrayClass Jvm.ClassFile.FieldType.long) (List.mem_append_right _ (List.mem_of_getElem? (i := 151) (by decide +kernel))))
  obtain ⟨cmF, kF, kkF, fF1, fF2, fF3, fF4, fF5⟩ := Cond.arrayOver_spec (hts (Jvm.Cond.arrayOver (Jvm.ClassFile.FieldType.object "BeanLoom$Function")) (List.mem_append_right _ (List.mem_of_getElem? (i := 68) (by decide +kernel))))
  obtain ⟨cmM, kM, kkM, fM1, fM2, fM3, fM4, fM5⟩ := Cond.arrayOver_spec (hts (Jvm.Cond.arrayOver (Jvm.ClassFile.FieldType.object "BeanLoom$Method")) (List.mem_append_right _ (List.mem_of_getElem? (i := 70) (by decide +kernel))))
  obtain ⟨cmP, kP, kkP, fP1, fP2, fP3, fP4, fP5⟩ := Cond.arrayOver_spec (hts (Jvm.Cond.arrayOver (Jvm.ClassFile.FieldType.object "BeanLoom$Plan")) (List.mem_append_right _ (List.mem_of_getElem? (i := 107) (by decide +kernel))))
  obtain ⟨tL, hL1, hL2⟩ := zx_stLEAST (A := fun q : Nat => s.heap.size ≤ q) hts hgv hA0
  obtain ⟨tM, hM1, hM2⟩ := zx_stMOST (A := fun q : Nat => s.heap.size ≤ q) hts hgv hA0
  obtain ⟨adK, adV, hS1, hS2, hS3⟩ := zx_stS (A := fun q : Nat => s.heap.size ≤ q) hts hgv hA0
  refine ⟨(fun k => [c0, c1, c2, c3, c4, c5, c6, c7, c8, c9, c10, c11].getD k 0, fun k => [i0, i1, i2, i3, i4, i5, i6, i7, i8, i9, i10, i11].getD k (fun _ => 0)), fun k => [kI, kJ, kF, kM, kP].getD k 0, fun k => match k with
    | 0 => tL
    | 1 => tM
    | 2 => adK 0
    | 3 => adK 1
    | 4 => adV 0
    | k => adV (k - 4), ⟨fun k q hq => ?_, fun k q hq => ?_⟩, ⟨fI1, fJ1, fF5, fM5, fP5⟩, ⟨?_, zx_st1 hts hgv hA0⟩⟩
  · match k, hq with
    | 0, hq => cases hq; exact hKn0
    | 1, hq => cases hq; exact hKn1
    | 2, hq => cases hq; exact hKn2
    | 3, hq => cases hq; exact hKn3
    | 4, hq => cases hq; exact hKn4
    | 5, hq => cases hq; exact hKn5
    | 6, hq => cases hq; exact hKn6
    | 7, hq => cases hq; exact hKn7
    | 8, hq => cases hq; exact hKn8
    | 9, hq => cases hq; exact hKn9
    | 10, hq => cases hq; exact hKn10
    | 11, hq => cases hq; exact hKn11
    | k + 12, hq => simp [zx_cl] at hq
  · match k, hq with
    | 0, hq => cases hq; exact ⟨fun n z => ⟨fun k h => (by cases h), kkI, fI2, cmI, fI3⟩, fI1⟩
    | 1, hq => cases hq; exact ⟨fun n z => ⟨fun k h => (by cases h), kkJ, fJ2, cmJ, fJ3⟩, fJ1⟩
    | 2, hq => cases hq; exact ⟨fun n z => ⟨fun k h => (by cases h), kkF, fF3, cmF, fF4⟩, kkF, cmF, fF3, fF4, fF1, fF5⟩
    | 3, hq => cases hq; exact ⟨fun n z => ⟨fun k h => (by cases h), kkM, fM3, cmM, fM4⟩, kkM, cmM, fM3, fM4, fM1, fM5⟩
    | 4, hq => cases hq; exact ⟨fun n z => ⟨fun k h => (by cases h), kkP, fP3, cmP, fP4⟩, kkP, cmP, fP3, fP4, fP1, fP5⟩
    | k + 5, hq => simp [zx_tys] at hq
  · refine ⟨hL1, hM1, hL2, hM2, vx_Zqof (hts (Jvm.Cond.laysStatic "java/lang/Throwable" "UNASSIGNED_STACK" "[Ljava/lang/StackTraceElement;") (List.mem_append_right _ (List.mem_of_getElem? (i := 501) (by decide +kernel)))) (hts (Jvm.Cond.initialized "java/lang/Throwable") (List.mem_append_right _ (List.mem_of_getElem? (i := 13) (by decide +kernel)))) (hp _ (by decide +kernel)) hA0, vx_Zqof (hts (Jvm.Cond.laysStatic "java/lang/Throwable" "SUPPRESSED_SENTINEL" "Ljava/util/List;") (List.mem_append_right _ (List.mem_of_getElem? (i := 503) (by decide +kernel)))) (hts (Jvm.Cond.initialized "java/lang/Throwable") (List.mem_append_right _ (List.mem_of_getElem? (i := 13) (by decide +kernel)))) (hp _ (by decide +kernel)) hA0, va_Zof (hts (Jvm.Cond.laysStatic "java/lang/String" "COMPACT_STRINGS" "Z") (List.mem_append_right _ (List.mem_of_getElem? (i := 980) (by decide +kernel)))) (hts (Jvm.Cond.initialized "java/lang/String") (List.mem_append_right _ (List.mem_of_getElem? (i := 21) (by decide +kernel)))) (va_eqi (hp _ (by decide +kernel))) hA0, ⟨fun i hi => ?_, fun i j hi hj e => ?_⟩, ⟨hS2, hS3⟩, zx_stR hts hgv⟩
    · rcases (show i = 0 ∨ i = 1 by omega) with rfl | rfl
      · exact hS1.1 0 hi
      · exact hS1.1 1 hi
    · rcases (show i = 0 ∨ i = 1 by omega) with rfl | rfl <;> rcases (show j = 0 ∨ j = 1 by omega) with rfl | rfl
      · rfl
      · exact hS1.2 0 1 hi hj e
      · exact hS1.2 1 0 hi hj e
      · rfl
theorem zx_toX {B : zx_B} {M : zx_M} {α : Type} {Qf : α → State → Prop} {sem : Option α} {a : α} {ck cn pc : Nat} {lv : List (Nat × Value)} {st : List Value} {c : Nat → va_E} {h : zx_H} (hO : zx_KO (zx_BK B)) (hc : ∀ j, j < zx_NP → zx_alk (c j) (zx_cF (zx_BK B) h (zx_al j).1 (zx_al j).2)) (hsem : sem = some a) (hX : zx_X B M Qf sem ck cn pc lv st h) : zx_Z B M (Qf a) ck cn pc lv st c zx_NP := by
  obtain ⟨p, l, e, s, m, args, below, meth, cd, K⟩ := B
  obtain ⟨cc, nL, own, ret, R⟩ := M
  intro H locs ls hP hS hl0
  exact hX a hsem H locs ls (zx_last9 hO hP hc) hS hl0
/-! the law's meaning is the question that is left: 'zs_Law_law_L23 L xs 0 zx_h0 0 = some true' -/
set_option maxHeartbeats 4000000 in
set_option maxRecDepth 100000 in
theorem zx_whole {p : Program} {e : Env} {s : State} {m : MethodId} {below : List Frame} {meth : Method} {c : Code} (l : Launch) (hst : l.stackTraces = false) {b L : Nat} {xs : Nat → Int32} (hsem : zs_Law_law_L23 L xs 0 zx_h0 0 = some true) (C0 : lw_At p s m meth c b L xs) : W p l e room_1 s m #[Value.ref b] below meth c s.heap [] 0 0 (lw_Z below #[Value.ref b] s) (entryFrame m ([Value.ref b] : List Value).toArray 8) := by
  obtain ⟨hx, hb, hr, hml, hown, hts, hX, hbl, hlocks, hgv⟩ := id C0
  obtain ⟨D, kc, xa, hK, hkc, hS0⟩ := zx_start hts hgv
  have hG : ∀ w ∈ zx_G, w.before #[Value.ref b] s = true := fun w hw => hts w (List.mem_filter.mp hw).1
  have hl := lv_entry ([.ref b]) (n := 8) (Nat.le_of_ble_eq_true rfl)
  rw [lg_entry_eq]
  obtain ⟨B, hB⟩ : ∃ B : zx_B, B = (p, l, e, s, m, #[Value.ref b], below, meth, c, zx_mk D kc s.heap.size xa) := ⟨_, rfl⟩
  have hKB : zx_BK B = zx_mk D kc s.heap.size xa := by rw [hB]
  have hlB : zx_Bl B = l := by rw [hB]
  have EC : zx_EC B zm_Law_law := by
    rw [hB]
    exact ⟨hx, hb, hml, hown, hG, hr, hlocks, zx_mk_ok _ _ _ _, Nat.le_refl _, hK, hkc, hS0, zx_mk_KO _ _ _ _⟩
  have E : zx_E B zm_Law_law := by
    rw [hB]
    exact ⟨hx, hb, hml, hown, hG, hr, hlocks, zx_mk_ok _ _ _ _, Nat.le_refl _, hK, hS0⟩
  have hLX : zx_LX B b L xs := by
    rw [hB]
    exact ⟨rfl, hX, hbl, rfl⟩
  have hstB : (zx_Bl B).stackTraces = false := by rw [hlB]; exact hst
  have c : Nat → va_E := fun _ => .inr (0, [])
  have main : zx_Z B zm_Law_law (zx_QL B true) 0 0 0 [(0, .ref b)] [] c 0 := by
    refine zz_new (ci := 0) EC [.null, .null, .null, .null, .null, .int 0] zx_tyLoom zx_inLoom zx_tyokLoom rfl zw_27 zw_28 zw_1 (by decide) (by decide) (by decide) dd_Law_law_0 ?_
    refine zz_dup EC dd_Law_law_3 rfl ?_
    refine zz_call EC (My := zm_Loom_init) (na := 0) (As := []) (zt_Loom_init _ _ _ rfl) rfl zw_31 zw_1 zw_29 zw_30 rfl (by decide +kernel) ⟨by decide, by decide⟩ (by decide) (by decide) rfl rfl (Nat.le_of_ble_eq_true rfl) dd_Law_law_4 ?_
    refine zz_astore_n EC (lv1 := [(1, .ref (zx_n0 (zx_BK B) + 0)), (0, .ref b)]) dd_Law_law_7 rfl (by decide) rfl ?_
    refine zz_new (ci := 11) EC [.int 0, .int 0, .int 0, .null, .null, .null, .null, .null, .int 0, .null, .null, .null, .null, .null, .null, .int 0, .null, .null, .null, .null, .int 0, .int 0, .int 0, .int 0, .null, .null, .null, .null, .int 0, .null, .null, .null, .int 0, .null, .null, .null, .null, .int 0, .int 0, .null] zx_tyRef zx_inRef zx_tyokRef rfl zw_1101 zw_1102 zw_12 (by decide) (by decide) (by decide) dd_Law_law_8 ?_
    refine zz_dup EC dd_Law_law_11 rfl ?_
    refine zz_call EC (My := zm_Ref_init) (na := 0) (As := []) (zt_Ref_init _ _ _ rfl) rfl zw_1105 zw_12 zw_1103 zw_1104 rfl (by decide +kernel) ⟨by decide, by decide⟩ (by decide) (by decide) rfl rfl (Nat.le_of_ble_eq_true rfl) dd_Law_law_12 ?_
    refine zz_astore_n EC (lv1 := [(2, .ref (zx_n0 (zx_BK B) + 386)), (1, .ref (zx_n0 (zx_BK B) + 0)), (0, .ref b)]) dd_Law_law_15 rfl (by decide) rfl ?_
    refine zz_iconst EC (1 : Int32) dd_Law_law_16 (by decide) ?_
    refine zz_newJ EC 1 zw_151 (by decide) (by decide) (by decide) (by decide) (by decide) dd_Law_law_17 ?_
    refine zz_astore_n EC (lv1 := [(3, .ref (zx_n0 (zx_BK B) + 414)), (2, .ref (zx_n0 (zx_BK B) + 386)), (1, .ref (zx_n0 (zx_BK B) + 0)), (0, .ref b)]) dd_Law_law_19 rfl (by decide) rfl ?_
    have hX9 : zx_X B zm_Law_law (zx_QL B) (zs_Law_law_L23 L xs 0 zx_h0 0) 415 47250 20 [(3, zx_rV (zx_BK B) 52 0), (2, zx_rV (zx_BK B) 24 0), (1, zx_rV (zx_BK B) 0 0), (0, .ref b)] [] zx_h0 := by
      refine zx_iconst E (0 : Int32) dd_Law_law_20 (by decide) ?_
      refine zx_istore E (lv1 := [(4, .int (0 : Int32)), (3, zx_rV (zx_BK B) 52 0), (2, zx_rV (zx_BK B) 24 0), (1, zx_rV (zx_BK B) 0 0), (0, .ref b)]) dd_Law_law_21 (by decide) rfl ?_
      refine zx_sub [4, 3, 2, 1, 0] rfl ?_
      exact zj_Law_law_23 E hLX hstB 0 zx_h0 0
    have hO : zx_KO (zx_BK B) := by rw [hKB]; exact zx_mk_KO _ _ _ _
    have e52 : zx_rV (zx_BK B) 52 0 = .ref (zx_n0 (zx_BK B) + 414) := zx_rVo hO (by decide) (by decide)
    have e24 : zx_rV (zx_BK B) 24 0 = .ref (zx_n0 (zx_BK B) + 386) := zx_rVo hO (by decide) (by decide)
    have e0 : zx_rV (zx_BK B) 0 0 = .ref (zx_n0 (zx_BK B) + 0) := zx_rVo hO (by decide) (by decide)
    rw [e52, e24, e0] at hX9
    have hfin : ∀ j, j < zx_NP → zx_alk (zx_c3 (zx_BK B) c j) (zx_cF (zx_BK B) zx_h0 (zx_al j).1 (zx_al j).2) := by
      rw [hKB]
      exact zx_fin_all D kc s.heap.size xa c
    exact zx_toX hO hfin hsem hX9
  rw [hB] at main
  exact main s.heap [] _ ⟨rfl, fun k q hq => by rw [zx_wl_out (Nat.zero_le _)] at hq; cases hq⟩ va_S.rf hl
