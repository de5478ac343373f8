/-! ===== the constructors: cells come one behind another, from zx_n0 on ===== -/
/-- which cell comes as the j-th -/
def zx_al (j : Nat) : Nat × Nat :=
  if j < 7 then (j, 0) else if j < 10 then (j + 4, 0) else if j < 18 then (53, j - 10)
  else if j < 370 then
    (match (j - 18) % 22 with
    | 0 => (54, (j - 18) / 22)
    | 1 => (55, (j - 18) / 22)
    | 2 => (56, (j - 18) / 22)
    | 3 => (57, (j - 18) / 22)
    | 4 => (58, (j - 18) / 22)
    | 5 => (59, (j - 18) / 22)
    | r => if r % 2 = 0 then (60, 8 * ((j - 18) / 22) + (r - 6) / 2) else (61, 8 * ((j - 18) / 22) + (r - 6) / 2))
  else if j < 374 then (j - 363, 0) else if j < 377 then (j - 360, 0) else if j < 378 then (60, 128) else if j < 379 then (61, 128) else (j - 362, 0)
def zx_ordF (F i : Nat) : Nat :=
  if F < 7 then F else if F < 11 then F + 363 else if F < 14 then F - 4 else if F < 17 then F + 360 else if F < 53 then F + 362
  else match F with
    | 53 => 10 + i
    | 54 => 18 + 22 * i
    | 55 => 19 + 22 * i
    | 56 => 20 + 22 * i
    | 57 => 21 + 22 * i
    | 58 => 22 + 22 * i
    | 59 => 23 + 22 * i
    | 60 => if i < 128 then 24 + 22 * (i / 8) + 2 * (i % 8) else 377
    | _ => if i < 128 then 25 + 22 * (i / 8) + 2 * (i % 8) else 378
def zx_ord (k : Nat) : Nat := zx_ordF (zx_fam k).1 (zx_fam k).2
set_option maxRecDepth 100000 in
theorem zx_ord_al : ∀ k, k < zx_NP → zx_ord k < zx_NP ∧ zx_al (zx_ord k) = zx_fam k := by decide +kernel
set_option maxRecDepth 100000 in
theorem zx_ord_pl : ∀ F, F < zx_NF → ∀ i, i < zx_nF F → zx_ord (zx_pl F i) = zx_ordF F i := by decide +kernel
def zx_KO (K : zx_K) : Prop := ∀ k, zx_ad K k = zx_n0 K + zx_ord k
theorem zx_rVo {K : zx_K} (hO : zx_KO K) {F i : Nat} (hF : F < zx_NF) (hi : i < zx_nF F) : zx_rV K F i = .ref (zx_n0 K + zx_ordF F i) := by
  show Value.ref (zx_ad K (zx_pl F i)) = _
  rw [hO, zx_ord_pl F hF i hi]
def zx_wl (K : zx_K) (c : Nat → va_E) (n : Nat) : va_W := (List.range n).map (fun j => (zx_n0 K + j, c j))
def zx_up (c : Nat → va_E) (k : Nat) (e : va_E) : Nat → va_E := fun j => if j = k then e else c j
theorem zx_wl_at {K : zx_K} {c : Nat → va_E} {n j : Nat} (hj : j < n) : (zx_wl K c n)[j]? = some (zx_n0 K + j, c j) := by
  unfold zx_wl
  rw [List.getElem?_map, List.getElem?_range hj]
  rfl
theorem zx_wl_out {K : zx_K} {c : Nat → va_E} {n j : Nat} (hj : n ≤ j) : (zx_wl K c n)[j]? = none := by
  unfold zx_wl
  rw [List.getElem?_eq_none]
  rw [List.length_map, List.length_range]
  exact hj
theorem zx_wl_D {K : zx_K} {c : Nat → va_E} {n : Nat} : va_D (zx_A K) (zx_wl K c n) := by
  refine ⟨fun i j p q hp hq e => ?_, fun k q hq => ?_⟩
  · by_cases hi : i < n
    · by_cases hj : j < n
      · rw [zx_wl_at hi] at hp
        rw [zx_wl_at hj] at hq
        cases hp
        cases hq
        exact Nat.add_left_cancel e
      · rw [zx_wl_out (Nat.not_lt.mp hj)] at hq
        cases hq
    · rw [zx_wl_out (Nat.not_lt.mp hi)] at hp
      cases hp
  · by_cases hk : k < n
    · rw [zx_wl_at hk] at hq
      cases hq
      exact Nat.le_add_right _ _
    · rw [zx_wl_out (Nat.not_lt.mp hk)] at hq
      cases hq
theorem zx_wl_set {K : zx_K} {c : Nat → va_E} {n j : Nat} {e : va_E} (hj : j < n) : (zx_wl K c n).set j (zx_n0 K + j, e) = zx_wl K (zx_up c j e) n := by
  apply List.ext_getElem?
  intro k
  by_cases hk : k < n
  · rw [zx_wl_at hk]
    by_cases hq : j = k
    · subst hq
      rw [List.getElem?_set_self (by unfold zx_wl; rw [List.length_map, List.length_range]; exact hj)]
      simp [zx_up]
    · rw [List.getElem?_set_ne hq, zx_wl_at hk]
      show _ = some (zx_n0 K + k, if k = j then e else c k)
      rw [if_neg (fun q => hq q.symm)]
  · rw [zx_wl_out (Nat.not_lt.mp hk), List.getElem?_set_ne (fun q => absurd hj (by omega)), zx_wl_out (Nat.not_lt.mp hk)]
/-- the heap as far as the n-th cell of the law's own -/
def zx_hp (K : zx_K) (c : Nat → va_E) (n : Nat) (H : Heap) : Prop := H.size = zx_n0 K + n ∧ va_P (zx_kD K) zx_cl (zx_wl K c n) H
theorem zx_hp_push {K : zx_K} {c : Nat → va_E} {n : Nat} {H H1 : Heap} {e : va_E} (h : zx_hp K c n H) (z1 : H1.size = zx_n0 K + n + 1) (o1 : ∀ q, q < zx_n0 K + n → H1[q]? = H[q]?) (he : va_at (zx_kD K) zx_cl (zx_n0 K + n, e) H1) : zx_hp K (zx_up c n e) (n + 1) H1 := by
  refine ⟨by rw [z1]; omega, fun k q hq => ?_⟩
  by_cases hk : k < n + 1
  · rw [zx_wl_at hk] at hq
    cases hq
    by_cases hn : k = n
    · subst hn
      simp only [zx_up, if_true]
      exact he
    · have hkn : k < n := by omega
      simp only [zx_up, if_neg hn]
      exact (h.2 k _ (zx_wl_at hkn)).kept (o1 _ (by show zx_n0 K + k < _; omega))
  · rw [zx_wl_out (Nat.not_lt.mp hk)] at hq
    cases hq
theorem zx_hp_ext {K : zx_K} {c c' : Nat → va_E} {n : Nat} {H : Heap} (h : zx_hp K c n H) (hc : ∀ j, j < n → c j = c' j) : zx_hp K c' n H := by
  refine ⟨h.1, fun k q hq => ?_⟩
  by_cases hk : k < n
  · rw [zx_wl_at hk] at hq
    cases hq
    rw [← hc k hk]
    exact h.2 k _ (zx_wl_at hk)
  · rw [zx_wl_out (Nat.not_lt.mp hk)] at hq
    cases hq
/-- the array classes' numbers -/
def zx_kcs (K : zx_K) (s : State) : Prop := s.vm.findClass ("[" ++ (FieldType.int).toString) = some (zx_kc K 0) ∧ s.vm.findClass ("[" ++ (FieldType.long).toString) = some (zx_kc K 1) ∧ s.vm.findClass ("[" ++ (FieldType.object "BeanLoom$Function").toString) = some (zx_kc K 2) ∧ s.vm.findClass ("[" ++ (FieldType.object "BeanLoom$Method").toString) = some (zx_kc K 3) ∧ s.vm.findClass ("[" ++ (FieldType.object "BeanLoom$Plan").toString) = some (zx_kc K 4)
theorem zx_kcs_moved {K : zx_K} {s U : State} (hv : s.vm.Alike U.vm) (h : zx_kcs K s) : zx_kcs K U := by
  obtain ⟨h1, h2, h3, h4, h5⟩ := h
  refine ⟨?_, ?_, ?_, ?_, ?_⟩ <;> rw [hv.findClass] <;> assumption
def zx_IC (K : zx_K) (c : Nat → va_E) (n : Nat) (U : State) : Prop := zx_ok K ∧ zx_KO K ∧ zx_hp K c n U.heap ∧ va_K (zx_kD K) zx_cl (zx_tys K) U ∧ zx_kcs K U ∧ zx_S K U
theorem zx_IC_same {K : zx_K} {c : Nat → va_E} {n : Nat} {s U : State} (hv : U.vm = s.vm) (hh : U.heap = s.heap) (H : zx_IC K c n s) : zx_IC K c n U := by
  obtain ⟨h1, h2, h3, h4, h5, h6⟩ := H
  have ha : s.vm.Alike U.vm := by rw [hv]; exact Vm.Alike.refl _
  exact ⟨h1, h2, by rw [hh]; exact h3, va_K.moved ha h4, zx_kcs_moved ha h5, zx_S_same hv hh h6⟩
def zx_QC (K : zx_K) (c : Nat → va_E) (n : Nat) : Array Value → State → Outcome → State → Prop := fun _ st oc t => oc = .returned none ∧ zx_IC K c n t ∧ va_F (zx_A K) st t
/-- a constructor: n cells become n', ms slots come -/
def zx_MC (l : Launch) (M : zx_M) (y : MethodName) (K : zx_K) (as : List Value) (c : Nat → va_E) (n : Nat) (c' : Nat → va_E) (n' : Nat) : Prop :=
  Met l y (Cond.code y M.1 M.2.1 M.2.2.2.1 :: zx_G) M.2.2.2.2 (va_Pc as (zx_IC K c n)) (zx_QC K c' n') M.2.2.2.2.cells M.2.2.2.2.slots (zx_A K)
def zx_EC (B : zx_B) (M : zx_M) : Prop := match B, M with
  | (p, _, _, s, m, args, _, meth, c, K), (cc, nL, own, ret, _) => p.tables.exec = Jvm.exec ∧ c.code = cc ∧ c.maxLocals = nL ∧ s.vm.findClass own = some m.cls ∧ (∀ w ∈ zx_G, w.before args s = true) ∧ meth.sig.returnType = ret ∧ meth.locks = false ∧ zx_ok K ∧ zx_n0 K ≤ s.heap.size ∧ va_K (zx_kD K) zx_cl (zx_tys K) s ∧ zx_kcs K s ∧ zx_S K s ∧ zx_KO K
def zx_EI (B : zx_B) : Prop := match B with
  | (_, _, _, _, _, _, _, meth, _, _) => meth.name = "<init>"
def zx_Z (B : zx_B) (M : zx_M) (Qf : State → Prop) (ck cn : Nat) (pc : Nat) (lv : List (Nat × Value)) (st : List Value) (c : Nat → va_E) (n : Nat) : Prop := match B, M with
  | (p, l, e, s, m, args, below, meth, cd, K), (_, nL, _, _, R) => ∀ (H : Heap) (locs : List Loc) (ls : Array Slot), zx_hp K c n H → va_S (zx_A K) s.heap H locs → lv_has ls nL lv → W p l e R s m args below meth cd H locs ck cn Qf (F0 m pc ls st)
def zx_QN (B : zx_B) (c : Nat → va_E) (n mc ms : Nat) : State → Prop := match B with
  | (_, _, _, s, _, args, below, _, _, K) => MQ below (zx_QC K c n) args s mc ms (zx_A K)
theorem zx_endC {K : zx_K} {s t : State} {H : Heap} {locs : List Loc} {c : Nat → va_E} {n : Nat} (hok : zx_ok K) (hO : zx_KO K) (hK : va_K (zx_kD K) zx_cl (zx_tys K) s) (hkc : zx_kcs K s) (hS0 : zx_S K s) (hP : zx_hp K c n H) (hS : va_S (zx_A K) s.heap H locs) (ht : t.heap = H) (hW : s.WarmedH t.vm) : zx_IC K c n t ∧ va_F (zx_A K) s t := by
  have hF := hS.F ht
  exact ⟨⟨hok, hO, by rw [ht]; exact hP, va_K.moved hW.alike hK, zx_kcs_moved hW.alike hkc, zx_S_warm hW hF.2 hS0⟩, hF⟩
section ZXZ
variable {B : zx_B} {M : zx_M} {Qf : State → Prop} {ck cn pc : Nat} {lv : List (Nat × Value)} {st st0 : List Value} {c : Nat → va_E} {n : Nat}
theorem zz_ext {c' : Nat → va_E} (hc : ∀ j, j < n → c j = c' j) (Kc : zx_Z B M Qf ck cn pc lv st c' n) : zx_Z B M Qf ck cn pc lv st c n := by
  obtain ⟨p, l, e, s, m, args, below, meth, cd, K⟩ := B
  obtain ⟨cc, nL, own, ret, R⟩ := M
  intro H locs ls hP hS hl0
  exact Kc H locs ls (zx_hp_ext hP hc) hS hl0
theorem zz_iconst (E : zx_EC B M) {q : Int} (v : Int32) (hd : decode M.1 pc = .ok (.iconst q, 1)) (hv : Int32.ofInt q = v) (Kc : zx_Z B M Qf ck cn (pc + 1) lv (.int v :: st) c n) : zx_Z B M Qf ck cn pc lv st c n := by
  obtain ⟨p, l, e, s, m, args, below, meth, cd, K⟩ := B
  obtain ⟨cc, nL, own, ret, R⟩ := M
  obtain ⟨hx, hb, hml, hown, hts, hr, hlk, hok, hn0, hK, hkc, hS0, hO⟩ := E
  intro H locs ls hP hS hl0
  exact lv_iconst hx hb hd hv (Kc H locs ls hP hS hl0)

theorem zz_bipush (E : zx_EC B M) {q : Int} (v : Int32) (hd : decode M.1 pc = .ok (.bipush q, 2)) (hv : (Int8.ofInt q).toInt32 = v) (Kc : zx_Z B M Qf ck cn (pc + 2) lv (.int v :: st) c n) : zx_Z B M Qf ck cn pc lv st c n := by
  obtain ⟨p, l, e, s, m, args, below, meth, cd, K⟩ := B
  obtain ⟨cc, nL, own, ret, R⟩ := M
  obtain ⟨hx, hb, hml, hown, hts, hr, hlk, hok, hn0, hK, hkc, hS0, hO⟩ := E
  intro H locs ls hP hS hl0
  exact lv_bipush hx hb hd hv (Kc H locs ls hP hS hl0)

theorem zz_sipush (E : zx_EC B M) {q : Int} (v : Int32) (hd : decode M.1 pc = .ok (.sipush q, 3)) (hv : (Int16.ofInt q).toInt32 = v) (Kc : zx_Z B M Qf ck cn (pc + 3) lv (.int v :: st) c n) : zx_Z B M Qf ck cn pc lv st c n := by
  obtain ⟨p, l, e, s, m, args, below, meth, cd, K⟩ := B
  obtain ⟨cc, nL, own, ret, R⟩ := M
  obtain ⟨hx, hb, hml, hown, hts, hr, hlk, hok, hn0, hK, hkc, hS0, hO⟩ := E
  intro H locs ls hP hS hl0
  exact lv_sipush hx hb hd hv (Kc H locs ls hP hS hl0)

theorem zz_iload_n (E : zx_EC B M) (k : Nat) {q : Fin 4} {i : Nat} {x : Int32} (hd : decode M.1 pc = .ok (.iload_n q, 1)) (hi : (q : Nat) = i) (hl : lv[k]? = some (i, .int x)) (Kc : zx_Z B M Qf ck cn (pc + 1) lv (.int x :: st) c n) : zx_Z B M Qf ck cn pc lv st c n := by
  obtain ⟨p, l, e, s, m, args, below, meth, cd, K⟩ := B
  obtain ⟨cc, nL, own, ret, R⟩ := M
  obtain ⟨hx, hb, hml, hown, hts, hr, hlk, hok, hn0, hK, hkc, hS0, hO⟩ := E
  intro H locs ls hP hS hl0
  exact lv_iload_n hx hb hd hi (lv_at hl0 k hl) (Kc H locs ls hP hS hl0)

theorem zz_aload (E : zx_EC B M) (k : Nat) {i x : Nat} (hd : decode M.1 pc = .ok (.aload i, 2)) (hl : lv[k]? = some (i, .ref x)) (Kc : zx_Z B M Qf ck cn (pc + 2) lv (.ref x :: st) c n) : zx_Z B M Qf ck cn pc lv st c n := by
  obtain ⟨p, l, e, s, m, args, below, meth, cd, K⟩ := B
  obtain ⟨cc, nL, own, ret, R⟩ := M
  obtain ⟨hx, hb, hml, hown, hts, hr, hlk, hok, hn0, hK, hkc, hS0, hO⟩ := E
  intro H locs ls hP hS hl0
  exact lv_aload hx hb hd (lv_at hl0 k hl) (Kc H locs ls hP hS hl0)

theorem zz_aload_n (E : zx_EC B M) (k : Nat) {q : Fin 4} {i x : Nat} (hd : decode M.1 pc = .ok (.aload_n q, 1)) (hi : (q : Nat) = i) (hl : lv[k]? = some (i, .ref x)) (Kc : zx_Z B M Qf ck cn (pc + 1) lv (.ref x :: st) c n) : zx_Z B M Qf ck cn pc lv st c n := by
  obtain ⟨p, l, e, s, m, args, below, meth, cd, K⟩ := B
  obtain ⟨cc, nL, own, ret, R⟩ := M
  obtain ⟨hx, hb, hml, hown, hts, hr, hlk, hok, hn0, hK, hkc, hS0, hO⟩ := E
  intro H locs ls hP hS hl0
  exact lv_aload_n hx hb hd hi (lv_at hl0 k hl) (Kc H locs ls hP hS hl0)

theorem zz_dup (E : zx_EC B M) {v : Value} (hd : decode M.1 pc = .ok (.dup, 1)) (hv : v.category = 1) (Kc : zx_Z B M Qf ck cn (pc + 1) lv (v :: v :: st) c n) : zx_Z B M Qf ck cn pc lv (v :: st) c n := by
  obtain ⟨p, l, e, s, m, args, below, meth, cd, K⟩ := B
  obtain ⟨cc, nL, own, ret, R⟩ := M
  obtain ⟨hx, hb, hml, hown, hts, hr, hlk, hok, hn0, hK, hkc, hS0, hO⟩ := E
  intro H locs ls hP hS hl0
  exact lv_dup hx hb hd hv (Kc H locs ls hP hS hl0)

theorem zz_pop (E : zx_EC B M) {v : Value} (hd : decode M.1 pc = .ok (.pop, 1)) (hv : v.category = 1) (Kc : zx_Z B M Qf ck cn (pc + 1) lv st c n) : zx_Z B M Qf ck cn pc lv (v :: st) c n := by
  obtain ⟨p, l, e, s, m, args, below, meth, cd, K⟩ := B
  obtain ⟨cc, nL, own, ret, R⟩ := M
  obtain ⟨hx, hb, hml, hown, hts, hr, hlk, hok, hn0, hK, hkc, hS0, hO⟩ := E
  intro H locs ls hP hS hl0
  exact lv_pop hx hb hd hv (Kc H locs ls hP hS hl0)

theorem zz_istore_n (E : zx_EC B M) {i : Nat} {q : Fin 4} {x : Int32} (lv1 : List (Nat × Value)) (hd : decode M.1 pc = .ok (.istore_n q, 1)) (hi : (q : Nat) = i) (hn : i < M.2.1) (hl : (i, Value.int x) :: lv.filter (fun q => !(q.1 == i) && !(q.1 + 1 == i && q.2.category == 2)) = lv1) (Kc : zx_Z B M Qf ck cn (pc + 1) lv1 st c n) : zx_Z B M Qf ck cn pc lv (.int x :: st) c n := by
  obtain ⟨p, l, e, s, m, args, below, meth, cd, K⟩ := B
  obtain ⟨cc, nL, own, ret, R⟩ := M
  obtain ⟨hx, hb, hml, hown, hts, hr, hlk, hok, hn0, hK, hkc, hS0, hO⟩ := E
  intro H locs ls hP hS hl0
  exact lv_istore_n hx hb hd hi hl0 hn hl (fun ls hl0 => (Kc H locs ls hP hS hl0))

theorem zz_astore_n (E : zx_EC B M) {i : Nat} {q : Fin 4} {x : Nat} (lv1 : List (Nat × Value)) (hd : decode M.1 pc = .ok (.astore_n q, 1)) (hi : (q : Nat) = i) (hn : i < M.2.1) (hl : (i, Value.ref x) :: lv.filter (fun q => !(q.1 == i) && !(q.1 + 1 == i && q.2.category == 2)) = lv1) (Kc : zx_Z B M Qf ck cn (pc + 1) lv1 st c n) : zx_Z B M Qf ck cn pc lv (.ref x :: st) c n := by
  obtain ⟨p, l, e, s, m, args, below, meth, cd, K⟩ := B
  obtain ⟨cc, nL, own, ret, R⟩ := M
  obtain ⟨hx, hb, hml, hown, hts, hr, hlk, hok, hn0, hK, hkc, hS0, hO⟩ := E
  intro H locs ls hP hS hl0
  exact lv_astore_n hx hb hd hi hl0 hn hl (fun ls hl0 => (Kc H locs ls hP hS hl0))

theorem zz_iinc (E : zx_EC B M) (k : Nat) {i : Nat} {q : Int} {x : Int32} (v : Int32) (lv1 : List (Nat × Value)) (hd : decode M.1 pc = .ok (.iinc i q, 3)) (hk : lv[k]? = some (i, .int x)) (hv : x + Int32.ofInt q = v) (hn : i < M.2.1) (hl : (i, Value.int v) :: lv.filter (fun q => !(q.1 == i) && !(q.1 + 1 == i && q.2.category == 2)) = lv1) (Kc : zx_Z B M Qf ck cn (pc + 3) lv1 st c n) : zx_Z B M Qf ck cn pc lv st c n := by
  obtain ⟨p, l, e, s, m, args, below, meth, cd, K⟩ := B
  obtain ⟨cc, nL, own, ret, R⟩ := M
  obtain ⟨hx, hb, hml, hown, hts, hr, hlk, hok, hn0, hK, hkc, hS0, hO⟩ := E
  intro H locs ls hP hS hl0
  exact lv_iinc hx hb hd hl0 hk hv hn hl (fun ls hl0 => (Kc H locs ls hP hS hl0))

theorem zz_goto (E : zx_EC B M) {off : Int} (tgt : Nat) (hd : decode M.1 pc = .ok (.goto off, 3)) (ht : (pc : Int) + off = (tgt : Int)) (Kc : zx_Z B M Qf ck cn tgt lv st c n) : zx_Z B M Qf ck cn pc lv st c n := by
  obtain ⟨p, l, e, s, m, args, below, meth, cd, K⟩ := B
  obtain ⟨cc, nL, own, ret, R⟩ := M
  obtain ⟨hx, hb, hml, hown, hts, hr, hlk, hok, hn0, hK, hkc, hS0, hO⟩ := E
  intro H locs ls hP hS hl0
  exact lv_goto hx hb hd ht (Kc H locs ls hP hS hl0)

theorem zz_icmp_ge (E : zx_EC B M) {x y : Int32} {off : Int} (tgt : Nat) (hd : decode M.1 pc = .ok (.if_icmp .ge off, 3)) (ht : (pc : Int) + off = (tgt : Int)) (kf : ¬ y ≤ x → zx_Z B M Qf ck cn (pc + 3) lv st c n) (kt : y ≤ x → zx_Z B M Qf ck cn tgt lv st c n) : zx_Z B M Qf ck cn pc lv (.int y :: .int x :: st) c n := by
  obtain ⟨p, l, e, s, m, args, below, meth, cd, K⟩ := B
  obtain ⟨cc, nL, own, ret, R⟩ := M
  obtain ⟨hx, hb, hml, hown, hts, hr, hlk, hok, hn0, hK, hkc, hS0, hO⟩ := E
  intro H locs ls hP hS hl0
  exact lv_icmp_ge hx hb hd ht (fun q => kt q H locs ls hP hS hl0) (fun q => kf q H locs ls hP hS hl0)

theorem zz_sub (ks : List Nat) {lv1 : List (Nat × Value)} (hl : lv_pick lv ks = lv1) (Kc : zx_Z B M Qf ck cn pc lv1 st c n) : zx_Z B M Qf ck cn pc lv st c n := by
  obtain ⟨p, l, e, s, m, args, below, meth, cd, K⟩ := B
  obtain ⟨cc, nL, own, ret, R⟩ := M
  intro H locs ls hP hS hl0
  exact Kc H locs ls hP hS (lv_sub hl0 ks hl)
theorem zz_objInit (E : zx_EC B M) {idx a : Nat} (h1 : Cond.methodLink M.2.2.1 idx Lib.objectInit ∈ zx_G) (h2 : Cond.instanceMethod Lib.objectInit ∈ zx_G) (h3 : Cond.code Lib.objectInit ⟨#[0xb1]⟩ 1 none ∈ zx_G) (hR : 1 ≤ M.2.2.2.2.frames ∧ (st.map fun v => v.category).sum + 12 ≤ M.2.2.2.2.locals) (hd : decode M.1 pc = .ok (.invokespecial idx, 3)) (Kc : zx_Z B M Qf ck cn (pc + 3) lv st c n) : zx_Z B M Qf ck cn pc lv (.ref a :: st) c n := by
  obtain ⟨p, l, e, s, m, args, below, meth, cd, K⟩ := B
  obtain ⟨cc, nL, own, ret, R⟩ := M
  obtain ⟨hx, hb, hml, hown, hts, hr, hlk, hok, hn0, hK, hkc, hS0, hO⟩ := E
  intro H locs ls hP hS hl0
  exact W.objInit hx hb hown (hts _ h1) (hts _ h2) (hts _ h3) rfl (by rw [hml]; exact hl0.1) rfl hd hR.1 (by simpa using hR.2) (W.eq rfl (Kc H locs ls hP hS hl0))
theorem zz_new (E : zx_EC B M) {C : String} {T : u_T} {N ci index : Nat} (fs : List Value) (ty : Nat → FieldType) (hin : ∀ w ∈ u_ws C T N, w ∈ zx_G) (hty : ∀ k, k < N → parseFieldDescriptor (T k).2.2.1 = some (ty k)) (hc : zx_cl[ci]? = some (C, T, N)) (h1 : Cond.classLink M.2.2.1 index C ∈ zx_G) (h2 : Cond.instantiable C N ∈ zx_G) (h3 : Cond.initialized C ∈ zx_G) (hfs : ∀ j, j < N → defaultValue (ty j) = vp_V fs j) (hck : ck + 1 ≤ M.2.2.2.2.cells) (hcn : cn + N ≤ M.2.2.2.2.slots) (hd : decode M.1 pc = .ok (.new index, 3))
    (Kc : zx_Z B M Qf (ck + 1) (cn + N) (pc + 3) lv (.ref (zx_n0 (zx_BK B) + n) :: st) (zx_up c n (.inr (ci, fs))) (n + 1)) : zx_Z B M Qf ck cn pc lv st c n := by
  obtain ⟨p, l, e, s, m, args, below, meth, cd, K⟩ := B
  obtain ⟨cc, nL, own, ret, R⟩ := M
  obtain ⟨hx, hb, hml, hown, hts, hr, hlk, hok, hn0, hK, hkc, hS0, hO⟩ := E
  intro H locs ls hP hS hl0
  have hKn := hK.1 ci _ hc
  refine W.newcK (h := zx_n0 K + n) hx hb hown (hts _ h1) (hts _ h2) (hts _ h3) rfl hd hck hcn hKn.2.1 hP.1 fun H1 kC hkC e1 z1 o1 => ?_
  refine Kc H1 locs ls (zx_hp_push hP z1 o1 ⟨_, hc, (u_born ty hts hin hKn hkC e1 hty).to hfs⟩) ⟨Nat.le_trans hS.1 (by have := hP.1; omega), fun x h1 h2 => (o1 x (by have := hP.1; have := hS.1; omega)).trans (hS.2.1 x h1 h2), hS.2.2⟩ hl0
theorem zz_newI (E : zx_EC B M) {x : Int32} (N : Nat) (h1 : Cond.arrayClass .int ∈ zx_G) (hx0 : ¬ x < 0) (hxN : x.toNatClampNeg = N) (hN : N ≤ 100000) (hck : ck + 1 ≤ M.2.2.2.2.cells) (hcn : cn + N ≤ M.2.2.2.2.slots) (hd : decode M.1 pc = .ok (.newarray .int, 2))
    (Kc : zx_Z B M Qf (ck + 1) (cn + N) (pc + 2) lv (.ref (zx_n0 (zx_BK B) + n) :: st) (zx_up c n (.inl (zx_kc (zx_BK B) 0, N, .inl (fun _ => 0)))) (n + 1)) : zx_Z B M Qf ck cn pc lv (.int x :: st) c n := by
  obtain ⟨p, l, e, s, m, args, below, meth, cd, K⟩ := B
  obtain ⟨cc, nL, own, ret, R⟩ := M
  obtain ⟨hx, hb, hml, hown, hts, hr, hlk, hok, hn0, hK, hkc, hS0, hO⟩ := E
  intro H locs ls hP hS hl0
  refine va_newaK (atype := .int) (h := zx_n0 K + n) hx hb (hts _ h1) rfl hd rfl hx0 hxN (by show N * 4 ≤ _; omega) hck hcn hP.1 fun H1 cA e1 z1 o1 hAr hNm => ?_
  cases Option.some.inj (hNm.symm.trans hkc.1)
  refine Kc H1 locs ls (zx_hp_push hP z1 o1 e1) ⟨Nat.le_trans hS.1 (by have := hP.1; omega), fun x h1 h2 => (o1 x (by have := hP.1; have := hS.1; omega)).trans (hS.2.1 x h1 h2), hS.2.2⟩ hl0
theorem zz_newJ (E : zx_EC B M) {x : Int32} (N : Nat) (h1 : Cond.arrayClass .long ∈ zx_G) (hx0 : ¬ x < 0) (hxN : x.toNatClampNeg = N) (hN : N ≤ 100000) (hck : ck + 1 ≤ M.2.2.2.2.cells) (hcn : cn + N ≤ M.2.2.2.2.slots) (hd : decode M.1 pc = .ok (.newarray .long, 2))
    (Kc : zx_Z B M Qf (ck + 1) (cn + N) (pc + 2) lv (.ref (zx_n0 (zx_BK B) + n) :: st) (zx_up c n (.inl (zx_kc (zx_BK B) 1, N, .inr (.inl (fun _ => 0))))) (n + 1)) : zx_Z B M Qf ck cn pc lv (.int x :: st) c n := by
  obtain ⟨p, l, e, s, m, args, below, meth, cd, K⟩ := B
  obtain ⟨cc, nL, own, ret, R⟩ := M
  obtain ⟨hx, hb, hml, hown, hts, hr, hlk, hok, hn0, hK, hkc, hS0, hO⟩ := E
  intro H locs ls hP hS hl0
  refine va_newaK (atype := .long) (h := zx_n0 K + n) hx hb (hts _ h1) rfl hd rfl hx0 hxN (by show N * 8 ≤ _; omega) hck hcn hP.1 fun H1 cA e1 z1 o1 hAr hNm => ?_
  cases Option.some.inj (hNm.symm.trans hkc.2.1)
  refine Kc H1 locs ls (zx_hp_push hP z1 o1 e1) ⟨Nat.le_trans hS.1 (by have := hP.1; omega), fun x h1 h2 => (o1 x (by have := hP.1; have := hS.1; omega)).trans (hS.2.1 x h1 h2), hS.2.2⟩ hl0
theorem zz_newR (E : zx_EC B M) {x : Int32} (N t : Nat) {C : String} {index : Nat} (h1 : Cond.classLink M.2.2.1 index C ∈ zx_G) (hC : C ∈ ["BeanLoom$Function", "BeanLoom$Method", "BeanLoom$Plan"]) (ht : zx_kcs (zx_BK B) B.2.2.2.1 → B.2.2.2.1.vm.findClass ("[" ++ (FieldType.object C).toString) = some (zx_kc (zx_BK B) t)) (hx0 : ¬ x < 0) (hxN : x.toNatClampNeg = N) (hN : N ≤ 100000) (hck : ck + 1 ≤ M.2.2.2.2.cells) (hcn : cn + N ≤ M.2.2.2.2.slots) (hd : decode M.1 pc = .ok (.anewarray index, 3))
    (Kc : zx_Z B M Qf (ck + 1) (cn + N) (pc + 3) lv (.ref (zx_n0 (zx_BK B) + n) :: st) (zx_up c n (.inl (zx_kc (zx_BK B) t, N, .inr (.inr (.inr (.inr (fun _ => none))))))) (n + 1)) : zx_Z B M Qf ck cn pc lv (.int x :: st) c n := by
  obtain ⟨p, l, e, s, m, args, below, meth, cd, K⟩ := B
  obtain ⟨cc, nL, own, ret, R⟩ := M
  obtain ⟨hx, hb, hml, hown, hts, hr, hlk, hok, hn0, hK, hkc, hS0, hO⟩ := E
  intro H locs ls hP hS hl0
  subst hxN
  refine W.anew hx hb hown (hts _ h1) (va_AO.use (hS0.2.2.1 C hC)) rfl hd rfl hx0 (by omega) hck hcn fun cA kA comp f1 f2 f3 f4 => ?_
  cases Option.some.inj (f1.symm.trans (ht hkc))
  generalize hH1 : H.push ({ cls := zx_kc K t, slots := Array.replicate x.toNatClampNeg .null, vm := .none } : Cell) = H1
  have z1 : H1.size = H.size + 1 := by rw [← hH1, Array.size_push]
  have e1 : H1[H.size]? = some (arrV (zx_kc K t) x.toNatClampNeg (fun _ => .null)) := by rw [← hH1, Array.getElem?_push_size, ← arrV_new]
  have o1 : ∀ q : Nat, q < H.size → H1[q]? = H[q]? := fun q hq => by rw [← hH1, Array.getElem?_push, if_neg (Nat.ne_of_lt hq)]
  rw [hP.1] at z1 e1 o1
  rw [hP.1]
  refine Kc H1 locs ls (zx_hp_push hP z1 o1 e1) ⟨Nat.le_trans hS.1 (by have := hP.1; omega), fun x h1 h2 => (o1 x (by have := hP.1; have := hS.1; omega)).trans (hS.2.1 x h1 h2), hS.2.2⟩ hl0
theorem zz_put (E : zx_EC B M) {j ci index k : Nat} {C nm d : String} {fs : List Value} {v : Value} {ty : FieldType} {T : u_T} {N : Nat} (ty0 : Nat → FieldType) (hin : ∀ w ∈ u_ws C T N, w ∈ zx_G) (hty : ∀ k, k < N → parseFieldDescriptor (T k).2.2.1 = some (ty0 k)) (hnm : ∀ a, a < N → ∀ b, b < N → a ≠ b → (T a).2.1 ≠ (T b).2.1) (hc : zx_cl[ci]? = some (C, T, N)) (hk : k < N) (hT : T k = (C, nm, d, false)) (hpd : parseFieldDescriptor d = some ty) (hna : narrow ty v = v) (hfi : fits ty v = true) (hw : Cond.fieldLink M.2.2.1 index C nm d ∈ zx_G) (hj : j < n) (hcj : c j = .inr (ci, fs)) (hl : k < fs.length) (hd : decode M.1 pc = .ok (.putfield index, 3))
    (Kc : zx_Z B M Qf ck cn (pc + 3) lv st (zx_up c j (.inr (ci, fs.set k v))) n) : zx_Z B M Qf ck cn pc lv (v :: .ref (zx_n0 (zx_BK B) + j) :: st) c n := by
  obtain ⟨p, l, e, s, m, args, below, meth, cd, K⟩ := B
  obtain ⟨cc, nL, own, ret, R⟩ := M
  obtain ⟨hx, hb, hml, hown, hts, hr, hlk, hok, hn0, hK, hkc, hS0, hO⟩ := E
  intro H locs ls hP hS hl0
  have e1 : (T k).1 = C := by rw [hT]
  have e2 : (T k).2.1 = nm := by rw [hT]
  have e3 : (T k).2.2.1 = d := by rw [hT]
  have e4 : (T k).2.2.2 = false := by rw [hT]
  have hwl := (zx_wl_at (K := K) (c := c) hj).trans (by rw [hcj])
  have hap := va_apart (own := own) hts hin ty0 hty hnm hK hc
  obtain ⟨r, h1, cell, q1, q2, q3, q4⟩ := hP.2 j _ hwl
  have hr9 : r = (C, T, N) := Option.some.inj (h1.symm.trans hc)
  subst hr9
  obtain ⟨hSl, hfc, kC, hkC, hkind⟩ := hK.1 ci _ hc
  obtain ⟨cf, kf, fi, f, hi, hsl⟩ := hSl k hk
  have hi1 : s.fieldFound? C nm d = some (cf, kf, fi, f) := by have h8 : s.fieldFound? (T k).1 (T k).2.1 (T k).2.2.1 = some (cf, kf, fi, f) := hi; rw [hT] at h8; exact h8
  have hlay := hts _ (hin _ (u_in_lay hk))
  unfold u_lay at hlay
  rw [if_neg (by rw [e4]; decide)] at hlay
  have hst := (u_facts hfc hkC (u_lays hts hin hk) hi).1
  have h6 := u_store hfc hkC hkind hlay hi (by rw [e3]; exact hpd) hna hfi
  refine W.putK hx hb (f := f) ⟨hown, hts _ hw, ⟨_, _, _, hi1⟩, hst⟩ (by rw [q2]; exact h6) q1 q3 (by rw [hsl]; exact k2_hasslot (q4 k hk)) rfl rfl hd fun H' g1 g2 g3 => ?_
  rw [hsl] at g1 ⊢
  have hP1 := hP.2.set zx_wl_D hwl (e := .inr (ci, fs.set k v)) ⟨_, hc, t_OB.to (V := updV (vp_V fs) k v) ⟨_, g1, q2, q3, t_set q4 hap hk v⟩ (fun j _ => vp_updV_set hl v j)⟩ g3
  rw [zx_wl_set hj] at hP1
  exact Kc H' _ ls ⟨by rw [g2]; exact hP.1, hP1⟩ (hS.put g2 g3 (Nat.le_add_right _ _)) hl0
theorem zz_putF (E : zx_EC B M) (EI : zx_EI B) {j ci index k : Nat} {C nm d : String} {fs : List Value} {v : Value} {ty : FieldType} {T : u_T} {N : Nat} (ty0 : Nat → FieldType) (hin : ∀ w ∈ u_ws C T N, w ∈ zx_G) (hty : ∀ k, k < N → parseFieldDescriptor (T k).2.2.1 = some (ty0 k)) (hnm : ∀ a, a < N → ∀ b, b < N → a ≠ b → (T a).2.1 ≠ (T b).2.1) (hc : zx_cl[ci]? = some (C, T, N)) (hk : k < N) (hT : T k = (C, nm, d, true)) (hCo : C = M.2.2.1) (hpd : parseFieldDescriptor d = some ty) (hna : narrow ty v = v) (hfi : fits ty v = true) (hw : Cond.fieldLink M.2.2.1 index C nm d ∈ zx_G) (hj : j < n) (hcj : c j = .inr (ci, fs)) (hl : k < fs.length) (hd : decode M.1 pc = .ok (.putfield index, 3))
    (Kc : zx_Z B M Qf ck cn (pc + 3) lv st (zx_up c j (.inr (ci, fs.set k v))) n) : zx_Z B M Qf ck cn pc lv (v :: .ref (zx_n0 (zx_BK B) + j) :: st) c n := by
  obtain ⟨p, l, e, s, m, args, below, meth, cd, K⟩ := B
  obtain ⟨cc, nL, own, ret, R⟩ := M
  obtain ⟨hx, hb, hml, hown, hts, hr, hlk, hok, hn0, hK, hkc, hS0, hO⟩ := E
  intro H locs ls hP hS hl0
  have e1 : (T k).1 = C := by rw [hT]
  have e2 : (T k).2.1 = nm := by rw [hT]
  have e3 : (T k).2.2.1 = d := by rw [hT]
  have e4 : (T k).2.2.2 = true := by rw [hT]
  have hwl := (zx_wl_at (K := K) (c := c) hj).trans (by rw [hcj])
  have hap := va_apart (own := own) hts hin ty0 hty hnm hK hc
  obtain ⟨r, h1, cell, q1, q2, q3, q4⟩ := hP.2 j _ hwl
  have hr9 : r = (C, T, N) := Option.some.inj (h1.symm.trans hc)
  subst hr9
  obtain ⟨hSl, hfc, kC, hkC, hkind⟩ := hK.1 ci _ hc
  obtain ⟨cf, kf, fi, f, hi, hsl⟩ := hSl k hk
  have hi1 : s.fieldFound? C nm d = some (cf, kf, fi, f) := by have h8 : s.fieldFound? (T k).1 (T k).2.1 (T k).2.2.1 = some (cf, kf, fi, f) := hi; rw [hT] at h8; exact h8
  have hlay := hts _ (hin _ (u_in_lay hk))
  unfold u_lay at hlay
  rw [if_pos e4] at hlay
  have hst := (u_facts hfc hkC (u_lays hts hin hk) hi).1
  have hcf : m.cls = cf := by
    obtain ⟨_, _, c', _, _, _, -, -, hf', -, -, -, hown2, -⟩ := Cond.laysFinal_spec hlay
    have e1' : c' = cf := by have := hi.symm.trans hf'; simp at this; exact this.1.symm
    rw [e1, hCo] at hown2
    rw [← e1']; exact Option.some.inj (hown.symm.trans hown2)
  have h6 := u_fits hfc hkC hkind (Or.inr hlay) hi (by rw [e3]; exact hpd) hna hfi
  refine W.putFinK hx hb hown (hts _ hw) hi1 hst hcf EI (by rw [q2]; exact h6) q1 q3 (by rw [hsl]; exact k2_hasslot (q4 k hk)) rfl rfl hd fun H' g1 g2 g3 => ?_
  rw [hsl] at g1 ⊢
  have hP1 := hP.2.set zx_wl_D hwl (e := .inr (ci, fs.set k v)) ⟨_, hc, t_OB.to (V := updV (vp_V fs) k v) ⟨_, g1, q2, q3, t_set q4 hap hk v⟩ (fun j _ => vp_updV_set hl v j)⟩ g3
  rw [zx_wl_set hj] at hP1
  exact Kc H' _ ls ⟨by rw [g2]; exact hP.1, hP1⟩ (hS.put g2 g3 (Nat.le_add_right _ _)) hl0
theorem zz_get (E : zx_EC B M) {j ci index k : Nat} {C nm d : String} {fs : List Value} {v : Value} {T : u_T} {N : Nat} {b : Bool} (hin : ∀ w ∈ u_ws C T N, w ∈ zx_G) (hc : zx_cl[ci]? = some (C, T, N)) (hk : k < N) (hT : T k = (C, nm, d, b)) (hw : Cond.fieldLink M.2.2.1 index C nm d ∈ zx_G) (hj : j < n) (hcj : c j = .inr (ci, fs)) (hv : fs[k]? = some v) (hd : decode M.1 pc = .ok (.getfield index, 3))
    (Kc : zx_Z B M Qf ck cn (pc + 3) lv (v :: st) c n) : zx_Z B M Qf ck cn pc lv (.ref (zx_n0 (zx_BK B) + j) :: st) c n := by
  obtain ⟨p, l, e, s, m, args, below, meth, cd, K⟩ := B
  obtain ⟨cc, nL, own, ret, R⟩ := M
  obtain ⟨hx, hb, hml, hown, hts, hr, hlk, hok, hn0, hK, hkc, hS0, hO⟩ := E
  intro H locs ls hP hS hl0
  have e1 : (T k).1 = C := by rw [hT]
  have e2 : (T k).2.1 = nm := by rw [hT]
  have e3 : (T k).2.2.1 = d := by rw [hT]
  subst e2; subst e3
  exact va_get (D := zx_kD K) (ci := ci) (v := v) (ref := C) hx hb hts hin hown hK hP.2 j ((zx_wl_at hj).trans (by rw [hcj])) hc k hk (hts _ hw) (fun _ h9 => by rw [← e1]; exact h9) hv hd (Kc H locs ls hP hS hl0)
theorem zz_aast (E : zx_EC B M) {j jv ci t N : Nat} {i : Int32} {r : vw_C} {vs : List Value} {f : Nat → Option Nat} (hj : j < n) (hjv : jv < n) (hcj : c j = .inl (zx_kc (zx_BK B) t, N, .inr (.inr (.inr (.inr f))))) (ht : (zx_tys (zx_BK B))[t]? = some (zx_kc (zx_BK B) t, .object r.1)) (hcv : c jv = .inr (ci, vs)) (hc : zx_cl[ci]? = some r) (hin : vp_in i N) (hd : decode M.1 pc = .ok (.aastore, 1))
    (Kc : zx_Z B M Qf ck cn (pc + 1) lv st (zx_up c j (.inl (zx_kc (zx_BK B) t, N, .inr (.inr (.inr (.inr (va_up f i.toNatClampNeg (some (zx_n0 (zx_BK B) + jv))))))))) n) : zx_Z B M Qf ck cn pc lv (.ref (zx_n0 (zx_BK B) + jv) :: .int i :: .ref (zx_n0 (zx_BK B) + j) :: st) c n := by
  obtain ⟨p, l, e, s, m, args, below, meth, cd, K⟩ := B
  obtain ⟨cc, nL, own, ret, R⟩ := M
  obtain ⟨hx, hb, hml, hown, hts, hr, hlk, hok, hn0, hK, hkc, hS0, hO⟩ := E
  intro H locs ls hP hS hl0
  have hwl := (zx_wl_at (K := K) (c := c) hj).trans (by rw [hcj])
  have hwv := (zx_wl_at (K := K) (c := c) hjv).trans (by rw [hcv])
  have hlt : i.toNatClampNeg < N := Nat.not_le.mp fun q => hin (Or.inr q)
  have h0 : ¬ i < 0 := fun q => hin (Or.inl q)
  obtain ⟨r', hr', cellV, g1, g2, g3, -⟩ := hP.2 jv _ hwv
  have hcls := (hK.1 ci r hc).2
  obtain ⟨kA, comp, k1, k2, k3, -⟩ := (hK.2 t _ ht).2
  have hcomp : comp = (zx_kD K).1 ci := Option.some.inj (k3.symm.trans hcls.1)
  subst hcomp
  obtain ⟨kC, hkC, -⟩ := hcls.2
  refine W.aast hx hb (hP.2 j _ hwl) (fun q h => by cases h) (fun h => by cases h) k1 k2 rfl hkC ⟨h0, by show _ < (arrV _ _ _).slots.size; rw [arrV_size]; exact hlt⟩ g1 (fun q h => by rw [g3] at h; cases h) (by rw [g2]; exact hkC) (by rw [g2]; exact va_assign hcls) rfl rfl hd fun H1 e1 z1 oq => ?_
  have hP1 := hP.2.set zx_wl_D hwl (e := .inl (zx_kc K t, N, .inr (.inr (.inr (.inr (va_up f i.toNatClampNeg (some (zx_n0 K + jv)))))))) (by
    show H1[zx_n0 K + j]? = some (vp_cell _ _)
    rw [e1]
    rw [vp_cell_q, vp_cell_q, arrV_store]
    congr 2
    funext q
    by_cases hq : q = i.toNatClampNeg
    · simp [va_up, updV, hq, va_rf]
    · simp [va_up, updV, hq]) oq
  rw [zx_wl_set hj] at hP1
  exact Kc H1 _ ls ⟨by rw [z1]; exact hP.1, hP1⟩ (hS.put z1 oq (Nat.le_add_right _ _)) hl0
theorem zz_iast (E : zx_EC B M) {j N : Nat} {i x : Int32} {f : Nat → Int32} (hj : j < n) (hcj : c j = .inl (zx_kc (zx_BK B) 0, N, .inl f)) (hin : vp_in i N) (hd : decode M.1 pc = .ok (.iastore, 1))
    (Kc : zx_Z B M Qf ck cn (pc + 1) lv st (zx_up c j (.inl (zx_kc (zx_BK B) 0, N, .inl (upd f i.toNatClampNeg x)))) n) : zx_Z B M Qf ck cn pc lv (.int x :: .int i :: .ref (zx_n0 (zx_BK B) + j) :: st) c n := by
  obtain ⟨p, l, e, s, m, args, below, meth, cd, K⟩ := B
  obtain ⟨cc, nL, own, ret, R⟩ := M
  obtain ⟨hx, hb, hml, hown, hts, hr, hlk, hok, hn0, hK, hkc, hS0, hO⟩ := E
  intro H locs ls hP hS hl0
  have hwl := (zx_wl_at (K := K) (c := c) hj).trans (by rw [hcj])
  refine W.iast hx hb (hP.2 j _ hwl) ((hK.2 0 _ rfl).1 N (fun j => .int (f j))) (fun q => by cases q) (by show ¬ (i < 0 ∨ (arrV _ _ _).slots.size ≤ _); rw [arrV_size]; exact hin) rfl rfl hd fun H1 e1 z1 oq => ?_
  have hP1 := hP.2.set zx_wl_D hwl (e := .inl (zx_kc K 0, N, .inl (upd f i.toNatClampNeg x))) (by
    show H1[zx_n0 K + j]? = some (vp_cell _ _)
    rw [e1]
    rw [vp_cell_i, vp_cell_i, arrV_store]
    congr 2
    funext q
    by_cases hq : q = i.toNatClampNeg
    · simp [upd, updV, hq]
    · simp [upd, updV, hq]) oq
  rw [zx_wl_set hj] at hP1
  exact Kc H1 _ ls ⟨by rw [z1]; exact hP.1, hP1⟩ (hS.put z1 oq (Nat.le_add_right _ _)) hl0
theorem zz_vret (E : zx_EC B M) (hret : M.2.2.2.1 = none) (hd : decode M.1 pc = .ok (.return_, 1)) : zx_Z B M (zx_QN B c n ck cn) ck cn pc lv [] c n := by
  obtain ⟨p, l, e, s, m, args, below, meth, cd, K⟩ := B
  obtain ⟨cc, nL, own, ret, R⟩ := M
  obtain ⟨hx, hb, hml, hown, hts, hr, hlk, hok, hn0, hK, hkc, hS0, hO⟩ := E
  intro H locs ls hP hS hl0
  exact W.vret hx hb (hr.trans hret) (fun t ht hW => ⟨rfl, zx_endC hok hO hK hkc hS0 hP hS ht hW⟩) hS.2.2 hd hlk
theorem zz_wid {mc ms : Nat} (h1 : ck ≤ mc) (h2 : cn ≤ ms) (Kc : zx_Z B M Qf mc ms pc lv st c n) : zx_Z B M Qf ck cn pc lv st c n := by
  obtain ⟨p, l, e, s, m, args, below, meth, cd, K⟩ := B
  obtain ⟨cc, nL, own, ret, R⟩ := M
  intro H locs ls hP hS hl0
  exact W.widen h1 h2 (Kc H locs ls hP hS hl0)
theorem zx_blindC {as : List Value} {K : zx_K} {c : Nat → va_E} {n : Nat} : FrameBlind (va_Pc as (zx_IC K c n)) := fun a U g mk q => ⟨q.1, zx_IC_same (s := U) (U := U.calling g mk a) rfl rfl q.2⟩
theorem zz_run {p : Program} {l : Launch} {e : Env} {R : Room} {s : State} {m : MethodId} {args : Array Value} {below : List Frame} {meth : Method} {cd : Code} {K : zx_K} {H : Heap} {locs : List Loc} {ck cn mc ms pc : Nat} {ls : Array Slot} {st0 rest : List Value} {Q : State → Prop} {c' : Nat → va_E} {n' : Nat} {a : Array Value}
    (hr : va_Run p l e R s m args below meth cd H locs ck cn mc ms (F0 m pc ls st0) rest (zx_QC K c' n' a) (zx_A K)) (hS : va_S (zx_A K) s.heap H locs)
    (kk : ∀ (H1 : Heap) (locs1 : List Loc), zx_hp K c' n' H1 → va_S (zx_A K) s.heap H1 locs1 → W p l e R s m args below meth cd H1 locs1 (ck + mc) (cn + ms) Q (F0 m (pc + 3) ls rest)) : W p l e R s m args below meth cd H locs ck cn Q (F0 m pc ls st0) := by
  intro T hT X
  obtain ⟨v', st₀, t, T', L, h0, X', hL, e1, e2, ⟨hv, hI, hF⟩, st⟩ := hr T hT X
  cases hv
  obtain ⟨k1, k2, k3⟩ := vx_keep h0 e1 hS (fun q _ h => h) (fun q h => h) hL hF
  obtain ⟨t2, a1, b1⟩ := kk T'.heap (locs ++ L) (by rw [e1]; exact hI.2.2.1) k3 T' rfl X'
  exact ⟨t2, st t2 a1, b1⟩
/-- a constructor's call; 'nest': the private one of a nest mate -/
theorem zz_call (E : zx_EC B M) {My : zx_M} {y : MethodName} {idx j na : Nat} {As : List Value} {c' : Nat → va_E} {n' : Nat} (hM : zx_MC (zx_Bl B) My y (zx_BK B) (.ref (zx_n0 (zx_BK B) + j) :: As) c n c' n') (hret : My.2.2.2.1 = none) (hcode : Cond.code y My.1 My.2.1 none ∈ zx_G) (hini : Cond.initialized y.cls ∈ zx_G) (hl1 : Cond.methodLink M.2.2.1 idx y ∈ zx_G) (hin : Cond.instanceMethod y ∈ zx_G) (hy : y.name = "<init>") (hdd : y.cls ≠ "java/lang/invoke/MethodHandle" ∧ y.cls ≠ "java/lang/invoke/VarHandle" ∧ (parseMethodDescriptor y.desc).map (fun d => d.parameters.length) = some na) (hR : zx_rm M My) (hck : ck + My.2.2.2.2.cells ≤ M.2.2.2.2.cells) (hcn : cn + My.2.2.2.2.slots ≤ M.2.2.2.2.slots) (hn : As.length = na) (hst : st0 = As.reverse ++ .ref (zx_n0 (zx_BK B) + j) :: st) (hsum : (st.map fun v => v.category).sum ≤ 8) (hd : decode M.1 pc = .ok (.invokespecial idx, 3))
    (Kc : zx_Z B M Qf (ck + My.2.2.2.2.cells) (cn + My.2.2.2.2.slots) (pc + 3) lv st c' n') : zx_Z B M Qf ck cn pc lv st0 c n := by
  obtain ⟨cy, nLy, owny, rety, Ry⟩ := My
  cases hret
  obtain ⟨p, l, e, s, m, args, below, meth, cd, K⟩ := B
  obtain ⟨cc, nL, own, ret, R⟩ := M
  obtain ⟨hx, hb, hml, hown, hts, hr, hlk, hok, hn0, hK, hkc, hS0, hO⟩ := E
  intro H locs ls hP hS hl0
  subst hst
  refine zz_run (va_runI (Ts := zx_G) (own := own) (b := zx_n0 K + j) (As := As) (rest := st) ⟨hx, hb, hml, hown, hts⟩ hM (cwI na hts (zx_gc (l := []) hcode (fun x h => (List.not_mem_nil h).elim)) rfl rfl rfl (hts _ hini) (hts _ hl1) (hts _ hin) hy hdd hR) ⟨zx_blindC, fun U hU hW => ⟨rfl, (zx_endC hok hO hK hkc hS0 hP hS hU hW).1⟩⟩ rfl hn hl0.1 rfl (lv_room hsum) hd ⟨hck, hcn⟩) hS (fun H1 locs1 hP1 hS1 => Kc H1 locs1 ls hP1 hS1 hl0)
theorem zz_callN (E : zx_EC B M) {My : zx_M} {y : MethodName} {idx j na : Nat} {host : String} {As : List Value} {c' : Nat → va_E} {n' : Nat} (hM : zx_MC (zx_Bl B) My y (zx_BK B) (.ref (zx_n0 (zx_BK B) + j) :: As) c n c' n') (hret : My.2.2.2.1 = none) (hcode : Cond.code y My.1 My.2.1 none ∈ zx_G) (hini : Cond.initialized y.cls ∈ zx_G) (hl1 : Cond.methodLinkNest M.2.2.1 idx y host ∈ zx_N) (hin : Cond.instanceMethod y ∈ zx_G) (hy : y.name = "<init>") (hdd : y.cls ≠ "java/lang/invoke/MethodHandle" ∧ y.cls ≠ "java/lang/invoke/VarHandle" ∧ (parseMethodDescriptor y.desc).map (fun d => d.parameters.length) = some na) (hR : zx_rm M My) (hck : ck + My.2.2.2.2.cells ≤ M.2.2.2.2.cells) (hcn : cn + My.2.2.2.2.slots ≤ M.2.2.2.2.slots) (hn : As.length = na) (hst : st0 = As.reverse ++ .ref (zx_n0 (zx_BK B) + j) :: st) (hsum : (st.map fun v => v.category).sum ≤ 8) (hd : decode M.1 pc = .ok (.invokespecial idx, 3))
    (Kc : zx_Z B M Qf (ck + My.2.2.2.2.cells) (cn + My.2.2.2.2.slots) (pc + 3) lv st c' n') : zx_Z B M Qf ck cn pc lv st0 c n := by
  obtain ⟨cy, nLy, owny, rety, Ry⟩ := My
  cases hret
  obtain ⟨p, l, e, s, m, args, below, meth, cd, K⟩ := B
  obtain ⟨cc, nL, own, ret, R⟩ := M
  obtain ⟨hx, hb, hml, hown, hts, hr, hlk, hok, hn0, hK, hkc, hS0, hO⟩ := E
  intro H locs ls hP hS hl0
  subst hst
  refine zz_run (va_runIN (Ts := zx_G) (own := own) (b := zx_n0 K + j) (As := As) (rest := st) ⟨hx, hb, hml, hown, hts⟩ hM ⟨va_cnB na hts (zx_gc (l := []) hcode (fun x h => (List.not_mem_nil h).elim)) rfl rfl rfl (hS0.2.1 _ hl1) (hts _ hini) hdd hR, hy, hts _ hin⟩ ⟨zx_blindC, fun U hU hW => ⟨rfl, (zx_endC hok hO hK hkc hS0 hP hS hU hW).1⟩⟩ rfl hn hl0.1 rfl (lv_room hsum) hd ⟨hck, hcn⟩) hS (fun H1 locs1 hP1 hS1 => Kc H1 locs1 ls hP1 hS1 hl0)

end ZXZ
theorem zx_ofC {l : Launch} {M : zx_M} {y : MethodName} {K : zx_K} {as : List Value} {c c' : Nat → va_E} {n n' : Nat} (hy : plainName y.cls = true) (hyn : y.name = "<init>") (hcls : y.cls = M.2.2.1) (hn : (lg_sl as).length ≤ M.2.1)
    (body : ∀ B : zx_B, zx_Bl B = l → zx_BK B = K → zx_EC B M → zx_EI B → zx_Z B M (zx_QN B c' n' M.2.2.2.2.cells M.2.2.2.2.slots) 0 0 0 (lv_args 0 as) [] c n) : zx_MC l M y K as c n c' n' := by
  obtain ⟨cc, nL, own, ret, R⟩ := M
  refine Met.ofW (cc := cc) (maxL := nL) (ret := ret) hy rfl ?_
  intro p e s m args below meth cd s₁ B hml hv
  obtain ⟨rfl, hok, hO, hP, hK, hkc, hS0⟩ := hv
  have hts := atoms_spec (ws := Cond.code y cc nL ret :: zx_G) B.pre
  have hown : s.vm.findClass own = some m.cls := by
    have := findClass_of_methodNamed B.named
    rw [hcls] at this
    exact this
  have X := body (p, l, e, s, m, as.toArray, below, meth, cd, K) rfl rfl ⟨B.exec, B.bytes, hml, hown, fun w hw => hts w (List.mem_cons_of_mem _ hw), B.returns, B.notSynchronized, hok, by have := hP.1; omega, hK, hkc, hS0, hO⟩ ((name_of_methodNamed B.named B.method).1.trans hyn)
  have hl := lv_entry as (n := nL) hn
  rw [lg_entry_eq]
  exact X s.heap [] _ hP va_S.rf hl
