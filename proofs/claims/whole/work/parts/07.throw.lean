/-! ===== methods that throw; the law's helpers, which catch ===== -/
def zx_exn (c : Nat) : String := match c with
  | 1 => "java/lang/IllegalArgumentException"
  | 2 => "java/lang/IllegalStateException"
  | 3 => "java/lang/IndexOutOfBoundsException"
  | _ => "java/lang/UnsupportedOperationException"
def zx_nms : List String := ["java/lang/RuntimeException", "java/lang/Exception"]
def zx_XQ (K : zx_K) (v : Option Value) (c : Nat) (h : zx_H) : Array Value → State → Outcome → State → Prop := fun _ st oc t => c = 0 ∧ oc = .returned v ∧ zx_I K h t ∧ va_F (zx_A K) st t
def zx_XX (K : zx_K) (c : Nat) (h : zx_H) : String → State → State → Prop := fun E st t => c ≠ 0 ∧ E = zx_exn c ∧ va_P (zx_kD K) zx_cl (zx_wd K h) t.heap ∧ va_F (zx_A K) st t
/-- a method that returns v (c = 0) or throws the exception of number c; one object of six fields may come -/
def zx_MX (l : Launch) (M : zx_M) (y : MethodName) (K : zx_K) (as : List Value) (h : zx_H) (c : Nat) (v : Option Value) (h' : zx_H) : Prop :=
  vx_Met l y (Cond.code y M.1 M.2.1 M.2.2.2.1 :: zx_G) M.2.2.2.2 (va_Pc as (zx_I K h)) (zx_XQ K v c h') (zx_XX K c h') 1 6 (zx_A K)
def zx_QX (B : zx_B) {α : Type} (ρ : α → Nat × Option Value × zx_H) : α → State → Prop := match B with
  | (_, _, _, s, _, args, below, _, _, K) => fun a => vx_MQ below (zx_XQ K (ρ a).2.1 (ρ a).1 (ρ a).2.2) (zx_XX K (ρ a).1 (ρ a).2.2) args s 1 6 (zx_A K)
def zx_T (B : zx_B) : Prop := match B with
  | (_, l, _, _, _, _, _, _, c, _) => l.stackTraces = false ∧ ∀ x ∈ c.exceptionTable.toList, False
theorem zx_N_on {w : Cond} (hw : w ∈ zx_N) : w.onTables = true := by
  have hn := (List.mem_filter.mp hw).2
  cases w <;> first | rfl | cases hn
/-- the words of a throw, of the class alone -/
def zx_Tc (own : String) (ic : Nat) (cls : String) : Prop := Bundle.fit cls = true ∧ (∀ n ∈ zx_nms, Bundle.fit n = true) ∧ Cond.initialized cls ∈ zx_G ∧ ∀ w ∈ vx_atS own ic cls zx_nms, w ∈ tables_1 ∧ (goodWord w = true ∨ zx_nw w = true) ∧ vx_ot w = true
section ZXT
variable {B : zx_B} {M : zx_M} {α β : Type} {Qf : α → State → Prop} {sem : Option α} {ck cn pc : Nat} {lv : List (Nat × Value)} {st st0 : List Value} {h : zx_H}
theorem zx_xiret (E : zx_E B M) {ρ : α → Nat × Option Value × zx_H} {a0 : α} {v : Int32} (hρ : ρ a0 = (0, some (.int v), h)) (hret : M.2.2.2.1 = some .int) (hd : decode M.1 pc = .ok (.ireturn, 1)) : zx_X B M (zx_QX B ρ) (some a0) 0 0 pc lv [.int v] h := by
  obtain ⟨p, l, e, s, m, args, below, meth, c, K⟩ := B
  obtain ⟨cc, nL, own, ret, R⟩ := M
  obtain ⟨hx, hb, hml, hown, hts, hr, hlk, hok, hn, hK, hS0⟩ := E
  intro a ha H locs ls hP hS hl0
  cases Option.some.inj ha
  show W p l e R s m args below meth c H locs 0 0 (vx_MQ below (zx_XQ K (ρ a0).2.1 (ρ a0).1 (ρ a0).2.2) (zx_XX K (ρ a0).1 (ρ a0).2.2) args s 1 6 (zx_A K)) (F0 m pc ls [.int v])
  rw [hρ]
  refine vx_ret (W.widen (k := 1) (n := 6) (Nat.zero_le _) (Nat.zero_le _) ?_)
  exact W.iret hx hb (hr.trans hret) (fun t ht hW => ⟨rfl, rfl, zx_end hok hn hK hS0 hP hS ht hW⟩) hS.2.2 hd hlk
theorem zx_xlret (E : zx_E B M) {ρ : α → Nat × Option Value × zx_H} {a0 : α} {v : Int64} (hρ : ρ a0 = (0, some (.long v), h)) (hret : M.2.2.2.1 = some .long) (hd : decode M.1 pc = .ok (.lreturn, 1)) : zx_X B M (zx_QX B ρ) (some a0) 0 0 pc lv [.long v] h := by
  obtain ⟨p, l, e, s, m, args, below, meth, c, K⟩ := B
  obtain ⟨cc, nL, own, ret, R⟩ := M
  obtain ⟨hx, hb, hml, hown, hts, hr, hlk, hok, hn, hK, hS0⟩ := E
  intro a ha H locs ls hP hS hl0
  cases Option.some.inj ha
  show W p l e R s m args below meth c H locs 0 0 (vx_MQ below (zx_XQ K (ρ a0).2.1 (ρ a0).1 (ρ a0).2.2) (zx_XX K (ρ a0).1 (ρ a0).2.2) args s 1 6 (zx_A K)) (F0 m pc ls [.long v])
  rw [hρ]
  refine vx_ret (W.widen (k := 1) (n := 6) (Nat.zero_le _) (Nat.zero_le _) ?_)
  exact W.lret hx hb (hr.trans hret) (fun t ht hW => ⟨rfl, rfl, zx_end hok hn hK hS0 hP hS ht hW⟩) hS.2.2 hd hlk
theorem zx_xvret (E : zx_E B M) {ρ : α → Nat × Option Value × zx_H} {a0 : α} (hρ : ρ a0 = (0, none, h)) (hret : M.2.2.2.1 = none) (hd : decode M.1 pc = .ok (.return_, 1)) : zx_X B M (zx_QX B ρ) (some a0) 0 0 pc lv [] h := by
  obtain ⟨p, l, e, s, m, args, below, meth, c, K⟩ := B
  obtain ⟨cc, nL, own, ret, R⟩ := M
  obtain ⟨hx, hb, hml, hown, hts, hr, hlk, hok, hn, hK, hS0⟩ := E
  intro a ha H locs ls hP hS hl0
  cases Option.some.inj ha
  show W p l e R s m args below meth c H locs 0 0 (vx_MQ below (zx_XQ K (ρ a0).2.1 (ρ a0).1 (ρ a0).2.2) (zx_XX K (ρ a0).1 (ρ a0).2.2) args s 1 6 (zx_A K)) (F0 m pc ls [])
  rw [hρ]
  refine vx_ret (W.widen (k := 1) (n := 6) (Nat.zero_le _) (Nat.zero_le _) ?_)
  exact W.vret hx hb (hr.trans hret) (fun t ht hW => ⟨rfl, rfl, zx_end hok hn hK hS0 hP hS ht hW⟩) hS.2.2 hd hlk
theorem zx_Tc_hat {s : State} {args : Array Value} {K : zx_K} {own cls : String} {ic : Nat} (hts : ∀ w ∈ zx_G, w.before args s = true) (hS0 : zx_S K s) (ht : ∀ w ∈ vx_atS own ic cls zx_nms, w ∈ tables_1 ∧ (goodWord w = true ∨ zx_nw w = true) ∧ vx_ot w = true) : ∀ w ∈ vx_atS own ic cls zx_nms, w.before args s = true := by
  intro w hw
  obtain ⟨h1, h2 | h2, -⟩ := ht w hw
  · exact hts w (zx_Gm (List.mem_append_right _ h1) h2)
  · have h3 : w ∈ zx_N := List.mem_filter.mpr ⟨h1, h2⟩
    exact va_Nw.use (zx_N_on h3) (hS0.2.1 w h3)
theorem zx_frame {K : zx_K} {s : State} {H : Heap} {locs : List Loc} {h : zx_H} {cls : String} {cd : Nat} {t : State} (hP : va_P (zx_kD K) zx_cl (zx_wd K h) H) (hS : va_S (zx_A K) s.heap H locs) (hc : cd ≠ 0) (hcls : zx_exn cd = cls) (hz : H.size ≤ t.heap.size) (hq : ∀ q : Nat, q < H.size → t.heap[q]? = H[q]?) : zx_XX K cd h cls s t :=
  ⟨hc, hcls.symm, va_P.kept hP (fun k q hk => hq q.1 ((hP k q hk).lt)), Nat.le_trans hS.1 hz, fun q h1 h2 => (hq q (Nat.lt_of_lt_of_le h1 hS.1)).trans (hS.2.1 q h1 h2)⟩
theorem zx_throw (E : zx_E B M) (T : zx_T B) {ρ : α → Nat × Option Value × zx_H} {a0 : α} {cd : Nat} {v : Option Value} {cls text : String} {ik is ic : Nat} (hρ : ρ a0 = (cd, v, h)) (hc : cd ≠ 0) (hcls : zx_exn cd = cls) (ht : zx_Tc M.2.2.1 ic cls) (hk : Cond.classLink M.2.2.1 ik cls ∈ zx_G) (hkg : vx_ot (Cond.classLink M.2.2.1 ik cls) = true ∧ vx_ot (Cond.initialized cls) = true) (hs : (M.2.2.1, is, text) ∈ zx_strs)
    (hR : 5 < M.2.2.2.2.frames ∧ (st.map fun v => v.category).sum + 82 ≤ M.2.2.2.2.locals ∧ 1 ≤ M.2.2.2.2.cells ∧ 6 ≤ M.2.2.2.2.slots)
    (d0 : decode M.1 pc = .ok (.new ik, 3)) (d3 : decode M.1 (pc + 3) = .ok (.dup, 1)) (d4 : decode M.1 (pc + 4) = .ok (.ldc is, 2)) (d6 : decode M.1 (pc + 6) = .ok (.invokespecial ic, 3)) (d9 : decode M.1 (pc + 9) = .ok (.athrow, 1)) : zx_X B M (zx_QX B ρ) (some a0) 0 0 pc lv st h := by
  obtain ⟨p, l, e, s, m, args, below, meth, c, K⟩ := B
  obtain ⟨cc, nL, own, ret, R⟩ := M
  obtain ⟨hx, hb, hml, hown, hts, hr, hlk, hok, hn, hK, hS0⟩ := E
  intro a ha H locs ls hP hS hl0
  cases Option.some.inj ha
  show W p l e R s m args below meth c H locs 0 0 (vx_MQ below (zx_XQ K (ρ a0).2.1 (ρ a0).1 (ρ a0).2.2) (zx_XX K (ρ a0).1 (ρ a0).2.2) args s 1 6 (zx_A K)) (F0 m pc ls st)
  rw [hρ]
  obtain ⟨t1, t2, t3, t4⟩ := ht
  obtain ⟨sa, hsa⟩ := hS0.1.2.2.2.2.2.2.2.2.2 _ hs
  exact vx_throwS (names := zx_nms) (text := text) (sa := sa) (A := zx_A K) hx hb T.1 hown t1 t2 (hts _ hk) (hts _ t3) hsa (zx_Tc_hat hts hS0 t4) (fun w hw => by
    rcases List.mem_cons.mp hw with rfl | hw
    · exact hkg.1
    · rcases List.mem_cons.mp hw with rfl | hw
      · exact hkg.2
      · exact (t4 w hw).2.2) hS0.1.2.2.2.2.1 hS0.1.2.2.2.2.2.1 hS (hl0.1.trans hml.symm) d0 d3 d4 d6 d9 (fun x hx => (T.2 x hx).elim) hR.1 hR.2.1 (by have := hR.2.2.1; simpa using this) (by have := hR.2.2.2; simpa using this) hlk
    (fun t _ hz hq => zx_frame hP hS hc hcls hz hq) hS.2.2 (Nat.le_refl 1) (Nat.le_refl 6)
theorem zx_throwW (E : zx_E B M) (T : zx_T B) {ρ : α → Nat × Option Value × zx_H} {a0 : α} {cd : Nat} {v : Option Value} {cls text : String} {ik is ic : Nat} (hρ : ρ a0 = (cd, v, h)) (hc : cd ≠ 0) (hcls : zx_exn cd = cls) (ht : zx_Tc M.2.2.1 ic cls) (hk : Cond.classLink M.2.2.1 ik cls ∈ zx_G) (hkg : vx_ot (Cond.classLink M.2.2.1 ik cls) = true ∧ vx_ot (Cond.initialized cls) = true) (hs : (M.2.2.1, is, text) ∈ zx_strs)
    (hR : 5 < M.2.2.2.2.frames ∧ (st.map fun v => v.category).sum + 82 ≤ M.2.2.2.2.locals ∧ 1 ≤ M.2.2.2.2.cells ∧ 6 ≤ M.2.2.2.2.slots)
    (d0 : decode M.1 pc = .ok (.new ik, 3)) (d3 : decode M.1 (pc + 3) = .ok (.dup, 1)) (d4 : decode M.1 (pc + 4) = .ok (.ldc_w is, 3)) (d6 : decode M.1 (pc + 7) = .ok (.invokespecial ic, 3)) (d9 : decode M.1 (pc + 10) = .ok (.athrow, 1)) : zx_X B M (zx_QX B ρ) (some a0) 0 0 pc lv st h := by
  obtain ⟨p, l, e, s, m, args, below, meth, c, K⟩ := B
  obtain ⟨cc, nL, own, ret, R⟩ := M
  obtain ⟨hx, hb, hml, hown, hts, hr, hlk, hok, hn, hK, hS0⟩ := E
  intro a ha H locs ls hP hS hl0
  cases Option.some.inj ha
  show W p l e R s m args below meth c H locs 0 0 (vx_MQ below (zx_XQ K (ρ a0).2.1 (ρ a0).1 (ρ a0).2.2) (zx_XX K (ρ a0).1 (ρ a0).2.2) args s 1 6 (zx_A K)) (F0 m pc ls st)
  rw [hρ]
  obtain ⟨t1, t2, t3, t4⟩ := ht
  obtain ⟨sa, hsa⟩ := hS0.1.2.2.2.2.2.2.2.2.2 _ hs
  exact vx_throwSW (names := zx_nms) (text := text) (sa := sa) (A := zx_A K) hx hb T.1 hown t1 t2 (hts _ hk) (hts _ t3) hsa (zx_Tc_hat hts hS0 t4) (fun w hw => by
    rcases List.mem_cons.mp hw with rfl | hw
    · exact hkg.1
    · rcases List.mem_cons.mp hw with rfl | hw
      · exact hkg.2
      · exact (t4 w hw).2.2) hS0.1.2.2.2.2.1 hS0.1.2.2.2.2.2.1 hS (hl0.1.trans hml.symm) d0 d3 d4 d6 d9 (fun x hx => (T.2 x hx).elim) hR.1 hR.2.1 (by have := hR.2.2.1; simpa using this) (by have := hR.2.2.2; simpa using this) hlk
    (fun t _ hz hq => zx_frame hP hS hc hcls hz hq) hS.2.2 (Nat.le_refl 1) (Nat.le_refl 6)
end ZXT
theorem zx_ofX {l : Launch} {M : zx_M} {y : MethodName} {K : zx_K} {as : List Value} {h : zx_H} {α : Type} {ρ : α → Nat × Option Value × zx_H} {sem : Option α} {r : α} (hst : l.stackTraces = false) (hy : plainName y.cls = true) (hcls : y.cls = M.2.2.1) (hsem : sem = some r) (hn : (lg_sl as).length ≤ M.2.1)
    (body : ∀ B : zx_B, zx_Bl B = l → zx_BK B = K → zx_E B M → zx_T B → zx_X B M (zx_QX B ρ) sem 0 0 0 (lv_args 0 as) [] h) : zx_MX l M y K as h (ρ r).1 (ρ r).2.1 (ρ r).2.2 := by
  obtain ⟨cc, nL, own, ret, R⟩ := M
  refine vx_ofW (cc := cc) (maxL := nL) (ret := ret) hy rfl ?_
  intro p e s m args below meth c s₁ B hml htab hv
  obtain ⟨rfl, hok, hn0, hP, hK, hS0⟩ := hv
  have hts := atoms_spec (ws := Cond.code y cc nL ret :: zx_G) B.pre
  have hown : s.vm.findClass own = some m.cls := by
    have := findClass_of_methodNamed B.named
    rw [hcls] at this
    exact this
  have X := body (p, l, e, s, m, as.toArray, below, meth, c, K) rfl rfl ⟨B.exec, B.bytes, hml, hown, fun w hw => hts w (List.mem_cons_of_mem _ hw), B.returns, B.notSynchronized, hok, hn0, hK, hS0⟩ ⟨hst, htab⟩
  have hl := lv_entry as (n := nL) hn
  rw [lg_entry_eq]
  exact X r hsem s.heap [] _ hP va_S.rf hl
/-! ===== the law's helpers ===== -/
abbrev zx_HH : Type := List (Nat × Nat × Nat × Nat)
def zx_Tab (B : zx_B) (hh : zx_HH) : Prop := match B with
  | (_, _, _, _, _, _, _, _, c, _) => c.exceptionTable.toList = tableOf hh
/-- a helper: it always returns; one object of six fields may come -/
def zx_MH (l : Launch) (M : zx_M) (y : MethodName) (hh : zx_HH) (K : zx_K) (as : List Value) (h : zx_H) (v : Option Value) (h' : zx_H) : Prop :=
  vx_Met l y (Cond.codeWith y M.1 M.2.1 M.2.2.2.1 hh :: zx_G) M.2.2.2.2 (va_Pc as (zx_I K h)) (zx_Q K v h') (fun _ _ _ => False) 1 6 (zx_A K)
def zx_QH (B : zx_B) {α : Type} (ρ : α → Option Value × zx_H) : α → State → Prop := match B with
  | (_, _, _, s, _, args, below, _, _, K) => fun a => vx_MQ below (zx_Q K (ρ a).1 (ρ a).2) (fun _ _ _ => False) args s 1 6 (zx_A K)
/-- which handler an exception finds at pc -/
def zx_ct (own : String) (hh : zx_HH) (pc cd hp : Nat) : Prop := ∃ (pre : List ExceptionTableEntry) (x : ExceptionTableEntry) (suf : List ExceptionTableEntry), tableOf hh = pre ++ x :: suf ∧ (∀ z ∈ pre, z.catchType ≠ 0 ∧ ∃ nm, Cond.classLink own z.catchType nm ∈ zx_G ∧ nm ∈ zx_ex ∧ zx_exn cd ∈ zx_ex ∧ zx_exn cd ≠ nm) ∧ covers x pc = true ∧ x.catchType ≠ 0 ∧ Cond.classLink own x.catchType (zx_exn cd) ∈ zx_G ∧ Cond.castable (zx_exn cd) (zx_exn cd) ∈ zx_N ∧ x.handlerPc = hp
def zx_pass (own : String) (cd : Nat) (z : ExceptionTableEntry) : Prop := z.catchType ≠ 0 ∧ ∃ nm, Cond.classLink own z.catchType nm ∈ zx_G ∧ nm ∈ zx_ex ∧ zx_exn cd ∈ zx_ex ∧ zx_exn cd ≠ nm
theorem zx_ct0 {own : String} {hh : zx_HH} {pc cd hp : Nat} {x : ExceptionTableEntry} {suf : List ExceptionTableEntry} (h0 : tableOf hh = x :: suf) (h1 : covers x pc = true) (h2 : x.catchType ≠ 0) (h3 : Cond.classLink own x.catchType (zx_exn cd) ∈ zx_G) (h4 : Cond.castable (zx_exn cd) (zx_exn cd) ∈ zx_N) (h5 : x.handlerPc = hp) : zx_ct own hh pc cd hp := ⟨[], x, suf, h0, fun _ h => (List.not_mem_nil h).elim, h1, h2, h3, h4, h5⟩
theorem zx_ct1 {own : String} {hh : zx_HH} {pc cd hp : Nat} {x z0 : ExceptionTableEntry} {suf : List ExceptionTableEntry} (h0 : tableOf hh = z0 :: x :: suf) (p0 : zx_pass own cd z0) (h1 : covers x pc = true) (h2 : x.catchType ≠ 0) (h3 : Cond.classLink own x.catchType (zx_exn cd) ∈ zx_G) (h4 : Cond.castable (zx_exn cd) (zx_exn cd) ∈ zx_N) (h5 : x.handlerPc = hp) : zx_ct own hh pc cd hp := ⟨[z0], x, suf, h0, fun z h => by
  rcases List.mem_cons.mp h with rfl | h
  · exact p0
  · exact (List.not_mem_nil h).elim, h1, h2, h3, h4, h5⟩
theorem zx_ct2 {own : String} {hh : zx_HH} {pc cd hp : Nat} {x z0 z1 : ExceptionTableEntry} {suf : List ExceptionTableEntry} (h0 : tableOf hh = z0 :: z1 :: x :: suf) (p0 : zx_pass own cd z0) (p1 : zx_pass own cd z1) (h1 : covers x pc = true) (h2 : x.catchType ≠ 0) (h3 : Cond.classLink own x.catchType (zx_exn cd) ∈ zx_G) (h4 : Cond.castable (zx_exn cd) (zx_exn cd) ∈ zx_N) (h5 : x.handlerPc = hp) : zx_ct own hh pc cd hp := ⟨[z0, z1], x, suf, h0, fun z h => by
  rcases List.mem_cons.mp h with rfl | h
  · exact p0
  · rcases List.mem_cons.mp h with rfl | h
    · exact p1
    · exact (List.not_mem_nil h).elim, h1, h2, h3, h4, h5⟩
section ZXU
variable {B : zx_B} {M : zx_M} {α β : Type} {Qf : α → State → Prop} {sem : Option α} {ck cn pc : Nat} {lv : List (Nat × Value)} {st st0 : List Value} {h : zx_H} {My : zx_M} {y : MethodName} {idx n : Nat} {C : String}
theorem zx_hret (E : zx_E B M) {ρ : α → Option Value × zx_H} {a0 : α} {v : Int32} (hρ : ρ a0 = (some (.int v), h)) (hck : ck ≤ 1) (hcn : cn ≤ 6) (hret : M.2.2.2.1 = some .int) (hd : decode M.1 pc = .ok (.ireturn, 1)) : zx_X B M (zx_QH B ρ) (some a0) ck cn pc lv [.int v] h := by
  obtain ⟨p, l, e, s, m, args, below, meth, c, K⟩ := B
  obtain ⟨cc, nL, own, ret, R⟩ := M
  obtain ⟨hx, hb, hml, hown, hts, hr, hlk, hok, hn, hK, hS0⟩ := E
  intro a ha H locs ls hP hS hl0
  cases Option.some.inj ha
  show W p l e R s m args below meth c H locs ck cn (vx_MQ below (zx_Q K (ρ a0).1 (ρ a0).2) (fun _ _ _ => False) args s 1 6 (zx_A K)) (F0 m pc ls [.int v])
  rw [hρ]
  refine vx_ret (W.widen (k := 1) (n := 6) hck hcn ?_)
  exact W.iret hx hb (hr.trans hret) (fun t ht hW => ⟨rfl, zx_end hok hn hK hS0 hP hS ht hW⟩) hS.2.2 hd hlk
def zx_Wx (own : String) (idx : Nat) (C : String) (y : MethodName) (My : zx_M) (n : Nat) : Prop := GoodIn zx_G (wsV own idx C y (Cond.code y My.1 My.2.1 My.2.2.2.1 :: zx_G)) ∧ (y.cls = C ∧ y.cls ≠ "java/lang/invoke/MethodHandle" ∧ y.cls ≠ "java/lang/invoke/VarHandle" ∧ (parseMethodDescriptor y.desc).map (fun d => d.parameters.length) = some n) ∧ My.2.2.2.2.cells = 1 ∧ My.2.2.2.2.slots = 6
theorem zx_WxOf {own : String} {idx : Nat} {y : MethodName} {My : zx_M} {n : Nat} (h1 : Cond.methodLink own idx y ∈ zx_G) (h2 : Cond.instanceMethod y ∈ zx_G) (h3 : Cond.selects y.cls y y ∈ zx_G) (h4 : Cond.initialized y.cls ∈ zx_G) (h5 : Cond.code y My.1 My.2.1 My.2.2.2.1 ∈ zx_G) (h6 : y.cls ≠ "java/lang/invoke/MethodHandle" ∧ y.cls ≠ "java/lang/invoke/VarHandle" ∧ (parseMethodDescriptor y.desc).map (fun d => d.parameters.length) = some n) (h7 : My.2.2.2.2.cells = 1) (h8 : My.2.2.2.2.slots = 6) : zx_Wx own idx y.cls y My n :=
  ⟨zx_gc h5 (fun x hx => by
    simp only [List.mem_cons, List.not_mem_nil, or_false] at hx
    rcases hx with rfl | rfl | rfl | rfl <;> assumption), ⟨rfl, h6⟩, h7, h8⟩
theorem zx_callX (E : zx_E B M) {F i ci nf : Nat} {T : u_T} {τ : Type} {g : Option (Nat × τ × zx_H)} {ks : Nat × τ × zx_H → Option α} {hh : zx_HH} (htab : zx_Tab B hh) (vo : τ → Option Value) (As : List Value) (hM : ∀ r, g = some r → zx_MX (zx_Bl B) My y (zx_BK B) (zx_rV (zx_BK B) F i :: As) h r.1 (vo r.2.1) r.2.2) (hF : zx_isO F ci nf) (hi : i < zx_nF F) (hc : zx_cl[ci]? = some (C, T, nf)) (hw : zx_Wx M.2.2.1 idx C y My n) (hR : zx_rm M My)
    (hck : ck + 1 ≤ M.2.2.2.2.cells) (hcn : cn + 6 ≤ M.2.2.2.2.slots) (hn : As.length = n) (hst : st0 = As.reverse ++ zx_rV (zx_BK B) F i :: st) (hsum : (st.map fun v => v.category).sum ≤ 8) (hd : decode M.1 pc = .ok (.invokevirtual idx, 3))
    (Kn : ∀ r, r.1 = 0 → zx_X B M Qf (ks r) (ck + 1) (cn + 6) (pc + 3) lv ((vo r.2.1).toList ++ st) r.2.2)
    (Kx : ∀ r, r.1 ≠ 0 → ks r = none ∨ ∃ hp, zx_ct M.2.2.1 hh pc r.1 hp ∧ ∀ q, zx_X B M Qf (ks r) (ck + 1) (cn + 6) hp lv [.ref q] r.2.2) : zx_X B M Qf (g.bind ks) ck cn pc lv st0 h := by
  obtain ⟨p, l, e, s, m, args, below, meth, cd, K⟩ := B
  obtain ⟨cc, nL, own, ret, R⟩ := M
  obtain ⟨cy, nLy, owny, rety, Ry⟩ := My
  obtain ⟨hx, hb, hml, hown, hts, hr, hlk, hok, hn0, hK, hS0⟩ := E
  intro a ha H locs ls hP hS hl0
  cases hg : g with
  | none => rw [hg] at ha; cases ha
  | some r =>
    rw [hg] at ha
    have ha : ks r = some a := ha
    subst hst
    obtain ⟨hw1, hw2, hw3, hw4⟩ := hw
    have hrun := vx_runV (R := R) (e := e) (below := below) (locs := locs) (H := H) (cells := ck) (slots := cn) (g := F0 m pc ls (As.reverse ++ zx_rV K F i :: st)) (Ts := zx_G) (own := own) (C := C) (b := zx_ad K (zx_pl F i)) (As := As) (rest := st) (args := args) (meth := meth) ⟨hx, hb, hml, hown, hts⟩ (hM r hg) (cwV n hts hw1 rfl hw3 hw4 hw2 hR) ⟨zx_blind, va_recv hK hP hc ((zx_wd_at K h hF.1 hi).trans (by rw [zx_cF_O hF])), fun U hU hW => ⟨rfl, zx_pre hok hn0 hK hS0 hP hS hU hW⟩⟩ rfl hn hl0.1 rfl (lv_room hsum) hd ⟨hck, hcn⟩
    intro T0 hT X
    rcases hrun T0 hT X with ⟨v, st₀, t, T', L, h0, X', hL, e1, e2, ⟨hc0, hv, hI, hFr⟩, hst⟩ | ⟨q, st₀, t, T', L, E9, ce, h0, X', hL, e1, e2, ⟨hc0, hE, hP1, hFr⟩, hce, hcv, hcl, hst⟩
    · cases hv
      obtain ⟨k1, k2, k3⟩ := vx_keep h0 e1 hS (fun q _ h => h) (fun q h => h) hL hFr
      obtain ⟨t2, a1, b1⟩ := Kn r hc0 a ha T'.heap (locs ++ L) ls (by rw [e1]; exact hI.2.2.1) k3 hl0 T' rfl X'
      exact ⟨t2, hst t2 a1, b1⟩
    · obtain ⟨k1, k2, k3⟩ := vx_keep h0 e1 hS (fun q _ h => h) (fun q h => h) hL hFr
      rcases Kx r hc0 with hno | ⟨hp, ⟨pre, x, suf, hsp, hpre, hcov, hct0, hlk1, hcas, hhp⟩, kx⟩
      · rw [hno] at ha; cases ha
      · subst hE
        subst hhp
        obtain ⟨t2, a1, b1⟩ := vx_catch (p := p) (l := l) (e := e) (R := R) (args := args) (below := below) (meth := meth) (ls := ls) (rest := st) (Q := Qf a) (H := T'.heap) (locs := locs ++ L) (cells := ck + 1) (slots := cn + 6) (pc := pc) (E := zx_exn r.1) (name := zx_exn r.1) (ce := ce) (q := q) hown pre x suf (htab.trans hsp) (fun z hz => by
          obtain ⟨z1, nm, z2, z3, z4, z5⟩ := hpre z hz
          exact Or.inr ⟨z1, nm, hts _ z2, hS0.2.2.2.1 _ z4 _ z3 z5⟩) hcov hct0 (hts _ hlk1) (va_Nw.use rfl (hS0.2.1 _ hcas)) (by rw [e1]; exact hce) hcv hcl
          (kx q a ha T'.heap (locs ++ L) ls (by rw [e1]; exact hP1) k3 hl0) T' rfl X'
        exact ⟨t2, hst.trans a1, b1⟩
/-- the words of a call of a helper -/
def zx_Wh (own : String) (idx : Nat) (y : MethodName) (My : zx_M) (hh : zx_HH) (n : Nat) : Prop := GoodIn zx_G (va_wsS own idx y (Cond.codeWith y My.1 My.2.1 My.2.2.2.1 hh :: zx_G)) ∧ (y.cls ≠ "java/lang/invoke/MethodHandle" ∧ y.cls ≠ "java/lang/invoke/VarHandle" ∧ (parseMethodDescriptor y.desc).map (fun d => d.parameters.length) = some n) ∧ My.2.2.2.2.cells = 1 ∧ My.2.2.2.2.slots = 6
theorem zx_WhOf {own : String} {idx : Nat} {y : MethodName} {My : zx_M} {hh : zx_HH} {n : Nat} (h1 : Cond.methodLink own idx y ∈ zx_G) (h2 : Cond.static y ∈ zx_G) (h4 : Cond.initialized y.cls ∈ zx_G) (h5 : Cond.codeWith y My.1 My.2.1 My.2.2.2.1 hh ∈ zx_G) (h6 : y.cls ≠ "java/lang/invoke/MethodHandle" ∧ y.cls ≠ "java/lang/invoke/VarHandle" ∧ (parseMethodDescriptor y.desc).map (fun d => d.parameters.length) = some n) (h7 : My.2.2.2.2.cells = 1) (h8 : My.2.2.2.2.slots = 6) : zx_Wh own idx y My hh n :=
  ⟨zx_gc h5 (fun x hx => by
    simp only [List.mem_cons, List.not_mem_nil, or_false] at hx
    rcases hx with rfl | rfl | rfl <;> assumption), h6, h7, h8⟩
theorem zx_callH (E : zx_E B M) {g : Option (Int32 × zx_H)} {ks : Int32 × zx_H → Option α} {hh : zx_HH} (As : List Value) (hM : ∀ r, g = some r → zx_MH (zx_Bl B) My y hh (zx_BK B) As h (some (.int r.1)) r.2) (hw : zx_Wh M.2.2.1 idx y My hh n) (hR : zx_rm M My)
    (hck : ck + 1 ≤ M.2.2.2.2.cells) (hcn : cn + 6 ≤ M.2.2.2.2.slots) (hn : As.length = n) (hst : st0 = As.reverse ++ st) (hsum : (st.map fun v => v.category).sum ≤ 8) (hd : decode M.1 pc = .ok (.invokestatic idx, 3))
    (Kc : ∀ r, zx_X B M Qf (ks r) (ck + 1) (cn + 6) (pc + 3) lv (.int r.1 :: st) r.2) : zx_X B M Qf (g.bind ks) ck cn pc lv st0 h := by
  obtain ⟨p, l, e, s, m, args, below, meth, cd, K⟩ := B
  obtain ⟨cc, nL, own, ret, R⟩ := M
  obtain ⟨cy, nLy, owny, rety, Ry⟩ := My
  obtain ⟨hx, hb, hml, hown, hts, hr, hlk, hok, hn0, hK, hS0⟩ := E
  intro a ha H locs ls hP hS hl0
  cases hg : g with
  | none => rw [hg] at ha; cases ha
  | some r =>
    rw [hg] at ha
    subst hst
    obtain ⟨hw1, hw2, hw3, hw4⟩ := hw
    have hrun := vx_runSX (R := R) (e := e) (below := below) (locs := locs) (H := H) (cells := ck) (slots := cn) (g := F0 m pc ls (As.reverse ++ st)) (Ts := zx_G) (own := own) (As := As) (rest := st) (args := args) (meth := meth) ⟨hx, hb, hml, hown, hts⟩ (hM r hg) (vx_cwSW n hts hw1 rfl hw3 hw4 hw2 hR) ⟨zx_blind, fun U hU hW => ⟨rfl, zx_pre hok hn0 hK hS0 hP hS hU hW⟩⟩ rfl hn hl0.1 rfl (lv_room hsum) hd ⟨hck, hcn⟩
    intro T0 hT X
    rcases hrun T0 hT X with ⟨v, st₀, t, T', L, h0, X', hL, e1, e2, ⟨hv, hI, hFr⟩, hst⟩ | ⟨q, st₀, t, T', L, E9, ce, h0, X', hL, e1, e2, hfalse, -⟩
    · cases hv
      obtain ⟨k1, k2, k3⟩ := vx_keep h0 e1 hS (fun q _ h => h) (fun q h => h) hL hFr
      obtain ⟨t2, a1, b1⟩ := Kc r a ha T'.heap (locs ++ L) ls (by rw [e1]; exact hI.2.2.1) k3 hl0 T' rfl X'
      exact ⟨t2, hst t2 a1, b1⟩
    · exact hfalse.elim
end ZXU
theorem zx_ofH {l : Launch} {M : zx_M} {y : MethodName} {hh : zx_HH} {K : zx_K} {as : List Value} {h : zx_H} {α : Type} {ρ : α → Option Value × zx_H} {sem : Option α} {r : α} (hy : plainName y.cls = true) (hcls : y.cls = M.2.2.1) (hsem : sem = some r) (hn : (lg_sl as).length ≤ M.2.1)
    (body : ∀ B : zx_B, zx_Bl B = l → zx_BK B = K → zx_E B M → zx_Tab B hh → zx_X B M (zx_QH B ρ) sem 0 0 0 (lv_args 0 as) [] h) : zx_MH l M y hh K as h (ρ r).1 (ρ r).2 := by
  obtain ⟨cc, nL, own, ret, R⟩ := M
  refine vx_ofWH (cc := cc) (maxL := nL) (ret := ret) (hh := hh) hy rfl ?_
  intro p e s m args below meth c s₁ B hml hv
  obtain ⟨rfl, hok, hn0, hP, hK, hS0⟩ := hv
  have hts := atoms_spec (ws := Cond.codeWith y cc nL ret hh :: zx_G) B.pre
  have hown : s.vm.findClass own = some m.cls := by
    have := findClass_of_methodNamed B.named
    rw [hcls] at this
    exact this
  have X := body (p, l, e, s, m, as.toArray, below, meth, c, K) rfl rfl ⟨B.exec, B.bytes, hml, hown, fun w hw => hts w (List.mem_cons_of_mem _ hw), B.returns, B.notSynchronized, hok, hn0, hK, hS0⟩ (vx_table (x := y) B (hts _ List.mem_cons_self))
  have hl := lv_entry as (n := nL) hn
  rw [lg_entry_eq]
  exact X r hsem s.heap [] _ hP va_S.rf hl
