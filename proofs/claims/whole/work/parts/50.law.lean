/-! THE CLAIM OUT OF ONE WALK OF THE LAW'S BODY. Your part is whole_start (and what it stands on); all else here is the same for every law, but numbers. -/
def R_law : String := "BeanLoomLaw"
def lw_P (b : Addr) (xs : List Int32) (args : Array Value) (s : State) : Prop := args = #[.ref b] ∧ s.IntsAt b xs ∧ xs.length ≤ 384 ∧ (Jvm.Cond.and given_1 narrow_1).before args s = true
def lw_Q (_ : Array Value) (s : State) (o : Outcome) (t : State) : Prop := o = .returned (some (.int 1)) ∧ Framed s o t [] 600128 7301098
def lw_Z (below : List Frame) (a : Array Value) (s : State) : State → Prop := fun t => ∃ o, t.status = .running ∧ Ended t below o ∧ lw_Q a s o t
/-- the law's own end, with 1 on the stack, nothing written that was there before, its room as the claim has it -/
theorem lw_ret {p : Program} {l : Launch} {e : Env} {s : State} {m : MethodId} {below : List Frame} {meth : Method} {c : Code} {b : Nat} (hx : p.tables.exec = Jvm.exec) (hb : c.code = code) (hr : meth.sig.returnType = ret) (hlocks : meth.locks = false) {pc : Nat} {H : Heap} {ls : Array Slot} (hdg : decode code pc = .ok (.ireturn, 1)) : W p l e room_1 s m #[Value.ref b] below meth c H [] 600128 7301098 (lw_Z below #[Value.ref b] s) (F0 m pc ls [.int 1]) := by
  intro T hT X
  obtain ⟨fs, hret, hrun, hended, hW, hframe⟩ := X.leave (v := some (.int 1)) (hlocks := hlocks) (fun h => by rw [hr] at h; cases h)
  have hmeth' : T.vm.method? m = some meth := X.method'
  refine ⟨T.setFrames fs, ?_, .returned (some (.int 1)), hrun, hended, rfl, ⟨_, rfl⟩, hW, hframe⟩
  jvm_step X.here [X.here.top, hx, hb, hdg, hmeth', hr, ret, narrow_b1]
  (try refine ⟨rfl, ?_⟩); (try refine ⟨rfl, ?_⟩)
  first | (intro acts; rw [hret _ acts rfl rfl rfl]) | rw [hret _ _ rfl rfl rfl]
  exact Steps.refl _
/-- what holds at the law's entry: the machine, the code, the tables' words (any of lw_tbl by 'hts w (by decide +kernel)'), the script of L ints xs at the cell b, what the Statement gives of the start (any of its parts by flat_of_before) -/
def lw_At (p : Program) (s : State) (m : MethodId) (meth : Method) (c : Code) (b L : Nat) (xs : Nat → Int32) : Prop :=
  p.tables.exec = Jvm.exec ∧ c.code = code ∧ meth.sig.returnType = ret ∧ c.maxLocals = 8 ∧ s.vm.findClass R_law = some m.cls ∧ (∀ w ∈ lw_tbl, w.before #[Value.ref b] s = true) ∧ va_X b L xs s s.heap ∧ b < s.heap.size ∧ meth.locks = false ∧ (Jvm.Cond.and given_1 narrow_1).before #[Value.ref b] s = true
/-! ===== the law's own rows ===== -/
abbrev zm_Law_law : zx_M := (code, 8, "BeanLoomLaw", ret, room_1)
def zx_LX (B : zx_B) (b L : Nat) (xs : Nat → Int32) : Prop := match B with
  | (_, _, _, s, _, args, _, _, _, K) => args = #[Value.ref b] ∧ va_X b L xs s s.heap ∧ b < s.heap.size ∧ zx_n0 K = s.heap.size
def zx_QL (B : zx_B) : Bool → State → Prop := match B with
  | (_, _, _, s, _, args, below, _, _, _) => fun r => if r = true then lw_Z below args s else fun _ => True
section ZXL
variable {B : zx_B} {M : zx_M} {α : Type} {Qf : α → State → Prop} {sem : Option α} {ck cn pc : Nat} {lv : List (Nat × Value)} {st : List Value} {h : zx_H} {b L : Nat} {xs : Nat → Int32}
theorem zx_scald (E : zx_E B M) (hX : zx_LX B b L xs) {x : Int32} (hd : decode M.1 pc = .ok (.iaload, 1)) (Kc : zx_X B M Qf sem ck cn (pc + 1) lv (.int (xs x.toNatClampNeg) :: st) h) : zx_X B M Qf (if zx_in x L = true then sem else none) ck cn pc lv (.int x :: .ref b :: st) h := by
  obtain ⟨p, l, e, s, m, args, below, meth, c, K⟩ := B
  obtain ⟨cc, nL, own, ret, R⟩ := M
  obtain ⟨hx, hb, hml, hown, hts, hr, hlk, hok, hn, hK, hS0⟩ := E
  intro a ha H locs ls hP hS hl0
  obtain ⟨hX1, hX2, hX3, hX4⟩ := hX
  by_cases hin0 : zx_in x L = true
  · rw [if_pos hin0] at ha
    exact va_sld hx hb hX2 hX3 (A := zx_A K) (by show ¬ zx_n0 K ≤ b; omega) hS (zx_in_vp hin0) hd (Kc a ha H locs ls hP hS hl0)
  · rw [if_neg hin0] at ha; cases ha
theorem zx_sclen (E : zx_E B M) (hX : zx_LX B b L xs) (hd : decode M.1 pc = .ok (.arraylength, 1)) (Kc : zx_X B M Qf sem ck cn (pc + 1) lv (.int (nI L) :: st) h) : zx_X B M Qf sem ck cn pc lv (.ref b :: st) h := by
  obtain ⟨p, l, e, s, m, args, below, meth, c, K⟩ := B
  obtain ⟨cc, nL, own, ret, R⟩ := M
  obtain ⟨hx, hb, hml, hown, hts, hr, hlk, hok, hn, hK, hS0⟩ := E
  intro a ha H locs ls hP hS hl0
  obtain ⟨hX1, hX2, hX3, hX4⟩ := hX
  exact va_slen hx hb hX2 hX3 (A := zx_A K) (by show ¬ zx_n0 K ≤ b; omega) hS hd (Kc a ha H locs ls hP hS hl0)
theorem zx_gd {p : Prop} [Decidable p] (Kc : p → zx_X B M Qf sem ck cn pc lv st h) : zx_X B M Qf (if p then sem else none) ck cn pc lv st h := by
  by_cases hp : p
  · rw [if_pos hp]; exact Kc hp
  · rw [if_neg hp]; exact zx_non
theorem zx_ckn {ck1 cn1 : Nat} (h1 : ck = ck1) (h2 : cn = cn1) (Kc : zx_X B M Qf sem ck1 cn1 pc lv st h) : zx_X B M Qf sem ck cn pc lv st h := by subst h1; subst h2; exact Kc
theorem zx_lawF : zx_X B M (zx_QL B) (some false) ck cn pc lv st h := by
  obtain ⟨p, l, e, s, m, args, below, meth, c, K⟩ := B
  obtain ⟨cc, nL, own, ret, R⟩ := M
  intro a ha H locs ls hP hS hl0 T hT X
  cases Option.some.inj ha
  exact ⟨_, Steps.refl _, trivial⟩
theorem zx_lawT (E : zx_E B zm_Law_law) (hX : zx_LX B b L xs) {v : Int32} (hv : v = 1) (h1 : ck ≤ 600128) (h2 : cn ≤ 7301098) (hd : decode code pc = .ok (.ireturn, 1)) : zx_X B zm_Law_law (zx_QL B) (some true) ck cn pc lv [.int v] h := by
  obtain ⟨p, l, e, s, m, args, below, meth, c, K⟩ := B
  obtain ⟨hx, hb, hml, hown, hts, hr, hlk, hok, hn, hK, hS0⟩ := E
  obtain ⟨hX1, hX2, hX3, hX4⟩ := hX
  intro a ha H locs ls hP hS hl0
  cases Option.some.inj ha
  subst hv
  subst hX1
  show W p l e room_1 s m #[Value.ref b] below meth c H locs ck cn (lw_Z below #[Value.ref b] s) (F0 m pc ls [.int 1])
  refine va_forget (fun q hq => ?_) ?_
  · have h3 : zx_n0 K ≤ q.base := hS.2.2 q hq
    omega
  refine W.widen (k := 600128) (n := 7301098) h1 h2 ?_
  exact lw_ret hx hb hr hlk hd
end ZXL

theorem zch_Law_68 : zx_Wh "BeanLoomLaw" 68 zy_Law_enumeration zm_Law_enumeration [(0, 11, 14, 13), (0, 11, 18, 15)] 4 := zx_WhOf (y := zy_Law_enumeration) zw_459 zw_460 zw_0 zw_461 (by decide +kernel) rfl rfl
theorem zc_Law_73 : zx_Wv "BeanLoomLaw" 73 "BeanLoomModel" zy_Ref_enumeration zm_Ref_enumeration 2 := zx_WvOf (y := zy_Ref_enumeration) zw_1232 zw_1233 zw_1234 zw_12 zw_1235 (by decide +kernel) rfl rfl
theorem zc_Law_74 : zx_Wv "BeanLoomLaw" 74 "BeanLoomModel" zy_Ref_thrown zm_Ref_thrown 0 := zx_WvOf (y := zy_Ref_thrown) zw_1228 zw_1229 zw_1230 zw_12 zw_1231 (by decide +kernel) rfl rfl
theorem zch_Law_77 : zx_Wh "BeanLoomLaw" 77 zy_Law_bean zm_Law_bean [(0, 8, 11, 15)] 2 := zx_WhOf (y := zy_Law_bean) zw_572 zw_573 zw_0 zw_574 (by decide +kernel) rfl rfl
theorem zc_Law_80 : zx_Wv "BeanLoomLaw" 80 "BeanLoomModel" zy_Ref_bean zm_Ref_bean 0 := zx_WvOf (y := zy_Ref_bean) zw_1248 zw_1249 zw_1250 zw_12 zw_1251 (by decide +kernel) rfl rfl
theorem zch_Law_81 : zx_Wh "BeanLoomLaw" 81 zy_Law_property zm_Law_property [(0, 12, 15, 13), (0, 12, 19, 15)] 5 := zx_WhOf (y := zy_Law_property) zw_579 zw_580 zw_0 zw_581 (by decide +kernel) rfl rfl
theorem zc_Law_84 : zx_Wv "BeanLoomLaw" 84 "BeanLoomModel" zy_Ref_property zm_Ref_property 3 := zx_WvOf (y := zy_Ref_property) zw_1252 zw_1253 zw_1254 zw_12 zw_1255 (by decide +kernel) rfl rfl
theorem zch_Law_85 : zx_Wh "BeanLoomLaw" 85 zy_Law_list zm_Law_list [(0, 9, 12, 13), (0, 9, 15, 15)] 3 := zx_WhOf (y := zy_Law_list) zw_597 zw_598 zw_0 zw_599 (by decide +kernel) rfl rfl
theorem zc_Law_88 : zx_Wv "BeanLoomLaw" 88 "BeanLoomModel" zy_Ref_list zm_Ref_list 1 := zx_WvOf (y := zy_Ref_list) zw_1268 zw_1269 zw_1270 zw_12 zw_1271 (by decide +kernel) rfl rfl
theorem zch_Law_89 : zx_Wh "BeanLoomLaw" 89 zy_Law_method zm_Law_method [(0, 10, 13, 13), (0, 10, 17, 15)] 4 := zx_WhOf (y := zy_Law_method) zw_610 zw_611 zw_0 zw_612 (by decide +kernel) rfl rfl
theorem zc_Law_92 : zx_Wv "BeanLoomLaw" 92 "BeanLoomModel" zy_Ref_method zm_Ref_method 2 := zx_WvOf (y := zy_Ref_method) zw_1272 zw_1273 zw_1274 zw_12 zw_1275 (by decide +kernel) rfl rfl
theorem zch_Law_93 : zx_Wh "BeanLoomLaw" 93 zy_Law_function zm_Law_function [(0, 14, 17, 13), (0, 14, 21, 15)] 6 := zx_WhOf (y := zy_Law_function) zw_624 zw_625 zw_0 zw_626 (by decide +kernel) rfl rfl
theorem zc_Law_96 : zx_Wv "BeanLoomLaw" 96 "BeanLoomModel" zy_Ref_function zm_Ref_function 4 := zx_WvOf (y := zy_Ref_function) zw_1276 zw_1277 zw_1278 zw_12 zw_1279 (by decide +kernel) rfl rfl
theorem zch_Law_97 : zx_Wh "BeanLoomLaw" 97 zy_Law_rule zm_Law_rule [(0, 9, 12, 13), (0, 9, 16, 15)] 5 := zx_WhOf (y := zy_Law_rule) zw_640 zw_641 zw_0 zw_642 (by decide +kernel) rfl rfl
theorem zc_Law_100 : zx_Wv "BeanLoomLaw" 100 "BeanLoomModel" zy_Ref_rule zm_Ref_rule 4 := zx_WvOf (y := zy_Ref_rule) zw_1286 zw_1287 zw_1288 zw_12 zw_1289 (by decide +kernel) rfl rfl
theorem zch_Law_101 : zx_Wh "BeanLoomLaw" 101 zy_Law_build zm_Law_build [(0, 8, 11, 13), (0, 8, 14, 15)] 2 := zx_WhOf (y := zy_Law_build) zw_657 zw_658 zw_0 zw_659 (by decide +kernel) rfl rfl
theorem zc_Law_103 : zx_Wv "BeanLoomLaw" 103 "BeanLoomModel" zy_Ref_build zm_Ref_build 0 := zx_WvOf (y := zy_Ref_build) zw_1290 zw_1291 zw_1292 zw_12 zw_1293 (by decide +kernel) rfl rfl
theorem zc_Law_104 : zx_Wv "BeanLoomLaw" 104 "BeanLoom" zy_Loom_diagnosis zm_Loom_diagnosis 1 := zx_WvOf (y := zy_Loom_diagnosis) zw_374 zw_375 zw_376 zw_1 zw_377 (by decide +kernel) rfl rfl
theorem zc_Law_107 : zx_Wv "BeanLoomLaw" 107 "BeanLoomModel" zy_Ref_diagnosis zm_Ref_diagnosis 1 := zx_WvOf (y := zy_Ref_diagnosis) zw_1371 zw_1372 zw_1373 zw_12 zw_1374 (by decide +kernel) rfl rfl
theorem zch_Law_108 : zx_Wh "BeanLoomLaw" 108 zy_Law_make zm_Law_make [(0, 11, 14, 13), (0, 11, 18, 15)] 4 := zx_WhOf (y := zy_Law_make) zw_787 zw_788 zw_0 zw_789 (by decide +kernel) rfl rfl
theorem zc_Law_111 : zx_Wv "BeanLoomLaw" 111 "BeanLoomModel" zy_Ref_make zm_Ref_make 2 := zx_WvOf (y := zy_Ref_make) zw_1375 zw_1376 zw_1377 zw_12 zw_1378 (by decide +kernel) rfl rfl
theorem zc_Law_112 : zx_Wv "BeanLoomLaw" 112 "BeanLoom" zy_Loom_put zm_Loom_put 3 := zx_WvOf (y := zy_Loom_put) zw_378 zw_379 zw_380 zw_1 zw_381 (by decide +kernel) rfl rfl
theorem zc_Law_116 : zx_Wv "BeanLoomLaw" 116 "BeanLoomModel" zy_Ref_put zm_Ref_put 3 := zx_WvOf (y := zy_Ref_put) zw_1396 zw_1397 zw_1398 zw_12 zw_1399 (by decide +kernel) rfl rfl
theorem zch_Law_117 : zx_Wh "BeanLoomLaw" 117 zy_Law_map zm_Law_map [(0, 10, 13, 13), (0, 10, 17, 15), (0, 10, 21, 51)] 4 := zx_WhOf (y := zy_Law_map) zw_825 zw_826 zw_0 zw_827 (by decide +kernel) rfl rfl
theorem zc_Law_119 : zx_Wv "BeanLoomLaw" 119 "BeanLoomModel" zy_Ref_map zm_Ref_map 2 := zx_WvOf (y := zy_Ref_map) zw_1404 zw_1405 zw_1406 zw_12 zw_1407 (by decide +kernel) rfl rfl
theorem zch_Law_120 : zx_Wh "BeanLoomLaw" 120 zy_Law_get zm_Law_get [(0, 9, 12, 57)] 4 := zx_WhOf (y := zy_Law_get) zw_1067 zw_1068 zw_0 zw_1069 (by decide +kernel) rfl rfl
theorem zc_Law_122 : zx_Wv "BeanLoomLaw" 122 "BeanLoomModel" zy_Ref_get zm_Ref_get 2 := zx_WvOf (y := zy_Ref_get) zw_1512 zw_1513 zw_1514 zw_12 zw_1515 (by decide +kernel) rfl rfl
theorem zch_Law_123 : zx_Wh "BeanLoomLaw" 123 zy_Law_about zm_Law_about [(0, 10, 13, 57)] 4 := zx_WhOf (y := zy_Law_about) zw_1092 zw_1093 zw_0 zw_1094 (by decide +kernel) rfl rfl
theorem zc_Law_125 : zx_Wv "BeanLoomLaw" 125 "BeanLoomModel" zy_Ref_about zm_Ref_about 2 := zx_WvOf (y := zy_Ref_about) zw_1516 zw_1517 zw_1518 zw_12 zw_1519 (by decide +kernel) rfl rfl
theorem zc_Law_126 : zx_Wv "BeanLoomLaw" 126 "BeanLoom" zy_Loom_count zm_Loom_count 1 := zx_WvOf (y := zy_Loom_count) zw_447 zw_448 zw_449 zw_1 zw_450 (by decide +kernel) rfl rfl
theorem zc_Law_129 : zx_Wv "BeanLoomLaw" 129 "BeanLoomModel" zy_Ref_count zm_Ref_count 1 := zx_WvOf (y := zy_Ref_count) zw_1520 zw_1521 zw_1522 zw_12 zw_1523 (by decide +kernel) rfl rfl
set_option maxHeartbeats 4000000 in
set_option maxRecDepth 20000 in
theorem zj_Law_law_1138 {B : zx_B} {L : Nat} {xs : Nat → Int32} (E : zx_E B zm_Law_law) {b : Nat} (hX : zx_LX B b L xs) (hst : (zx_Bl B).stackTraces = false) (k23 : (Int32 → zx_H → Nat → Option Bool)) (hk23 : ∀ (x4 : Int32) (h : zx_H) (c : Nat), zx_X B zm_Law_law (zx_QL B ) (k23 x4 h c) (415 + c) (47250 + 6 * c) 23 [(0, .ref b), (1, zx_rV (zx_BK B) 0 0), (2, zx_rV (zx_BK B) 24 0), (3, zx_rV (zx_BK B) 52 0), (4, .int x4)] [] h) (x4 : Int32) (h : zx_H) (c : Nat) : zx_X B zm_Law_law (zx_QL B ) (zs_Law_law_J1138 L xs k23 x4 h c) (415 + c) (47250 + 6 * c) 1138 [(0, .ref b), (1, zx_rV (zx_BK B) 0 0), (2, zx_rV (zx_BK B) 24 0), (3, zx_rV (zx_BK B) 52 0), (4, .int x4)] [] h := by
  unfold zs_Law_law_J1138
  refine zx_iinc E 4 (x4 + (6 : Int32)) (lv1 := [(4, .int (x4 + (6 : Int32))), (0, .ref b), (1, zx_rV (zx_BK B) 0 0), (2, zx_rV (zx_BK B) 24 0), (3, zx_rV (zx_BK B) 52 0)]) dd_Law_law_1138 rfl rfl (by decide) rfl ?_
  refine zx_goto E 23 dd_Law_law_1141 rfl ?_
  refine zx_sub [1, 2, 3, 4, 0] rfl ?_
  exact hk23 (x4 + (6 : Int32)) h c
set_option maxHeartbeats 4000000 in
set_option maxRecDepth 20000 in
theorem zj_Law_law_213 {B : zx_B} {L : Nat} {xs : Nat → Int32} (E : zx_E B zm_Law_law) {b : Nat} (hX : zx_LX B b L xs) (hst : (zx_Bl B).stackTraces = false) (k23 : (Int32 → zx_H → Nat → Option Bool)) (hk23 : ∀ (x4 : Int32) (h : zx_H) (c : Nat), zx_X B zm_Law_law (zx_QL B ) (k23 x4 h c) (415 + c) (47250 + 6 * c) 23 [(0, .ref b), (1, zx_rV (zx_BK B) 0 0), (2, zx_rV (zx_BK B) 24 0), (3, zx_rV (zx_BK B) 52 0), (4, .int x4)] [] h) (x4 : Int32) (h : zx_H) (c : Nat) : zx_X B zm_Law_law (zx_QL B ) (zs_Law_law_J213 L xs k23 x4 h c) (415 + c) (47250 + 6 * c) 213 [(0, .ref b), (1, zx_rV (zx_BK B) 0 0), (2, zx_rV (zx_BK B) 24 0), (3, zx_rV (zx_BK B) 52 0), (4, .int x4)] [] h := by
  unfold zs_Law_law_J213
  refine zx_goto E 1138 dd_Law_law_213 rfl ?_
  exact zj_Law_law_1138 E hX hst k23 hk23 x4 h c
set_option maxHeartbeats 4000000 in
set_option maxRecDepth 20000 in
theorem zj_Law_law_257 {B : zx_B} {L : Nat} {xs : Nat → Int32} (E : zx_E B zm_Law_law) {b : Nat} (hX : zx_LX B b L xs) (hst : (zx_Bl B).stackTraces = false) (k23 : (Int32 → zx_H → Nat → Option Bool)) (hk23 : ∀ (x4 : Int32) (h : zx_H) (c : Nat), zx_X B zm_Law_law (zx_QL B ) (k23 x4 h c) (415 + c) (47250 + 6 * c) 23 [(0, .ref b), (1, zx_rV (zx_BK B) 0 0), (2, zx_rV (zx_BK B) 24 0), (3, zx_rV (zx_BK B) 52 0), (4, .int x4)] [] h) (x4 : Int32) (h : zx_H) (c : Nat) : zx_X B zm_Law_law (zx_QL B ) (zs_Law_law_J257 L xs k23 x4 h c) (415 + c) (47250 + 6 * c) 257 [(0, .ref b), (1, zx_rV (zx_BK B) 0 0), (2, zx_rV (zx_BK B) 24 0), (3, zx_rV (zx_BK B) 52 0), (4, .int x4)] [] h := by
  unfold zs_Law_law_J257
  refine zx_goto E 1138 dd_Law_law_257 rfl ?_
  exact zj_Law_law_1138 E hX hst k23 hk23 x4 h c
set_option maxHeartbeats 4000000 in
set_option maxRecDepth 20000 in
theorem zj_Law_law_337 {B : zx_B} {L : Nat} {xs : Nat → Int32} (E : zx_E B zm_Law_law) {b : Nat} (hX : zx_LX B b L xs) (hst : (zx_Bl B).stackTraces = false) (k23 : (Int32 → zx_H → Nat → Option Bool)) (hk23 : ∀ (x4 : Int32) (h : zx_H) (c : Nat), zx_X B zm_Law_law (zx_QL B ) (k23 x4 h c) (415 + c) (47250 + 6 * c) 23 [(0, .ref b), (1, zx_rV (zx_BK B) 0 0), (2, zx_rV (zx_BK B) 24 0), (3, zx_rV (zx_BK B) 52 0), (4, .int x4)] [] h) (x4 : Int32) (h : zx_H) (c : Nat) : zx_X B zm_Law_law (zx_QL B ) (zs_Law_law_J337 L xs k23 x4 h c) (415 + c) (47250 + 6 * c) 337 [(0, .ref b), (1, zx_rV (zx_BK B) 0 0), (2, zx_rV (zx_BK B) 24 0), (3, zx_rV (zx_BK B) 52 0), (4, .int x4)] [] h := by
  unfold zs_Law_law_J337
  refine zx_goto E 1138 dd_Law_law_337 rfl ?_
  exact zj_Law_law_1138 E hX hst k23 hk23 x4 h c
set_option maxHeartbeats 4000000 in
set_option maxRecDepth 20000 in
theorem zj_Law_law_393 {B : zx_B} {L : Nat} {xs : Nat → Int32} (E : zx_E B zm_Law_law) {b : Nat} (hX : zx_LX B b L xs) (hst : (zx_Bl B).stackTraces = false) (k23 : (Int32 → zx_H → Nat → Option Bool)) (hk23 : ∀ (x4 : Int32) (h : zx_H) (c : Nat), zx_X B zm_Law_law (zx_QL B ) (k23 x4 h c) (415 + c) (47250 + 6 * c) 23 [(0, .ref b), (1, zx_rV (zx_BK B) 0 0), (2, zx_rV (zx_BK B) 24 0), (3, zx_rV (zx_BK B) 52 0), (4, .int x4)] [] h) (x4 : Int32) (h : zx_H) (c : Nat) : zx_X B zm_Law_law (zx_QL B ) (zs_Law_law_J393 L xs k23 x4 h c) (415 + c) (47250 + 6 * c) 393 [(0, .ref b), (1, zx_rV (zx_BK B) 0 0), (2, zx_rV (zx_BK B) 24 0), (3, zx_rV (zx_BK B) 52 0), (4, .int x4)] [] h := by
  unfold zs_Law_law_J393
  refine zx_goto E 1138 dd_Law_law_393 rfl ?_
  exact zj_Law_law_1138 E hX hst k23 hk23 x4 h c
set_option maxHeartbeats 4000000 in
set_option maxRecDepth 20000 in
theorem zj_Law_law_461 {B : zx_B} {L : Nat} {xs : Nat → Int32} (E : zx_E B zm_Law_law) {b : Nat} (hX : zx_LX B b L xs) (hst : (zx_Bl B).stackTraces = false) (k23 : (Int32 → zx_H → Nat → Option Bool)) (hk23 : ∀ (x4 : Int32) (h : zx_H) (c : Nat), zx_X B zm_Law_law (zx_QL B ) (k23 x4 h c) (415 + c) (47250 + 6 * c) 23 [(0, .ref b), (1, zx_rV (zx_BK B) 0 0), (2, zx_rV (zx_BK B) 24 0), (3, zx_rV (zx_BK B) 52 0), (4, .int x4)] [] h) (x4 : Int32) (h : zx_H) (c : Nat) : zx_X B zm_Law_law (zx_QL B ) (zs_Law_law_J461 L xs k23 x4 h c) (415 + c) (47250 + 6 * c) 461 [(0, .ref b), (1, zx_rV (zx_BK B) 0 0), (2, zx_rV (zx_BK B) 24 0), (3, zx_rV (zx_BK B) 52 0), (4, .int x4)] [] h := by
  unfold zs_Law_law_J461
  refine zx_goto E 1138 dd_Law_law_461 rfl ?_
  exact zj_Law_law_1138 E hX hst k23 hk23 x4 h c
set_option maxHeartbeats 4000000 in
set_option maxRecDepth 20000 in
theorem zj_Law_law_553 {B : zx_B} {L : Nat} {xs : Nat → Int32} (E : zx_E B zm_Law_law) {b : Nat} (hX : zx_LX B b L xs) (hst : (zx_Bl B).stackTraces = false) (k23 : (Int32 → zx_H → Nat → Option Bool)) (hk23 : ∀ (x4 : Int32) (h : zx_H) (c : Nat), zx_X B zm_Law_law (zx_QL B ) (k23 x4 h c) (415 + c) (47250 + 6 * c) 23 [(0, .ref b), (1, zx_rV (zx_BK B) 0 0), (2, zx_rV (zx_BK B) 24 0), (3, zx_rV (zx_BK B) 52 0), (4, .int x4)] [] h) (x4 : Int32) (h : zx_H) (c : Nat) : zx_X B zm_Law_law (zx_QL B ) (zs_Law_law_J553 L xs k23 x4 h c) (415 + c) (47250 + 6 * c) 553 [(0, .ref b), (1, zx_rV (zx_BK B) 0 0), (2, zx_rV (zx_BK B) 24 0), (3, zx_rV (zx_BK B) 52 0), (4, .int x4)] [] h := by
  unfold zs_Law_law_J553
  refine zx_goto E 1138 dd_Law_law_553 rfl ?_
  exact zj_Law_law_1138 E hX hst k23 hk23 x4 h c
set_option maxHeartbeats 4000000 in
set_option maxRecDepth 20000 in
theorem zj_Law_law_701 {B : zx_B} {L : Nat} {xs : Nat → Int32} (E : zx_E B zm_Law_law) {b : Nat} (hX : zx_LX B b L xs) (hst : (zx_Bl B).stackTraces = false) (k23 : (Int32 → zx_H → Nat → Option Bool)) (hk23 : ∀ (x4 : Int32) (h : zx_H) (c : Nat), zx_X B zm_Law_law (zx_QL B ) (k23 x4 h c) (415 + c) (47250 + 6 * c) 23 [(0, .ref b), (1, zx_rV (zx_BK B) 0 0), (2, zx_rV (zx_BK B) 24 0), (3, zx_rV (zx_BK B) 52 0), (4, .int x4)] [] h) (x4 : Int32) (h : zx_H) (c : Nat) : zx_X B zm_Law_law (zx_QL B ) (zs_Law_law_J701 L xs k23 x4 h c) (415 + c) (47250 + 6 * c) 701 [(0, .ref b), (1, zx_rV (zx_BK B) 0 0), (2, zx_rV (zx_BK B) 24 0), (3, zx_rV (zx_BK B) 52 0), (4, .int x4)] [] h := by
  unfold zs_Law_law_J701
  refine zx_goto E 1138 dd_Law_law_701 rfl ?_
  exact zj_Law_law_1138 E hX hst k23 hk23 x4 h c
set_option maxHeartbeats 4000000 in
set_option maxRecDepth 20000 in
theorem zj_Law_law_826 {B : zx_B} {L : Nat} {xs : Nat → Int32} (E : zx_E B zm_Law_law) {b : Nat} (hX : zx_LX B b L xs) (hst : (zx_Bl B).stackTraces = false) (k23 : (Int32 → zx_H → Nat → Option Bool)) (hk23 : ∀ (x4 : Int32) (h : zx_H) (c : Nat), zx_X B zm_Law_law (zx_QL B ) (k23 x4 h c) (415 + c) (47250 + 6 * c) 23 [(0, .ref b), (1, zx_rV (zx_BK B) 0 0), (2, zx_rV (zx_BK B) 24 0), (3, zx_rV (zx_BK B) 52 0), (4, .int x4)] [] h) (x4 : Int32) (h : zx_H) (c : Nat) : zx_X B zm_Law_law (zx_QL B ) (zs_Law_law_J826 L xs k23 x4 h c) (415 + c) (47250 + 6 * c) 826 [(0, .ref b), (1, zx_rV (zx_BK B) 0 0), (2, zx_rV (zx_BK B) 24 0), (3, zx_rV (zx_BK B) 52 0), (4, .int x4)] [] h := by
  unfold zs_Law_law_J826
  refine zx_goto E 1138 dd_Law_law_826 rfl ?_
  exact zj_Law_law_1138 E hX hst k23 hk23 x4 h c
set_option maxHeartbeats 4000000 in
set_option maxRecDepth 20000 in
theorem zj_Law_law_975 {B : zx_B} {L : Nat} {xs : Nat → Int32} (E : zx_E B zm_Law_law) {b : Nat} (hX : zx_LX B b L xs) (hst : (zx_Bl B).stackTraces = false) (k23 : (Int32 → zx_H → Nat → Option Bool)) (hk23 : ∀ (x4 : Int32) (h : zx_H) (c : Nat), zx_X B zm_Law_law (zx_QL B ) (k23 x4 h c) (415 + c) (47250 + 6 * c) 23 [(0, .ref b), (1, zx_rV (zx_BK B) 0 0), (2, zx_rV (zx_BK B) 24 0), (3, zx_rV (zx_BK B) 52 0), (4, .int x4)] [] h) (x4 : Int32) (h : zx_H) (c : Nat) : zx_X B zm_Law_law (zx_QL B ) (zs_Law_law_J975 L xs k23 x4 h c) (415 + c) (47250 + 6 * c) 975 [(0, .ref b), (1, zx_rV (zx_BK B) 0 0), (2, zx_rV (zx_BK B) 24 0), (3, zx_rV (zx_BK B) 52 0), (4, .int x4)] [] h := by
  unfold zs_Law_law_J975
  refine zx_goto E 1138 dd_Law_law_975 rfl ?_
  exact zj_Law_law_1138 E hX hst k23 hk23 x4 h c
set_option maxHeartbeats 4000000 in
set_option maxRecDepth 20000 in
theorem zj_Law_law_1042 {B : zx_B} {L : Nat} {xs : Nat → Int32} (E : zx_E B zm_Law_law) {b : Nat} (hX : zx_LX B b L xs) (hst : (zx_Bl B).stackTraces = false) (k23 : (Int32 → zx_H → Nat → Option Bool)) (hk23 : ∀ (x4 : Int32) (h : zx_H) (c : Nat), zx_X B zm_Law_law (zx_QL B ) (k23 x4 h c) (415 + c) (47250 + 6 * c) 23 [(0, .ref b), (1, zx_rV (zx_BK B) 0 0), (2, zx_rV (zx_BK B) 24 0), (3, zx_rV (zx_BK B) 52 0), (4, .int x4)] [] h) (x4 : Int32) (h : zx_H) (c : Nat) : zx_X B zm_Law_law (zx_QL B ) (zs_Law_law_J1042 L xs k23 x4 h c) (415 + c) (47250 + 6 * c) 1042 [(0, .ref b), (1, zx_rV (zx_BK B) 0 0), (2, zx_rV (zx_BK B) 24 0), (3, zx_rV (zx_BK B) 52 0), (4, .int x4)] [] h := by
  unfold zs_Law_law_J1042
  refine zx_goto E 1138 dd_Law_law_1042 rfl ?_
  exact zj_Law_law_1138 E hX hst k23 hk23 x4 h c
set_option maxHeartbeats 4000000 in
set_option maxRecDepth 20000 in
theorem zj_Law_law_1110 {B : zx_B} {L : Nat} {xs : Nat → Int32} (E : zx_E B zm_Law_law) {b : Nat} (hX : zx_LX B b L xs) (hst : (zx_Bl B).stackTraces = false) (k23 : (Int32 → zx_H → Nat → Option Bool)) (hk23 : ∀ (x4 : Int32) (h : zx_H) (c : Nat), zx_X B zm_Law_law (zx_QL B ) (k23 x4 h c) (415 + c) (47250 + 6 * c) 23 [(0, .ref b), (1, zx_rV (zx_BK B) 0 0), (2, zx_rV (zx_BK B) 24 0), (3, zx_rV (zx_BK B) 52 0), (4, .int x4)] [] h) (x4 : Int32) (h : zx_H) (c : Nat) : zx_X B zm_Law_law (zx_QL B ) (zs_Law_law_J1110 L xs k23 x4 h c) (415 + c) (47250 + 6 * c) 1110 [(0, .ref b), (1, zx_rV (zx_BK B) 0 0), (2, zx_rV (zx_BK B) 24 0), (3, zx_rV (zx_BK B) 52 0), (4, .int x4)] [] h := by
  unfold zs_Law_law_J1110
  refine zx_goto E 1138 dd_Law_law_1110 rfl ?_
  exact zj_Law_law_1138 E hX hst k23 hk23 x4 h c
set_option maxHeartbeats 4000000 in
set_option maxRecDepth 20000 in
theorem zb_Law_law_23 {B : zx_B} {L : Nat} {xs : Nat → Int32} (E : zx_E B zm_Law_law) {b : Nat} (hX : zx_LX B b L xs) (hst : (zx_Bl B).stackTraces = false)  (k23 : (Int32 → zx_H → Nat → Option Bool)) (hk23 : ∀ (x4 : Int32) (h : zx_H) (c : Nat), zx_X B zm_Law_law (zx_QL B ) (k23 x4 h c) (415 + c) (47250 + 6 * c) 23 [(0, .ref b), (1, zx_rV (zx_BK B) 0 0), (2, zx_rV (zx_BK B) 24 0), (3, zx_rV (zx_BK B) 52 0), (4, .int x4)] [] h) (x4 : Int32) (h : zx_H) (c : Nat) : zx_X B zm_Law_law (zx_QL B ) (zs_Law_law_L23_body L xs  k23 x4 h c) (415 + c) (47250 + 6 * c) 23 [(0, .ref b), (1, zx_rV (zx_BK B) 0 0), (2, zx_rV (zx_BK B) 24 0), (3, zx_rV (zx_BK B) 52 0), (4, .int x4)] [] h := by
  unfold zs_Law_law_L23_body
  refine zx_gd (fun hc9 => ?_)
  refine zx_iload E 4 dd_Law_law_23 rfl ?_
  refine zx_aload_n E 0 dd_Law_law_25 rfl rfl ?_
  refine zx_sclen E hX dd_Law_law_26 ?_
  refine zx_bipush E (6 : Int32) dd_Law_law_27 (by decide) ?_
  refine zx_isub E dd_Law_law_29 ?_
  refine zx_icmp_gt E 1144 dd_Law_law_30 rfl ?_ ?_
  rotate_left
  · refine zx_iconst E (1 : Int32) dd_Law_law_1144 (by decide) ?_
    exact zx_lawT E hX rfl (by show _ ≤ 600128; omega) (by show _ ≤ 7301098; omega) dd_Law_law_1145
  refine zx_aload_n E 0 dd_Law_law_33 rfl rfl ?_
  refine zx_iload E 4 dd_Law_law_34 rfl ?_
  refine zx_scald E hX dd_Law_law_36 ?_
  refine zx_bipush E (15 : Int32) dd_Law_law_37 (by decide) ?_
  refine zx_iand E dd_Law_law_39 ?_
  refine zx_tsw E [116, 216, 260, 340, 396, 464, 556, 660, 704, 729, 829, 910, 978, 1045, 1113] 1138 dd_Law_law_40 (by decide) rfl (zx_keys _ _ [0, 1, 2, 3, 4, 5, 6, 7, 8, 9, 10, 11, 12, 13, 14] rfl (by decide)) rfl (by decide) (by decide) ?_ ⟨?_, ?_, ?_, ?_, ?_, ?_, ?_, ?_, ?_, ?_, ?_, ?_, ?_, ?_, ?_, trivial⟩
  · exact zj_Law_law_1138 E hX hst k23 hk23 x4 h c
  · refine zx_aload_n E 1 dd_Law_law_116 rfl rfl ?_
    refine zx_aload_n E 0 dd_Law_law_117 rfl rfl ?_
    refine zx_iload E 4 dd_Law_law_118 rfl ?_
    refine zx_iconst E (1 : Int32) dd_Law_law_120 (by decide) ?_
    refine zx_iadd E dd_Law_law_121 ?_
    refine zx_scald E hX dd_Law_law_122 ?_
    refine zx_i2l E dd_Law_law_123 ?_
    refine zx_bipush E (32 : Int32) dd_Law_law_124 (by decide) ?_
    refine zx_lshl E dd_Law_law_126 ?_
    refine zx_aload_n E 0 dd_Law_law_127 rfl rfl ?_
    refine zx_iload E 4 dd_Law_law_128 rfl ?_
    refine zx_iconst E (2 : Int32) dd_Law_law_130 (by decide) ?_
    refine zx_iadd E dd_Law_law_131 ?_
    refine zx_scald E hX dd_Law_law_132 ?_
    refine zx_i2l E dd_Law_law_133 ?_
    refine zx_ldc2 E (4294967295 : Int64) zw_1524 dd_Law_law_134 ?_
    refine zx_land E dd_Law_law_137 ?_
    refine zx_lor E dd_Law_law_138 ?_
    refine zx_aload_n E 0 dd_Law_law_139 rfl rfl ?_
    refine zx_iload E 4 dd_Law_law_140 rfl ?_
    refine zx_iconst E (3 : Int32) dd_Law_law_142 (by decide) ?_
    refine zx_iadd E dd_Law_law_143 ?_
    refine zx_scald E hX dd_Law_law_144 ?_
    refine zx_aload_n E 3 dd_Law_law_145 rfl rfl ?_
    refine zx_callH E [zx_rV (zx_BK B) 0 0, .long ((zx_clshl ((xs (x4 + (1 : Int32)).toNatClampNeg).toInt64) (32 : Int32)) ||| (((xs (x4 + (2 : Int32)).toNatClampNeg).toInt64) &&& (4294967295 : Int64))), .int (xs (x4 + (3 : Int32)).toNatClampNeg), zx_rV (zx_BK B) 52 0] (fun rZ eZ => zt_Law_enumeration _ hst _ ((zx_clshl ((xs (x4 + (1 : Int32)).toNatClampNeg).toInt64) (32 : Int32)) ||| (((xs (x4 + (2 : Int32)).toNatClampNeg).toInt64) &&& (4294967295 : Int64))) (xs (x4 + (3 : Int32)).toNatClampNeg) h _ eZ) zch_Law_68 ⟨by decide, by decide⟩ (by show _ ≤ 600128; omega) (by show _ ≤ 7301098; omega) rfl rfl (Nat.le_of_ble_eq_true rfl) dd_Law_law_146 (fun r1 => ?_)
    refine zx_ckn (ck1 := 415 + (c + 1)) (cn1 := 47250 + 6 * (c + 1)) (by omega) (by omega) ?_
    refine zx_istore E (lv1 := [(5, .int r1.1), (0, .ref b), (1, zx_rV (zx_BK B) 0 0), (2, zx_rV (zx_BK B) 24 0), (3, zx_rV (zx_BK B) 52 0), (4, .int x4)]) dd_Law_law_149 (by decide) rfl ?_
    refine zx_aload_n E 3 dd_Law_law_151 rfl rfl ?_
    refine zx_aload_n E 1 dd_Law_law_152 rfl rfl ?_
    refine zx_iload E 5 dd_Law_law_153 rfl ?_
    refine zx_iconst E (1 : Int32) dd_Law_law_155 (by decide) ?_
    refine zx_iadd E dd_Law_law_156 ?_
    refine zx_scald E hX dd_Law_law_157 ?_
    refine zx_i2l E dd_Law_law_158 ?_
    refine zx_bipush E (32 : Int32) dd_Law_law_159 (by decide) ?_
    refine zx_lshl E dd_Law_law_161 ?_
    refine zx_aload_n E 1 dd_Law_law_162 rfl rfl ?_
    refine zx_iload E 5 dd_Law_law_163 rfl ?_
    refine zx_iconst E (2 : Int32) dd_Law_law_165 (by decide) ?_
    refine zx_iadd E dd_Law_law_166 ?_
    refine zx_scald E hX dd_Law_law_167 ?_
    refine zx_i2l E dd_Law_law_168 ?_
    refine zx_ldc2 E (4294967295 : Int64) zw_1524 dd_Law_law_169 ?_
    refine zx_land E dd_Law_law_172 ?_
    refine zx_lor E dd_Law_law_173 ?_
    refine zx_aload_n E 1 dd_Law_law_174 rfl rfl ?_
    refine zx_iload E 5 dd_Law_law_175 rfl ?_
    refine zx_iconst E (3 : Int32) dd_Law_law_177 (by decide) ?_
    refine zx_iadd E dd_Law_law_178 ?_
    refine zx_scald E hX dd_Law_law_179 ?_
    refine zx_callV_iw (T := zx_TRef) E [.long ((zx_clshl ((xs (x4 + (1 : Int32)).toNatClampNeg).toInt64) (32 : Int32)) ||| (((xs (x4 + (2 : Int32)).toNatClampNeg).toInt64) &&& (4294967295 : Int64))), .int (xs (x4 + (3 : Int32)).toNatClampNeg)] (fun rZ eZ => zt_Ref_enumeration _ _ ((zx_clshl ((xs (x4 + (1 : Int32)).toNatClampNeg).toInt64) (32 : Int32)) ||| (((xs (x4 + (2 : Int32)).toNatClampNeg).toInt64) &&& (4294967295 : Int64))) (xs (x4 + (3 : Int32)).toNatClampNeg) r1.2 _ eZ) zg_24 Nat.zero_lt_one rfl zc_Law_73 ⟨by decide, by decide⟩ (by show _ ≤ 600128; omega) (by show _ ≤ 7301098; omega) rfl rfl (Nat.le_of_ble_eq_true rfl) dd_Law_law_180 (fun r2 => ?_)
    refine zx_istore E (lv1 := [(6, .int r2.1), (5, .int r1.1), (0, .ref b), (1, zx_rV (zx_BK B) 0 0), (2, zx_rV (zx_BK B) 24 0), (3, zx_rV (zx_BK B) 52 0), (4, .int x4)]) dd_Law_law_183 (by decide) rfl ?_
    refine zx_aload_n E 4 dd_Law_law_185 rfl rfl ?_
    refine zx_callV_i (T := zx_TRef) E [] (fun rZ eZ => zt_Ref_thrown _ _ r2.2 _ eZ) zg_24 Nat.zero_lt_one rfl zc_Law_74 ⟨by decide, by decide⟩ (by show _ ≤ 600128; omega) (by show _ ≤ 7301098; omega) rfl rfl (Nat.le_of_ble_eq_true rfl) dd_Law_law_186 (fun r3 => ?_)
    refine zx_iload E 1 dd_Law_law_189 rfl ?_
    refine zx_icmp_eq E 196 dd_Law_law_191 rfl ?_ ?_
    · refine zx_iconst E (0 : Int32) dd_Law_law_194 (by decide) ?_
      exact zx_lawF
    refine zx_iload E 1 dd_Law_law_196 rfl ?_
    refine zx_if_ne E 213 dd_Law_law_198 rfl ?_ ?_
    rotate_left
    · refine zx_sub [2, 3, 4, 5, 6] rfl ?_
      exact zj_Law_law_213 E hX hst k23 hk23 x4 r2.2 (c + 1)
    refine zx_aload_n E 5 dd_Law_law_201 rfl rfl ?_
    refine zx_iconst E (0 : Int32) dd_Law_law_202 (by decide) ?_
    refine zx_lald E zg_52 Nat.zero_lt_one dd_Law_law_203 ?_
    refine zx_iload E 0 dd_Law_law_204 rfl ?_
    refine zx_i2l E dd_Law_law_206 ?_
    refine zx_lcmp_eq E 213 dd_Law_law_207 dd_Law_law_208 rfl ?_ ?_
    · refine zx_iconst E (0 : Int32) dd_Law_law_211 (by decide) ?_
      exact zx_lawF
    refine zx_sub [2, 3, 4, 5, 6] rfl ?_
    exact zj_Law_law_213 E hX hst k23 hk23 x4 r2.2 (c + 1)
  · refine zx_aload_n E 1 dd_Law_law_216 rfl rfl ?_
    refine zx_aload_n E 3 dd_Law_law_217 rfl rfl ?_
    refine zx_callH E [zx_rV (zx_BK B) 0 0, zx_rV (zx_BK B) 52 0] (fun rZ eZ => zt_Law_bean _ hst _ h _ eZ) zch_Law_77 ⟨by decide, by decide⟩ (by show _ ≤ 600128; omega) (by show _ ≤ 7301098; omega) rfl rfl (Nat.le_of_ble_eq_true rfl) dd_Law_law_218 (fun r4 => ?_)
    refine zx_ckn (ck1 := 415 + (c + 1)) (cn1 := 47250 + 6 * (c + 1)) (by omega) (by omega) ?_
    refine zx_istore E (lv1 := [(5, .int r4.1), (0, .ref b), (1, zx_rV (zx_BK B) 0 0), (2, zx_rV (zx_BK B) 24 0), (3, zx_rV (zx_BK B) 52 0), (4, .int x4)]) dd_Law_law_221 (by decide) rfl ?_
    refine zx_aload_n E 3 dd_Law_law_223 rfl rfl ?_
    refine zx_callV_iw (T := zx_TRef) E [] (fun rZ eZ => zt_Ref_bean _ _ r4.2 _ eZ) zg_24 Nat.zero_lt_one rfl zc_Law_80 ⟨by decide, by decide⟩ (by show _ ≤ 600128; omega) (by show _ ≤ 7301098; omega) rfl rfl (Nat.le_of_ble_eq_true rfl) dd_Law_law_224 (fun r5 => ?_)
    refine zx_istore E (lv1 := [(6, .int r5.1), (5, .int r4.1), (0, .ref b), (1, zx_rV (zx_BK B) 0 0), (2, zx_rV (zx_BK B) 24 0), (3, zx_rV (zx_BK B) 52 0), (4, .int x4)]) dd_Law_law_227 (by decide) rfl ?_
    refine zx_aload_n E 4 dd_Law_law_229 rfl rfl ?_
    refine zx_callV_i (T := zx_TRef) E [] (fun rZ eZ => zt_Ref_thrown _ _ r5.2 _ eZ) zg_24 Nat.zero_lt_one rfl zc_Law_74 ⟨by decide, by decide⟩ (by show _ ≤ 600128; omega) (by show _ ≤ 7301098; omega) rfl rfl (Nat.le_of_ble_eq_true rfl) dd_Law_law_230 (fun r6 => ?_)
    refine zx_iload E 1 dd_Law_law_233 rfl ?_
    refine zx_icmp_eq E 240 dd_Law_law_235 rfl ?_ ?_
    · refine zx_iconst E (0 : Int32) dd_Law_law_238 (by decide) ?_
      exact zx_lawF
    refine zx_iload E 1 dd_Law_law_240 rfl ?_
    refine zx_if_ne E 257 dd_Law_law_242 rfl ?_ ?_
    rotate_left
    · refine zx_sub [2, 3, 4, 5, 6] rfl ?_
      exact zj_Law_law_257 E hX hst k23 hk23 x4 r5.2 (c + 1)
    refine zx_aload_n E 5 dd_Law_law_245 rfl rfl ?_
    refine zx_iconst E (0 : Int32) dd_Law_law_246 (by decide) ?_
    refine zx_lald E zg_52 Nat.zero_lt_one dd_Law_law_247 ?_
    refine zx_iload E 0 dd_Law_law_248 rfl ?_
    refine zx_i2l E dd_Law_law_250 ?_
    refine zx_lcmp_eq E 257 dd_Law_law_251 dd_Law_law_252 rfl ?_ ?_
    · refine zx_iconst E (0 : Int32) dd_Law_law_255 (by decide) ?_
      exact zx_lawF
    refine zx_sub [2, 3, 4, 5, 6] rfl ?_
    exact zj_Law_law_257 E hX hst k23 hk23 x4 r5.2 (c + 1)
  · refine zx_aload_n E 1 dd_Law_law_260 rfl rfl ?_
    refine zx_aload_n E 0 dd_Law_law_261 rfl rfl ?_
    refine zx_iload E 4 dd_Law_law_262 rfl ?_
    refine zx_iconst E (1 : Int32) dd_Law_law_264 (by decide) ?_
    refine zx_iadd E dd_Law_law_265 ?_
    refine zx_scald E hX dd_Law_law_266 ?_
    refine zx_aload_n E 0 dd_Law_law_267 rfl rfl ?_
    refine zx_iload E 4 dd_Law_law_268 rfl ?_
    refine zx_iconst E (2 : Int32) dd_Law_law_270 (by decide) ?_
    refine zx_iadd E dd_Law_law_271 ?_
    refine zx_scald E hX dd_Law_law_272 ?_
    refine zx_aload_n E 0 dd_Law_law_273 rfl rfl ?_
    refine zx_iload E 4 dd_Law_law_274 rfl ?_
    refine zx_iconst E (3 : Int32) dd_Law_law_276 (by decide) ?_
    refine zx_iadd E dd_Law_law_277 ?_
    refine zx_scald E hX dd_Law_law_278 ?_
    refine zx_aload_n E 3 dd_Law_law_279 rfl rfl ?_
    refine zx_callH E [zx_rV (zx_BK B) 0 0, .int (xs (x4 + (1 : Int32)).toNatClampNeg), .int (xs (x4 + (2 : Int32)).toNatClampNeg), .int (xs (x4 + (3 : Int32)).toNatClampNeg), zx_rV (zx_BK B) 52 0] (fun rZ eZ => zt_Law_property _ hst _ (xs (x4 + (1 : Int32)).toNatClampNeg) (xs (x4 + (2 : Int32)).toNatClampNeg) (xs (x4 + (3 : Int32)).toNatClampNeg) h _ eZ) zch_Law_81 ⟨by decide, by decide⟩ (by show _ ≤ 600128; omega) (by show _ ≤ 7301098; omega) rfl rfl (Nat.le_of_ble_eq_true rfl) dd_Law_law_280 (fun r7 => ?_)
    refine zx_ckn (ck1 := 415 + (c + 1)) (cn1 := 47250 + 6 * (c + 1)) (by omega) (by omega) ?_
    refine zx_istore E (lv1 := [(5, .int r7.1), (0, .ref b), (1, zx_rV (zx_BK B) 0 0), (2, zx_rV (zx_BK B) 24 0), (3, zx_rV (zx_BK B) 52 0), (4, .int x4)]) dd_Law_law_283 (by decide) rfl ?_
    refine zx_aload_n E 3 dd_Law_law_285 rfl rfl ?_
    refine zx_aload_n E 1 dd_Law_law_286 rfl rfl ?_
    refine zx_iload E 5 dd_Law_law_287 rfl ?_
    refine zx_iconst E (1 : Int32) dd_Law_law_289 (by decide) ?_
    refine zx_iadd E dd_Law_law_290 ?_
    refine zx_scald E hX dd_Law_law_291 ?_
    refine zx_aload_n E 1 dd_Law_law_292 rfl rfl ?_
    refine zx_iload E 5 dd_Law_law_293 rfl ?_
    refine zx_iconst E (2 : Int32) dd_Law_law_295 (by decide) ?_
    refine zx_iadd E dd_Law_law_296 ?_
    refine zx_scald E hX dd_Law_law_297 ?_
    refine zx_aload_n E 1 dd_Law_law_298 rfl rfl ?_
    refine zx_iload E 5 dd_Law_law_299 rfl ?_
    refine zx_iconst E (3 : Int32) dd_Law_law_301 (by decide) ?_
    refine zx_iadd E dd_Law_law_302 ?_
    refine zx_scald E hX dd_Law_law_303 ?_
    refine zx_callV_iw (T := zx_TRef) E [.int (xs (x4 + (1 : Int32)).toNatClampNeg), .int (xs (x4 + (2 : Int32)).toNatClampNeg), .int (xs (x4 + (3 : Int32)).toNatClampNeg)] (fun rZ eZ => zt_Ref_property _ _ (xs (x4 + (1 : Int32)).toNatClampNeg) (xs (x4 + (2 : Int32)).toNatClampNeg) (xs (x4 + (3 : Int32)).toNatClampNeg) r7.2 _ eZ) zg_24 Nat.zero_lt_one rfl zc_Law_84 ⟨by decide, by decide⟩ (by show _ ≤ 600128; omega) (by show _ ≤ 7301098; omega) rfl rfl (Nat.le_of_ble_eq_true rfl) dd_Law_law_304 (fun r8 => ?_)
    refine zx_istore E (lv1 := [(6, .int r8.1), (5, .int r7.1), (0, .ref b), (1, zx_rV (zx_BK B) 0 0), (2, zx_rV (zx_BK B) 24 0), (3, zx_rV (zx_BK B) 52 0), (4, .int x4)]) dd_Law_law_307 (by decide) rfl ?_
    refine zx_aload_n E 4 dd_Law_law_309 rfl rfl ?_
    refine zx_callV_i (T := zx_TRef) E [] (fun rZ eZ => zt_Ref_thrown _ _ r8.2 _ eZ) zg_24 Nat.zero_lt_one rfl zc_Law_74 ⟨by decide, by decide⟩ (by show _ ≤ 600128; omega) (by show _ ≤ 7301098; omega) rfl rfl (Nat.le_of_ble_eq_true rfl) dd_Law_law_310 (fun r9 => ?_)
    refine zx_iload E 1 dd_Law_law_313 rfl ?_
    refine zx_icmp_eq E 320 dd_Law_law_315 rfl ?_ ?_
    · refine zx_iconst E (0 : Int32) dd_Law_law_318 (by decide) ?_
      exact zx_lawF
    refine zx_iload E 1 dd_Law_law_320 rfl ?_
    refine zx_if_ne E 337 dd_Law_law_322 rfl ?_ ?_
    rotate_left
    · refine zx_sub [2, 3, 4, 5, 6] rfl ?_
      exact zj_Law_law_337 E hX hst k23 hk23 x4 r8.2 (c + 1)
    refine zx_aload_n E 5 dd_Law_law_325 rfl rfl ?_
    refine zx_iconst E (0 : Int32) dd_Law_law_326 (by decide) ?_
    refine zx_lald E zg_52 Nat.zero_lt_one dd_Law_law_327 ?_
    refine zx_iload E 0 dd_Law_law_328 rfl ?_
    refine zx_i2l E dd_Law_law_330 ?_
    refine zx_lcmp_eq E 337 dd_Law_law_331 dd_Law_law_332 rfl ?_ ?_
    · refine zx_iconst E (0 : Int32) dd_Law_law_335 (by decide) ?_
      exact zx_lawF
    refine zx_sub [2, 3, 4, 5, 6] rfl ?_
    exact zj_Law_law_337 E hX hst k23 hk23 x4 r8.2 (c + 1)
  · refine zx_aload_n E 1 dd_Law_law_340 rfl rfl ?_
    refine zx_aload_n E 0 dd_Law_law_341 rfl rfl ?_
    refine zx_iload E 4 dd_Law_law_342 rfl ?_
    refine zx_iconst E (1 : Int32) dd_Law_law_344 (by decide) ?_
    refine zx_iadd E dd_Law_law_345 ?_
    refine zx_scald E hX dd_Law_law_346 ?_
    refine zx_aload_n E 3 dd_Law_law_347 rfl rfl ?_
    refine zx_callH E [zx_rV (zx_BK B) 0 0, .int (xs (x4 + (1 : Int32)).toNatClampNeg), zx_rV (zx_BK B) 52 0] (fun rZ eZ => zt_Law_list _ hst _ (xs (x4 + (1 : Int32)).toNatClampNeg) h _ eZ) zch_Law_85 ⟨by decide, by decide⟩ (by show _ ≤ 600128; omega) (by show _ ≤ 7301098; omega) rfl rfl (Nat.le_of_ble_eq_true rfl) dd_Law_law_348 (fun r10 => ?_)
    refine zx_ckn (ck1 := 415 + (c + 1)) (cn1 := 47250 + 6 * (c + 1)) (by omega) (by omega) ?_
    refine zx_istore E (lv1 := [(5, .int r10.1), (0, .ref b), (1, zx_rV (zx_BK B) 0 0), (2, zx_rV (zx_BK B) 24 0), (3, zx_rV (zx_BK B) 52 0), (4, .int x4)]) dd_Law_law_351 (by decide) rfl ?_
    refine zx_aload_n E 3 dd_Law_law_353 rfl rfl ?_
    refine zx_aload_n E 1 dd_Law_law_354 rfl rfl ?_
    refine zx_iload E 5 dd_Law_law_355 rfl ?_
    refine zx_iconst E (1 : Int32) dd_Law_law_357 (by decide) ?_
    refine zx_iadd E dd_Law_law_358 ?_
    refine zx_scald E hX dd_Law_law_359 ?_
    refine zx_callV_iw (T := zx_TRef) E [.int (xs (x4 + (1 : Int32)).toNatClampNeg)] (fun rZ eZ => zt_Ref_list _ _ (xs (x4 + (1 : Int32)).toNatClampNeg) r10.2 _ eZ) zg_24 Nat.zero_lt_one rfl zc_Law_88 ⟨by decide, by decide⟩ (by show _ ≤ 600128; omega) (by show _ ≤ 7301098; omega) rfl rfl (Nat.le_of_ble_eq_true rfl) dd_Law_law_360 (fun r11 => ?_)
    refine zx_istore E (lv1 := [(6, .int r11.1), (5, .int r10.1), (0, .ref b), (1, zx_rV (zx_BK B) 0 0), (2, zx_rV (zx_BK B) 24 0), (3, zx_rV (zx_BK B) 52 0), (4, .int x4)]) dd_Law_law_363 (by decide) rfl ?_
    refine zx_aload_n E 4 dd_Law_law_365 rfl rfl ?_
    refine zx_callV_i (T := zx_TRef) E [] (fun rZ eZ => zt_Ref_thrown _ _ r11.2 _ eZ) zg_24 Nat.zero_lt_one rfl zc_Law_74 ⟨by decide, by decide⟩ (by show _ ≤ 600128; omega) (by show _ ≤ 7301098; omega) rfl rfl (Nat.le_of_ble_eq_true rfl) dd_Law_law_366 (fun r12 => ?_)
    refine zx_iload E 1 dd_Law_law_369 rfl ?_
    refine zx_icmp_eq E 376 dd_Law_law_371 rfl ?_ ?_
    · refine zx_iconst E (0 : Int32) dd_Law_law_374 (by decide) ?_
      exact zx_lawF
    refine zx_iload E 1 dd_Law_law_376 rfl ?_
    refine zx_if_ne E 393 dd_Law_law_378 rfl ?_ ?_
    rotate_left
    · refine zx_sub [2, 3, 4, 5, 6] rfl ?_
      exact zj_Law_law_393 E hX hst k23 hk23 x4 r11.2 (c + 1)
    refine zx_aload_n E 5 dd_Law_law_381 rfl rfl ?_
    refine zx_iconst E (0 : Int32) dd_Law_law_382 (by decide) ?_
    refine zx_lald E zg_52 Nat.zero_lt_one dd_Law_law_383 ?_
    refine zx_iload E 0 dd_Law_law_384 rfl ?_
    refine zx_i2l E dd_Law_law_386 ?_
    refine zx_lcmp_eq E 393 dd_Law_law_387 dd_Law_law_388 rfl ?_ ?_
    · refine zx_iconst E (0 : Int32) dd_Law_law_391 (by decide) ?_
      exact zx_lawF
    refine zx_sub [2, 3, 4, 5, 6] rfl ?_
    exact zj_Law_law_393 E hX hst k23 hk23 x4 r11.2 (c + 1)
  · refine zx_aload_n E 1 dd_Law_law_396 rfl rfl ?_
    refine zx_aload_n E 0 dd_Law_law_397 rfl rfl ?_
    refine zx_iload E 4 dd_Law_law_398 rfl ?_
    refine zx_iconst E (1 : Int32) dd_Law_law_400 (by decide) ?_
    refine zx_iadd E dd_Law_law_401 ?_
    refine zx_scald E hX dd_Law_law_402 ?_
    refine zx_aload_n E 0 dd_Law_law_403 rfl rfl ?_
    refine zx_iload E 4 dd_Law_law_404 rfl ?_
    refine zx_iconst E (2 : Int32) dd_Law_law_406 (by decide) ?_
    refine zx_iadd E dd_Law_law_407 ?_
    refine zx_scald E hX dd_Law_law_408 ?_
    refine zx_aload_n E 3 dd_Law_law_409 rfl rfl ?_
    refine zx_callH E [zx_rV (zx_BK B) 0 0, .int (xs (x4 + (1 : Int32)).toNatClampNeg), .int (xs (x4 + (2 : Int32)).toNatClampNeg), zx_rV (zx_BK B) 52 0] (fun rZ eZ => zt_Law_method _ hst _ (xs (x4 + (1 : Int32)).toNatClampNeg) (xs (x4 + (2 : Int32)).toNatClampNeg) h _ eZ) zch_Law_89 ⟨by decide, by decide⟩ (by show _ ≤ 600128; omega) (by show _ ≤ 7301098; omega) rfl rfl (Nat.le_of_ble_eq_true rfl) dd_Law_law_410 (fun r13 => ?_)
    refine zx_ckn (ck1 := 415 + (c + 1)) (cn1 := 47250 + 6 * (c + 1)) (by omega) (by omega) ?_
    refine zx_istore E (lv1 := [(5, .int r13.1), (0, .ref b), (1, zx_rV (zx_BK B) 0 0), (2, zx_rV (zx_BK B) 24 0), (3, zx_rV (zx_BK B) 52 0), (4, .int x4)]) dd_Law_law_413 (by decide) rfl ?_
    refine zx_aload_n E 3 dd_Law_law_415 rfl rfl ?_
    refine zx_aload_n E 1 dd_Law_law_416 rfl rfl ?_
    refine zx_iload E 5 dd_Law_law_417 rfl ?_
    refine zx_iconst E (1 : Int32) dd_Law_law_419 (by decide) ?_
    refine zx_iadd E dd_Law_law_420 ?_
    refine zx_scald E hX dd_Law_law_421 ?_
    refine zx_aload_n E 1 dd_Law_law_422 rfl rfl ?_
    refine zx_iload E 5 dd_Law_law_423 rfl ?_
    refine zx_iconst E (2 : Int32) dd_Law_law_425 (by decide) ?_
    refine zx_iadd E dd_Law_law_426 ?_
    refine zx_scald E hX dd_Law_law_427 ?_
    refine zx_callV_iw (T := zx_TRef) E [.int (xs (x4 + (1 : Int32)).toNatClampNeg), .int (xs (x4 + (2 : Int32)).toNatClampNeg)] (fun rZ eZ => zt_Ref_method _ _ (xs (x4 + (1 : Int32)).toNatClampNeg) (xs (x4 + (2 : Int32)).toNatClampNeg) r13.2 _ eZ) zg_24 Nat.zero_lt_one rfl zc_Law_92 ⟨by decide, by decide⟩ (by show _ ≤ 600128; omega) (by show _ ≤ 7301098; omega) rfl rfl (Nat.le_of_ble_eq_true rfl) dd_Law_law_428 (fun r14 => ?_)
    refine zx_istore E (lv1 := [(6, .int r14.1), (5, .int r13.1), (0, .ref b), (1, zx_rV (zx_BK B) 0 0), (2, zx_rV (zx_BK B) 24 0), (3, zx_rV (zx_BK B) 52 0), (4, .int x4)]) dd_Law_law_431 (by decide) rfl ?_
    refine zx_aload_n E 4 dd_Law_law_433 rfl rfl ?_
    refine zx_callV_i (T := zx_TRef) E [] (fun rZ eZ => zt_Ref_thrown _ _ r14.2 _ eZ) zg_24 Nat.zero_lt_one rfl zc_Law_74 ⟨by decide, by decide⟩ (by show _ ≤ 600128; omega) (by show _ ≤ 7301098; omega) rfl rfl (Nat.le_of_ble_eq_true rfl) dd_Law_law_434 (fun r15 => ?_)
    refine zx_iload E 1 dd_Law_law_437 rfl ?_
    refine zx_icmp_eq E 444 dd_Law_law_439 rfl ?_ ?_
    · refine zx_iconst E (0 : Int32) dd_Law_law_442 (by decide) ?_
      exact zx_lawF
    refine zx_iload E 1 dd_Law_law_444 rfl ?_
    refine zx_if_ne E 461 dd_Law_law_446 rfl ?_ ?_
    rotate_left
    · refine zx_sub [2, 3, 4, 5, 6] rfl ?_
      exact zj_Law_law_461 E hX hst k23 hk23 x4 r14.2 (c + 1)
    refine zx_aload_n E 5 dd_Law_law_449 rfl rfl ?_
    refine zx_iconst E (0 : Int32) dd_Law_law_450 (by decide) ?_
    refine zx_lald E zg_52 Nat.zero_lt_one dd_Law_law_451 ?_
    refine zx_iload E 0 dd_Law_law_452 rfl ?_
    refine zx_i2l E dd_Law_law_454 ?_
    refine zx_lcmp_eq E 461 dd_Law_law_455 dd_Law_law_456 rfl ?_ ?_
    · refine zx_iconst E (0 : Int32) dd_Law_law_459 (by decide) ?_
      exact zx_lawF
    refine zx_sub [2, 3, 4, 5, 6] rfl ?_
    exact zj_Law_law_461 E hX hst k23 hk23 x4 r14.2 (c + 1)
  · refine zx_aload_n E 1 dd_Law_law_464 rfl rfl ?_
    refine zx_aload_n E 0 dd_Law_law_465 rfl rfl ?_
    refine zx_iload E 4 dd_Law_law_466 rfl ?_
    refine zx_iconst E (1 : Int32) dd_Law_law_468 (by decide) ?_
    refine zx_iadd E dd_Law_law_469 ?_
    refine zx_scald E hX dd_Law_law_470 ?_
    refine zx_aload_n E 0 dd_Law_law_471 rfl rfl ?_
    refine zx_iload E 4 dd_Law_law_472 rfl ?_
    refine zx_iconst E (2 : Int32) dd_Law_law_474 (by decide) ?_
    refine zx_iadd E dd_Law_law_475 ?_
    refine zx_scald E hX dd_Law_law_476 ?_
    refine zx_aload_n E 0 dd_Law_law_477 rfl rfl ?_
    refine zx_iload E 4 dd_Law_law_478 rfl ?_
    refine zx_iconst E (3 : Int32) dd_Law_law_480 (by decide) ?_
    refine zx_iadd E dd_Law_law_481 ?_
    refine zx_scald E hX dd_Law_law_482 ?_
    refine zx_aload_n E 0 dd_Law_law_483 rfl rfl ?_
    refine zx_iload E 4 dd_Law_law_484 rfl ?_
    refine zx_iconst E (4 : Int32) dd_Law_law_486 (by decide) ?_
    refine zx_iadd E dd_Law_law_487 ?_
    refine zx_scald E hX dd_Law_law_488 ?_
    refine zx_aload_n E 3 dd_Law_law_489 rfl rfl ?_
    refine zx_callH E [zx_rV (zx_BK B) 0 0, .int (xs (x4 + (1 : Int32)).toNatClampNeg), .int (xs (x4 + (2 : Int32)).toNatClampNeg), .int (xs (x4 + (3 : Int32)).toNatClampNeg), .int (xs (x4 + (4 : Int32)).toNatClampNeg), zx_rV (zx_BK B) 52 0] (fun rZ eZ => zt_Law_function _ hst _ (xs (x4 + (1 : Int32)).toNatClampNeg) (xs (x4 + (2 : Int32)).toNatClampNeg) (xs (x4 + (3 : Int32)).toNatClampNeg) (xs (x4 + (4 : Int32)).toNatClampNeg) h _ eZ) zch_Law_93 ⟨by decide, by decide⟩ (by show _ ≤ 600128; omega) (by show _ ≤ 7301098; omega) rfl rfl (Nat.le_of_ble_eq_true rfl) dd_Law_law_490 (fun r16 => ?_)
    refine zx_ckn (ck1 := 415 + (c + 1)) (cn1 := 47250 + 6 * (c + 1)) (by omega) (by omega) ?_
    refine zx_istore E (lv1 := [(5, .int r16.1), (0, .ref b), (1, zx_rV (zx_BK B) 0 0), (2, zx_rV (zx_BK B) 24 0), (3, zx_rV (zx_BK B) 52 0), (4, .int x4)]) dd_Law_law_493 (by decide) rfl ?_
    refine zx_aload_n E 3 dd_Law_law_495 rfl rfl ?_
    refine zx_aload_n E 1 dd_Law_law_496 rfl rfl ?_
    refine zx_iload E 5 dd_Law_law_497 rfl ?_
    refine zx_iconst E (1 : Int32) dd_Law_law_499 (by decide) ?_
    refine zx_iadd E dd_Law_law_500 ?_
    refine zx_scald E hX dd_Law_law_501 ?_
    refine zx_aload_n E 1 dd_Law_law_502 rfl rfl ?_
    refine zx_iload E 5 dd_Law_law_503 rfl ?_
    refine zx_iconst E (2 : Int32) dd_Law_law_505 (by decide) ?_
    refine zx_iadd E dd_Law_law_506 ?_
    refine zx_scald E hX dd_Law_law_507 ?_
    refine zx_aload_n E 1 dd_Law_law_508 rfl rfl ?_
    refine zx_iload E 5 dd_Law_law_509 rfl ?_
    refine zx_iconst E (3 : Int32) dd_Law_law_511 (by decide) ?_
    refine zx_iadd E dd_Law_law_512 ?_
    refine zx_scald E hX dd_Law_law_513 ?_
    refine zx_aload_n E 1 dd_Law_law_514 rfl rfl ?_
    refine zx_iload E 5 dd_Law_law_515 rfl ?_
    refine zx_iconst E (4 : Int32) dd_Law_law_517 (by decide) ?_
    refine zx_iadd E dd_Law_law_518 ?_
    refine zx_scald E hX dd_Law_law_519 ?_
    refine zx_callV_iw (T := zx_TRef) E [.int (xs (x4 + (1 : Int32)).toNatClampNeg), .int (xs (x4 + (2 : Int32)).toNatClampNeg), .int (xs (x4 + (3 : Int32)).toNatClampNeg), .int (xs (x4 + (4 : Int32)).toNatClampNeg)] (fun rZ eZ => zt_Ref_function _ _ (xs (x4 + (1 : Int32)).toNatClampNeg) (xs (x4 + (2 : Int32)).toNatClampNeg) (xs (x4 + (3 : Int32)).toNatClampNeg) (xs (x4 + (4 : Int32)).toNatClampNeg) r16.2 _ eZ) zg_24 Nat.zero_lt_one rfl zc_Law_96 ⟨by decide, by decide⟩ (by show _ ≤ 600128; omega) (by show _ ≤ 7301098; omega) rfl rfl (Nat.le_of_ble_eq_true rfl) dd_Law_law_520 (fun r17 => ?_)
    refine zx_istore E (lv1 := [(6, .int r17.1), (5, .int r16.1), (0, .ref b), (1, zx_rV (zx_BK B) 0 0), (2, zx_rV (zx_BK B) 24 0), (3, zx_rV (zx_BK B) 52 0), (4, .int x4)]) dd_Law_law_523 (by decide) rfl ?_
    refine zx_aload_n E 4 dd_Law_law_525 rfl rfl ?_
    refine zx_callV_i (T := zx_TRef) E [] (fun rZ eZ => zt_Ref_thrown _ _ r17.2 _ eZ) zg_24 Nat.zero_lt_one rfl zc_Law_74 ⟨by decide, by decide⟩ (by show _ ≤ 600128; omega) (by show _ ≤ 7301098; omega) rfl rfl (Nat.le_of_ble_eq_true rfl) dd_Law_law_526 (fun r18 => ?_)
    refine zx_iload E 1 dd_Law_law_529 rfl ?_
    refine zx_icmp_eq E 536 dd_Law_law_531 rfl ?_ ?_
    · refine zx_iconst E (0 : Int32) dd_Law_law_534 (by decide) ?_
      exact zx_lawF
    refine zx_iload E 1 dd_Law_law_536 rfl ?_
    refine zx_if_ne E 553 dd_Law_law_538 rfl ?_ ?_
    rotate_left
    · refine zx_sub [2, 3, 4, 5, 6] rfl ?_
      exact zj_Law_law_553 E hX hst k23 hk23 x4 r17.2 (c + 1)
    refine zx_aload_n E 5 dd_Law_law_541 rfl rfl ?_
    refine zx_iconst E (0 : Int32) dd_Law_law_542 (by decide) ?_
    refine zx_lald E zg_52 Nat.zero_lt_one dd_Law_law_543 ?_
    refine zx_iload E 0 dd_Law_law_544 rfl ?_
    refine zx_i2l E dd_Law_law_546 ?_
    refine zx_lcmp_eq E 553 dd_Law_law_547 dd_Law_law_548 rfl ?_ ?_
    · refine zx_iconst E (0 : Int32) dd_Law_law_551 (by decide) ?_
      exact zx_lawF
    refine zx_sub [2, 3, 4, 5, 6] rfl ?_
    exact zj_Law_law_553 E hX hst k23 hk23 x4 r17.2 (c + 1)
  · refine zx_aload_n E 1 dd_Law_law_556 rfl rfl ?_
    refine zx_aload_n E 0 dd_Law_law_557 rfl rfl ?_
    refine zx_iload E 4 dd_Law_law_558 rfl ?_
    refine zx_iconst E (1 : Int32) dd_Law_law_560 (by decide) ?_
    refine zx_iadd E dd_Law_law_561 ?_
    refine zx_scald E hX dd_Law_law_562 ?_
    refine zx_aload_n E 0 dd_Law_law_563 rfl rfl ?_
    refine zx_iload E 4 dd_Law_law_564 rfl ?_
    refine zx_iconst E (2 : Int32) dd_Law_law_566 (by decide) ?_
    refine zx_iadd E dd_Law_law_567 ?_
    refine zx_scald E hX dd_Law_law_568 ?_
    refine zx_aload_n E 0 dd_Law_law_569 rfl rfl ?_
    refine zx_iload E 4 dd_Law_law_570 rfl ?_
    refine zx_iconst E (3 : Int32) dd_Law_law_572 (by decide) ?_
    refine zx_iadd E dd_Law_law_573 ?_
    refine zx_scald E hX dd_Law_law_574 ?_
    refine zx_aload_n E 0 dd_Law_law_575 rfl rfl ?_
    refine zx_iload E 4 dd_Law_law_576 rfl ?_
    refine zx_iconst E (4 : Int32) dd_Law_law_578 (by decide) ?_
    refine zx_iadd E dd_Law_law_579 ?_
    refine zx_scald E hX dd_Law_law_580 ?_
    refine zx_i2l E dd_Law_law_581 ?_
    refine zx_bipush E (32 : Int32) dd_Law_law_582 (by decide) ?_
    refine zx_lshl E dd_Law_law_584 ?_
    refine zx_aload_n E 0 dd_Law_law_585 rfl rfl ?_
    refine zx_iload E 4 dd_Law_law_586 rfl ?_
    refine zx_iconst E (5 : Int32) dd_Law_law_588 (by decide) ?_
    refine zx_iadd E dd_Law_law_589 ?_
    refine zx_scald E hX dd_Law_law_590 ?_
    refine zx_i2l E dd_Law_law_591 ?_
    refine zx_ldc2 E (4294967295 : Int64) zw_1524 dd_Law_law_592 ?_
    refine zx_land E dd_Law_law_595 ?_
    refine zx_lor E dd_Law_law_596 ?_
    refine zx_callH E [zx_rV (zx_BK B) 0 0, .int (xs (x4 + (1 : Int32)).toNatClampNeg), .int (xs (x4 + (2 : Int32)).toNatClampNeg), .int (xs (x4 + (3 : Int32)).toNatClampNeg), .long ((zx_clshl ((xs (x4 + (4 : Int32)).toNatClampNeg).toInt64) (32 : Int32)) ||| (((xs (x4 + (5 : Int32)).toNatClampNeg).toInt64) &&& (4294967295 : Int64)))] (fun rZ eZ => zt_Law_rule _ hst _ (xs (x4 + (1 : Int32)).toNatClampNeg) (xs (x4 + (2 : Int32)).toNatClampNeg) (xs (x4 + (3 : Int32)).toNatClampNeg) ((zx_clshl ((xs (x4 + (4 : Int32)).toNatClampNeg).toInt64) (32 : Int32)) ||| (((xs (x4 + (5 : Int32)).toNatClampNeg).toInt64) &&& (4294967295 : Int64))) h _ eZ) zch_Law_97 ⟨by decide, by decide⟩ (by show _ ≤ 600128; omega) (by show _ ≤ 7301098; omega) rfl rfl (Nat.le_of_ble_eq_true rfl) dd_Law_law_597 (fun r19 => ?_)
    refine zx_ckn (ck1 := 415 + (c + 1)) (cn1 := 47250 + 6 * (c + 1)) (by omega) (by omega) ?_
    refine zx_istore E (lv1 := [(5, .int r19.1), (0, .ref b), (1, zx_rV (zx_BK B) 0 0), (2, zx_rV (zx_BK B) 24 0), (3, zx_rV (zx_BK B) 52 0), (4, .int x4)]) dd_Law_law_600 (by decide) rfl ?_
    refine zx_aload_n E 3 dd_Law_law_602 rfl rfl ?_
    refine zx_aload_n E 1 dd_Law_law_603 rfl rfl ?_
    refine zx_iload E 5 dd_Law_law_604 rfl ?_
    refine zx_iconst E (1 : Int32) dd_Law_law_606 (by decide) ?_
    refine zx_iadd E dd_Law_law_607 ?_
    refine zx_scald E hX dd_Law_law_608 ?_
    refine zx_aload_n E 1 dd_Law_law_609 rfl rfl ?_
    refine zx_iload E 5 dd_Law_law_610 rfl ?_
    refine zx_iconst E (2 : Int32) dd_Law_law_612 (by decide) ?_
    refine zx_iadd E dd_Law_law_613 ?_
    refine zx_scald E hX dd_Law_law_614 ?_
    refine zx_aload_n E 1 dd_Law_law_615 rfl rfl ?_
    refine zx_iload E 5 dd_Law_law_616 rfl ?_
    refine zx_iconst E (3 : Int32) dd_Law_law_618 (by decide) ?_
    refine zx_iadd E dd_Law_law_619 ?_
    refine zx_scald E hX dd_Law_law_620 ?_
    refine zx_aload_n E 1 dd_Law_law_621 rfl rfl ?_
    refine zx_iload E 5 dd_Law_law_622 rfl ?_
    refine zx_iconst E (4 : Int32) dd_Law_law_624 (by decide) ?_
    refine zx_iadd E dd_Law_law_625 ?_
    refine zx_scald E hX dd_Law_law_626 ?_
    refine zx_i2l E dd_Law_law_627 ?_
    refine zx_bipush E (32 : Int32) dd_Law_law_628 (by decide) ?_
    refine zx_lshl E dd_Law_law_630 ?_
    refine zx_aload_n E 1 dd_Law_law_631 rfl rfl ?_
    refine zx_iload E 5 dd_Law_law_632 rfl ?_
    refine zx_iconst E (5 : Int32) dd_Law_law_634 (by decide) ?_
    refine zx_iadd E dd_Law_law_635 ?_
    refine zx_scald E hX dd_Law_law_636 ?_
    refine zx_i2l E dd_Law_law_637 ?_
    refine zx_ldc2 E (4294967295 : Int64) zw_1524 dd_Law_law_638 ?_
    refine zx_land E dd_Law_law_641 ?_
    refine zx_lor E dd_Law_law_642 ?_
    refine zx_callV_v (T := zx_TRef) E [.int (xs (x4 + (1 : Int32)).toNatClampNeg), .int (xs (x4 + (2 : Int32)).toNatClampNeg), .int (xs (x4 + (3 : Int32)).toNatClampNeg), .long ((zx_clshl ((xs (x4 + (4 : Int32)).toNatClampNeg).toInt64) (32 : Int32)) ||| (((xs (x4 + (5 : Int32)).toNatClampNeg).toInt64) &&& (4294967295 : Int64)))] (fun rZ eZ => zt_Ref_rule _ _ (xs (x4 + (1 : Int32)).toNatClampNeg) (xs (x4 + (2 : Int32)).toNatClampNeg) (xs (x4 + (3 : Int32)).toNatClampNeg) ((zx_clshl ((xs (x4 + (4 : Int32)).toNatClampNeg).toInt64) (32 : Int32)) ||| (((xs (x4 + (5 : Int32)).toNatClampNeg).toInt64) &&& (4294967295 : Int64))) r19.2 _ eZ) zg_24 Nat.zero_lt_one rfl zc_Law_100 ⟨by decide, by decide⟩ (by show _ ≤ 600128; omega) (by show _ ≤ 7301098; omega) rfl rfl (Nat.le_of_ble_eq_true rfl) dd_Law_law_643 (fun r20 => ?_)
    refine zx_aload_n E 3 dd_Law_law_646 rfl rfl ?_
    refine zx_callV_i (T := zx_TRef) E [] (fun rZ eZ => zt_Ref_thrown _ _ r20 _ eZ) zg_24 Nat.zero_lt_one rfl zc_Law_74 ⟨by decide, by decide⟩ (by show _ ≤ 600128; omega) (by show _ ≤ 7301098; omega) rfl rfl (Nat.le_of_ble_eq_true rfl) dd_Law_law_647 (fun r21 => ?_)
    refine zx_iload E 0 dd_Law_law_650 rfl ?_
    refine zx_icmp_eq E 657 dd_Law_law_652 rfl ?_ ?_
    · refine zx_iconst E (0 : Int32) dd_Law_law_655 (by decide) ?_
      exact zx_lawF
    refine zx_goto E 1138 dd_Law_law_657 rfl ?_
    refine zx_sub [1, 2, 3, 4, 5] rfl ?_
    exact zj_Law_law_1138 E hX hst k23 hk23 x4 r20 (c + 1)
  · refine zx_aload_n E 1 dd_Law_law_660 rfl rfl ?_
    refine zx_aload_n E 3 dd_Law_law_661 rfl rfl ?_
    refine zx_callH E [zx_rV (zx_BK B) 0 0, zx_rV (zx_BK B) 52 0] (fun rZ eZ => zt_Law_build _ hst _ h _ eZ) zch_Law_101 ⟨by decide, by decide⟩ (by show _ ≤ 600128; omega) (by show _ ≤ 7301098; omega) rfl rfl (Nat.le_of_ble_eq_true rfl) dd_Law_law_662 (fun r22 => ?_)
    refine zx_ckn (ck1 := 415 + (c + 1)) (cn1 := 47250 + 6 * (c + 1)) (by omega) (by omega) ?_
    refine zx_istore E (lv1 := [(5, .int r22.1), (0, .ref b), (1, zx_rV (zx_BK B) 0 0), (2, zx_rV (zx_BK B) 24 0), (3, zx_rV (zx_BK B) 52 0), (4, .int x4)]) dd_Law_law_665 (by decide) rfl ?_
    refine zx_aload_n E 3 dd_Law_law_667 rfl rfl ?_
    refine zx_callV_iw (T := zx_TRef) E [] (fun rZ eZ => zt_Ref_build _ _ r22.2 _ eZ) zg_24 Nat.zero_lt_one rfl zc_Law_103 ⟨by decide, by decide⟩ (by show _ ≤ 600128; omega) (by show _ ≤ 7301098; omega) rfl rfl (Nat.le_of_ble_eq_true rfl) dd_Law_law_668 (fun r23 => ?_)
    refine zx_istore E (lv1 := [(6, .int r23.1), (5, .int r22.1), (0, .ref b), (1, zx_rV (zx_BK B) 0 0), (2, zx_rV (zx_BK B) 24 0), (3, zx_rV (zx_BK B) 52 0), (4, .int x4)]) dd_Law_law_671 (by decide) rfl ?_
    refine zx_aload_n E 4 dd_Law_law_673 rfl rfl ?_
    refine zx_callV_i (T := zx_TRef) E [] (fun rZ eZ => zt_Ref_thrown _ _ r23.2 _ eZ) zg_24 Nat.zero_lt_one rfl zc_Law_74 ⟨by decide, by decide⟩ (by show _ ≤ 600128; omega) (by show _ ≤ 7301098; omega) rfl rfl (Nat.le_of_ble_eq_true rfl) dd_Law_law_674 (fun r24 => ?_)
    refine zx_iload E 1 dd_Law_law_677 rfl ?_
    refine zx_icmp_eq E 684 dd_Law_law_679 rfl ?_ ?_
    · refine zx_iconst E (0 : Int32) dd_Law_law_682 (by decide) ?_
      exact zx_lawF
    refine zx_iload E 1 dd_Law_law_684 rfl ?_
    refine zx_if_ne E 701 dd_Law_law_686 rfl ?_ ?_
    rotate_left
    · refine zx_sub [2, 3, 4, 5, 6] rfl ?_
      exact zj_Law_law_701 E hX hst k23 hk23 x4 r23.2 (c + 1)
    refine zx_aload_n E 5 dd_Law_law_689 rfl rfl ?_
    refine zx_iconst E (0 : Int32) dd_Law_law_690 (by decide) ?_
    refine zx_lald E zg_52 Nat.zero_lt_one dd_Law_law_691 ?_
    refine zx_iload E 0 dd_Law_law_692 rfl ?_
    refine zx_i2l E dd_Law_law_694 ?_
    refine zx_lcmp_eq E 701 dd_Law_law_695 dd_Law_law_696 rfl ?_ ?_
    · refine zx_iconst E (0 : Int32) dd_Law_law_699 (by decide) ?_
      exact zx_lawF
    refine zx_sub [2, 3, 4, 5, 6] rfl ?_
    exact zj_Law_law_701 E hX hst k23 hk23 x4 r23.2 (c + 1)
  · refine zx_aload_n E 1 dd_Law_law_704 rfl rfl ?_
    refine zx_aload_n E 0 dd_Law_law_705 rfl rfl ?_
    refine zx_iload E 4 dd_Law_law_706 rfl ?_
    refine zx_iconst E (1 : Int32) dd_Law_law_708 (by decide) ?_
    refine zx_iadd E dd_Law_law_709 ?_
    refine zx_scald E hX dd_Law_law_710 ?_
    refine zx_callV_i (T := zx_TLoom) E [.int (xs (x4 + (1 : Int32)).toNatClampNeg)] (fun rZ eZ => zt_Loom_diagnosis _ _ (xs (x4 + (1 : Int32)).toNatClampNeg) h _ eZ) zg_0 Nat.zero_lt_one rfl zc_Law_104 ⟨by decide, by decide⟩ (by show _ ≤ 600128; omega) (by show _ ≤ 7301098; omega) rfl rfl (Nat.le_of_ble_eq_true rfl) dd_Law_law_711 (fun r25 => ?_)
    refine zx_aload_n E 2 dd_Law_law_714 rfl rfl ?_
    refine zx_aload_n E 0 dd_Law_law_715 rfl rfl ?_
    refine zx_iload E 4 dd_Law_law_716 rfl ?_
    refine zx_iconst E (1 : Int32) dd_Law_law_718 (by decide) ?_
    refine zx_iadd E dd_Law_law_719 ?_
    refine zx_scald E hX dd_Law_law_720 ?_
    refine zx_callV_iw (T := zx_TRef) E [.int (xs (x4 + (1 : Int32)).toNatClampNeg)] (fun rZ eZ => zt_Ref_diagnosis _ _ (xs (x4 + (1 : Int32)).toNatClampNeg) h _ eZ) zg_24 Nat.zero_lt_one rfl zc_Law_107 ⟨by decide, by decide⟩ (by show _ ≤ 600128; omega) (by show _ ≤ 7301098; omega) rfl rfl (Nat.le_of_ble_eq_true rfl) dd_Law_law_721 (fun r26 => ?_)
    refine zx_icmp_eq E 1138 dd_Law_law_724 rfl ?_ ?_
    rotate_left
    · exact zj_Law_law_1138 E hX hst k23 hk23 x4 r26.2 c
    refine zx_iconst E (0 : Int32) dd_Law_law_727 (by decide) ?_
    exact zx_lawF
  · refine zx_aload_n E 1 dd_Law_law_729 rfl rfl ?_
    refine zx_aload_n E 0 dd_Law_law_730 rfl rfl ?_
    refine zx_iload E 4 dd_Law_law_731 rfl ?_
    refine zx_iconst E (1 : Int32) dd_Law_law_733 (by decide) ?_
    refine zx_iadd E dd_Law_law_734 ?_
    refine zx_scald E hX dd_Law_law_735 ?_
    refine zx_aload_n E 0 dd_Law_law_736 rfl rfl ?_
    refine zx_iload E 4 dd_Law_law_737 rfl ?_
    refine zx_iconst E (2 : Int32) dd_Law_law_739 (by decide) ?_
    refine zx_iadd E dd_Law_law_740 ?_
    refine zx_scald E hX dd_Law_law_741 ?_
    refine zx_i2l E dd_Law_law_742 ?_
    refine zx_bipush E (32 : Int32) dd_Law_law_743 (by decide) ?_
    refine zx_lshl E dd_Law_law_745 ?_
    refine zx_aload_n E 0 dd_Law_law_746 rfl rfl ?_
    refine zx_iload E 4 dd_Law_law_747 rfl ?_
    refine zx_iconst E (3 : Int32) dd_Law_law_749 (by decide) ?_
    refine zx_iadd E dd_Law_law_750 ?_
    refine zx_scald E hX dd_Law_law_751 ?_
    refine zx_i2l E dd_Law_law_752 ?_
    refine zx_ldc2 E (4294967295 : Int64) zw_1524 dd_Law_law_753 ?_
    refine zx_land E dd_Law_law_756 ?_
    refine zx_lor E dd_Law_law_757 ?_
    refine zx_aload_n E 3 dd_Law_law_758 rfl rfl ?_
    refine zx_callH E [zx_rV (zx_BK B) 0 0, .int (xs (x4 + (1 : Int32)).toNatClampNeg), .long ((zx_clshl ((xs (x4 + (2 : Int32)).toNatClampNeg).toInt64) (32 : Int32)) ||| (((xs (x4 + (3 : Int32)).toNatClampNeg).toInt64) &&& (4294967295 : Int64))), zx_rV (zx_BK B) 52 0] (fun rZ eZ => zt_Law_make _ hst _ (xs (x4 + (1 : Int32)).toNatClampNeg) ((zx_clshl ((xs (x4 + (2 : Int32)).toNatClampNeg).toInt64) (32 : Int32)) ||| (((xs (x4 + (3 : Int32)).toNatClampNeg).toInt64) &&& (4294967295 : Int64))) h _ eZ) zch_Law_108 ⟨by decide, by decide⟩ (by show _ ≤ 600128; omega) (by show _ ≤ 7301098; omega) rfl rfl (Nat.le_of_ble_eq_true rfl) dd_Law_law_759 (fun r27 => ?_)
    refine zx_ckn (ck1 := 415 + (c + 1)) (cn1 := 47250 + 6 * (c + 1)) (by omega) (by omega) ?_
    refine zx_istore E (lv1 := [(5, .int r27.1), (0, .ref b), (1, zx_rV (zx_BK B) 0 0), (2, zx_rV (zx_BK B) 24 0), (3, zx_rV (zx_BK B) 52 0), (4, .int x4)]) dd_Law_law_762 (by decide) rfl ?_
    refine zx_aload_n E 3 dd_Law_law_764 rfl rfl ?_
    refine zx_aload_n E 1 dd_Law_law_765 rfl rfl ?_
    refine zx_iload E 5 dd_Law_law_766 rfl ?_
    refine zx_iconst E (1 : Int32) dd_Law_law_768 (by decide) ?_
    refine zx_iadd E dd_Law_law_769 ?_
    refine zx_scald E hX dd_Law_law_770 ?_
    refine zx_aload_n E 1 dd_Law_law_771 rfl rfl ?_
    refine zx_iload E 5 dd_Law_law_772 rfl ?_
    refine zx_iconst E (2 : Int32) dd_Law_law_774 (by decide) ?_
    refine zx_iadd E dd_Law_law_775 ?_
    refine zx_scald E hX dd_Law_law_776 ?_
    refine zx_i2l E dd_Law_law_777 ?_
    refine zx_bipush E (32 : Int32) dd_Law_law_778 (by decide) ?_
    refine zx_lshl E dd_Law_law_780 ?_
    refine zx_aload_n E 1 dd_Law_law_781 rfl rfl ?_
    refine zx_iload E 5 dd_Law_law_782 rfl ?_
    refine zx_iconst E (3 : Int32) dd_Law_law_784 (by decide) ?_
    refine zx_iadd E dd_Law_law_785 ?_
    refine zx_scald E hX dd_Law_law_786 ?_
    refine zx_i2l E dd_Law_law_787 ?_
    refine zx_ldc2 E (4294967295 : Int64) zw_1524 dd_Law_law_788 ?_
    refine zx_land E dd_Law_law_791 ?_
    refine zx_lor E dd_Law_law_792 ?_
    refine zx_callV_iw (T := zx_TRef) E [.int (xs (x4 + (1 : Int32)).toNatClampNeg), .long ((zx_clshl ((xs (x4 + (2 : Int32)).toNatClampNeg).toInt64) (32 : Int32)) ||| (((xs (x4 + (3 : Int32)).toNatClampNeg).toInt64) &&& (4294967295 : Int64)))] (fun rZ eZ => zt_Ref_make _ _ (xs (x4 + (1 : Int32)).toNatClampNeg) ((zx_clshl ((xs (x4 + (2 : Int32)).toNatClampNeg).toInt64) (32 : Int32)) ||| (((xs (x4 + (3 : Int32)).toNatClampNeg).toInt64) &&& (4294967295 : Int64))) r27.2 _ eZ) zg_24 Nat.zero_lt_one rfl zc_Law_111 ⟨by decide, by decide⟩ (by show _ ≤ 600128; omega) (by show _ ≤ 7301098; omega) rfl rfl (Nat.le_of_ble_eq_true rfl) dd_Law_law_793 (fun r28 => ?_)
    refine zx_istore E (lv1 := [(6, .int r28.1), (5, .int r27.1), (0, .ref b), (1, zx_rV (zx_BK B) 0 0), (2, zx_rV (zx_BK B) 24 0), (3, zx_rV (zx_BK B) 52 0), (4, .int x4)]) dd_Law_law_796 (by decide) rfl ?_
    refine zx_aload_n E 4 dd_Law_law_798 rfl rfl ?_
    refine zx_callV_i (T := zx_TRef) E [] (fun rZ eZ => zt_Ref_thrown _ _ r28.2 _ eZ) zg_24 Nat.zero_lt_one rfl zc_Law_74 ⟨by decide, by decide⟩ (by show _ ≤ 600128; omega) (by show _ ≤ 7301098; omega) rfl rfl (Nat.le_of_ble_eq_true rfl) dd_Law_law_799 (fun r29 => ?_)
    refine zx_iload E 1 dd_Law_law_802 rfl ?_
    refine zx_icmp_eq E 809 dd_Law_law_804 rfl ?_ ?_
    · refine zx_iconst E (0 : Int32) dd_Law_law_807 (by decide) ?_
      exact zx_lawF
    refine zx_iload E 1 dd_Law_law_809 rfl ?_
    refine zx_if_ne E 826 dd_Law_law_811 rfl ?_ ?_
    rotate_left
    · refine zx_sub [2, 3, 4, 5, 6] rfl ?_
      exact zj_Law_law_826 E hX hst k23 hk23 x4 r28.2 (c + 1)
    refine zx_aload_n E 5 dd_Law_law_814 rfl rfl ?_
    refine zx_iconst E (0 : Int32) dd_Law_law_815 (by decide) ?_
    refine zx_lald E zg_52 Nat.zero_lt_one dd_Law_law_816 ?_
    refine zx_iload E 0 dd_Law_law_817 rfl ?_
    refine zx_i2l E dd_Law_law_819 ?_
    refine zx_lcmp_eq E 826 dd_Law_law_820 dd_Law_law_821 rfl ?_ ?_
    · refine zx_iconst E (0 : Int32) dd_Law_law_824 (by decide) ?_
      exact zx_lawF
    refine zx_sub [2, 3, 4, 5, 6] rfl ?_
    exact zj_Law_law_826 E hX hst k23 hk23 x4 r28.2 (c + 1)
  · refine zx_aload_n E 1 dd_Law_law_829 rfl rfl ?_
    refine zx_aload_n E 0 dd_Law_law_830 rfl rfl ?_
    refine zx_iload E 4 dd_Law_law_831 rfl ?_
    refine zx_iconst E (1 : Int32) dd_Law_law_833 (by decide) ?_
    refine zx_iadd E dd_Law_law_834 ?_
    refine zx_scald E hX dd_Law_law_835 ?_
    refine zx_aload_n E 0 dd_Law_law_836 rfl rfl ?_
    refine zx_iload E 4 dd_Law_law_837 rfl ?_
    refine zx_iconst E (2 : Int32) dd_Law_law_839 (by decide) ?_
    refine zx_iadd E dd_Law_law_840 ?_
    refine zx_scald E hX dd_Law_law_841 ?_
    refine zx_aload_n E 0 dd_Law_law_842 rfl rfl ?_
    refine zx_iload E 4 dd_Law_law_843 rfl ?_
    refine zx_iconst E (3 : Int32) dd_Law_law_845 (by decide) ?_
    refine zx_iadd E dd_Law_law_846 ?_
    refine zx_scald E hX dd_Law_law_847 ?_
    refine zx_i2l E dd_Law_law_848 ?_
    refine zx_bipush E (32 : Int32) dd_Law_law_849 (by decide) ?_
    refine zx_lshl E dd_Law_law_851 ?_
    refine zx_aload_n E 0 dd_Law_law_852 rfl rfl ?_
    refine zx_iload E 4 dd_Law_law_853 rfl ?_
    refine zx_iconst E (4 : Int32) dd_Law_law_855 (by decide) ?_
    refine zx_iadd E dd_Law_law_856 ?_
    refine zx_scald E hX dd_Law_law_857 ?_
    refine zx_i2l E dd_Law_law_858 ?_
    refine zx_ldc2 E (4294967295 : Int64) zw_1524 dd_Law_law_859 ?_
    refine zx_land E dd_Law_law_862 ?_
    refine zx_lor E dd_Law_law_863 ?_
    refine zx_callV_zw (T := zx_TLoom) E [.int (xs (x4 + (1 : Int32)).toNatClampNeg), .int (xs (x4 + (2 : Int32)).toNatClampNeg), .long ((zx_clshl ((xs (x4 + (3 : Int32)).toNatClampNeg).toInt64) (32 : Int32)) ||| (((xs (x4 + (4 : Int32)).toNatClampNeg).toInt64) &&& (4294967295 : Int64)))] (fun rZ eZ => zt_Loom_put _ _ (xs (x4 + (1 : Int32)).toNatClampNeg) (xs (x4 + (2 : Int32)).toNatClampNeg) ((zx_clshl ((xs (x4 + (3 : Int32)).toNatClampNeg).toInt64) (32 : Int32)) ||| (((xs (x4 + (4 : Int32)).toNatClampNeg).toInt64) &&& (4294967295 : Int64))) h _ eZ) zg_0 Nat.zero_lt_one rfl zc_Law_112 ⟨by decide, by decide⟩ (by show _ ≤ 600128; omega) (by show _ ≤ 7301098; omega) rfl rfl (Nat.le_of_ble_eq_true rfl) dd_Law_law_864 (fun r30 => ?_)
    refine zx_aload_n E 2 dd_Law_law_867 rfl rfl ?_
    refine zx_aload_n E 0 dd_Law_law_868 rfl rfl ?_
    refine zx_iload E 4 dd_Law_law_869 rfl ?_
    refine zx_iconst E (1 : Int32) dd_Law_law_871 (by decide) ?_
    refine zx_iadd E dd_Law_law_872 ?_
    refine zx_scald E hX dd_Law_law_873 ?_
    refine zx_aload_n E 0 dd_Law_law_874 rfl rfl ?_
    refine zx_iload E 4 dd_Law_law_875 rfl ?_
    refine zx_iconst E (2 : Int32) dd_Law_law_877 (by decide) ?_
    refine zx_iadd E dd_Law_law_878 ?_
    refine zx_scald E hX dd_Law_law_879 ?_
    refine zx_aload_n E 0 dd_Law_law_880 rfl rfl ?_
    refine zx_iload E 4 dd_Law_law_881 rfl ?_
    refine zx_iconst E (3 : Int32) dd_Law_law_883 (by decide) ?_
    refine zx_iadd E dd_Law_law_884 ?_
    refine zx_scald E hX dd_Law_law_885 ?_
    refine zx_i2l E dd_Law_law_886 ?_
    refine zx_bipush E (32 : Int32) dd_Law_law_887 (by decide) ?_
    refine zx_lshl E dd_Law_law_889 ?_
    refine zx_aload_n E 0 dd_Law_law_890 rfl rfl ?_
    refine zx_iload E 4 dd_Law_law_891 rfl ?_
    refine zx_iconst E (4 : Int32) dd_Law_law_893 (by decide) ?_
    refine zx_iadd E dd_Law_law_894 ?_
    refine zx_scald E hX dd_Law_law_895 ?_
    refine zx_i2l E dd_Law_law_896 ?_
    refine zx_ldc2 E (4294967295 : Int64) zw_1524 dd_Law_law_897 ?_
    refine zx_land E dd_Law_law_900 ?_
    refine zx_lor E dd_Law_law_901 ?_
    refine zx_callV_zw (T := zx_TRef) E [.int (xs (x4 + (1 : Int32)).toNatClampNeg), .int (xs (x4 + (2 : Int32)).toNatClampNeg), .long ((zx_clshl ((xs (x4 + (3 : Int32)).toNatClampNeg).toInt64) (32 : Int32)) ||| (((xs (x4 + (4 : Int32)).toNatClampNeg).toInt64) &&& (4294967295 : Int64)))] (fun rZ eZ => zt_Ref_put _ _ (xs (x4 + (1 : Int32)).toNatClampNeg) (xs (x4 + (2 : Int32)).toNatClampNeg) ((zx_clshl ((xs (x4 + (3 : Int32)).toNatClampNeg).toInt64) (32 : Int32)) ||| (((xs (x4 + (4 : Int32)).toNatClampNeg).toInt64) &&& (4294967295 : Int64))) r30.2 _ eZ) zg_24 Nat.zero_lt_one rfl zc_Law_116 ⟨by decide, by decide⟩ (by show _ ≤ 600128; omega) (by show _ ≤ 7301098; omega) rfl rfl (Nat.le_of_ble_eq_true rfl) dd_Law_law_902 (fun r31 => ?_)
    refine zx_icmp_eq E 1138 dd_Law_law_905 rfl ?_ ?_
    rotate_left
    · exact zj_Law_law_1138 E hX hst k23 hk23 x4 r31.2 c
    refine zx_iconst E (0 : Int32) dd_Law_law_908 (by decide) ?_
    exact zx_lawF
  · refine zx_aload_n E 1 dd_Law_law_910 rfl rfl ?_
    refine zx_aload_n E 0 dd_Law_law_911 rfl rfl ?_
    refine zx_iload E 4 dd_Law_law_912 rfl ?_
    refine zx_iconst E (1 : Int32) dd_Law_law_914 (by decide) ?_
    refine zx_iadd E dd_Law_law_915 ?_
    refine zx_scald E hX dd_Law_law_916 ?_
    refine zx_aload_n E 0 dd_Law_law_917 rfl rfl ?_
    refine zx_iload E 4 dd_Law_law_918 rfl ?_
    refine zx_iconst E (2 : Int32) dd_Law_law_920 (by decide) ?_
    refine zx_iadd E dd_Law_law_921 ?_
    refine zx_scald E hX dd_Law_law_922 ?_
    refine zx_aload_n E 3 dd_Law_law_923 rfl rfl ?_
    refine zx_callH E [zx_rV (zx_BK B) 0 0, .int (xs (x4 + (1 : Int32)).toNatClampNeg), .int (xs (x4 + (2 : Int32)).toNatClampNeg), zx_rV (zx_BK B) 52 0] (fun rZ eZ => zt_Law_map _ hst _ (xs (x4 + (1 : Int32)).toNatClampNeg) (xs (x4 + (2 : Int32)).toNatClampNeg) h _ eZ) zch_Law_117 ⟨by decide, by decide⟩ (by show _ ≤ 600128; omega) (by show _ ≤ 7301098; omega) rfl rfl (Nat.le_of_ble_eq_true rfl) dd_Law_law_924 (fun r32 => ?_)
    refine zx_ckn (ck1 := 415 + (c + 1)) (cn1 := 47250 + 6 * (c + 1)) (by omega) (by omega) ?_
    refine zx_istore E (lv1 := [(5, .int r32.1), (0, .ref b), (1, zx_rV (zx_BK B) 0 0), (2, zx_rV (zx_BK B) 24 0), (3, zx_rV (zx_BK B) 52 0), (4, .int x4)]) dd_Law_law_927 (by decide) rfl ?_
    refine zx_aload_n E 3 dd_Law_law_929 rfl rfl ?_
    refine zx_aload_n E 1 dd_Law_law_930 rfl rfl ?_
    refine zx_iload E 5 dd_Law_law_931 rfl ?_
    refine zx_iconst E (1 : Int32) dd_Law_law_933 (by decide) ?_
    refine zx_iadd E dd_Law_law_934 ?_
    refine zx_scald E hX dd_Law_law_935 ?_
    refine zx_aload_n E 1 dd_Law_law_936 rfl rfl ?_
    refine zx_iload E 5 dd_Law_law_937 rfl ?_
    refine zx_iconst E (2 : Int32) dd_Law_law_939 (by decide) ?_
    refine zx_iadd E dd_Law_law_940 ?_
    refine zx_scald E hX dd_Law_law_941 ?_
    refine zx_callV_iw (T := zx_TRef) E [.int (xs (x4 + (1 : Int32)).toNatClampNeg), .int (xs (x4 + (2 : Int32)).toNatClampNeg)] (fun rZ eZ => zt_Ref_map _ _ (xs (x4 + (1 : Int32)).toNatClampNeg) (xs (x4 + (2 : Int32)).toNatClampNeg) r32.2 _ eZ) zg_24 Nat.zero_lt_one rfl zc_Law_119 ⟨by decide, by decide⟩ (by show _ ≤ 600128; omega) (by show _ ≤ 7301098; omega) rfl rfl (Nat.le_of_ble_eq_true rfl) dd_Law_law_942 (fun r33 => ?_)
    refine zx_istore E (lv1 := [(6, .int r33.1), (5, .int r32.1), (0, .ref b), (1, zx_rV (zx_BK B) 0 0), (2, zx_rV (zx_BK B) 24 0), (3, zx_rV (zx_BK B) 52 0), (4, .int x4)]) dd_Law_law_945 (by decide) rfl ?_
    refine zx_aload_n E 4 dd_Law_law_947 rfl rfl ?_
    refine zx_callV_i (T := zx_TRef) E [] (fun rZ eZ => zt_Ref_thrown _ _ r33.2 _ eZ) zg_24 Nat.zero_lt_one rfl zc_Law_74 ⟨by decide, by decide⟩ (by show _ ≤ 600128; omega) (by show _ ≤ 7301098; omega) rfl rfl (Nat.le_of_ble_eq_true rfl) dd_Law_law_948 (fun r34 => ?_)
    refine zx_iload E 1 dd_Law_law_951 rfl ?_
    refine zx_icmp_eq E 958 dd_Law_law_953 rfl ?_ ?_
    · refine zx_iconst E (0 : Int32) dd_Law_law_956 (by decide) ?_
      exact zx_lawF
    refine zx_iload E 1 dd_Law_law_958 rfl ?_
    refine zx_if_ne E 975 dd_Law_law_960 rfl ?_ ?_
    rotate_left
    · refine zx_sub [2, 3, 4, 5, 6] rfl ?_
      exact zj_Law_law_975 E hX hst k23 hk23 x4 r33.2 (c + 1)
    refine zx_aload_n E 5 dd_Law_law_963 rfl rfl ?_
    refine zx_iconst E (0 : Int32) dd_Law_law_964 (by decide) ?_
    refine zx_lald E zg_52 Nat.zero_lt_one dd_Law_law_965 ?_
    refine zx_iload E 0 dd_Law_law_966 rfl ?_
    refine zx_i2l E dd_Law_law_968 ?_
    refine zx_lcmp_eq E 975 dd_Law_law_969 dd_Law_law_970 rfl ?_ ?_
    · refine zx_iconst E (0 : Int32) dd_Law_law_973 (by decide) ?_
      exact zx_lawF
    refine zx_sub [2, 3, 4, 5, 6] rfl ?_
    exact zj_Law_law_975 E hX hst k23 hk23 x4 r33.2 (c + 1)
  · refine zx_aload_n E 1 dd_Law_law_978 rfl rfl ?_
    refine zx_aload_n E 0 dd_Law_law_979 rfl rfl ?_
    refine zx_iload E 4 dd_Law_law_980 rfl ?_
    refine zx_iconst E (1 : Int32) dd_Law_law_982 (by decide) ?_
    refine zx_iadd E dd_Law_law_983 ?_
    refine zx_scald E hX dd_Law_law_984 ?_
    refine zx_aload_n E 0 dd_Law_law_985 rfl rfl ?_
    refine zx_iload E 4 dd_Law_law_986 rfl ?_
    refine zx_iconst E (2 : Int32) dd_Law_law_988 (by decide) ?_
    refine zx_iadd E dd_Law_law_989 ?_
    refine zx_scald E hX dd_Law_law_990 ?_
    refine zx_aload_n E 3 dd_Law_law_991 rfl rfl ?_
    refine zx_callH E [zx_rV (zx_BK B) 0 0, .int (xs (x4 + (1 : Int32)).toNatClampNeg), .int (xs (x4 + (2 : Int32)).toNatClampNeg), zx_rV (zx_BK B) 52 0] (fun rZ eZ => zt_Law_get _ hst _ (xs (x4 + (1 : Int32)).toNatClampNeg) (xs (x4 + (2 : Int32)).toNatClampNeg) h _ eZ) zch_Law_120 ⟨by decide, by decide⟩ (by show _ ≤ 600128; omega) (by show _ ≤ 7301098; omega) rfl rfl (Nat.le_of_ble_eq_true rfl) dd_Law_law_992 (fun r35 => ?_)
    refine zx_ckn (ck1 := 415 + (c + 1)) (cn1 := 47250 + 6 * (c + 1)) (by omega) (by omega) ?_
    refine zx_istore E (lv1 := [(5, .int r35.1), (0, .ref b), (1, zx_rV (zx_BK B) 0 0), (2, zx_rV (zx_BK B) 24 0), (3, zx_rV (zx_BK B) 52 0), (4, .int x4)]) dd_Law_law_995 (by decide) rfl ?_
    refine zx_aload_n E 3 dd_Law_law_997 rfl rfl ?_
    refine zx_aload_n E 1 dd_Law_law_998 rfl rfl ?_
    refine zx_iload E 5 dd_Law_law_999 rfl ?_
    refine zx_iconst E (1 : Int32) dd_Law_law_1001 (by decide) ?_
    refine zx_iadd E dd_Law_law_1002 ?_
    refine zx_scald E hX dd_Law_law_1003 ?_
    refine zx_aload_n E 1 dd_Law_law_1004 rfl rfl ?_
    refine zx_iload E 5 dd_Law_law_1005 rfl ?_
    refine zx_iconst E (2 : Int32) dd_Law_law_1007 (by decide) ?_
    refine zx_iadd E dd_Law_law_1008 ?_
    refine zx_scald E hX dd_Law_law_1009 ?_
    refine zx_callV_lw (T := zx_TRef) E [.int (xs (x4 + (1 : Int32)).toNatClampNeg), .int (xs (x4 + (2 : Int32)).toNatClampNeg)] (fun rZ eZ => zt_Ref_get _ _ (xs (x4 + (1 : Int32)).toNatClampNeg) (xs (x4 + (2 : Int32)).toNatClampNeg) r35.2 _ eZ) zg_24 Nat.zero_lt_one rfl zc_Law_122 ⟨by decide, by decide⟩ (by show _ ≤ 600128; omega) (by show _ ≤ 7301098; omega) rfl rfl (Nat.le_of_ble_eq_true rfl) dd_Law_law_1010 (fun r36 => ?_)
    refine zx_lstore E (lv1 := [(6, .long r36.1), (5, .int r35.1), (0, .ref b), (1, zx_rV (zx_BK B) 0 0), (2, zx_rV (zx_BK B) 24 0), (3, zx_rV (zx_BK B) 52 0), (4, .int x4)]) dd_Law_law_1013 (by decide) rfl ?_
    refine zx_aload_n E 4 dd_Law_law_1015 rfl rfl ?_
    refine zx_callV_i (T := zx_TRef) E [] (fun rZ eZ => zt_Ref_thrown _ _ r36.2 _ eZ) zg_24 Nat.zero_lt_one rfl zc_Law_74 ⟨by decide, by decide⟩ (by show _ ≤ 600128; omega) (by show _ ≤ 7301098; omega) rfl rfl (Nat.le_of_ble_eq_true rfl) dd_Law_law_1016 (fun r37 => ?_)
    refine zx_iload E 1 dd_Law_law_1019 rfl ?_
    refine zx_icmp_eq E 1026 dd_Law_law_1021 rfl ?_ ?_
    · refine zx_iconst E (0 : Int32) dd_Law_law_1024 (by decide) ?_
      exact zx_lawF
    refine zx_iload E 1 dd_Law_law_1026 rfl ?_
    refine zx_if_ne E 1042 dd_Law_law_1028 rfl ?_ ?_
    rotate_left
    · refine zx_sub [2, 3, 4, 5, 6] rfl ?_
      exact zj_Law_law_1042 E hX hst k23 hk23 x4 r36.2 (c + 1)
    refine zx_aload_n E 5 dd_Law_law_1031 rfl rfl ?_
    refine zx_iconst E (0 : Int32) dd_Law_law_1032 (by decide) ?_
    refine zx_lald E zg_52 Nat.zero_lt_one dd_Law_law_1033 ?_
    refine zx_lload E 0 dd_Law_law_1034 rfl ?_
    refine zx_lcmp_eq E 1042 dd_Law_law_1036 dd_Law_law_1037 rfl ?_ ?_
    · refine zx_iconst E (0 : Int32) dd_Law_law_1040 (by decide) ?_
      exact zx_lawF
    refine zx_sub [2, 3, 4, 5, 6] rfl ?_
    exact zj_Law_law_1042 E hX hst k23 hk23 x4 r36.2 (c + 1)
  · refine zx_aload_n E 1 dd_Law_law_1045 rfl rfl ?_
    refine zx_aload_n E 0 dd_Law_law_1046 rfl rfl ?_
    refine zx_iload E 4 dd_Law_law_1047 rfl ?_
    refine zx_iconst E (1 : Int32) dd_Law_law_1049 (by decide) ?_
    refine zx_iadd E dd_Law_law_1050 ?_
    refine zx_scald E hX dd_Law_law_1051 ?_
    refine zx_aload_n E 0 dd_Law_law_1052 rfl rfl ?_
    refine zx_iload E 4 dd_Law_law_1053 rfl ?_
    refine zx_iconst E (2 : Int32) dd_Law_law_1055 (by decide) ?_
    refine zx_iadd E dd_Law_law_1056 ?_
    refine zx_scald E hX dd_Law_law_1057 ?_
    refine zx_aload_n E 3 dd_Law_law_1058 rfl rfl ?_
    refine zx_callH E [zx_rV (zx_BK B) 0 0, .int (xs (x4 + (1 : Int32)).toNatClampNeg), .int (xs (x4 + (2 : Int32)).toNatClampNeg), zx_rV (zx_BK B) 52 0] (fun rZ eZ => zt_Law_about _ hst _ (xs (x4 + (1 : Int32)).toNatClampNeg) (xs (x4 + (2 : Int32)).toNatClampNeg) h _ eZ) zch_Law_123 ⟨by decide, by decide⟩ (by show _ ≤ 600128; omega) (by show _ ≤ 7301098; omega) rfl rfl (Nat.le_of_ble_eq_true rfl) dd_Law_law_1059 (fun r38 => ?_)
    refine zx_ckn (ck1 := 415 + (c + 1)) (cn1 := 47250 + 6 * (c + 1)) (by omega) (by omega) ?_
    refine zx_istore E (lv1 := [(5, .int r38.1), (0, .ref b), (1, zx_rV (zx_BK B) 0 0), (2, zx_rV (zx_BK B) 24 0), (3, zx_rV (zx_BK B) 52 0), (4, .int x4)]) dd_Law_law_1062 (by decide) rfl ?_
    refine zx_aload_n E 3 dd_Law_law_1064 rfl rfl ?_
    refine zx_aload_n E 1 dd_Law_law_1065 rfl rfl ?_
    refine zx_iload E 5 dd_Law_law_1066 rfl ?_
    refine zx_iconst E (1 : Int32) dd_Law_law_1068 (by decide) ?_
    refine zx_iadd E dd_Law_law_1069 ?_
    refine zx_scald E hX dd_Law_law_1070 ?_
    refine zx_aload_n E 1 dd_Law_law_1071 rfl rfl ?_
    refine zx_iload E 5 dd_Law_law_1072 rfl ?_
    refine zx_iconst E (2 : Int32) dd_Law_law_1074 (by decide) ?_
    refine zx_iadd E dd_Law_law_1075 ?_
    refine zx_scald E hX dd_Law_law_1076 ?_
    refine zx_callV_iw (T := zx_TRef) E [.int (xs (x4 + (1 : Int32)).toNatClampNeg), .int (xs (x4 + (2 : Int32)).toNatClampNeg)] (fun rZ eZ => zt_Ref_about _ _ (xs (x4 + (1 : Int32)).toNatClampNeg) (xs (x4 + (2 : Int32)).toNatClampNeg) r38.2 _ eZ) zg_24 Nat.zero_lt_one rfl zc_Law_125 ⟨by decide, by decide⟩ (by show _ ≤ 600128; omega) (by show _ ≤ 7301098; omega) rfl rfl (Nat.le_of_ble_eq_true rfl) dd_Law_law_1077 (fun r39 => ?_)
    refine zx_istore E (lv1 := [(6, .int r39.1), (5, .int r38.1), (0, .ref b), (1, zx_rV (zx_BK B) 0 0), (2, zx_rV (zx_BK B) 24 0), (3, zx_rV (zx_BK B) 52 0), (4, .int x4)]) dd_Law_law_1080 (by decide) rfl ?_
    refine zx_aload_n E 4 dd_Law_law_1082 rfl rfl ?_
    refine zx_callV_i (T := zx_TRef) E [] (fun rZ eZ => zt_Ref_thrown _ _ r39.2 _ eZ) zg_24 Nat.zero_lt_one rfl zc_Law_74 ⟨by decide, by decide⟩ (by show _ ≤ 600128; omega) (by show _ ≤ 7301098; omega) rfl rfl (Nat.le_of_ble_eq_true rfl) dd_Law_law_1083 (fun r40 => ?_)
    refine zx_iload E 1 dd_Law_law_1086 rfl ?_
    refine zx_icmp_eq E 1093 dd_Law_law_1088 rfl ?_ ?_
    · refine zx_iconst E (0 : Int32) dd_Law_law_1091 (by decide) ?_
      exact zx_lawF
    refine zx_iload E 1 dd_Law_law_1093 rfl ?_
    refine zx_if_ne E 1110 dd_Law_law_1095 rfl ?_ ?_
    rotate_left
    · refine zx_sub [2, 3, 4, 5, 6] rfl ?_
      exact zj_Law_law_1110 E hX hst k23 hk23 x4 r39.2 (c + 1)
    refine zx_aload_n E 5 dd_Law_law_1098 rfl rfl ?_
    refine zx_iconst E (0 : Int32) dd_Law_law_1099 (by decide) ?_
    refine zx_lald E zg_52 Nat.zero_lt_one dd_Law_law_1100 ?_
    refine zx_iload E 0 dd_Law_law_1101 rfl ?_
    refine zx_i2l E dd_Law_law_1103 ?_
    refine zx_lcmp_eq E 1110 dd_Law_law_1104 dd_Law_law_1105 rfl ?_ ?_
    · refine zx_iconst E (0 : Int32) dd_Law_law_1108 (by decide) ?_
      exact zx_lawF
    refine zx_sub [2, 3, 4, 5, 6] rfl ?_
    exact zj_Law_law_1110 E hX hst k23 hk23 x4 r39.2 (c + 1)
  · refine zx_aload_n E 1 dd_Law_law_1113 rfl rfl ?_
    refine zx_aload_n E 0 dd_Law_law_1114 rfl rfl ?_
    refine zx_iload E 4 dd_Law_law_1115 rfl ?_
    refine zx_iconst E (1 : Int32) dd_Law_law_1117 (by decide) ?_
    refine zx_iadd E dd_Law_law_1118 ?_
    refine zx_scald E hX dd_Law_law_1119 ?_
    refine zx_callV_i (T := zx_TLoom) E [.int (xs (x4 + (1 : Int32)).toNatClampNeg)] (fun rZ eZ => zt_Loom_count _ _ (xs (x4 + (1 : Int32)).toNatClampNeg) h _ eZ) zg_0 Nat.zero_lt_one rfl zc_Law_126 ⟨by decide, by decide⟩ (by show _ ≤ 600128; omega) (by show _ ≤ 7301098; omega) rfl rfl (Nat.le_of_ble_eq_true rfl) dd_Law_law_1120 (fun r41 => ?_)
    refine zx_aload_n E 2 dd_Law_law_1123 rfl rfl ?_
    refine zx_aload_n E 0 dd_Law_law_1124 rfl rfl ?_
    refine zx_iload E 4 dd_Law_law_1125 rfl ?_
    refine zx_iconst E (1 : Int32) dd_Law_law_1127 (by decide) ?_
    refine zx_iadd E dd_Law_law_1128 ?_
    refine zx_scald E hX dd_Law_law_1129 ?_
    refine zx_callV_iw (T := zx_TRef) E [.int (xs (x4 + (1 : Int32)).toNatClampNeg)] (fun rZ eZ => zt_Ref_count _ _ (xs (x4 + (1 : Int32)).toNatClampNeg) h _ eZ) zg_24 Nat.zero_lt_one rfl zc_Law_129 ⟨by decide, by decide⟩ (by show _ ≤ 600128; omega) (by show _ ≤ 7301098; omega) rfl rfl (Nat.le_of_ble_eq_true rfl) dd_Law_law_1130 (fun r42 => ?_)
    refine zx_icmp_eq E 1138 dd_Law_law_1133 rfl ?_ ?_
    rotate_left
    · exact zj_Law_law_1138 E hX hst k23 hk23 x4 r42.2 c
    refine zx_iconst E (0 : Int32) dd_Law_law_1136 (by decide) ?_
    exact zx_lawF
theorem zj_Law_law_23 {B : zx_B} {L : Nat} {xs : Nat → Int32} (E : zx_E B zm_Law_law) {b : Nat} (hX : zx_LX B b L xs) (hst : (zx_Bl B).stackTraces = false)  : ∀ (x4 : Int32) (h : zx_H) (c : Nat), zx_X B zm_Law_law (zx_QL B ) (zs_Law_law_L23 L xs  x4 h c) (415 + c) (47250 + 6 * c) 23 [(0, .ref b), (1, zx_rV (zx_BK B) 0 0), (2, zx_rV (zx_BK B) 24 0), (3, zx_rV (zx_BK B) 52 0), (4, .int x4)] [] h := by
  unfold zs_Law_law_L23
  generalize zx_fuel = n
  induction n with
  | zero => intros; exact zx_non
  | succ n ih => intro x4 h c; exact zb_Law_law_23 E hX hst  _ ih x4 h c
