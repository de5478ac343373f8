section ZXR
variable {B : zx_B} {M : zx_M} {α : Type} {Qf : α → State → Prop} {sem : Option α} {ck cn pc : Nat} {lv : List (Nat × Value)} {st : List Value} {h : zx_H}

theorem zx_iconst (E : zx_E B M) {n : Int} (v : Int32) (hd : decode M.1 pc = .ok (.iconst n, 1)) (hv : Int32.ofInt n = v) (Kc : zx_X B M Qf sem ck cn (pc + 1) lv (.int v :: st) h) : zx_X B M Qf sem ck cn pc lv st h := by
  obtain ⟨p, l, e, s, m, args, below, meth, c, K⟩ := B
  obtain ⟨cc, nL, own, ret, R⟩ := M
  obtain ⟨hx, hb, hml, hown, hts, hr, hlk, hok, hn, hK, hS0⟩ := E
  intro a ha H locs ls hP hS hl0
  exact lv_iconst hx hb hd hv (Kc a ha H locs ls hP hS hl0)

theorem zx_bipush (E : zx_E B M) {n : Int} (v : Int32) (hd : decode M.1 pc = .ok (.bipush n, 2)) (hv : (Int8.ofInt n).toInt32 = v) (Kc : zx_X B M Qf sem ck cn (pc + 2) lv (.int v :: st) h) : zx_X B M Qf sem ck cn pc lv st h := by
  obtain ⟨p, l, e, s, m, args, below, meth, c, K⟩ := B
  obtain ⟨cc, nL, own, ret, R⟩ := M
  obtain ⟨hx, hb, hml, hown, hts, hr, hlk, hok, hn, hK, hS0⟩ := E
  intro a ha H locs ls hP hS hl0
  exact lv_bipush hx hb hd hv (Kc a ha H locs ls hP hS hl0)

theorem zx_sipush (E : zx_E B M) {n : Int} (v : Int32) (hd : decode M.1 pc = .ok (.sipush n, 3)) (hv : (Int16.ofInt n).toInt32 = v) (Kc : zx_X B M Qf sem ck cn (pc + 3) lv (.int v :: st) h) : zx_X B M Qf sem ck cn pc lv st h := by
  obtain ⟨p, l, e, s, m, args, below, meth, c, K⟩ := B
  obtain ⟨cc, nL, own, ret, R⟩ := M
  obtain ⟨hx, hb, hml, hown, hts, hr, hlk, hok, hn, hK, hS0⟩ := E
  intro a ha H locs ls hP hS hl0
  exact lv_sipush hx hb hd hv (Kc a ha H locs ls hP hS hl0)

theorem zx_lconst (E : zx_E B M) {n : Fin 2} (v : Int64) (hd : decode M.1 pc = .ok (.lconst n, 1)) (hv : Int64.ofNat (n : Nat) = v) (Kc : zx_X B M Qf sem ck cn (pc + 1) lv (.long v :: st) h) : zx_X B M Qf sem ck cn pc lv st h := by
  obtain ⟨p, l, e, s, m, args, below, meth, c, K⟩ := B
  obtain ⟨cc, nL, own, ret, R⟩ := M
  obtain ⟨hx, hb, hml, hown, hts, hr, hlk, hok, hn, hK, hS0⟩ := E
  intro a ha H locs ls hP hS hl0
  exact lv_lconst hx hb hd hv (Kc a ha H locs ls hP hS hl0)

theorem zx_ldc2 (E : zx_E B M) {index : Nat} (v : Int64) (hw : Cond.constantLong M.2.2.1 index v ∈ zx_G) (hd : decode M.1 pc = .ok (.ldc2_w index, 3)) (Kc : zx_X B M Qf sem ck cn (pc + 3) lv (.long v :: st) h) : zx_X B M Qf sem ck cn pc lv st h := by
  obtain ⟨p, l, e, s, m, args, below, meth, c, K⟩ := B
  obtain ⟨cc, nL, own, ret, R⟩ := M
  obtain ⟨hx, hb, hml, hown, hts, hr, hlk, hok, hn, hK, hS0⟩ := E
  intro a ha H locs ls hP hS hl0
  exact lv_ldc2 hx hb hown (hts _ hw) hd (Kc a ha H locs ls hP hS hl0)

theorem zx_iload (E : zx_E B M) (k : Nat) {i : Nat} {x : Int32} (hd : decode M.1 pc = .ok (.iload i, 2)) (hl : lv[k]? = some (i, .int x)) (Kc : zx_X B M Qf sem ck cn (pc + 2) lv (.int x :: st) h) : zx_X B M Qf sem ck cn pc lv st h := by
  obtain ⟨p, l, e, s, m, args, below, meth, c, K⟩ := B
  obtain ⟨cc, nL, own, ret, R⟩ := M
  obtain ⟨hx, hb, hml, hown, hts, hr, hlk, hok, hn, hK, hS0⟩ := E
  intro a ha H locs ls hP hS hl0
  exact lv_iload hx hb hd (lv_at hl0 k hl) (Kc a ha H locs ls hP hS hl0)

theorem zx_iload_n (E : zx_E B M) (k : Nat) {q : Fin 4} {i : Nat} {x : Int32} (hd : decode M.1 pc = .ok (.iload_n q, 1)) (hi : (q : Nat) = i) (hl : lv[k]? = some (i, .int x)) (Kc : zx_X B M Qf sem ck cn (pc + 1) lv (.int x :: st) h) : zx_X B M Qf sem ck cn pc lv st h := by
  obtain ⟨p, l, e, s, m, args, below, meth, c, K⟩ := B
  obtain ⟨cc, nL, own, ret, R⟩ := M
  obtain ⟨hx, hb, hml, hown, hts, hr, hlk, hok, hn, hK, hS0⟩ := E
  intro a ha H locs ls hP hS hl0
  exact lv_iload_n hx hb hd hi (lv_at hl0 k hl) (Kc a ha H locs ls hP hS hl0)

theorem zx_lload (E : zx_E B M) (k : Nat) {i : Nat} {x : Int64} (hd : decode M.1 pc = .ok (.lload i, 2)) (hl : lv[k]? = some (i, .long x)) (Kc : zx_X B M Qf sem ck cn (pc + 2) lv (.long x :: st) h) : zx_X B M Qf sem ck cn pc lv st h := by
  obtain ⟨p, l, e, s, m, args, below, meth, c, K⟩ := B
  obtain ⟨cc, nL, own, ret, R⟩ := M
  obtain ⟨hx, hb, hml, hown, hts, hr, hlk, hok, hn, hK, hS0⟩ := E
  intro a ha H locs ls hP hS hl0
  exact lv_lload hx hb hd (lv_at hl0 k hl) (Kc a ha H locs ls hP hS hl0)

theorem zx_lload_n (E : zx_E B M) (k : Nat) {q : Fin 4} {i : Nat} {x : Int64} (hd : decode M.1 pc = .ok (.lload_n q, 1)) (hi : (q : Nat) = i) (hl : lv[k]? = some (i, .long x)) (Kc : zx_X B M Qf sem ck cn (pc + 1) lv (.long x :: st) h) : zx_X B M Qf sem ck cn pc lv st h := by
  obtain ⟨p, l, e, s, m, args, below, meth, c, K⟩ := B
  obtain ⟨cc, nL, own, ret, R⟩ := M
  obtain ⟨hx, hb, hml, hown, hts, hr, hlk, hok, hn, hK, hS0⟩ := E
  intro a ha H locs ls hP hS hl0
  exact lv_lload_n hx hb hd hi (lv_at hl0 k hl) (Kc a ha H locs ls hP hS hl0)

theorem zx_aload (E : zx_E B M) (k : Nat) {i x : Nat} (hd : decode M.1 pc = .ok (.aload i, 2)) (hl : lv[k]? = some (i, .ref x)) (Kc : zx_X B M Qf sem ck cn (pc + 2) lv (.ref x :: st) h) : zx_X B M Qf sem ck cn pc lv st h := by
  obtain ⟨p, l, e, s, m, args, below, meth, c, K⟩ := B
  obtain ⟨cc, nL, own, ret, R⟩ := M
  obtain ⟨hx, hb, hml, hown, hts, hr, hlk, hok, hn, hK, hS0⟩ := E
  intro a ha H locs ls hP hS hl0
  exact lv_aload hx hb hd (lv_at hl0 k hl) (Kc a ha H locs ls hP hS hl0)

theorem zx_aload_n (E : zx_E B M) (k : Nat) {q : Fin 4} {i x : Nat} (hd : decode M.1 pc = .ok (.aload_n q, 1)) (hi : (q : Nat) = i) (hl : lv[k]? = some (i, .ref x)) (Kc : zx_X B M Qf sem ck cn (pc + 1) lv (.ref x :: st) h) : zx_X B M Qf sem ck cn pc lv st h := by
  obtain ⟨p, l, e, s, m, args, below, meth, c, K⟩ := B
  obtain ⟨cc, nL, own, ret, R⟩ := M
  obtain ⟨hx, hb, hml, hown, hts, hr, hlk, hok, hn, hK, hS0⟩ := E
  intro a ha H locs ls hP hS hl0
  exact lv_aload_n hx hb hd hi (lv_at hl0 k hl) (Kc a ha H locs ls hP hS hl0)

theorem zx_istore (E : zx_E B M) {i : Nat} {x : Int32} (lv1 : List (Nat × Value)) (hd : decode M.1 pc = .ok (.istore i, 2)) (hn : i < M.2.1) (hl : (i, Value.int x) :: lv.filter (fun q => !(q.1 == i) && !(q.1 + 1 == i && q.2.category == 2)) = lv1) (Kc : zx_X B M Qf sem ck cn (pc + 2) lv1 st h) : zx_X B M Qf sem ck cn pc lv (.int x :: st) h := by
  obtain ⟨p, l, e, s, m, args, below, meth, c, K⟩ := B
  obtain ⟨cc, nL, own, ret, R⟩ := M
  obtain ⟨hx, hb, hml, hown, hts, hr, hlk, hok, hn9, hK, hS0⟩ := E
  intro a ha H locs ls hP hS hl0
  exact lv_istore hx hb hd hl0 hn hl (fun ls hl0 => (Kc a ha H locs ls hP hS hl0))

theorem zx_istore_n (E : zx_E B M) {i : Nat} {q : Fin 4} {x : Int32} (lv1 : List (Nat × Value)) (hd : decode M.1 pc = .ok (.istore_n q, 1)) (hi : (q : Nat) = i) (hn : i < M.2.1) (hl : (i, Value.int x) :: lv.filter (fun q => !(q.1 == i) && !(q.1 + 1 == i && q.2.category == 2)) = lv1) (Kc : zx_X B M Qf sem ck cn (pc + 1) lv1 st h) : zx_X B M Qf sem ck cn pc lv (.int x :: st) h := by
  obtain ⟨p, l, e, s, m, args, below, meth, c, K⟩ := B
  obtain ⟨cc, nL, own, ret, R⟩ := M
  obtain ⟨hx, hb, hml, hown, hts, hr, hlk, hok, hn9, hK, hS0⟩ := E
  intro a ha H locs ls hP hS hl0
  exact lv_istore_n hx hb hd hi hl0 hn hl (fun ls hl0 => (Kc a ha H locs ls hP hS hl0))

theorem zx_lstore (E : zx_E B M) {i : Nat} {x : Int64} (lv1 : List (Nat × Value)) (hd : decode M.1 pc = .ok (.lstore i, 2)) (hn : i + 1 < M.2.1) (hl : (i, Value.long x) :: lv.filter (fun q => !(q.1 == i) && (!(q.1 == i + 1) && !(q.1 + 1 == i && q.2.category == 2))) = lv1) (Kc : zx_X B M Qf sem ck cn (pc + 2) lv1 st h) : zx_X B M Qf sem ck cn pc lv (.long x :: st) h := by
  obtain ⟨p, l, e, s, m, args, below, meth, c, K⟩ := B
  obtain ⟨cc, nL, own, ret, R⟩ := M
  obtain ⟨hx, hb, hml, hown, hts, hr, hlk, hok, hn9, hK, hS0⟩ := E
  intro a ha H locs ls hP hS hl0
  exact lv_lstore hx hb hd hl0 hn hl (fun ls hl0 => (Kc a ha H locs ls hP hS hl0))

theorem zx_lstore_n (E : zx_E B M) {i : Nat} {q : Fin 4} {x : Int64} (lv1 : List (Nat × Value)) (hd : decode M.1 pc = .ok (.lstore_n q, 1)) (hi : (q : Nat) = i) (hn : i + 1 < M.2.1) (hl : (i, Value.long x) :: lv.filter (fun q => !(q.1 == i) && (!(q.1 == i + 1) && !(q.1 + 1 == i && q.2.category == 2))) = lv1) (Kc : zx_X B M Qf sem ck cn (pc + 1) lv1 st h) : zx_X B M Qf sem ck cn pc lv (.long x :: st) h := by
  obtain ⟨p, l, e, s, m, args, below, meth, c, K⟩ := B
  obtain ⟨cc, nL, own, ret, R⟩ := M
  obtain ⟨hx, hb, hml, hown, hts, hr, hlk, hok, hn9, hK, hS0⟩ := E
  intro a ha H locs ls hP hS hl0
  exact lv_lstore_n hx hb hd hi hl0 hn hl (fun ls hl0 => (Kc a ha H locs ls hP hS hl0))

theorem zx_astore (E : zx_E B M) {i : Nat} {x : Nat} (lv1 : List (Nat × Value)) (hd : decode M.1 pc = .ok (.astore i, 2)) (hn : i < M.2.1) (hl : (i, Value.ref x) :: lv.filter (fun q => !(q.1 == i) && !(q.1 + 1 == i && q.2.category == 2)) = lv1) (Kc : zx_X B M Qf sem ck cn (pc + 2) lv1 st h) : zx_X B M Qf sem ck cn pc lv (.ref x :: st) h := by
  obtain ⟨p, l, e, s, m, args, below, meth, c, K⟩ := B
  obtain ⟨cc, nL, own, ret, R⟩ := M
  obtain ⟨hx, hb, hml, hown, hts, hr, hlk, hok, hn9, hK, hS0⟩ := E
  intro a ha H locs ls hP hS hl0
  exact lv_astore hx hb hd hl0 hn hl (fun ls hl0 => (Kc a ha H locs ls hP hS hl0))

theorem zx_astore_n (E : zx_E B M) {i : Nat} {q : Fin 4} {x : Nat} (lv1 : List (Nat × Value)) (hd : decode M.1 pc = .ok (.astore_n q, 1)) (hi : (q : Nat) = i) (hn : i < M.2.1) (hl : (i, Value.ref x) :: lv.filter (fun q => !(q.1 == i) && !(q.1 + 1 == i && q.2.category == 2)) = lv1) (Kc : zx_X B M Qf sem ck cn (pc + 1) lv1 st h) : zx_X B M Qf sem ck cn pc lv (.ref x :: st) h := by
  obtain ⟨p, l, e, s, m, args, below, meth, c, K⟩ := B
  obtain ⟨cc, nL, own, ret, R⟩ := M
  obtain ⟨hx, hb, hml, hown, hts, hr, hlk, hok, hn9, hK, hS0⟩ := E
  intro a ha H locs ls hP hS hl0
  exact lv_astore_n hx hb hd hi hl0 hn hl (fun ls hl0 => (Kc a ha H locs ls hP hS hl0))

theorem zx_iinc (E : zx_E B M) (k : Nat) {i : Nat} {n : Int} {x : Int32} (v : Int32) (lv1 : List (Nat × Value)) (hd : decode M.1 pc = .ok (.iinc i n, 3)) (hk : lv[k]? = some (i, .int x)) (hv : x + Int32.ofInt n = v) (hn : i < M.2.1) (hl : (i, Value.int v) :: lv.filter (fun q => !(q.1 == i) && !(q.1 + 1 == i && q.2.category == 2)) = lv1) (Kc : zx_X B M Qf sem ck cn (pc + 3) lv1 st h) : zx_X B M Qf sem ck cn pc lv st h := by
  obtain ⟨p, l, e, s, m, args, below, meth, c, K⟩ := B
  obtain ⟨cc, nL, own, ret, R⟩ := M
  obtain ⟨hx, hb, hml, hown, hts, hr, hlk, hok, hn9, hK, hS0⟩ := E
  intro a ha H locs ls hP hS hl0
  exact lv_iinc hx hb hd hl0 hk hv hn hl (fun ls hl0 => (Kc a ha H locs ls hP hS hl0))

theorem zx_iadd (E : zx_E B M) {x y : Int32} (hd : decode M.1 pc = .ok (.iadd, 1)) (Kc : zx_X B M Qf sem ck cn (pc + 1) lv (.int (x + y) :: st) h) : zx_X B M Qf sem ck cn pc lv (.int y :: .int x :: st) h := by
  obtain ⟨p, l, e, s, m, args, below, meth, c, K⟩ := B
  obtain ⟨cc, nL, own, ret, R⟩ := M
  obtain ⟨hx, hb, hml, hown, hts, hr, hlk, hok, hn, hK, hS0⟩ := E
  intro a ha H locs ls hP hS hl0
  exact lv_iadd hx hb hd (Kc a ha H locs ls hP hS hl0)

theorem zx_isub (E : zx_E B M) {x y : Int32} (hd : decode M.1 pc = .ok (.isub, 1)) (Kc : zx_X B M Qf sem ck cn (pc + 1) lv (.int (x - y) :: st) h) : zx_X B M Qf sem ck cn pc lv (.int y :: .int x :: st) h := by
  obtain ⟨p, l, e, s, m, args, below, meth, c, K⟩ := B
  obtain ⟨cc, nL, own, ret, R⟩ := M
  obtain ⟨hx, hb, hml, hown, hts, hr, hlk, hok, hn, hK, hS0⟩ := E
  intro a ha H locs ls hP hS hl0
  exact lv_isub hx hb hd (Kc a ha H locs ls hP hS hl0)

theorem zx_imul (E : zx_E B M) {x y : Int32} (hd : decode M.1 pc = .ok (.imul, 1)) (Kc : zx_X B M Qf sem ck cn (pc + 1) lv (.int (x * y) :: st) h) : zx_X B M Qf sem ck cn pc lv (.int y :: .int x :: st) h := by
  obtain ⟨p, l, e, s, m, args, below, meth, c, K⟩ := B
  obtain ⟨cc, nL, own, ret, R⟩ := M
  obtain ⟨hx, hb, hml, hown, hts, hr, hlk, hok, hn, hK, hS0⟩ := E
  intro a ha H locs ls hP hS hl0
  exact lv_imul hx hb hd (Kc a ha H locs ls hP hS hl0)

theorem zx_iand (E : zx_E B M) {x y : Int32} (hd : decode M.1 pc = .ok (.iand, 1)) (Kc : zx_X B M Qf sem ck cn (pc + 1) lv (.int (x &&& y) :: st) h) : zx_X B M Qf sem ck cn pc lv (.int y :: .int x :: st) h := by
  obtain ⟨p, l, e, s, m, args, below, meth, c, K⟩ := B
  obtain ⟨cc, nL, own, ret, R⟩ := M
  obtain ⟨hx, hb, hml, hown, hts, hr, hlk, hok, hn, hK, hS0⟩ := E
  intro a ha H locs ls hP hS hl0
  exact lv_iand hx hb hd (Kc a ha H locs ls hP hS hl0)

theorem zx_ior (E : zx_E B M) {x y : Int32} (hd : decode M.1 pc = .ok (.ior, 1)) (Kc : zx_X B M Qf sem ck cn (pc + 1) lv (.int (x ||| y) :: st) h) : zx_X B M Qf sem ck cn pc lv (.int y :: .int x :: st) h := by
  obtain ⟨p, l, e, s, m, args, below, meth, c, K⟩ := B
  obtain ⟨cc, nL, own, ret, R⟩ := M
  obtain ⟨hx, hb, hml, hown, hts, hr, hlk, hok, hn, hK, hS0⟩ := E
  intro a ha H locs ls hP hS hl0
  exact lv_ior hx hb hd (Kc a ha H locs ls hP hS hl0)

theorem zx_ladd (E : zx_E B M) {x y : Int64} (hd : decode M.1 pc = .ok (.ladd, 1)) (Kc : zx_X B M Qf sem ck cn (pc + 1) lv (.long (x + y) :: st) h) : zx_X B M Qf sem ck cn pc lv (.long y :: .long x :: st) h := by
  obtain ⟨p, l, e, s, m, args, below, meth, c, K⟩ := B
  obtain ⟨cc, nL, own, ret, R⟩ := M
  obtain ⟨hx, hb, hml, hown, hts, hr, hlk, hok, hn, hK, hS0⟩ := E
  intro a ha H locs ls hP hS hl0
  exact lv_ladd hx hb hd (Kc a ha H locs ls hP hS hl0)

theorem zx_lsub (E : zx_E B M) {x y : Int64} (hd : decode M.1 pc = .ok (.lsub, 1)) (Kc : zx_X B M Qf sem ck cn (pc + 1) lv (.long (x - y) :: st) h) : zx_X B M Qf sem ck cn pc lv (.long y :: .long x :: st) h := by
  obtain ⟨p, l, e, s, m, args, below, meth, c, K⟩ := B
  obtain ⟨cc, nL, own, ret, R⟩ := M
  obtain ⟨hx, hb, hml, hown, hts, hr, hlk, hok, hn, hK, hS0⟩ := E
  intro a ha H locs ls hP hS hl0
  exact lv_lsub hx hb hd (Kc a ha H locs ls hP hS hl0)

theorem zx_lmul (E : zx_E B M) {x y : Int64} (hd : decode M.1 pc = .ok (.lmul, 1)) (Kc : zx_X B M Qf sem ck cn (pc + 1) lv (.long (x * y) :: st) h) : zx_X B M Qf sem ck cn pc lv (.long y :: .long x :: st) h := by
  obtain ⟨p, l, e, s, m, args, below, meth, c, K⟩ := B
  obtain ⟨cc, nL, own, ret, R⟩ := M
  obtain ⟨hx, hb, hml, hown, hts, hr, hlk, hok, hn, hK, hS0⟩ := E
  intro a ha H locs ls hP hS hl0
  exact lv_lmul hx hb hd (Kc a ha H locs ls hP hS hl0)

theorem zx_land (E : zx_E B M) {x y : Int64} (hd : decode M.1 pc = .ok (.land, 1)) (Kc : zx_X B M Qf sem ck cn (pc + 1) lv (.long (x &&& y) :: st) h) : zx_X B M Qf sem ck cn pc lv (.long y :: .long x :: st) h := by
  obtain ⟨p, l, e, s, m, args, below, meth, c, K⟩ := B
  obtain ⟨cc, nL, own, ret, R⟩ := M
  obtain ⟨hx, hb, hml, hown, hts, hr, hlk, hok, hn, hK, hS0⟩ := E
  intro a ha H locs ls hP hS hl0
  exact lv_land hx hb hd (Kc a ha H locs ls hP hS hl0)

theorem zx_lor (E : zx_E B M) {x y : Int64} (hd : decode M.1 pc = .ok (.lor, 1)) (Kc : zx_X B M Qf sem ck cn (pc + 1) lv (.long (x ||| y) :: st) h) : zx_X B M Qf sem ck cn pc lv (.long y :: .long x :: st) h := by
  obtain ⟨p, l, e, s, m, args, below, meth, c, K⟩ := B
  obtain ⟨cc, nL, own, ret, R⟩ := M
  obtain ⟨hx, hb, hml, hown, hts, hr, hlk, hok, hn, hK, hS0⟩ := E
  intro a ha H locs ls hP hS hl0
  exact lv_lor hx hb hd (Kc a ha H locs ls hP hS hl0)

theorem zx_ineg (E : zx_E B M) {x : Int32} (hd : decode M.1 pc = .ok (.ineg, 1)) (Kc : zx_X B M Qf sem ck cn (pc + 1) lv (.int (-x) :: st) h) : zx_X B M Qf sem ck cn pc lv (.int x :: st) h := by
  obtain ⟨p, l, e, s, m, args, below, meth, c, K⟩ := B
  obtain ⟨cc, nL, own, ret, R⟩ := M
  obtain ⟨hx, hb, hml, hown, hts, hr, hlk, hok, hn, hK, hS0⟩ := E
  intro a ha H locs ls hP hS hl0
  exact lv_ineg hx hb hd (Kc a ha H locs ls hP hS hl0)

theorem zx_lneg (E : zx_E B M) {x : Int64} (hd : decode M.1 pc = .ok (.lneg, 1)) (Kc : zx_X B M Qf sem ck cn (pc + 1) lv (.long (-x) :: st) h) : zx_X B M Qf sem ck cn pc lv (.long x :: st) h := by
  obtain ⟨p, l, e, s, m, args, below, meth, c, K⟩ := B
  obtain ⟨cc, nL, own, ret, R⟩ := M
  obtain ⟨hx, hb, hml, hown, hts, hr, hlk, hok, hn, hK, hS0⟩ := E
  intro a ha H locs ls hP hS hl0
  exact lv_lneg hx hb hd (Kc a ha H locs ls hP hS hl0)

theorem zx_i2l (E : zx_E B M) {x : Int32} (hd : decode M.1 pc = .ok (.i2l, 1)) (Kc : zx_X B M Qf sem ck cn (pc + 1) lv (.long (x.toInt64) :: st) h) : zx_X B M Qf sem ck cn pc lv (.int x :: st) h := by
  obtain ⟨p, l, e, s, m, args, below, meth, c, K⟩ := B
  obtain ⟨cc, nL, own, ret, R⟩ := M
  obtain ⟨hx, hb, hml, hown, hts, hr, hlk, hok, hn, hK, hS0⟩ := E
  intro a ha H locs ls hP hS hl0
  exact lv_i2l hx hb hd rfl (Kc a ha H locs ls hP hS hl0)

theorem zx_l2i (E : zx_E B M) {x : Int64} (hd : decode M.1 pc = .ok (.l2i, 1)) (Kc : zx_X B M Qf sem ck cn (pc + 1) lv (.int (x.toInt32) :: st) h) : zx_X B M Qf sem ck cn pc lv (.long x :: st) h := by
  obtain ⟨p, l, e, s, m, args, below, meth, c, K⟩ := B
  obtain ⟨cc, nL, own, ret, R⟩ := M
  obtain ⟨hx, hb, hml, hown, hts, hr, hlk, hok, hn, hK, hS0⟩ := E
  intro a ha H locs ls hP hS hl0
  exact lv_l2i hx hb hd rfl (Kc a ha H locs ls hP hS hl0)

theorem zx_i2b (E : zx_E B M) {x : Int32} (hd : decode M.1 pc = .ok (.i2b, 1)) (Kc : zx_X B M Qf sem ck cn (pc + 1) lv (.int (x.toInt8.toInt32) :: st) h) : zx_X B M Qf sem ck cn pc lv (.int x :: st) h := by
  obtain ⟨p, l, e, s, m, args, below, meth, c, K⟩ := B
  obtain ⟨cc, nL, own, ret, R⟩ := M
  obtain ⟨hx, hb, hml, hown, hts, hr, hlk, hok, hn, hK, hS0⟩ := E
  intro a ha H locs ls hP hS hl0
  exact lv_i2b hx hb hd rfl (Kc a ha H locs ls hP hS hl0)

theorem zx_i2s (E : zx_E B M) {x : Int32} (hd : decode M.1 pc = .ok (.i2s, 1)) (Kc : zx_X B M Qf sem ck cn (pc + 1) lv (.int (x.toInt16.toInt32) :: st) h) : zx_X B M Qf sem ck cn pc lv (.int x :: st) h := by
  obtain ⟨p, l, e, s, m, args, below, meth, c, K⟩ := B
  obtain ⟨cc, nL, own, ret, R⟩ := M
  obtain ⟨hx, hb, hml, hown, hts, hr, hlk, hok, hn, hK, hS0⟩ := E
  intro a ha H locs ls hP hS hl0
  exact lv_i2s hx hb hd rfl (Kc a ha H locs ls hP hS hl0)

theorem zx_i2c (E : zx_E B M) {x : Int32} (hd : decode M.1 pc = .ok (.i2c, 1)) (Kc : zx_X B M Qf sem ck cn (pc + 1) lv (.int (zx_ci2c x) :: st) h) : zx_X B M Qf sem ck cn pc lv (.int x :: st) h := by
  obtain ⟨p, l, e, s, m, args, below, meth, c, K⟩ := B
  obtain ⟨cc, nL, own, ret, R⟩ := M
  obtain ⟨hx, hb, hml, hown, hts, hr, hlk, hok, hn, hK, hS0⟩ := E
  intro a ha H locs ls hP hS hl0
  exact lv_i2c hx hb hd rfl (Kc a ha H locs ls hP hS hl0)

theorem zx_lushr (E : zx_E B M) {x : Int64} {y : Int32} (hd : decode M.1 pc = .ok (.lushr, 1)) (Kc : zx_X B M Qf sem ck cn (pc + 1) lv (.long (zx_clushr x y) :: st) h) : zx_X B M Qf sem ck cn pc lv (.int y :: .long x :: st) h := by
  obtain ⟨p, l, e, s, m, args, below, meth, c, K⟩ := B
  obtain ⟨cc, nL, own, ret, R⟩ := M
  obtain ⟨hx, hb, hml, hown, hts, hr, hlk, hok, hn, hK, hS0⟩ := E
  intro a ha H locs ls hP hS hl0
  exact lv_lushr hx hb hd rfl (Kc a ha H locs ls hP hS hl0)

theorem zx_lshl (E : zx_E B M) {x : Int64} {y : Int32} (hd : decode M.1 pc = .ok (.lshl, 1)) (Kc : zx_X B M Qf sem ck cn (pc + 1) lv (.long (zx_clshl x y) :: st) h) : zx_X B M Qf sem ck cn pc lv (.int y :: .long x :: st) h := by
  obtain ⟨p, l, e, s, m, args, below, meth, c, K⟩ := B
  obtain ⟨cc, nL, own, ret, R⟩ := M
  obtain ⟨hx, hb, hml, hown, hts, hr, hlk, hok, hn, hK, hS0⟩ := E
  intro a ha H locs ls hP hS hl0
  exact lv_lshl hx hb hd rfl (Kc a ha H locs ls hP hS hl0)

theorem zx_lshr (E : zx_E B M) {x : Int64} {y : Int32} (hd : decode M.1 pc = .ok (.lshr, 1)) (Kc : zx_X B M Qf sem ck cn (pc + 1) lv (.long (zx_clshr x y) :: st) h) : zx_X B M Qf sem ck cn pc lv (.int y :: .long x :: st) h := by
  obtain ⟨p, l, e, s, m, args, below, meth, c, K⟩ := B
  obtain ⟨cc, nL, own, ret, R⟩ := M
  obtain ⟨hx, hb, hml, hown, hts, hr, hlk, hok, hn, hK, hS0⟩ := E
  intro a ha H locs ls hP hS hl0
  exact lv_lshr hx hb hd rfl (Kc a ha H locs ls hP hS hl0)

theorem zx_idiv (E : zx_E B M) {x y : Int32} (hd : decode M.1 pc = .ok (.idiv, 1)) (Kc : zx_X B M Qf sem ck cn (pc + 1) lv (.int (x / y) :: st) h) : zx_X B M Qf (if y = 0 then none else sem) ck cn pc lv (.int y :: .int x :: st) h := by
  obtain ⟨p, l, e, s, m, args, below, meth, c, K⟩ := B
  obtain ⟨cc, nL, own, ret, R⟩ := M
  obtain ⟨hx, hb, hml, hown, hts, hr, hlk, hok, hn, hK, hS0⟩ := E
  intro a ha H locs ls hP hS hl0
  by_cases hy : y = 0
  · rw [if_pos hy] at ha; cases ha
  rw [if_neg hy] at ha
  exact lv_idiv hx hb hd hy (Kc a ha H locs ls hP hS hl0)

theorem zx_idivN (E : zx_E B M) {x y : Int32} (hd : decode M.1 pc = .ok (.idiv, 1)) (hy : ¬ y = 0) (Kc : zx_X B M Qf sem ck cn (pc + 1) lv (.int (x / y) :: st) h) : zx_X B M Qf sem ck cn pc lv (.int y :: .int x :: st) h := by
  obtain ⟨p, l, e, s, m, args, below, meth, c, K⟩ := B
  obtain ⟨cc, nL, own, ret, R⟩ := M
  obtain ⟨hx, hb, hml, hown, hts, hr, hlk, hok, hn, hK, hS0⟩ := E
  intro a ha H locs ls hP hS hl0
  exact lv_idiv hx hb hd hy (Kc a ha H locs ls hP hS hl0)

theorem zx_irem (E : zx_E B M) {x y : Int32} (hd : decode M.1 pc = .ok (.irem, 1)) (Kc : zx_X B M Qf sem ck cn (pc + 1) lv (.int (x - x / y * y) :: st) h) : zx_X B M Qf (if y = 0 then none else sem) ck cn pc lv (.int y :: .int x :: st) h := by
  obtain ⟨p, l, e, s, m, args, below, meth, c, K⟩ := B
  obtain ⟨cc, nL, own, ret, R⟩ := M
  obtain ⟨hx, hb, hml, hown, hts, hr, hlk, hok, hn, hK, hS0⟩ := E
  intro a ha H locs ls hP hS hl0
  by_cases hy : y = 0
  · rw [if_pos hy] at ha; cases ha
  rw [if_neg hy] at ha
  exact lv_irem hx hb hd hy (Kc a ha H locs ls hP hS hl0)

theorem zx_iremN (E : zx_E B M) {x y : Int32} (hd : decode M.1 pc = .ok (.irem, 1)) (hy : ¬ y = 0) (Kc : zx_X B M Qf sem ck cn (pc + 1) lv (.int (x - x / y * y) :: st) h) : zx_X B M Qf sem ck cn pc lv (.int y :: .int x :: st) h := by
  obtain ⟨p, l, e, s, m, args, below, meth, c, K⟩ := B
  obtain ⟨cc, nL, own, ret, R⟩ := M
  obtain ⟨hx, hb, hml, hown, hts, hr, hlk, hok, hn, hK, hS0⟩ := E
  intro a ha H locs ls hP hS hl0
  exact lv_irem hx hb hd hy (Kc a ha H locs ls hP hS hl0)

theorem zx_ldiv (E : zx_E B M) {x y : Int64} (hd : decode M.1 pc = .ok (.ldiv, 1)) (Kc : zx_X B M Qf sem ck cn (pc + 1) lv (.long (x / y) :: st) h) : zx_X B M Qf (if y = 0 then none else sem) ck cn pc lv (.long y :: .long x :: st) h := by
  obtain ⟨p, l, e, s, m, args, below, meth, c, K⟩ := B
  obtain ⟨cc, nL, own, ret, R⟩ := M
  obtain ⟨hx, hb, hml, hown, hts, hr, hlk, hok, hn, hK, hS0⟩ := E
  intro a ha H locs ls hP hS hl0
  by_cases hy : y = 0
  · rw [if_pos hy] at ha; cases ha
  rw [if_neg hy] at ha
  exact lv_ldiv hx hb hd hy (Kc a ha H locs ls hP hS hl0)

theorem zx_ldivN (E : zx_E B M) {x y : Int64} (hd : decode M.1 pc = .ok (.ldiv, 1)) (hy : ¬ y = 0) (Kc : zx_X B M Qf sem ck cn (pc + 1) lv (.long (x / y) :: st) h) : zx_X B M Qf sem ck cn pc lv (.long y :: .long x :: st) h := by
  obtain ⟨p, l, e, s, m, args, below, meth, c, K⟩ := B
  obtain ⟨cc, nL, own, ret, R⟩ := M
  obtain ⟨hx, hb, hml, hown, hts, hr, hlk, hok, hn, hK, hS0⟩ := E
  intro a ha H locs ls hP hS hl0
  exact lv_ldiv hx hb hd hy (Kc a ha H locs ls hP hS hl0)

theorem zx_lrem (E : zx_E B M) {x y : Int64} (hd : decode M.1 pc = .ok (.lrem, 1)) (Kc : zx_X B M Qf sem ck cn (pc + 1) lv (.long (x - x / y * y) :: st) h) : zx_X B M Qf (if y = 0 then none else sem) ck cn pc lv (.long y :: .long x :: st) h := by
  obtain ⟨p, l, e, s, m, args, below, meth, c, K⟩ := B
  obtain ⟨cc, nL, own, ret, R⟩ := M
  obtain ⟨hx, hb, hml, hown, hts, hr, hlk, hok, hn, hK, hS0⟩ := E
  intro a ha H locs ls hP hS hl0
  by_cases hy : y = 0
  · rw [if_pos hy] at ha; cases ha
  rw [if_neg hy] at ha
  exact lv_lrem hx hb hd hy (Kc a ha H locs ls hP hS hl0)

theorem zx_lremN (E : zx_E B M) {x y : Int64} (hd : decode M.1 pc = .ok (.lrem, 1)) (hy : ¬ y = 0) (Kc : zx_X B M Qf sem ck cn (pc + 1) lv (.long (x - x / y * y) :: st) h) : zx_X B M Qf sem ck cn pc lv (.long y :: .long x :: st) h := by
  obtain ⟨p, l, e, s, m, args, below, meth, c, K⟩ := B
  obtain ⟨cc, nL, own, ret, R⟩ := M
  obtain ⟨hx, hb, hml, hown, hts, hr, hlk, hok, hn, hK, hS0⟩ := E
  intro a ha H locs ls hP hS hl0
  exact lv_lrem hx hb hd hy (Kc a ha H locs ls hP hS hl0)

theorem zx_dup (E : zx_E B M) {v : Value} (hd : decode M.1 pc = .ok (.dup, 1)) (hv : v.category = 1) (Kc : zx_X B M Qf sem ck cn (pc + 1) lv (v :: v :: st) h) : zx_X B M Qf sem ck cn pc lv (v :: st) h := by
  obtain ⟨p, l, e, s, m, args, below, meth, c, K⟩ := B
  obtain ⟨cc, nL, own, ret, R⟩ := M
  obtain ⟨hx, hb, hml, hown, hts, hr, hlk, hok, hn, hK, hS0⟩ := E
  intro a ha H locs ls hP hS hl0
  exact lv_dup hx hb hd hv (Kc a ha H locs ls hP hS hl0)

theorem zx_pop (E : zx_E B M) {v : Value} (hd : decode M.1 pc = .ok (.pop, 1)) (hv : v.category = 1) (Kc : zx_X B M Qf sem ck cn (pc + 1) lv st h) : zx_X B M Qf sem ck cn pc lv (v :: st) h := by
  obtain ⟨p, l, e, s, m, args, below, meth, c, K⟩ := B
  obtain ⟨cc, nL, own, ret, R⟩ := M
  obtain ⟨hx, hb, hml, hown, hts, hr, hlk, hok, hn, hK, hS0⟩ := E
  intro a ha H locs ls hP hS hl0
  exact lv_pop hx hb hd hv (Kc a ha H locs ls hP hS hl0)

theorem zx_dup2 (E : zx_E B M) {v w : Value} (hd : decode M.1 pc = .ok (.dup2, 1)) (hv : v.category = 1) (hw : w.category = 1) (Kc : zx_X B M Qf sem ck cn (pc + 1) lv (v :: w :: v :: w :: st) h) : zx_X B M Qf sem ck cn pc lv (v :: w :: st) h := by
  obtain ⟨p, l, e, s, m, args, below, meth, c, K⟩ := B
  obtain ⟨cc, nL, own, ret, R⟩ := M
  obtain ⟨hx, hb, hml, hown, hts, hr, hlk, hok, hn, hK, hS0⟩ := E
  intro a ha H locs ls hP hS hl0
  exact lv_dup2_11 hx hb hd hv hw (Kc a ha H locs ls hP hS hl0)

theorem zx_dup2L (E : zx_E B M) {v : Value} (hd : decode M.1 pc = .ok (.dup2, 1)) (hv : v.category = 2) (Kc : zx_X B M Qf sem ck cn (pc + 1) lv (v :: v :: st) h) : zx_X B M Qf sem ck cn pc lv (v :: st) h := by
  obtain ⟨p, l, e, s, m, args, below, meth, c, K⟩ := B
  obtain ⟨cc, nL, own, ret, R⟩ := M
  obtain ⟨hx, hb, hml, hown, hts, hr, hlk, hok, hn, hK, hS0⟩ := E
  intro a ha H locs ls hP hS hl0
  exact lv_dup2_2 hx hb hd hv (Kc a ha H locs ls hP hS hl0)

theorem zx_goto (E : zx_E B M) {off : Int} (tgt : Nat) (hd : decode M.1 pc = .ok (.goto off, 3)) (ht : (pc : Int) + off = (tgt : Int)) (Kc : zx_X B M Qf sem ck cn tgt lv st h) : zx_X B M Qf sem ck cn pc lv st h := by
  obtain ⟨p, l, e, s, m, args, below, meth, c, K⟩ := B
  obtain ⟨cc, nL, own, ret, R⟩ := M
  obtain ⟨hx, hb, hml, hown, hts, hr, hlk, hok, hn, hK, hS0⟩ := E
  intro a ha H locs ls hP hS hl0
  exact lv_goto hx hb hd ht (Kc a ha H locs ls hP hS hl0)

theorem zx_if_eq (E : zx_E B M) {x : Int32} {off : Int} (tgt : Nat) {semT semF : Option α} (hd : decode M.1 pc = .ok (.ifCond .eq off, 3)) (ht : (pc : Int) + off = (tgt : Int)) (kf : zx_X B M Qf semF ck cn (pc + 3) lv st h) (kt : zx_X B M Qf semT ck cn tgt lv st h) : zx_X B M Qf (if x = 0 then semT else semF) ck cn pc lv (.int x :: st) h := by
  obtain ⟨p, l, e, s, m, args, below, meth, c, K⟩ := B
  obtain ⟨cc, nL, own, ret, R⟩ := M
  obtain ⟨hx, hb, hml, hown, hts, hr, hlk, hok, hn, hK, hS0⟩ := E
  intro a ha H locs ls hP hS hl0
  exact lv_if_eq hx hb hd ht (fun q => kt a (by rw [if_pos q] at ha; exact ha) H locs ls hP hS hl0) (fun q => kf a (by rw [if_neg q] at ha; exact ha) H locs ls hP hS hl0)

theorem zx_icmp_eq (E : zx_E B M) {x y : Int32} {off : Int} (tgt : Nat) {semT semF : Option α} (hd : decode M.1 pc = .ok (.if_icmp .eq off, 3)) (ht : (pc : Int) + off = (tgt : Int)) (kf : zx_X B M Qf semF ck cn (pc + 3) lv st h) (kt : zx_X B M Qf semT ck cn tgt lv st h) : zx_X B M Qf (if x = y then semT else semF) ck cn pc lv (.int y :: .int x :: st) h := by
  obtain ⟨p, l, e, s, m, args, below, meth, c, K⟩ := B
  obtain ⟨cc, nL, own, ret, R⟩ := M
  obtain ⟨hx, hb, hml, hown, hts, hr, hlk, hok, hn, hK, hS0⟩ := E
  intro a ha H locs ls hP hS hl0
  exact lv_icmp_eq hx hb hd ht (fun q => kt a (by rw [if_pos q] at ha; exact ha) H locs ls hP hS hl0) (fun q => kf a (by rw [if_neg q] at ha; exact ha) H locs ls hP hS hl0)

theorem zx_if_ne (E : zx_E B M) {x : Int32} {off : Int} (tgt : Nat) {semT semF : Option α} (hd : decode M.1 pc = .ok (.ifCond .ne off, 3)) (ht : (pc : Int) + off = (tgt : Int)) (kf : zx_X B M Qf semF ck cn (pc + 3) lv st h) (kt : zx_X B M Qf semT ck cn tgt lv st h) : zx_X B M Qf (if x = 0 then semF else semT) ck cn pc lv (.int x :: st) h := by
  obtain ⟨p, l, e, s, m, args, below, meth, c, K⟩ := B
  obtain ⟨cc, nL, own, ret, R⟩ := M
  obtain ⟨hx, hb, hml, hown, hts, hr, hlk, hok, hn, hK, hS0⟩ := E
  intro a ha H locs ls hP hS hl0
  exact lv_if_ne hx hb hd ht (fun q => kt a (by rw [if_neg q] at ha; exact ha) H locs ls hP hS hl0) (fun q => kf a (by rw [if_pos q] at ha; exact ha) H locs ls hP hS hl0)

theorem zx_icmp_ne (E : zx_E B M) {x y : Int32} {off : Int} (tgt : Nat) {semT semF : Option α} (hd : decode M.1 pc = .ok (.if_icmp .ne off, 3)) (ht : (pc : Int) + off = (tgt : Int)) (kf : zx_X B M Qf semF ck cn (pc + 3) lv st h) (kt : zx_X B M Qf semT ck cn tgt lv st h) : zx_X B M Qf (if x = y then semF else semT) ck cn pc lv (.int y :: .int x :: st) h := by
  obtain ⟨p, l, e, s, m, args, below, meth, c, K⟩ := B
  obtain ⟨cc, nL, own, ret, R⟩ := M
  obtain ⟨hx, hb, hml, hown, hts, hr, hlk, hok, hn, hK, hS0⟩ := E
  intro a ha H locs ls hP hS hl0
  exact lv_icmp_ne hx hb hd ht (fun q => kt a (by rw [if_neg q] at ha; exact ha) H locs ls hP hS hl0) (fun q => kf a (by rw [if_pos q] at ha; exact ha) H locs ls hP hS hl0)

theorem zx_if_lt (E : zx_E B M) {x : Int32} {off : Int} (tgt : Nat) {semT semF : Option α} (hd : decode M.1 pc = .ok (.ifCond .lt off, 3)) (ht : (pc : Int) + off = (tgt : Int)) (kf : zx_X B M Qf semF ck cn (pc + 3) lv st h) (kt : zx_X B M Qf semT ck cn tgt lv st h) : zx_X B M Qf (if x < 0 then semT else semF) ck cn pc lv (.int x :: st) h := by
  obtain ⟨p, l, e, s, m, args, below, meth, c, K⟩ := B
  obtain ⟨cc, nL, own, ret, R⟩ := M
  obtain ⟨hx, hb, hml, hown, hts, hr, hlk, hok, hn, hK, hS0⟩ := E
  intro a ha H locs ls hP hS hl0
  exact lv_if_lt hx hb hd ht (fun q => kt a (by rw [if_pos q] at ha; exact ha) H locs ls hP hS hl0) (fun q => kf a (by rw [if_neg q] at ha; exact ha) H locs ls hP hS hl0)

theorem zx_icmp_lt (E : zx_E B M) {x y : Int32} {off : Int} (tgt : Nat) {semT semF : Option α} (hd : decode M.1 pc = .ok (.if_icmp .lt off, 3)) (ht : (pc : Int) + off = (tgt : Int)) (kf : zx_X B M Qf semF ck cn (pc + 3) lv st h) (kt : zx_X B M Qf semT ck cn tgt lv st h) : zx_X B M Qf (if x < y then semT else semF) ck cn pc lv (.int y :: .int x :: st) h := by
  obtain ⟨p, l, e, s, m, args, below, meth, c, K⟩ := B
  obtain ⟨cc, nL, own, ret, R⟩ := M
  obtain ⟨hx, hb, hml, hown, hts, hr, hlk, hok, hn, hK, hS0⟩ := E
  intro a ha H locs ls hP hS hl0
  exact lv_icmp_lt hx hb hd ht (fun q => kt a (by rw [if_pos q] at ha; exact ha) H locs ls hP hS hl0) (fun q => kf a (by rw [if_neg q] at ha; exact ha) H locs ls hP hS hl0)

theorem zx_if_ge (E : zx_E B M) {x : Int32} {off : Int} (tgt : Nat) {semT semF : Option α} (hd : decode M.1 pc = .ok (.ifCond .ge off, 3)) (ht : (pc : Int) + off = (tgt : Int)) (kf : zx_X B M Qf semF ck cn (pc + 3) lv st h) (kt : zx_X B M Qf semT ck cn tgt lv st h) : zx_X B M Qf (if 0 ≤ x then semT else semF) ck cn pc lv (.int x :: st) h := by
  obtain ⟨p, l, e, s, m, args, below, meth, c, K⟩ := B
  obtain ⟨cc, nL, own, ret, R⟩ := M
  obtain ⟨hx, hb, hml, hown, hts, hr, hlk, hok, hn, hK, hS0⟩ := E
  intro a ha H locs ls hP hS hl0
  exact lv_if_ge hx hb hd ht (fun q => kt a (by rw [if_pos q] at ha; exact ha) H locs ls hP hS hl0) (fun q => kf a (by rw [if_neg q] at ha; exact ha) H locs ls hP hS hl0)

theorem zx_icmp_ge (E : zx_E B M) {x y : Int32} {off : Int} (tgt : Nat) {semT semF : Option α} (hd : decode M.1 pc = .ok (.if_icmp .ge off, 3)) (ht : (pc : Int) + off = (tgt : Int)) (kf : zx_X B M Qf semF ck cn (pc + 3) lv st h) (kt : zx_X B M Qf semT ck cn tgt lv st h) : zx_X B M Qf (if y ≤ x then semT else semF) ck cn pc lv (.int y :: .int x :: st) h := by
  obtain ⟨p, l, e, s, m, args, below, meth, c, K⟩ := B
  obtain ⟨cc, nL, own, ret, R⟩ := M
  obtain ⟨hx, hb, hml, hown, hts, hr, hlk, hok, hn, hK, hS0⟩ := E
  intro a ha H locs ls hP hS hl0
  exact lv_icmp_ge hx hb hd ht (fun q => kt a (by rw [if_pos q] at ha; exact ha) H locs ls hP hS hl0) (fun q => kf a (by rw [if_neg q] at ha; exact ha) H locs ls hP hS hl0)

theorem zx_if_gt (E : zx_E B M) {x : Int32} {off : Int} (tgt : Nat) {semT semF : Option α} (hd : decode M.1 pc = .ok (.ifCond .gt off, 3)) (ht : (pc : Int) + off = (tgt : Int)) (kf : zx_X B M Qf semF ck cn (pc + 3) lv st h) (kt : zx_X B M Qf semT ck cn tgt lv st h) : zx_X B M Qf (if 0 < x then semT else semF) ck cn pc lv (.int x :: st) h := by
  obtain ⟨p, l, e, s, m, args, below, meth, c, K⟩ := B
  obtain ⟨cc, nL, own, ret, R⟩ := M
  obtain ⟨hx, hb, hml, hown, hts, hr, hlk, hok, hn, hK, hS0⟩ := E
  intro a ha H locs ls hP hS hl0
  exact lv_if_gt hx hb hd ht (fun q => kt a (by rw [if_pos q] at ha; exact ha) H locs ls hP hS hl0) (fun q => kf a (by rw [if_neg q] at ha; exact ha) H locs ls hP hS hl0)

theorem zx_icmp_gt (E : zx_E B M) {x y : Int32} {off : Int} (tgt : Nat) {semT semF : Option α} (hd : decode M.1 pc = .ok (.if_icmp .gt off, 3)) (ht : (pc : Int) + off = (tgt : Int)) (kf : zx_X B M Qf semF ck cn (pc + 3) lv st h) (kt : zx_X B M Qf semT ck cn tgt lv st h) : zx_X B M Qf (if y < x then semT else semF) ck cn pc lv (.int y :: .int x :: st) h := by
  obtain ⟨p, l, e, s, m, args, below, meth, c, K⟩ := B
  obtain ⟨cc, nL, own, ret, R⟩ := M
  obtain ⟨hx, hb, hml, hown, hts, hr, hlk, hok, hn, hK, hS0⟩ := E
  intro a ha H locs ls hP hS hl0
  exact lv_icmp_gt hx hb hd ht (fun q => kt a (by rw [if_pos q] at ha; exact ha) H locs ls hP hS hl0) (fun q => kf a (by rw [if_neg q] at ha; exact ha) H locs ls hP hS hl0)

theorem zx_if_le (E : zx_E B M) {x : Int32} {off : Int} (tgt : Nat) {semT semF : Option α} (hd : decode M.1 pc = .ok (.ifCond .le off, 3)) (ht : (pc : Int) + off = (tgt : Int)) (kf : zx_X B M Qf semF ck cn (pc + 3) lv st h) (kt : zx_X B M Qf semT ck cn tgt lv st h) : zx_X B M Qf (if x ≤ 0 then semT else semF) ck cn pc lv (.int x :: st) h := by
  obtain ⟨p, l, e, s, m, args, below, meth, c, K⟩ := B
  obtain ⟨cc, nL, own, ret, R⟩ := M
  obtain ⟨hx, hb, hml, hown, hts, hr, hlk, hok, hn, hK, hS0⟩ := E
  intro a ha H locs ls hP hS hl0
  exact lv_if_le hx hb hd ht (fun q => kt a (by rw [if_pos q] at ha; exact ha) H locs ls hP hS hl0) (fun q => kf a (by rw [if_neg q] at ha; exact ha) H locs ls hP hS hl0)

theorem zx_icmp_le (E : zx_E B M) {x y : Int32} {off : Int} (tgt : Nat) {semT semF : Option α} (hd : decode M.1 pc = .ok (.if_icmp .le off, 3)) (ht : (pc : Int) + off = (tgt : Int)) (kf : zx_X B M Qf semF ck cn (pc + 3) lv st h) (kt : zx_X B M Qf semT ck cn tgt lv st h) : zx_X B M Qf (if x ≤ y then semT else semF) ck cn pc lv (.int y :: .int x :: st) h := by
  obtain ⟨p, l, e, s, m, args, below, meth, c, K⟩ := B
  obtain ⟨cc, nL, own, ret, R⟩ := M
  obtain ⟨hx, hb, hml, hown, hts, hr, hlk, hok, hn, hK, hS0⟩ := E
  intro a ha H locs ls hP hS hl0
  exact lv_icmp_le hx hb hd ht (fun q => kt a (by rw [if_pos q] at ha; exact ha) H locs ls hP hS hl0) (fun q => kf a (by rw [if_neg q] at ha; exact ha) H locs ls hP hS hl0)

theorem zx_b0 (x : Bool) : zx_b x = 0 ↔ ¬ x = true := by cases x <;> decide

theorem zx_ifb_eq (E : zx_E B M) {x : Bool} {off : Int} (tgt : Nat) {semT semF : Option α} (hd : decode M.1 pc = .ok (.ifCond .eq off, 3)) (ht : (pc : Int) + off = (tgt : Int)) (kf : zx_X B M Qf semF ck cn (pc + 3) lv st h) (kt : zx_X B M Qf semT ck cn tgt lv st h) : zx_X B M Qf (if x = true then semF else semT) ck cn pc lv (.int (zx_b x) :: st) h := by
  obtain ⟨p, l, e, s, m, args, below, meth, c, K⟩ := B
  obtain ⟨cc, nL, own, ret, R⟩ := M
  obtain ⟨hx, hb, hml, hown, hts, hr, hlk, hok, hn, hK, hS0⟩ := E
  intro a ha H locs ls hP hS hl0
  refine lv_if_eq hx hb hd ht (fun q => kt a ?_ H locs ls hP hS hl0) (fun q => kf a ?_ H locs ls hP hS hl0)
  · revert ha; cases x <;> simp [zx_b] at q ⊢
  · revert ha; cases x <;> simp [zx_b] at q ⊢

theorem zx_ifb_ne (E : zx_E B M) {x : Bool} {off : Int} (tgt : Nat) {semT semF : Option α} (hd : decode M.1 pc = .ok (.ifCond .ne off, 3)) (ht : (pc : Int) + off = (tgt : Int)) (kf : zx_X B M Qf semF ck cn (pc + 3) lv st h) (kt : zx_X B M Qf semT ck cn tgt lv st h) : zx_X B M Qf (if x = true then semT else semF) ck cn pc lv (.int (zx_b x) :: st) h := by
  obtain ⟨p, l, e, s, m, args, below, meth, c, K⟩ := B
  obtain ⟨cc, nL, own, ret, R⟩ := M
  obtain ⟨hx, hb, hml, hown, hts, hr, hlk, hok, hn, hK, hS0⟩ := E
  intro a ha H locs ls hP hS hl0
  refine lv_if_ne hx hb hd ht (fun q => kt a ?_ H locs ls hP hS hl0) (fun q => kf a ?_ H locs ls hP hS hl0)
  · revert ha; cases x <;> simp [zx_b] at q ⊢
  · revert ha; cases x <;> simp [zx_b] at q ⊢

theorem zx_lcmp_eq (E : zx_E B M) {x y : Int64} {off : Int} (tgt : Nat) {semT semF : Option α} (hd0 : decode M.1 pc = .ok (.lcmp, 1)) (hd : decode M.1 (pc + 1) = .ok (.ifCond .eq off, 3)) (ht : ((pc + 1 : Nat) : Int) + off = (tgt : Int)) (kf : zx_X B M Qf semF ck cn (pc + 4) lv st h) (kt : zx_X B M Qf semT ck cn tgt lv st h) : zx_X B M Qf (if x = y then semT else semF) ck cn pc lv (.long y :: .long x :: st) h := by
  obtain ⟨p, l, e, s, m, args, below, meth, c, K⟩ := B
  obtain ⟨cc, nL, own, ret, R⟩ := M
  obtain ⟨hx, hb, hml, hown, hts, hr, hlk, hok, hn, hK, hS0⟩ := E
  intro a ha H locs ls hP hS hl0
  exact W.lcmp hx hb hd0 (lv_if_eq hx hb hd ht (fun q => kt a (by rw [if_pos ((lg_cmp_eq x y).mp q)] at ha; exact ha) H locs ls hP hS hl0) (fun q => kf a (by rw [if_neg (fun z => q ((lg_cmp_eq x y).mpr z))] at ha; exact ha) H locs ls hP hS hl0))

theorem zx_lcmp_ne (E : zx_E B M) {x y : Int64} {off : Int} (tgt : Nat) {semT semF : Option α} (hd0 : decode M.1 pc = .ok (.lcmp, 1)) (hd : decode M.1 (pc + 1) = .ok (.ifCond .ne off, 3)) (ht : ((pc + 1 : Nat) : Int) + off = (tgt : Int)) (kf : zx_X B M Qf semF ck cn (pc + 4) lv st h) (kt : zx_X B M Qf semT ck cn tgt lv st h) : zx_X B M Qf (if x = y then semF else semT) ck cn pc lv (.long y :: .long x :: st) h := by
  obtain ⟨p, l, e, s, m, args, below, meth, c, K⟩ := B
  obtain ⟨cc, nL, own, ret, R⟩ := M
  obtain ⟨hx, hb, hml, hown, hts, hr, hlk, hok, hn, hK, hS0⟩ := E
  intro a ha H locs ls hP hS hl0
  exact W.lcmp hx hb hd0 (lv_if_ne hx hb hd ht (fun q => kt a (by rw [if_neg (fun z => q ((lg_cmp_eq x y).mpr z))] at ha; exact ha) H locs ls hP hS hl0) (fun q => kf a (by rw [if_pos ((lg_cmp_eq x y).mp q)] at ha; exact ha) H locs ls hP hS hl0))

theorem zx_lcmp_lt (E : zx_E B M) {x y : Int64} {off : Int} (tgt : Nat) {semT semF : Option α} (hd0 : decode M.1 pc = .ok (.lcmp, 1)) (hd : decode M.1 (pc + 1) = .ok (.ifCond .lt off, 3)) (ht : ((pc + 1 : Nat) : Int) + off = (tgt : Int)) (kf : zx_X B M Qf semF ck cn (pc + 4) lv st h) (kt : zx_X B M Qf semT ck cn tgt lv st h) : zx_X B M Qf (if x < y then semT else semF) ck cn pc lv (.long y :: .long x :: st) h := by
  obtain ⟨p, l, e, s, m, args, below, meth, c, K⟩ := B
  obtain ⟨cc, nL, own, ret, R⟩ := M
  obtain ⟨hx, hb, hml, hown, hts, hr, hlk, hok, hn, hK, hS0⟩ := E
  intro a ha H locs ls hP hS hl0
  exact W.lcmp hx hb hd0 (lv_if_lt hx hb hd ht (fun q => kt a (by rw [if_pos ((lg_cmp_lt x y).mp q)] at ha; exact ha) H locs ls hP hS hl0) (fun q => kf a (by rw [if_neg (fun z => q ((lg_cmp_lt x y).mpr z))] at ha; exact ha) H locs ls hP hS hl0))

theorem zx_lcmp_ge (E : zx_E B M) {x y : Int64} {off : Int} (tgt : Nat) {semT semF : Option α} (hd0 : decode M.1 pc = .ok (.lcmp, 1)) (hd : decode M.1 (pc + 1) = .ok (.ifCond .ge off, 3)) (ht : ((pc + 1 : Nat) : Int) + off = (tgt : Int)) (kf : zx_X B M Qf semF ck cn (pc + 4) lv st h) (kt : zx_X B M Qf semT ck cn tgt lv st h) : zx_X B M Qf (if y ≤ x then semT else semF) ck cn pc lv (.long y :: .long x :: st) h := by
  obtain ⟨p, l, e, s, m, args, below, meth, c, K⟩ := B
  obtain ⟨cc, nL, own, ret, R⟩ := M
  obtain ⟨hx, hb, hml, hown, hts, hr, hlk, hok, hn, hK, hS0⟩ := E
  intro a ha H locs ls hP hS hl0
  exact W.lcmp hx hb hd0 (lv_if_ge hx hb hd ht (fun q => kt a (by rw [if_pos ((lg_cmp_ge x y).mp q)] at ha; exact ha) H locs ls hP hS hl0) (fun q => kf a (by rw [if_neg (fun z => q ((lg_cmp_ge x y).mpr z))] at ha; exact ha) H locs ls hP hS hl0))

theorem zx_lcmp_gt (E : zx_E B M) {x y : Int64} {off : Int} (tgt : Nat) {semT semF : Option α} (hd0 : decode M.1 pc = .ok (.lcmp, 1)) (hd : decode M.1 (pc + 1) = .ok (.ifCond .gt off, 3)) (ht : ((pc + 1 : Nat) : Int) + off = (tgt : Int)) (kf : zx_X B M Qf semF ck cn (pc + 4) lv st h) (kt : zx_X B M Qf semT ck cn tgt lv st h) : zx_X B M Qf (if y < x then semT else semF) ck cn pc lv (.long y :: .long x :: st) h := by
  obtain ⟨p, l, e, s, m, args, below, meth, c, K⟩ := B
  obtain ⟨cc, nL, own, ret, R⟩ := M
  obtain ⟨hx, hb, hml, hown, hts, hr, hlk, hok, hn, hK, hS0⟩ := E
  intro a ha H locs ls hP hS hl0
  exact W.lcmp hx hb hd0 (lv_if_gt hx hb hd ht (fun q => kt a (by rw [if_pos ((lg_cmp_gt x y).mp q)] at ha; exact ha) H locs ls hP hS hl0) (fun q => kf a (by rw [if_neg (fun z => q ((lg_cmp_gt x y).mpr z))] at ha; exact ha) H locs ls hP hS hl0))

theorem zx_lcmp_le (E : zx_E B M) {x y : Int64} {off : Int} (tgt : Nat) {semT semF : Option α} (hd0 : decode M.1 pc = .ok (.lcmp, 1)) (hd : decode M.1 (pc + 1) = .ok (.ifCond .le off, 3)) (ht : ((pc + 1 : Nat) : Int) + off = (tgt : Int)) (kf : zx_X B M Qf semF ck cn (pc + 4) lv st h) (kt : zx_X B M Qf semT ck cn tgt lv st h) : zx_X B M Qf (if x ≤ y then semT else semF) ck cn pc lv (.long y :: .long x :: st) h := by
  obtain ⟨p, l, e, s, m, args, below, meth, c, K⟩ := B
  obtain ⟨cc, nL, own, ret, R⟩ := M
  obtain ⟨hx, hb, hml, hown, hts, hr, hlk, hok, hn, hK, hS0⟩ := E
  intro a ha H locs ls hP hS hl0
  exact W.lcmp hx hb hd0 (lv_if_le hx hb hd ht (fun q => kt a (by rw [if_pos ((lg_cmp_le x y).mp q)] at ha; exact ha) H locs ls hP hS hl0) (fun q => kf a (by rw [if_neg (fun z => q ((lg_cmp_le x y).mpr z))] at ha; exact ha) H locs ls hP hS hl0))

theorem zx_chain_out {α : Type} {x : Int32} (l : List (Int32 × Option α)) {D : Option α} (hh : ∀ (i : Nat) (q : Int32 × Option α), l[i]? = some q → x ≠ q.1) : zx_chain x l D = D := by
  induction l with
  | nil => rfl
  | cons a r ih =>
    obtain ⟨k, A⟩ := a
    show (if x = k then A else zx_chain x r D) = D
    rw [if_neg (hh 0 (k, A) rfl)]
    exact ih fun i q hq => hh (i + 1) q hq
theorem zx_chain_at {α : Type} {x : Int32} (l : List (Int32 × Option α)) {D : Option α} (i : Nat) (q : Int32 × Option α) (hi : l[i]? = some q) (hx : x = q.1) (hh : ∀ (j : Nat) (q : Int32 × Option α), j < i → l[j]? = some q → x ≠ q.1) : zx_chain x l D = q.2 := by
  induction l generalizing i with
  | nil => cases hi
  | cons a r ih =>
    obtain ⟨k, A⟩ := a
    show (if x = k then A else zx_chain x r D) = q.2
    cases i with
    | zero =>
      cases hi
      rw [if_pos hx]
    | succ i =>
      rw [if_neg (hh 0 (k, A) (Nat.succ_pos i) rfl)]
      exact ih i hi fun j q hj hq => hh (j + 1) q (Nat.succ_lt_succ hj) hq
/-- every way of a switch comes to the end -/
def zx_sws (B : zx_B) (M : zx_M) {α : Type} (Qf : α → State → Prop) (ck cn : Nat) (lv : List (Nat × Value)) (st : List Value) (h : zx_H) : List (Int32 × Option α) → List Nat → Prop
  | q :: r, t :: ts => zx_X B M Qf q.2 ck cn t lv st h ∧ zx_sws B M Qf ck cn lv st h r ts
  | _, _ => True
theorem zx_sws_at {l : List (Int32 × Option α)} {ts : List Nat} (hh : zx_sws B M Qf ck cn lv st h l ts) (i : Nat) {q : Int32 × Option α} {t : Nat} (hi : l[i]? = some q) (ht : ts[i]? = some t) : zx_X B M Qf q.2 ck cn t lv st h := by
  induction l generalizing ts i with
  | nil => cases hi
  | cons a r ih =>
    cases ts with
    | nil => cases ht
    | cons b ts =>
      cases i with
      | zero => cases hi; cases ht; exact hh.1
      | succ i => exact ih hh.2 i hi ht
theorem zx_tsw (E : zx_E B M) {dflt lo hi : Int} {offs : Array Int} {len : Nat} {x : Int32} {semO : Option α} {cs : List (Int32 × Option α)} (ts : List Nat) (dt : Nat) (hd : decode M.1 pc = .ok (.tableswitch dflt lo hi offs, len)) (hhi : hi = lo + (offs.size : Int) - 1) (hlen : cs.length = offs.size) (hkeys : ∀ (i : Nat) (q : Int32 × Option α), cs[i]? = some q → q.1.toInt = lo + (i : Int)) (hts9 : ts.length = offs.size) (ho9 : (offs.toList.zip ts).all (fun q => decide ((pc : Int) + q.1 = (q.2 : Int))) = true) (hdt : (pc : Int) + dflt = (dt : Int))
    (ko : zx_X B M Qf semO ck cn dt lv st h) (kt : zx_sws B M Qf ck cn lv st h cs ts) : zx_X B M Qf (zx_chain x cs semO) ck cn pc lv (.int x :: st) h := by
  have ho : ∀ i, i < offs.size → ∃ o t, offs[i]? = some o ∧ ts[i]? = some t ∧ (pc : Int) + o = (t : Int) := fun i hi => by
    have h2 : i < ts.length := by omega
    refine ⟨offs[i], ts[i], Array.getElem?_eq_getElem hi, List.getElem?_eq_getElem h2, ?_⟩
    have h3 := List.all_eq_true.mp ho9 (offs[i], ts[i]) (by
      refine List.mem_of_getElem? (i := i) ?_
      rw [List.getElem?_zip_eq_some]
      exact ⟨by rw [Array.getElem?_toList]; exact Array.getElem?_eq_getElem hi, List.getElem?_eq_getElem h2⟩)
    exact of_decide_eq_true h3
  have kt := fun i q t (h1 : cs[i]? = some q) (h2 : ts[i]? = some t) => zx_sws_at kt i h1 h2
  obtain ⟨p, l, e, s, m, args, below, meth, c, K⟩ := B
  obtain ⟨cc, nL, own, ret, R⟩ := M
  obtain ⟨hx, hb, hml, hown, hts, hr, hlk, hok, hn, hK, hS0⟩ := E
  intro a ha H locs ls hP hS hl0
  by_cases hc : x.toInt < lo ∨ hi < x.toInt
  · rw [zx_chain_out cs (fun i q hq e => by
      have h1 := hkeys i q hq
      have h2 := (List.getElem?_eq_some_iff.mp hq).1
      rw [← e] at h1
      omega)] at ha
    exact lv_tableOut hx hb hd hc hdt (ko a ha H locs ls hP hS hl0)
  · have hk : (x.toInt - lo).toNat < offs.size := by omega
    obtain ⟨o, t, h1, h2, h3⟩ := ho _ hk
    obtain ⟨q, hq⟩ : ∃ q, cs[(x.toInt - lo).toNat]? = some q := ⟨_, List.getElem?_eq_getElem (by omega)⟩
    have hkq := hkeys _ q hq
    have hxq : x = q.1 := Int32.toInt_inj.mp (by omega)
    rw [zx_chain_at cs _ q hq hxq (fun j q' hj hq' e => by
      have h4 := hkeys j q' hq'
      rw [← e] at h4
      omega)] at ha
    exact lv_tableIn hx hb hd (by omega) (by omega) h1 h3 (kt _ q t hq h2 a ha H locs ls hP hS hl0)

theorem zx_let {β : Type} {x : β} {k : β → Option α} {st1 : β → List Value} (Kc : ∀ y, zx_X B M Qf (k y) ck cn pc lv (st1 y) h) : zx_X B M Qf (zx_bnd x k) ck cn pc lv (st1 x) h := Kc x
theorem zx_leti {x : Int32} {k : Int32 → Option α} (Kc : ∀ y, zx_X B M Qf (k y) ck cn pc lv (.int y :: st) h) : zx_X B M Qf (zx_bnd x k) ck cn pc lv (.int x :: st) h := Kc x
theorem zx_letl {x : Int64} {k : Int64 → Option α} (Kc : ∀ y, zx_X B M Qf (k y) ck cn pc lv (.long y :: st) h) : zx_X B M Qf (zx_bnd x k) ck cn pc lv (.long x :: st) h := Kc x
theorem zx_letH {k : zx_H → Option α} (Kc : ∀ h, zx_X B M Qf (k h) ck cn pc lv st h) : zx_X B M Qf (zx_bnd h k) ck cn pc lv st h := Kc h
theorem zx_asB0 (E : zx_E B M) {x : Int32} {k : Bool → Option α} (Kc : ∀ y, zx_X B M Qf (k y) ck cn pc lv (.int (zx_b y) :: st) h) : zx_X B M Qf ((zx_asB x).bind k) ck cn pc lv (.int x :: st) h := by
  by_cases h0 : x = 0
  · subst h0; exact Kc false
  · by_cases h1 : x = 1
    · subst h1; exact Kc true
    · obtain ⟨p, l, e, s, m, args, below, meth, c, K⟩ := B
      obtain ⟨cc, nL, own, ret, R⟩ := M
      intro a ha
      unfold zx_asB at ha
      rw [if_neg h0, if_neg h1] at ha
      cases ha
theorem zx_non {pc : Nat} {lv : List (Nat × Value)} {st : List Value} {h : zx_H} : zx_X B M Qf none ck cn pc lv st h := by
  obtain ⟨p, l, e, s, m, args, below, meth, c, K⟩ := B
  obtain ⟨cc, nL, own, ret, R⟩ := M
  intro a ha
  cases ha
theorem zx_sub (ks : List Nat) {lv1 : List (Nat × Value)} (hl : lv_pick lv ks = lv1) (Kc : zx_X B M Qf sem ck cn pc lv1 st h) : zx_X B M Qf sem ck cn pc lv st h := by
  obtain ⟨p, l, e, s, m, args, below, meth, c, K⟩ := B
  obtain ⟨cc, nL, own, ret, R⟩ := M
  intro a ha H locs ls hP hS hl0
  exact Kc a ha H locs ls hP hS (lv_sub hl0 ks hl)
theorem zx_pc {pc1 : Nat} (hp : pc = pc1) (Kc : zx_X B M Qf sem ck cn pc1 lv st h) : zx_X B M Qf sem ck cn pc lv st h := by subst hp; exact Kc

abbrev zx_BK (B : zx_B) : zx_K := B.2.2.2.2.2.2.2.2.2
abbrev zx_Bl (B : zx_B) : Launch := B.2.1
/-- a field of the class c: its place k, its words -/
def zx_fd (c k : Nat) (C n d : String) (t : Nat) : Prop := ∃ (T : u_T) (N : Nat), zx_cl[c]? = some (C, T, N) ∧ k < N ∧ (T k).1 = C ∧ (T k).2.1 = n ∧ (T k).2.2.1 = d ∧ zx_ft c k = t ∧ (∀ w ∈ u_ws C T N, w ∈ zx_G) ∧ ∀ F n9, zx_isO F c n9 → n9 = N
theorem zx_getI (E : zx_E B M) {F i ci n k index : Nat} {C nm d : String} (hf : zx_fd ci k C nm d 0) (hF : zx_isO F ci n) (hi : i < zx_nF F) (hw : Cond.fieldLink M.2.2.1 index C nm d ∈ zx_G) (hd : decode M.1 pc = .ok (.getfield index, 3)) (Kc : zx_X B M Qf sem ck cn (pc + 3) lv (.int (h.1 F i k) :: st) h) : zx_X B M Qf sem ck cn pc lv (zx_rV (zx_BK B) F i :: st) h := by
  obtain ⟨p, l, e, s, m, args, below, meth, c, K⟩ := B
  obtain ⟨cc, nL, own, ret, R⟩ := M
  obtain ⟨hx, hb, hml, hown, hts, hr, hlk, hok, hn, hK, hS0⟩ := E
  intro a ha H locs ls hP hS hl0
  obtain ⟨T, N, hc, hk, rfl, rfl, rfl, ht, hin, hN⟩ := hf
  cases hN F n hF
  refine va_get (D := zx_kD K) (ci := ci) (v := .int (h.1 F i k)) hx hb hts hin hown hK hP (zx_pl F i) ((zx_wd_at K h hF.1 hi).trans (by rw [zx_cF_O hF])) hc k hk (hts _ hw) (fun _ h9 => h9) ?_ hd (Kc a ha H locs ls hP hS hl0)
  rw [zx_fs_at hk]
  unfold zx_fv
  rw [ht]
  rfl
theorem zx_getJ (E : zx_E B M) {F i ci n k index : Nat} {C nm d : String} (hf : zx_fd ci k C nm d 1) (hF : zx_isO F ci n) (hi : i < zx_nF F) (hw : Cond.fieldLink M.2.2.1 index C nm d ∈ zx_G) (hd : decode M.1 pc = .ok (.getfield index, 3)) (Kc : zx_X B M Qf sem ck cn (pc + 3) lv (.long (h.2 F i k) :: st) h) : zx_X B M Qf sem ck cn pc lv (zx_rV (zx_BK B) F i :: st) h := by
  obtain ⟨p, l, e, s, m, args, below, meth, c, K⟩ := B
  obtain ⟨cc, nL, own, ret, R⟩ := M
  obtain ⟨hx, hb, hml, hown, hts, hr, hlk, hok, hn, hK, hS0⟩ := E
  intro a ha H locs ls hP hS hl0
  obtain ⟨T, N, hc, hk, rfl, rfl, rfl, ht, hin, hN⟩ := hf
  cases hN F n hF
  refine va_get (D := zx_kD K) (ci := ci) (v := .long (h.2 F i k)) hx hb hts hin hown hK hP (zx_pl F i) ((zx_wd_at K h hF.1 hi).trans (by rw [zx_cF_O hF])) hc k hk (hts _ hw) (fun _ h9 => h9) ?_ hd (Kc a ha H locs ls hP hS hl0)
  rw [zx_fs_at hk]
  unfold zx_fv
  rw [ht]
  rfl
theorem zx_getR (E : zx_E B M) {F i ci n k index : Nat} (F1 i1 : Nat) {C nm d : String} (hf : zx_fd ci k C nm d 2) (hF : zx_isO F ci n) (hi : i < zx_nF F) (hq : zx_rf F i k = (F1, i1)) (hw : Cond.fieldLink M.2.2.1 index C nm d ∈ zx_G) (hd : decode M.1 pc = .ok (.getfield index, 3)) (Kc : zx_X B M Qf sem ck cn (pc + 3) lv (zx_rV (zx_BK B) F1 i1 :: st) h) : zx_X B M Qf sem ck cn pc lv (zx_rV (zx_BK B) F i :: st) h := by
  obtain ⟨p, l, e, s, m, args, below, meth, c, K⟩ := B
  obtain ⟨cc, nL, own, ret, R⟩ := M
  obtain ⟨hx, hb, hml, hown, hts, hr, hlk, hok, hn, hK, hS0⟩ := E
  intro a ha H locs ls hP hS hl0
  obtain ⟨T, N, hc, hk, rfl, rfl, rfl, ht, hin, hN⟩ := hf
  cases hN F n hF
  refine va_get (D := zx_kD K) (ci := ci) (v := zx_rV K F1 i1) hx hb hts hin hown hK hP (zx_pl F i) ((zx_wd_at K h hF.1 hi).trans (by rw [zx_cF_O hF])) hc k hk (hts _ hw) (fun _ h9 => h9) ?_ hd (Kc a ha H locs ls hP hS hl0)
  rw [zx_fs_at hk]
  unfold zx_fv
  rw [ht, hq]
  rfl
/-- a field that is written: what its type takes -/
def zx_fp (c k : Nat) (ty : FieldType) : Prop := ∃ (C : String) (T : u_T) (N : Nat) (ty0 : Nat → FieldType), zx_cl[c]? = some (C, T, N) ∧ (∀ k, k < N → parseFieldDescriptor (T k).2.2.1 = some (ty0 k)) ∧ (∀ a, a < N → ∀ b, b < N → a ≠ b → (T a).2.1 ≠ (T b).2.1) ∧ (T k).2.2.2 = false ∧ parseFieldDescriptor (T k).2.2.1 = some ty
theorem zx_putI (E : zx_E B M) {F i ci n k index : Nat} {C nm d : String} {v : Int32} {ty : FieldType} (hf : zx_fd ci k C nm d 0) (hp : zx_fp ci k ty) (hF : zx_isO F ci n) (hi : i < zx_nF F) (hna : narrow ty (.int v) = .int v) (hfi : fits ty (.int v) = true) (hw : Cond.fieldLink M.2.2.1 index C nm d ∈ zx_G) (hd : decode M.1 pc = .ok (.putfield index, 3)) (Kc : zx_X B M Qf sem ck cn (pc + 3) lv st (zx_sI h F i k v)) : zx_X B M Qf sem ck cn pc lv (.int v :: zx_rV (zx_BK B) F i :: st) h := by
  obtain ⟨p, l, e, s, m, args, below, meth, c, K⟩ := B
  obtain ⟨cc, nL, own, ret, R⟩ := M
  obtain ⟨hx, hb, hml, hown, hts, hr, hlk, hok, hn, hK, hS0⟩ := E
  intro a ha H locs ls hP hS hl0
  obtain ⟨T, N, hc, hk, rfl, rfl, rfl, ht, hin, hN⟩ := hf
  cases hN F n hF
  obtain ⟨C2, T2, N2, ty0, hc2, hty, hnm, hfin, hpd⟩ := hp
  cases Option.some.inj (hc.symm.trans hc2)
  refine va_put (D := zx_kD K) (ci := ci) (v := .int v) (ty := ty) hx hb hts hin ty0 hty hnm hown hK hP (zx_wd_D hok h) hS (zx_pl F i) ((zx_wd_at K h hF.1 hi).trans (by rw [zx_cF_O hF])) hc k hk (hts _ hw) (fun _ h9 => h9) hfin hpd hna hfi (by rw [List.length_map, List.length_range]; exact hk) hd (fun H1 locs1 hP1 hD1 hS1 => ?_)
  rw [← zx_fs_sI hk ht, zx_wd_set hF.1 hi (zx_cF_O hF) (fun F' i' hne => zx_cF_sI F' i' hne)] at hP1
  exact Kc a ha H1 locs1 ls hP1 hS1 hl0
theorem zx_putJ (E : zx_E B M) {F i ci n k index : Nat} {C nm d : String} {v : Int64} (hf : zx_fd ci k C nm d 1) (hp : zx_fp ci k .long) (hF : zx_isO F ci n) (hi : i < zx_nF F) (hw : Cond.fieldLink M.2.2.1 index C nm d ∈ zx_G) (hd : decode M.1 pc = .ok (.putfield index, 3)) (Kc : zx_X B M Qf sem ck cn (pc + 3) lv st (zx_sJ h F i k v)) : zx_X B M Qf sem ck cn pc lv (.long v :: zx_rV (zx_BK B) F i :: st) h := by
  obtain ⟨p, l, e, s, m, args, below, meth, c, K⟩ := B
  obtain ⟨cc, nL, own, ret, R⟩ := M
  obtain ⟨hx, hb, hml, hown, hts, hr, hlk, hok, hn, hK, hS0⟩ := E
  intro a ha H locs ls hP hS hl0
  obtain ⟨T, N, hc, hk, rfl, rfl, rfl, ht, hin, hN⟩ := hf
  cases hN F n hF
  obtain ⟨C2, T2, N2, ty0, hc2, hty, hnm, hfin, hpd⟩ := hp
  cases Option.some.inj (hc.symm.trans hc2)
  refine va_put (D := zx_kD K) (ci := ci) (v := .long v) (ty := .long) hx hb hts hin ty0 hty hnm hown hK hP (zx_wd_D hok h) hS (zx_pl F i) ((zx_wd_at K h hF.1 hi).trans (by rw [zx_cF_O hF])) hc k hk (hts _ hw) (fun _ h9 => h9) hfin hpd rfl rfl (by rw [List.length_map, List.length_range]; exact hk) hd (fun H1 locs1 hP1 hD1 hS1 => ?_)
  rw [← zx_fs_sJ hk ht, zx_wd_set hF.1 hi (zx_cF_O hF) (fun F' i' hne => zx_cF_sJ F' i' hne)] at hP1
  exact Kc a ha H1 locs1 ls hP1 hS1 hl0
theorem zx_iald (E : zx_E B M) {F i n : Nat} {x : Int32} (hF : zx_isI F n) (hi : i < zx_nF F) (hd : decode M.1 pc = .ok (.iaload, 1)) (Kc : zx_X B M Qf sem ck cn (pc + 1) lv (.int (h.1 F i x.toNatClampNeg) :: st) h) : zx_X B M Qf (if zx_in x n = true then sem else none) ck cn pc lv (.int x :: zx_rV (zx_BK B) F i :: st) h := by
  obtain ⟨p, l, e, s, m, args, below, meth, c, K⟩ := B
  obtain ⟨cc, nL, own, ret, R⟩ := M
  obtain ⟨hx, hb, hml, hown, hts, hr, hlk, hok, hn, hK, hS0⟩ := E
  intro a ha H locs ls hP hS hl0
  by_cases hin0 : zx_in x n = true
  · rw [if_pos hin0] at ha
    have hin := zx_in_vp hin0
    exact va_iald hx hb hK hP (zx_pl F i) 0 ((zx_wd_at K h hF.1 hi).trans (by rw [zx_cF_I hF])) rfl hin hd (Kc a ha H locs ls hP hS hl0)
  · rw [if_neg hin0] at ha; cases ha
theorem zx_lald (E : zx_E B M) {F i n : Nat} {x : Int32} (hF : zx_isJ F n) (hi : i < zx_nF F) (hd : decode M.1 pc = .ok (.laload, 1)) (Kc : zx_X B M Qf sem ck cn (pc + 1) lv (.long (h.2 F i x.toNatClampNeg) :: st) h) : zx_X B M Qf (if zx_in x n = true then sem else none) ck cn pc lv (.int x :: zx_rV (zx_BK B) F i :: st) h := by
  obtain ⟨p, l, e, s, m, args, below, meth, c, K⟩ := B
  obtain ⟨cc, nL, own, ret, R⟩ := M
  obtain ⟨hx, hb, hml, hown, hts, hr, hlk, hok, hn, hK, hS0⟩ := E
  intro a ha H locs ls hP hS hl0
  by_cases hin0 : zx_in x n = true
  · rw [if_pos hin0] at ha
    have hin := zx_in_vp hin0
    exact va_lald hx hb hK hP (zx_pl F i) 1 ((zx_wd_at K h hF.1 hi).trans (by rw [zx_cF_J hF])) rfl hin hd (Kc a ha H locs ls hP hS hl0)
  · rw [if_neg hin0] at ha; cases ha
theorem zx_iast (E : zx_E B M) {F i n : Nat} {x v : Int32} (hF : zx_isI F n) (hi : i < zx_nF F) (hd : decode M.1 pc = .ok (.iastore, 1)) (Kc : zx_X B M Qf sem ck cn (pc + 1) lv st (zx_sI h F i x.toNatClampNeg v)) : zx_X B M Qf (if zx_in x n = true then sem else none) ck cn pc lv (.int v :: .int x :: zx_rV (zx_BK B) F i :: st) h := by
  obtain ⟨p, l, e, s, m, args, below, meth, c, K⟩ := B
  obtain ⟨cc, nL, own, ret, R⟩ := M
  obtain ⟨hx, hb, hml, hown, hts, hr, hlk, hok, hn, hK, hS0⟩ := E
  intro a ha H locs ls hP hS hl0
  by_cases hin0 : zx_in x n = true
  · rw [if_pos hin0] at ha
    have hin := zx_in_vp hin0
    refine va_iast hx hb hK hP (zx_wd_D hok h) hS (zx_pl F i) 0 ((zx_wd_at K h hF.1 hi).trans (by rw [zx_cF_I hF])) rfl hin hd (fun H1 locs1 hP1 hD1 hS1 => ?_)
    rw [zx_wd_set (h' := zx_sI h F i x.toNatClampNeg v) hF.1 hi ?_ (fun F' i' hne => zx_cF_sI F' i' hne)] at hP1
    · exact Kc a ha H1 locs1 ls hP1 hS1 hl0
    · rw [zx_cF_I hF]
      congr 4
      funext q
      show (if F = F ∧ i = i ∧ q = x.toNatClampNeg then v else h.1 F i q) = (if q = x.toNatClampNeg then v else h.1 F i q)
      simp only [true_and]
  · rw [if_neg hin0] at ha; cases ha
theorem zx_last (E : zx_E B M) {F i n : Nat} {x : Int32} {v : Int64} (hF : zx_isJ F n) (hi : i < zx_nF F) (hd : decode M.1 pc = .ok (.lastore, 1)) (Kc : zx_X B M Qf sem ck cn (pc + 1) lv st (zx_sJ h F i x.toNatClampNeg v)) : zx_X B M Qf (if zx_in x n = true then sem else none) ck cn pc lv (.long v :: .int x :: zx_rV (zx_BK B) F i :: st) h := by
  obtain ⟨p, l, e, s, m, args, below, meth, c, K⟩ := B
  obtain ⟨cc, nL, own, ret, R⟩ := M
  obtain ⟨hx, hb, hml, hown, hts, hr, hlk, hok, hn, hK, hS0⟩ := E
  intro a ha H locs ls hP hS hl0
  by_cases hin0 : zx_in x n = true
  · rw [if_pos hin0] at ha
    have hin := zx_in_vp hin0
    refine va_last hx hb hK hP (zx_wd_D hok h) hS (zx_pl F i) 1 ((zx_wd_at K h hF.1 hi).trans (by rw [zx_cF_J hF])) rfl hin hd (fun H1 locs1 hP1 hD1 hS1 => ?_)
    rw [zx_wd_set (h' := zx_sJ h F i x.toNatClampNeg v) hF.1 hi ?_ (fun F' i' hne => zx_cF_sJ F' i' hne)] at hP1
    · exact Kc a ha H1 locs1 ls hP1 hS1 hl0
    · rw [zx_cF_J hF]
      congr 5
      funext q
      show (if F = F ∧ i = i ∧ q = x.toNatClampNeg then v else h.2 F i q) = (if q = x.toNatClampNeg then v else h.2 F i q)
      simp only [true_and]
  · rw [if_neg hin0] at ha; cases ha
theorem zx_aald (E : zx_E B M) {F i t n N F1 : Nat} {x : Int32} {C : String} {k : Fin N → Option α} (f : Fin N → Nat) (hF : zx_isR F t n) (hNn : N = n) (ht : (zx_tys (zx_BK B))[t + 2]? = some (zx_kc (zx_BK B) (t + 2), .object C)) (hi : i < zx_nF F) (hq : ∀ j : Fin N, zx_rf F i j.val = (F1, f j)) (hd : decode M.1 pc = .ok (.aaload, 1)) (Kc : ∀ j : Fin N, zx_X B M Qf (k j) ck cn (pc + 1) lv (zx_rV (zx_BK B) F1 (f j) :: st) h) : zx_X B M Qf ((zx_fin N x).bind k) ck cn pc lv (.int x :: zx_rV (zx_BK B) F i :: st) h := by
  obtain ⟨p, l, e, s, m, args, below, meth, c, K⟩ := B
  obtain ⟨cc, nL, own, ret, R⟩ := M
  obtain ⟨hx, hb, hml, hown, hts, hr, hlk, hok, hn, hK, hS0⟩ := E
  intro a ha H locs ls hP hS hl0
  subst hNn
  by_cases hin0 : zx_in x N = true
  · unfold zx_fin at ha
    rw [dif_pos hin0] at ha
    have hin := zx_in_vp hin0
    refine va_aldq hx hb hK hP (zx_pl F i) (t + 2) ((zx_wd_at K h hF.1 hi).trans (by rw [zx_cF_R hF])) ht hin hd ?_
    have := Kc ⟨x.toNatClampNeg, zx_in_lt hin0⟩ a ha H locs ls hP hS hl0
    rw [← show (zx_rf F i x.toNatClampNeg).2 = f ⟨x.toNatClampNeg, zx_in_lt hin0⟩ from by rw [hq ⟨x.toNatClampNeg, zx_in_lt hin0⟩]] at this
    rw [← show (zx_rf F i x.toNatClampNeg).1 = F1 from by rw [hq ⟨x.toNatClampNeg, zx_in_lt hin0⟩]] at this
    exact this
  · unfold zx_fin at ha
    rw [dif_neg hin0] at ha; cases ha
theorem zx_alen (E : zx_E B M) {F i n : Nat} (v : Int32) (hF : zx_isI F n) (hi : i < zx_nF F) (hv : Int32.ofNat n = v) (hd : decode M.1 pc = .ok (.arraylength, 1)) (Kc : zx_X B M Qf sem ck cn (pc + 1) lv (.int v :: st) h) : zx_X B M Qf sem ck cn pc lv (zx_rV (zx_BK B) F i :: st) h := by
  obtain ⟨p, l, e, s, m, args, below, meth, c, K⟩ := B
  obtain ⟨cc, nL, own, ret, R⟩ := M
  obtain ⟨hx, hb, hml, hown, hts, hr, hlk, hok, hn, hK, hS0⟩ := E
  intro a ha H locs ls hP hS hl0
  exact va_alen hx hb hK hP (zx_pl F i) 0 ((zx_wd_at K h hF.1 hi).trans (by rw [zx_cF_I hF])) rfl hv hd (Kc a ha H locs ls hP hS hl0)

theorem zx_getsL (E : zx_E B M) {index : Nat} (hw : Cond.fieldLink M.2.2.1 index "BeanLoom$Basics" "LEAST" "[J" ∈ zx_G) (hd : decode M.1 pc = .ok (.getstatic index, 3)) (Kc : zx_X B M Qf sem ck cn (pc + 3) lv (.ref (zx_xa (zx_BK B) 0) :: st) h) : zx_X B M Qf sem ck cn pc lv st h := by
  obtain ⟨p, l, e, s, m, args, below, meth, c, K⟩ := B
  obtain ⟨cc, nL, own, ret, R⟩ := M
  obtain ⟨hx, hb, hml, hown, hts, hr, hlk, hok, hn, hK, hS0⟩ := E
  intro a ha H locs ls hP hS hl0
  exact va_gets hx hb hS0.1.1 hS hown (hts _ hw) (fun _ h9 => h9) hd (Kc a ha H locs ls hP hS hl0)
theorem zx_getsM (E : zx_E B M) {index : Nat} (hw : Cond.fieldLink M.2.2.1 index "BeanLoom$Basics" "MOST" "[J" ∈ zx_G) (hd : decode M.1 pc = .ok (.getstatic index, 3)) (Kc : zx_X B M Qf sem ck cn (pc + 3) lv (.ref (zx_xa (zx_BK B) 1) :: st) h) : zx_X B M Qf sem ck cn pc lv st h := by
  obtain ⟨p, l, e, s, m, args, below, meth, c, K⟩ := B
  obtain ⟨cc, nL, own, ret, R⟩ := M
  obtain ⟨hx, hb, hml, hown, hts, hr, hlk, hok, hn, hK, hS0⟩ := E
  intro a ha H locs ls hP hS hl0
  exact va_gets hx hb hS0.1.2.1 hS hown (hts _ hw) (fun _ h9 => h9) hd (Kc a ha H locs ls hP hS hl0)
theorem zx_slaldL (E : zx_E B M) {x : Int32} (hd : decode M.1 pc = .ok (.laload, 1)) (Kc : zx_X B M Qf sem ck cn (pc + 1) lv (.long (zx_least x.toNatClampNeg) :: st) h) : zx_X B M Qf (if zx_in x 6 = true then sem else none) ck cn pc lv (.int x :: .ref (zx_xa (zx_BK B) 0) :: st) h := by
  obtain ⟨p, l, e, s, m, args, below, meth, c, K⟩ := B
  obtain ⟨cc, nL, own, ret, R⟩ := M
  obtain ⟨hx, hb, hml, hown, hts, hr, hlk, hok, hn, hK, hS0⟩ := E
  intro a ha H locs ls hP hS hl0
  by_cases hin0 : zx_in x 6 = true
  · rw [if_pos hin0] at ha
    exact va_tl hx hb hS0.1.2.2.1 hS (zx_in_vp hin0) rfl hd (Kc a ha H locs ls hP hS hl0)
  · rw [if_neg hin0] at ha; cases ha
theorem zx_slaldM (E : zx_E B M) {x : Int32} (hd : decode M.1 pc = .ok (.laload, 1)) (Kc : zx_X B M Qf sem ck cn (pc + 1) lv (.long (zx_most x.toNatClampNeg) :: st) h) : zx_X B M Qf (if zx_in x 6 = true then sem else none) ck cn pc lv (.int x :: .ref (zx_xa (zx_BK B) 1) :: st) h := by
  obtain ⟨p, l, e, s, m, args, below, meth, c, K⟩ := B
  obtain ⟨cc, nL, own, ret, R⟩ := M
  obtain ⟨hx, hb, hml, hown, hts, hr, hlk, hok, hn, hK, hS0⟩ := E
  intro a ha H locs ls hP hS hl0
  by_cases hin0 : zx_in x 6 = true
  · rw [if_pos hin0] at ha
    exact va_tl hx hb hS0.1.2.2.2.1 hS (zx_in_vp hin0) rfl hd (Kc a ha H locs ls hP hS hl0)
  · rw [if_neg hin0] at ha; cases ha
theorem zx_slenL (E : zx_E B M) (hd : decode M.1 pc = .ok (.arraylength, 1)) (Kc : zx_X B M Qf sem ck cn (pc + 1) lv (.int 6 :: st) h) : zx_X B M Qf sem ck cn pc lv (.ref (zx_xa (zx_BK B) 0) :: st) h := by
  obtain ⟨p, l, e, s, m, args, below, meth, c, K⟩ := B
  obtain ⟨cc, nL, own, ret, R⟩ := M
  obtain ⟨hx, hb, hml, hown, hts, hr, hlk, hok, hn, hK, hS0⟩ := E
  intro a ha H locs ls hP hS hl0
  exact va_tlen hx hb hS0.1.2.2.1 hS rfl hd (Kc a ha H locs ls hP hS hl0)
theorem zx_mmax (E : zx_E B M) {x y : Int64} {index : Nat} (h1 : Cond.methodLink M.2.2.1 index Lib.MathLoose.max_long.x ∈ zx_G) (h2 : Cond.static Lib.MathLoose.max_long.x ∈ zx_G) (h3 : Cond.initialized "java/lang/Math" ∈ zx_G) (h4 : Cond.code Lib.MathLoose.max_long.x Lib.MathLoose.max_long.code 4 (some .long) ∈ zx_G) (hR : 1 ≤ M.2.2.2.2.frames ∧ (st.map fun v => v.category).sum + 15 ≤ M.2.2.2.2.locals) (hck : ck ≤ M.2.2.2.2.cells) (hcn : cn ≤ M.2.2.2.2.slots) (hd : decode M.1 pc = .ok (.invokestatic index, 3)) (Kc : zx_X B M Qf sem ck cn (pc + 3) lv (.long (zx_max x y) :: st) h) : zx_X B M Qf sem ck cn pc lv (.long y :: .long x :: st) h := by
  obtain ⟨p, l, e, s, m, args, below, meth, c, K⟩ := B
  obtain ⟨cc, nL, own, ret, R⟩ := M
  obtain ⟨hx, hb, hml, hown, hts, hr, hlk, hok, hn, hK, hS0⟩ := E
  intro a ha H locs ls hP hS hl0
  exact va_mmax_long hx hb (hml.trans hl0.1.symm) hown (hts _ h1) (hts _ h2) (hts _ h3) (hts _ h4) hR.1 hR.2 hck hcn hd (Kc a ha H locs ls hP hS hl0)
theorem zx_mmin (E : zx_E B M) {x y : Int64} {index : Nat} (h1 : Cond.methodLink M.2.2.1 index Lib.MathLoose.min_long.x ∈ zx_G) (h2 : Cond.static Lib.MathLoose.min_long.x ∈ zx_G) (h3 : Cond.initialized "java/lang/Math" ∈ zx_G) (h4 : Cond.code Lib.MathLoose.min_long.x Lib.MathLoose.min_long.code 4 (some .long) ∈ zx_G) (hR : 1 ≤ M.2.2.2.2.frames ∧ (st.map fun v => v.category).sum + 15 ≤ M.2.2.2.2.locals) (hck : ck ≤ M.2.2.2.2.cells) (hcn : cn ≤ M.2.2.2.2.slots) (hd : decode M.1 pc = .ok (.invokestatic index, 3)) (Kc : zx_X B M Qf sem ck cn (pc + 3) lv (.long (zx_min x y) :: st) h) : zx_X B M Qf sem ck cn pc lv (.long y :: .long x :: st) h := by
  obtain ⟨p, l, e, s, m, args, below, meth, c, K⟩ := B
  obtain ⟨cc, nL, own, ret, R⟩ := M
  obtain ⟨hx, hb, hml, hown, hts, hr, hlk, hok, hn, hK, hS0⟩ := E
  intro a ha H locs ls hP hS hl0
  exact va_mmin_long hx hb (hml.trans hl0.1.symm) hown (hts _ h1) (hts _ h2) (hts _ h3) (hts _ h4) hR.1 hR.2 hck hcn hd (Kc a ha H locs ls hP hS hl0)
/-- the end of a method that returns: what it is told to be by ρ -/
def zx_QM (B : zx_B) {α : Type} (ρ : α → Option Value × zx_H) : α → State → Prop := match B with
  | (_, _, _, s, _, args, below, _, _, K) => fun a => MQ below (zx_Q K (ρ a).1 (ρ a).2) args s 0 0 (zx_A K)
theorem zx_end {K : zx_K} {s t : State} {H : Heap} {locs : List Loc} {h : zx_H} (hok : zx_ok K) (hn : zx_n0 K ≤ s.heap.size) (hK : va_K (zx_kD K) zx_cl (zx_tys K) s) (hS0 : zx_S K s) (hP : va_P (zx_kD K) zx_cl (zx_wd K h) H) (hS : va_S (zx_A K) s.heap H locs) (ht : t.heap = H) (hW : s.WarmedH t.vm) : zx_I K h t ∧ va_F (zx_A K) s t := by
  have hF := hS.F ht
  exact ⟨⟨hok, Nat.le_trans hn hF.1, by rw [ht]; exact hP, va_K.moved hW.alike hK, zx_S_warm hW hF.2 hS0⟩, hF⟩
theorem zx_iret (E : zx_E B M) {ρ : α → Option Value × zx_H} {a0 : α} {v : Int32} (hρ : ρ a0 = (some (.int v), h)) (hret : M.2.2.2.1 = some .int) (hd : decode M.1 pc = .ok (.ireturn, 1)) : zx_X B M (zx_QM B ρ) (some a0) 0 0 pc lv [.int v] h := by
  obtain ⟨p, l, e, s, m, args, below, meth, c, K⟩ := B
  obtain ⟨cc, nL, own, ret, R⟩ := M
  obtain ⟨hx, hb, hml, hown, hts, hr, hlk, hok, hn, hK, hS0⟩ := E
  intro a ha H locs ls hP hS hl0
  cases Option.some.inj ha
  show W p l e R s m args below meth c H locs 0 0 (MQ below (zx_Q K (ρ a0).1 (ρ a0).2) args s 0 0 (zx_A K)) (F0 m pc ls [.int v])
  rw [hρ]
  exact W.iret hx hb (hr.trans hret) (fun t ht hW => ⟨rfl, zx_end hok hn hK hS0 hP hS ht hW⟩) hS.2.2 hd hlk
theorem zx_zret (E : zx_E B M) {ρ : α → Option Value × zx_H} {a0 : α} {v : Int32} (b : Bool) (hv : v = zx_b b) (hρ : ρ a0 = (some (.int v), h)) (hret : M.2.2.2.1 = some .boolean) (hd : decode M.1 pc = .ok (.ireturn, 1)) : zx_X B M (zx_QM B ρ) (some a0) 0 0 pc lv [.int v] h := by
  obtain ⟨p, l, e, s, m, args, below, meth, c, K⟩ := B
  obtain ⟨cc, nL, own, ret, R⟩ := M
  obtain ⟨hx, hb, hml, hown, hts, hr, hlk, hok, hn, hK, hS0⟩ := E
  intro a ha H locs ls hP hS hl0
  cases Option.some.inj ha
  show W p l e R s m args below meth c H locs 0 0 (MQ below (zx_Q K (ρ a0).1 (ρ a0).2) args s 0 0 (zx_A K)) (F0 m pc ls [.int v])
  rw [hρ]
  exact W.zret hx hb (hr.trans hret) (by subst hv; cases b <;> rfl) (fun t ht hW => ⟨rfl, zx_end hok hn hK hS0 hP hS ht hW⟩) hS.2.2 hd hlk
theorem zx_lret (E : zx_E B M) {ρ : α → Option Value × zx_H} {a0 : α} {v : Int64} (hρ : ρ a0 = (some (.long v), h)) (hret : M.2.2.2.1 = some .long) (hd : decode M.1 pc = .ok (.lreturn, 1)) : zx_X B M (zx_QM B ρ) (some a0) 0 0 pc lv [.long v] h := by
  obtain ⟨p, l, e, s, m, args, below, meth, c, K⟩ := B
  obtain ⟨cc, nL, own, ret, R⟩ := M
  obtain ⟨hx, hb, hml, hown, hts, hr, hlk, hok, hn, hK, hS0⟩ := E
  intro a ha H locs ls hP hS hl0
  cases Option.some.inj ha
  show W p l e R s m args below meth c H locs 0 0 (MQ below (zx_Q K (ρ a0).1 (ρ a0).2) args s 0 0 (zx_A K)) (F0 m pc ls [.long v])
  rw [hρ]
  exact W.lret hx hb (hr.trans hret) (fun t ht hW => ⟨rfl, zx_end hok hn hK hS0 hP hS ht hW⟩) hS.2.2 hd hlk
theorem zx_vret (E : zx_E B M) {ρ : α → Option Value × zx_H} {a0 : α} (hρ : ρ a0 = (none, h)) (hret : M.2.2.2.1 = none) (hd : decode M.1 pc = .ok (.return_, 1)) : zx_X B M (zx_QM B ρ) (some a0) 0 0 pc lv [] h := by
  obtain ⟨p, l, e, s, m, args, below, meth, c, K⟩ := B
  obtain ⟨cc, nL, own, ret, R⟩ := M
  obtain ⟨hx, hb, hml, hown, hts, hr, hlk, hok, hn, hK, hS0⟩ := E
  intro a ha H locs ls hP hS hl0
  cases Option.some.inj ha
  show W p l e R s m args below meth c H locs 0 0 (MQ below (zx_Q K (ρ a0).1 (ρ a0).2) args s 0 0 (zx_A K)) (F0 m pc ls [])
  rw [hρ]
  exact W.vret hx hb (hr.trans hret) (fun t ht hW => ⟨rfl, zx_end hok hn hK hS0 hP hS ht hW⟩) hS.2.2 hd hlk
end ZXR
theorem zx_ofM {l : Launch} {M : zx_M} {y : MethodName} {K : zx_K} {as : List Value} {h : zx_H} {α : Type} {ρ : α → Option Value × zx_H} {sem : Option α} {r : α} (hy : plainName y.cls = true) (hcls : y.cls = M.2.2.1) (hsem : sem = some r) (hn : (lg_sl as).length ≤ M.2.1)
    (body : ∀ B : zx_B, zx_Bl B = l → zx_BK B = K → zx_E B M → zx_X B M (zx_QM B ρ) sem 0 0 0 (lv_args 0 as) [] h) : zx_MR l M y K as h (ρ r).1 (ρ r).2 := by
  obtain ⟨cc, nL, own, ret, R⟩ := M
  refine Met.ofW (cc := cc) (maxL := nL) (ret := ret) hy rfl ?_
  intro p e s m args below meth c s₁ B hml hv
  obtain ⟨rfl, hok, hn0, hP, hK, hS0⟩ := hv
  have hts := atoms_spec (ws := Cond.code y cc nL ret :: zx_G) B.pre
  have hown : s.vm.findClass own = some m.cls := by
    have := findClass_of_methodNamed B.named
    rw [hcls] at this
    exact this
  have X := body (p, l, e, s, m, as.toArray, below, meth, c, K) rfl rfl ⟨B.exec, B.bytes, hml, hown, fun w hw => hts w (List.mem_cons_of_mem _ hw), B.returns, B.notSynchronized, hok, hn0, hK, hS0⟩
  have hl := lv_entry as (n := nL) hn
  rw [lg_entry_eq]
  exact X r hsem s.heap [] _ hP va_S.rf hl
section ZXC
variable {B : zx_B} {M : zx_M} {α β : Type} {Qf : α → State → Prop} {ks : β → Option α} {g : Option β} {ck cn pc : Nat} {lv : List (Nat × Value)} {st st0 : List Value} {h : zx_H} {My : zx_M} {y : MethodName} {As : List Value} {idx n : Nat} {C : String} {rv : β → Option Value × zx_H}
theorem zx_run {p : Program} {l : Launch} {e : Env} {R : Room} {s : State} {m : MethodId} {args : Array Value} {below : List Frame} {meth : Method} {c : Code} {K : zx_K} {H : Heap} {locs : List Loc} {ck cn pc : Nat} {ls : Array Slot} {st0 rest : List Value} {Q : State → Prop} {v : Option Value} {h' : zx_H} {a : Array Value}
    (hr : va_Run p l e R s m args below meth c H locs ck cn 0 0 (F0 m pc ls st0) rest (zx_Q K v h' a) (zx_A K)) (hS : va_S (zx_A K) s.heap H locs)
    (kk : ∀ (H1 : Heap) (locs1 : List Loc), va_P (zx_kD K) zx_cl (zx_wd K h') H1 → va_S (zx_A K) s.heap H1 locs1 → W p l e R s m args below meth c H1 locs1 ck cn Q (F0 m (pc + 3) ls (v.toList ++ rest))) : W p l e R s m args below meth c H locs ck cn Q (F0 m pc ls st0) := by
  intro T hT X
  obtain ⟨v', st₀, t, T', L, h0, X', hL, e1, e2, ⟨hv, hI, hF⟩, st⟩ := hr T hT X
  cases hv
  obtain ⟨k1, k2, k3⟩ := vx_keep h0 e1 hS (fun q _ h => h) (fun q h => h) hL hF
  obtain ⟨t2, a1, b1⟩ := kk T'.heap (locs ++ L) (by rw [e1]; exact hI.2.2.1) k3 T' rfl X'
  exact ⟨t2, st t2 a1, b1⟩
theorem zx_blind {as : List Value} {K : zx_K} {h : zx_H} : FrameBlind (va_Pc as (zx_I K h)) := fun a U g mk q => ⟨q.1, zx_I_same (s := U) (U := U.calling g mk a) rfl rfl q.2⟩
theorem zx_pre {K : zx_K} {s : State} {H : Heap} {locs : List Loc} {h : zx_H} (hok : zx_ok K) (hn : zx_n0 K ≤ s.heap.size) (hK : va_K (zx_kD K) zx_cl (zx_tys K) s) (hS0 : zx_S K s) (hP : va_P (zx_kD K) zx_cl (zx_wd K h) H) (hS : va_S (zx_A K) s.heap H locs) {U : State} (hU : U.heap = H) (hW : s.WarmedH U.vm) : zx_I K h U := (zx_end hok hn hK hS0 hP hS hU hW).1
/-- the words of a call by a name on an object of our own -/
def zx_Wv (own : String) (idx : Nat) (C : String) (y : MethodName) (My : zx_M) (n : Nat) : Prop := GoodIn zx_G (wsV own idx C y (Cond.code y My.1 My.2.1 My.2.2.2.1 :: zx_G)) ∧ (y.cls = C ∧ y.cls ≠ "java/lang/invoke/MethodHandle" ∧ y.cls ≠ "java/lang/invoke/VarHandle" ∧ (parseMethodDescriptor y.desc).map (fun d => d.parameters.length) = some n) ∧ My.2.2.2.2.cells = 0 ∧ My.2.2.2.2.slots = 0
def zx_Ws (own : String) (idx : Nat) (y : MethodName) (My : zx_M) (n : Nat) : Prop := GoodIn zx_G (va_wsS own idx y (Cond.code y My.1 My.2.1 My.2.2.2.1 :: zx_G)) ∧ (y.cls ≠ "java/lang/invoke/MethodHandle" ∧ y.cls ≠ "java/lang/invoke/VarHandle" ∧ (parseMethodDescriptor y.desc).map (fun d => d.parameters.length) = some n) ∧ My.2.2.2.2.cells = 0 ∧ My.2.2.2.2.slots = 0
theorem zx_gc {l : List Cond} {w : Cond} (hw : w ∈ zx_G) (hl : ∀ x ∈ l, x ∈ zx_G) : GoodIn zx_G (l ++ (w :: zx_G)) := zx_Gs fun x hx => by
  rcases List.mem_append.mp hx with q | q
  · exact hl x q
  · rcases List.mem_cons.mp q with rfl | q
    · exact hw
    · exact q
theorem zx_WvOf {own : String} {idx : Nat} {y : MethodName} {My : zx_M} {n : Nat} (h1 : Cond.methodLink own idx y ∈ zx_G) (h2 : Cond.instanceMethod y ∈ zx_G) (h3 : Cond.selects y.cls y y ∈ zx_G) (h4 : Cond.initialized y.cls ∈ zx_G) (h5 : Cond.code y My.1 My.2.1 My.2.2.2.1 ∈ zx_G) (h6 : y.cls ≠ "java/lang/invoke/MethodHandle" ∧ y.cls ≠ "java/lang/invoke/VarHandle" ∧ (parseMethodDescriptor y.desc).map (fun d => d.parameters.length) = some n) (h7 : My.2.2.2.2.cells = 0) (h8 : My.2.2.2.2.slots = 0) : zx_Wv own idx y.cls y My n :=
  ⟨zx_gc h5 (fun x hx => by
    simp only [List.mem_cons, List.not_mem_nil, or_false] at hx
    rcases hx with rfl | rfl | rfl | rfl <;> assumption), ⟨rfl, h6⟩, h7, h8⟩
theorem zx_WsOf {own : String} {idx : Nat} {y : MethodName} {My : zx_M} {n : Nat} (h1 : Cond.methodLink own idx y ∈ zx_G) (h2 : Cond.static y ∈ zx_G) (h4 : Cond.initialized y.cls ∈ zx_G) (h5 : Cond.code y My.1 My.2.1 My.2.2.2.1 ∈ zx_G) (h6 : y.cls ≠ "java/lang/invoke/MethodHandle" ∧ y.cls ≠ "java/lang/invoke/VarHandle" ∧ (parseMethodDescriptor y.desc).map (fun d => d.parameters.length) = some n) (h7 : My.2.2.2.2.cells = 0) (h8 : My.2.2.2.2.slots = 0) : zx_Ws own idx y My n :=
  ⟨zx_gc h5 (fun x hx => by
    simp only [List.mem_cons, List.not_mem_nil, or_false] at hx
    rcases hx with rfl | rfl | rfl <;> assumption), h6, h7, h8⟩
/-- room and stack of a call -/
def zx_rm (M My : zx_M) : Prop := My.2.2.2.2.frames + 1 ≤ M.2.2.2.2.frames ∧ 8 + (My.2.1 + 11) + My.2.2.2.2.locals ≤ M.2.2.2.2.locals
theorem zx_callV (E : zx_E B M) {F i ci nf : Nat} {T : u_T} (rv : β → Option Value × zx_H) (As : List Value) (hM : ∀ r, g = some r → zx_MR (zx_Bl B) My y (zx_BK B) (zx_rV (zx_BK B) F i :: As) h (rv r).1 (rv r).2) (hF : zx_isO F ci nf) (hi : i < zx_nF F) (hc : zx_cl[ci]? = some (C, T, nf)) (hw : zx_Wv M.2.2.1 idx C y My n) (hR : zx_rm M My)
    (hck : ck ≤ M.2.2.2.2.cells) (hcn : cn ≤ M.2.2.2.2.slots) (hn : As.length = n) (hst : st0 = As.reverse ++ zx_rV (zx_BK B) F i :: st) (hsum : (st.map fun v => v.category).sum ≤ 8) (hd : decode M.1 pc = .ok (.invokevirtual idx, 3))
    (Kc : ∀ r, zx_X B M Qf (ks r) ck cn (pc + 3) lv ((rv r).1.toList ++ st) (rv r).2) : zx_X B M Qf (g.bind ks) ck cn pc lv st0 h := by
  obtain ⟨p, l, e, s, m, args, below, meth, cd, K⟩ := B
  obtain ⟨cc, nL, own, ret, R⟩ := M
  obtain ⟨cy, nLy, owny, rety, Ry⟩ := My
  obtain ⟨hx, hb, hml, hown, hts, hr, hlk, hok, hn0, hK, hS0⟩ := E
  intro a ha H locs ls hP hS hl0
  cases hg : g with
  | none => rw [hg] at ha; cases ha
  | some r =>
    rw [hg] at ha
    subst hst
    obtain ⟨hw1, hw2, hw3, hw4⟩ := hw
    refine zx_run (K := K) (va_runV (Ts := zx_G) (own := own) (C := C) (b := zx_ad K (zx_pl F i)) (As := As) (rest := st) ⟨hx, hb, hml, hown, hts⟩ (hM r hg) (cwV n hts hw1 rfl hw3 hw4 hw2 hR) ⟨zx_blind, va_recv hK hP hc ((zx_wd_at K h hF.1 hi).trans (by rw [zx_cF_O hF])), fun U hU hW => ⟨rfl, zx_pre hok hn0 hK hS0 hP hS hU hW⟩⟩ rfl hn hl0.1 rfl (lv_room hsum) hd ⟨by omega, by omega⟩) hS (fun H1 locs1 hP1 hS1 => ?_)
    exact Kc r a ha H1 locs1 ls hP1 hS1 hl0
theorem zx_callS (E : zx_E B M) (rv : β → Option Value × zx_H) (As : List Value) (hM : ∀ r, g = some r → zx_MR (zx_Bl B) My y (zx_BK B) As h (rv r).1 (rv r).2) (hw : zx_Ws M.2.2.1 idx y My n) (hR : zx_rm M My)
    (hck : ck ≤ M.2.2.2.2.cells) (hcn : cn ≤ M.2.2.2.2.slots) (hn : As.length = n) (hst : st0 = As.reverse ++ st) (hsum : (st.map fun v => v.category).sum ≤ 8) (hd : decode M.1 pc = .ok (.invokestatic idx, 3))
    (Kc : ∀ r, zx_X B M Qf (ks r) ck cn (pc + 3) lv ((rv r).1.toList ++ st) (rv r).2) : zx_X B M Qf (g.bind ks) ck cn pc lv st0 h := by
  obtain ⟨p, l, e, s, m, args, below, meth, cd, K⟩ := B
  obtain ⟨cc, nL, own, ret, R⟩ := M
  obtain ⟨cy, nLy, owny, rety, Ry⟩ := My
  obtain ⟨hx, hb, hml, hown, hts, hr, hlk, hok, hn0, hK, hS0⟩ := E
  intro a ha H locs ls hP hS hl0
  cases hg : g with
  | none => rw [hg] at ha; cases ha
  | some r =>
    rw [hg] at ha
    subst hst
    obtain ⟨hw1, hw2, hw3, hw4⟩ := hw
    refine zx_run (K := K) (va_runS (Ts := zx_G) (own := own) (As := As) (rest := st) ⟨hx, hb, hml, hown, hts⟩ (hM r hg) (va_cwS n hts hw1 rfl hw3 hw4 hw2 hR) ⟨zx_blind, fun U hU hW => ⟨rfl, zx_pre hok hn0 hK hS0 hP hS hU hW⟩⟩ rfl hn hl0.1 rfl (lv_room hsum) hd ⟨by omega, by omega⟩) hS (fun H1 locs1 hP1 hS1 => ?_)
    exact Kc r a ha H1 locs1 ls hP1 hS1 hl0
end ZXC


/-! ===== calls, by what they answer ===== -/
section ZXD
variable {B : zx_B} {M : zx_M} {α β : Type} {Qf : α → State → Prop} {ck cn pc : Nat} {lv : List (Nat × Value)} {st st0 : List Value} {h : zx_H} {My : zx_M} {y : MethodName} {idx n : Nat} {C : String}
theorem zx_callV_i (E : zx_E B M) {F i ci nf : Nat} {T : u_T} {g : Option Int32} {ks : Int32 → Option α} (As : List Value) (hM : ∀ r, g = some r → zx_MR (zx_Bl B) My y (zx_BK B) (zx_rV (zx_BK B) F i :: As) h ((fun r => ((some (Value.int r) : Option Value), h)) r).1 ((fun r => ((some (Value.int r) : Option Value), h)) r).2) (hF : zx_isO F ci nf) (hi : i < zx_nF F) (hc : zx_cl[ci]? = some (C, T, nf)) (hw : zx_Wv M.2.2.1 idx C y My n) (hR : zx_rm M My) (hck : ck ≤ M.2.2.2.2.cells) (hcn : cn ≤ M.2.2.2.2.slots) (hn : As.length = n) (hst : st0 = As.reverse ++ zx_rV (zx_BK B) F i :: st) (hsum : (st.map fun v => v.category).sum ≤ 8) (hd : decode M.1 pc = .ok (.invokevirtual idx, 3)) (Kc : ∀ r, zx_X B M Qf (ks r) ck cn (pc + 3) lv (.int r :: st) h) : zx_X B M Qf (g.bind ks) ck cn pc lv st0 h := zx_callV E (fun r => ((some (Value.int r) : Option Value), h)) As hM hF hi hc hw hR hck hcn hn hst hsum hd Kc
theorem zx_callS_i (E : zx_E B M) {g : Option Int32} {ks : Int32 → Option α} (As : List Value) (hM : ∀ r, g = some r → zx_MR (zx_Bl B) My y (zx_BK B) As h ((fun r => ((some (Value.int r) : Option Value), h)) r).1 ((fun r => ((some (Value.int r) : Option Value), h)) r).2) (hw : zx_Ws M.2.2.1 idx y My n) (hR : zx_rm M My) (hck : ck ≤ M.2.2.2.2.cells) (hcn : cn ≤ M.2.2.2.2.slots) (hn : As.length = n) (hst : st0 = As.reverse ++ st) (hsum : (st.map fun v => v.category).sum ≤ 8) (hd : decode M.1 pc = .ok (.invokestatic idx, 3)) (Kc : ∀ r, zx_X B M Qf (ks r) ck cn (pc + 3) lv (.int r :: st) h) : zx_X B M Qf (g.bind ks) ck cn pc lv st0 h := zx_callS E (fun r => ((some (Value.int r) : Option Value), h)) As hM hw hR hck hcn hn hst hsum hd Kc
theorem zx_callV_z (E : zx_E B M) {F i ci nf : Nat} {T : u_T} {g : Option Bool} {ks : Bool → Option α} (As : List Value) (hM : ∀ r, g = some r → zx_MR (zx_Bl B) My y (zx_BK B) (zx_rV (zx_BK B) F i :: As) h ((fun r => ((some (Value.int (zx_b r)) : Option Value), h)) r).1 ((fun r => ((some (Value.int (zx_b r)) : Option Value), h)) r).2) (hF : zx_isO F ci nf) (hi : i < zx_nF F) (hc : zx_cl[ci]? = some (C, T, nf)) (hw : zx_Wv M.2.2.1 idx C y My n) (hR : zx_rm M My) (hck : ck ≤ M.2.2.2.2.cells) (hcn : cn ≤ M.2.2.2.2.slots) (hn : As.length = n) (hst : st0 = As.reverse ++ zx_rV (zx_BK B) F i :: st) (hsum : (st.map fun v => v.category).sum ≤ 8) (hd : decode M.1 pc = .ok (.invokevirtual idx, 3)) (Kc : ∀ r, zx_X B M Qf (ks r) ck cn (pc + 3) lv (.int (zx_b r) :: st) h) : zx_X B M Qf (g.bind ks) ck cn pc lv st0 h := zx_callV E (fun r => ((some (Value.int (zx_b r)) : Option Value), h)) As hM hF hi hc hw hR hck hcn hn hst hsum hd Kc
theorem zx_callS_z (E : zx_E B M) {g : Option Bool} {ks : Bool → Option α} (As : List Value) (hM : ∀ r, g = some r → zx_MR (zx_Bl B) My y (zx_BK B) As h ((fun r => ((some (Value.int (zx_b r)) : Option Value), h)) r).1 ((fun r => ((some (Value.int (zx_b r)) : Option Value), h)) r).2) (hw : zx_Ws M.2.2.1 idx y My n) (hR : zx_rm M My) (hck : ck ≤ M.2.2.2.2.cells) (hcn : cn ≤ M.2.2.2.2.slots) (hn : As.length = n) (hst : st0 = As.reverse ++ st) (hsum : (st.map fun v => v.category).sum ≤ 8) (hd : decode M.1 pc = .ok (.invokestatic idx, 3)) (Kc : ∀ r, zx_X B M Qf (ks r) ck cn (pc + 3) lv (.int (zx_b r) :: st) h) : zx_X B M Qf (g.bind ks) ck cn pc lv st0 h := zx_callS E (fun r => ((some (Value.int (zx_b r)) : Option Value), h)) As hM hw hR hck hcn hn hst hsum hd Kc
theorem zx_callV_l (E : zx_E B M) {F i ci nf : Nat} {T : u_T} {g : Option Int64} {ks : Int64 → Option α} (As : List Value) (hM : ∀ r, g = some r → zx_MR (zx_Bl B) My y (zx_BK B) (zx_rV (zx_BK B) F i :: As) h ((fun r => ((some (Value.long r) : Option Value), h)) r).1 ((fun r => ((some (Value.long r) : Option Value), h)) r).2) (hF : zx_isO F ci nf) (hi : i < zx_nF F) (hc : zx_cl[ci]? = some (C, T, nf)) (hw : zx_Wv M.2.2.1 idx C y My n) (hR : zx_rm M My) (hck : ck ≤ M.2.2.2.2.cells) (hcn : cn ≤ M.2.2.2.2.slots) (hn : As.length = n) (hst : st0 = As.reverse ++ zx_rV (zx_BK B) F i :: st) (hsum : (st.map fun v => v.category).sum ≤ 8) (hd : decode M.1 pc = .ok (.invokevirtual idx, 3)) (Kc : ∀ r, zx_X B M Qf (ks r) ck cn (pc + 3) lv (.long r :: st) h) : zx_X B M Qf (g.bind ks) ck cn pc lv st0 h := zx_callV E (fun r => ((some (Value.long r) : Option Value), h)) As hM hF hi hc hw hR hck hcn hn hst hsum hd Kc
theorem zx_callS_l (E : zx_E B M) {g : Option Int64} {ks : Int64 → Option α} (As : List Value) (hM : ∀ r, g = some r → zx_MR (zx_Bl B) My y (zx_BK B) As h ((fun r => ((some (Value.long r) : Option Value), h)) r).1 ((fun r => ((some (Value.long r) : Option Value), h)) r).2) (hw : zx_Ws M.2.2.1 idx y My n) (hR : zx_rm M My) (hck : ck ≤ M.2.2.2.2.cells) (hcn : cn ≤ M.2.2.2.2.slots) (hn : As.length = n) (hst : st0 = As.reverse ++ st) (hsum : (st.map fun v => v.category).sum ≤ 8) (hd : decode M.1 pc = .ok (.invokestatic idx, 3)) (Kc : ∀ r, zx_X B M Qf (ks r) ck cn (pc + 3) lv (.long r :: st) h) : zx_X B M Qf (g.bind ks) ck cn pc lv st0 h := zx_callS E (fun r => ((some (Value.long r) : Option Value), h)) As hM hw hR hck hcn hn hst hsum hd Kc
theorem zx_callV_iw (E : zx_E B M) {F i ci nf : Nat} {T : u_T} {g : Option (Int32 × zx_H)} {ks : (Int32 × zx_H) → Option α} (As : List Value) (hM : ∀ r, g = some r → zx_MR (zx_Bl B) My y (zx_BK B) (zx_rV (zx_BK B) F i :: As) h ((fun r => ((some (Value.int r.1) : Option Value), r.2)) r).1 ((fun r => ((some (Value.int r.1) : Option Value), r.2)) r).2) (hF : zx_isO F ci nf) (hi : i < zx_nF F) (hc : zx_cl[ci]? = some (C, T, nf)) (hw : zx_Wv M.2.2.1 idx C y My n) (hR : zx_rm M My) (hck : ck ≤ M.2.2.2.2.cells) (hcn : cn ≤ M.2.2.2.2.slots) (hn : As.length = n) (hst : st0 = As.reverse ++ zx_rV (zx_BK B) F i :: st) (hsum : (st.map fun v => v.category).sum ≤ 8) (hd : decode M.1 pc = .ok (.invokevirtual idx, 3)) (Kc : ∀ r, zx_X B M Qf (ks r) ck cn (pc + 3) lv (.int r.1 :: st) r.2) : zx_X B M Qf (g.bind ks) ck cn pc lv st0 h := zx_callV E (fun r => ((some (Value.int r.1) : Option Value), r.2)) As hM hF hi hc hw hR hck hcn hn hst hsum hd Kc
theorem zx_callS_iw (E : zx_E B M) {g : Option (Int32 × zx_H)} {ks : (Int32 × zx_H) → Option α} (As : List Value) (hM : ∀ r, g = some r → zx_MR (zx_Bl B) My y (zx_BK B) As h ((fun r => ((some (Value.int r.1) : Option Value), r.2)) r).1 ((fun r => ((some (Value.int r.1) : Option Value), r.2)) r).2) (hw : zx_Ws M.2.2.1 idx y My n) (hR : zx_rm M My) (hck : ck ≤ M.2.2.2.2.cells) (hcn : cn ≤ M.2.2.2.2.slots) (hn : As.length = n) (hst : st0 = As.reverse ++ st) (hsum : (st.map fun v => v.category).sum ≤ 8) (hd : decode M.1 pc = .ok (.invokestatic idx, 3)) (Kc : ∀ r, zx_X B M Qf (ks r) ck cn (pc + 3) lv (.int r.1 :: st) r.2) : zx_X B M Qf (g.bind ks) ck cn pc lv st0 h := zx_callS E (fun r => ((some (Value.int r.1) : Option Value), r.2)) As hM hw hR hck hcn hn hst hsum hd Kc
theorem zx_callV_zw (E : zx_E B M) {F i ci nf : Nat} {T : u_T} {g : Option (Bool × zx_H)} {ks : (Bool × zx_H) → Option α} (As : List Value) (hM : ∀ r, g = some r → zx_MR (zx_Bl B) My y (zx_BK B) (zx_rV (zx_BK B) F i :: As) h ((fun r => ((some (Value.int (zx_b r.1)) : Option Value), r.2)) r).1 ((fun r => ((some (Value.int (zx_b r.1)) : Option Value), r.2)) r).2) (hF : zx_isO F ci nf) (hi : i < zx_nF F) (hc : zx_cl[ci]? = some (C, T, nf)) (hw : zx_Wv M.2.2.1 idx C y My n) (hR : zx_rm M My) (hck : ck ≤ M.2.2.2.2.cells) (hcn : cn ≤ M.2.2.2.2.slots) (hn : As.length = n) (hst : st0 = As.reverse ++ zx_rV (zx_BK B) F i :: st) (hsum : (st.map fun v => v.category).sum ≤ 8) (hd : decode M.1 pc = .ok (.invokevirtual idx, 3)) (Kc : ∀ r, zx_X B M Qf (ks r) ck cn (pc + 3) lv (.int (zx_b r.1) :: st) r.2) : zx_X B M Qf (g.bind ks) ck cn pc lv st0 h := zx_callV E (fun r => ((some (Value.int (zx_b r.1)) : Option Value), r.2)) As hM hF hi hc hw hR hck hcn hn hst hsum hd Kc
theorem zx_callS_zw (E : zx_E B M) {g : Option (Bool × zx_H)} {ks : (Bool × zx_H) → Option α} (As : List Value) (hM : ∀ r, g = some r → zx_MR (zx_Bl B) My y (zx_BK B) As h ((fun r => ((some (Value.int (zx_b r.1)) : Option Value), r.2)) r).1 ((fun r => ((some (Value.int (zx_b r.1)) : Option Value), r.2)) r).2) (hw : zx_Ws M.2.2.1 idx y My n) (hR : zx_rm M My) (hck : ck ≤ M.2.2.2.2.cells) (hcn : cn ≤ M.2.2.2.2.slots) (hn : As.length = n) (hst : st0 = As.reverse ++ st) (hsum : (st.map fun v => v.category).sum ≤ 8) (hd : decode M.1 pc = .ok (.invokestatic idx, 3)) (Kc : ∀ r, zx_X B M Qf (ks r) ck cn (pc + 3) lv (.int (zx_b r.1) :: st) r.2) : zx_X B M Qf (g.bind ks) ck cn pc lv st0 h := zx_callS E (fun r => ((some (Value.int (zx_b r.1)) : Option Value), r.2)) As hM hw hR hck hcn hn hst hsum hd Kc
theorem zx_callV_lw (E : zx_E B M) {F i ci nf : Nat} {T : u_T} {g : Option (Int64 × zx_H)} {ks : (Int64 × zx_H) → Option α} (As : List Value) (hM : ∀ r, g = some r → zx_MR (zx_Bl B) My y (zx_BK B) (zx_rV (zx_BK B) F i :: As) h ((fun r => ((some (Value.long r.1) : Option Value), r.2)) r).1 ((fun r => ((some (Value.long r.1) : Option Value), r.2)) r).2) (hF : zx_isO F ci nf) (hi : i < zx_nF F) (hc : zx_cl[ci]? = some (C, T, nf)) (hw : zx_Wv M.2.2.1 idx C y My n) (hR : zx_rm M My) (hck : ck ≤ M.2.2.2.2.cells) (hcn : cn ≤ M.2.2.2.2.slots) (hn : As.length = n) (hst : st0 = As.reverse ++ zx_rV (zx_BK B) F i :: st) (hsum : (st.map fun v => v.category).sum ≤ 8) (hd : decode M.1 pc = .ok (.invokevirtual idx, 3)) (Kc : ∀ r, zx_X B M Qf (ks r) ck cn (pc + 3) lv (.long r.1 :: st) r.2) : zx_X B M Qf (g.bind ks) ck cn pc lv st0 h := zx_callV E (fun r => ((some (Value.long r.1) : Option Value), r.2)) As hM hF hi hc hw hR hck hcn hn hst hsum hd Kc
theorem zx_callS_lw (E : zx_E B M) {g : Option (Int64 × zx_H)} {ks : (Int64 × zx_H) → Option α} (As : List Value) (hM : ∀ r, g = some r → zx_MR (zx_Bl B) My y (zx_BK B) As h ((fun r => ((some (Value.long r.1) : Option Value), r.2)) r).1 ((fun r => ((some (Value.long r.1) : Option Value), r.2)) r).2) (hw : zx_Ws M.2.2.1 idx y My n) (hR : zx_rm M My) (hck : ck ≤ M.2.2.2.2.cells) (hcn : cn ≤ M.2.2.2.2.slots) (hn : As.length = n) (hst : st0 = As.reverse ++ st) (hsum : (st.map fun v => v.category).sum ≤ 8) (hd : decode M.1 pc = .ok (.invokestatic idx, 3)) (Kc : ∀ r, zx_X B M Qf (ks r) ck cn (pc + 3) lv (.long r.1 :: st) r.2) : zx_X B M Qf (g.bind ks) ck cn pc lv st0 h := zx_callS E (fun r => ((some (Value.long r.1) : Option Value), r.2)) As hM hw hR hck hcn hn hst hsum hd Kc
theorem zx_callV_v (E : zx_E B M) {F i ci nf : Nat} {T : u_T} {g : Option zx_H} {ks : zx_H → Option α} (As : List Value) (hM : ∀ r, g = some r → zx_MR (zx_Bl B) My y (zx_BK B) (zx_rV (zx_BK B) F i :: As) h ((fun r => ((none : Option Value), r)) r).1 ((fun r => ((none : Option Value), r)) r).2) (hF : zx_isO F ci nf) (hi : i < zx_nF F) (hc : zx_cl[ci]? = some (C, T, nf)) (hw : zx_Wv M.2.2.1 idx C y My n) (hR : zx_rm M My) (hck : ck ≤ M.2.2.2.2.cells) (hcn : cn ≤ M.2.2.2.2.slots) (hn : As.length = n) (hst : st0 = As.reverse ++ zx_rV (zx_BK B) F i :: st) (hsum : (st.map fun v => v.category).sum ≤ 8) (hd : decode M.1 pc = .ok (.invokevirtual idx, 3)) (Kc : ∀ r, zx_X B M Qf (ks r) ck cn (pc + 3) lv st r) : zx_X B M Qf (g.bind ks) ck cn pc lv st0 h := zx_callV E (fun r => ((none : Option Value), r)) As hM hF hi hc hw hR hck hcn hn hst hsum hd Kc
theorem zx_callS_v (E : zx_E B M) {g : Option zx_H} {ks : zx_H → Option α} (As : List Value) (hM : ∀ r, g = some r → zx_MR (zx_Bl B) My y (zx_BK B) As h ((fun r => ((none : Option Value), r)) r).1 ((fun r => ((none : Option Value), r)) r).2) (hw : zx_Ws M.2.2.1 idx y My n) (hR : zx_rm M My) (hck : ck ≤ M.2.2.2.2.cells) (hcn : cn ≤ M.2.2.2.2.slots) (hn : As.length = n) (hst : st0 = As.reverse ++ st) (hsum : (st.map fun v => v.category).sum ≤ 8) (hd : decode M.1 pc = .ok (.invokestatic idx, 3)) (Kc : ∀ r, zx_X B M Qf (ks r) ck cn (pc + 3) lv st r) : zx_X B M Qf (g.bind ks) ck cn pc lv st0 h := zx_callS E (fun r => ((none : Option Value), r)) As hM hw hR hck hcn hn hst hsum hd Kc
variable {sem : Option α}
theorem zx_aaldF (E : zx_E B M) {x : Int32} {k : Fin 8 → Option α} (hd : decode M.1 pc = .ok (.aaload, 1)) (Kc : ∀ j : Fin 8, zx_X B M Qf (k j) ck cn (pc + 1) lv (zx_rV (zx_BK B) 53 j.val :: st) h) : zx_X B M Qf ((zx_fin 8 x).bind k) ck cn pc lv (.int x :: zx_rV (zx_BK B) 12 0 :: st) h :=
  zx_aald (t := 0) (n := 8) (F1 := 53) E (fun j => j.val) ⟨by decide, _, rfl⟩ rfl rfl Nat.zero_lt_one (fun _ => rfl) hd Kc
theorem zx_aaldM (E : zx_E B M) {x : Int32} {k : Fin 16 → Option α} (hd : decode M.1 pc = .ok (.aaload, 1)) (Kc : ∀ j : Fin 16, zx_X B M Qf (k j) ck cn (pc + 1) lv (zx_rV (zx_BK B) 54 j.val :: st) h) : zx_X B M Qf ((zx_fin 16 x).bind k) ck cn pc lv (.int x :: zx_rV (zx_BK B) 13 0 :: st) h :=
  zx_aald (t := 1) (n := 16) (F1 := 54) E (fun j => j.val) ⟨by decide, _, rfl⟩ rfl rfl Nat.zero_lt_one (fun _ => rfl) hd Kc
theorem zx_aaldP (E : zx_E B M) {i : Fin 16} {x : Int32} {k : Fin 8 → Option α} (hd : decode M.1 pc = .ok (.aaload, 1)) (Kc : ∀ j : Fin 8, zx_X B M Qf (k j) ck cn (pc + 1) lv (zx_rV (zx_BK B) 60 (zx_pp i j).val :: st) h) : zx_X B M Qf ((zx_fin 8 x).bind k) ck cn pc lv (.int x :: zx_rV (zx_BK B) 58 i.val :: st) h :=
  zx_aald (t := 2) (n := 8) (F1 := 60) E (fun j => (zx_pp i j).val) ⟨by decide, _, rfl⟩ rfl rfl i.isLt (fun _ => rfl) hd Kc
theorem zx_nb (b : Bool) : narrow .boolean (.int (zx_b b)) = .int (zx_b b) := by cases b <;> rfl
theorem zx_fb (b : Bool) : fits .boolean (.int (zx_b b)) = true := by cases b <;> rfl
end ZXD
