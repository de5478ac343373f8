theorem zd_main {L : Nat} {xs : Nat → Int32} (hL : L ≤ 384) : zs_Law_law_L23 L xs 0 zx_h0 0 = some true := sorry
theorem whole_start {p : Program} {e : Env} {s : State} {m : MethodId} {below : List Frame} {meth : Method} {c : Code} (l : Launch) (hflags : l.flags = flags0) {b L : Nat} {xs : Nat → Int32} (hL : L ≤ 384) (C0 : lw_At p s m meth c b L xs) : W p l e room_1 s m #[Value.ref b] below meth c s.heap [] 0 0 (lw_Z below #[Value.ref b] s) (entryFrame m ([Value.ref b] : List Value).toArray 8) :=
  zx_whole l (by
    unfold Launch.stackTraces
    rw [hflags]
    decide) (zd_main hL) C0
