theorem zd_main {L : Nat} {xs : Nat → Int32} (hL : L ≤ 384) : zs_Law_law_L23 L xs 0 zx_h0 0 = some true :=
  zl_main hL (zl_first (h := zx_h0) rfl rfl (fun _ => rfl) rfl rfl (fun _ => rfl) rfl rfl rfl rfl rfl rfl (fun t ht => by
    show zc_sort 15 t = nI (zl_srt t)
    unfold zc_sort zl_srt
    rw [if_pos ht]
    by_cases c1 : t < 7
    · rw [if_pos c1, if_pos c1]; rfl
    · rw [if_neg c1, if_neg c1]
      by_cases c2 : t < 14
      · rw [if_pos c2, if_pos c2]; rfl
      · rw [if_neg c2, if_neg c2, if_pos (by omega)]; rfl) (fun _ => rfl) rfl (fun _ => rfl) rfl rfl rfl rfl rfl)
theorem whole_start {p : Program} {e : Env} {s : State} {m : MethodId} {below : List Frame} {meth : Method} {c : Code} (l : Launch) (hflags : l.flags = flags0) {b L : Nat} {xs : Nat → Int32} (hL : L ≤ 384) (C0 : lw_At p s m meth c b L xs) : W p l e room_1 s m #[Value.ref b] below meth c s.heap [] 0 0 (lw_Z below #[Value.ref b] s) (entryFrame m ([Value.ref b] : List Value).toArray 8) :=
  zx_whole l (by
    unfold Launch.stackTraces
    rw [hflags]
    decide) (zd_main hL) C0
