set_option maxHeartbeats 4000000 in
set_option maxRecDepth 100000 in
/-- the law answers 1 -/
theorem lk_yes {p : Program} {e : Env} {s : State} {m : MethodId} {below : List Frame} {meth : Method} {c : Code} (l : Launch) {b L : Nat} {xs : Nat → Int32} (C0 : lw_At p s m meth c b L xs) {H : Heap} {locs : List Loc} (hS : va_S (fun q : Nat => s.heap.size ≤ q) s.heap H locs) {k n : Nat} (hk : k ≤ 600002) (hn : n ≤ 7302232) {ls : Array Slot} : W p l e room_1 s m #[Value.ref b] below meth c H locs k n (lw_Z below #[Value.ref b] s) (F0 m 1682 ls []) := by
  obtain ⟨hx, hb, hr, hml, hown, hts0, hX, hbl, hlocks, hgv⟩ := id C0
  refine lv_iconst (v := 1) hx hb dL_law_1682 (by decide) ?_
  refine va_forget (fun q hq => hS.2.2 q hq) ?_
  refine W.widen (k := 600002) (n := 7302232) hk hn ?_
  have hd0 := Drawn.sameBut.refl s.drawn lw_cs
  refine W.base ?_
  exact lw_ret hd0 hx hb hr hlocks dL_law_1683
set_option maxHeartbeats 4000000 in
set_option maxRecDepth 100000 in
/-- behind the one call that a script of five ints holds -/
theorem lk_end {p : Program} {e : Env} {s : State} {m : MethodId} {below : List Frame} {meth : Method} {c : Code} (l : Launch) {b : Nat} {xs : Nat → Int32} (C0 : lw_At p s m meth c b 5 xs) {H : Heap} {locs : List Loc} (hS : va_S (fun q : Nat => s.heap.size ≤ q) s.heap H locs) {k n : Nat} (hk : k ≤ 600002) (hn : n ≤ 7302232) {ls : Array Slot} (hl : lv_has ls 9 [(4, .int (nI 0)), (0, .ref b)]) : W p l e room_1 s m #[Value.ref b] below meth c H locs k n (lw_Z below #[Value.ref b] s) (F0 m 1676 ls []) := by
  obtain ⟨hx, hb, hr, hml, hown, hts0, hX, hbl, hlocks, hgv⟩ := id C0
  have hbA : ¬ (fun q : Nat => s.heap.size ≤ q) b := Nat.not_le.mpr hbl
  refine lv_iinc (v := nI 5) (lv' := [(4, .int (nI 5)), (0, .ref b)]) hx hb dL_law_1676 hl (k := 0) rfl rfl (by decide) rfl (fun ls hl => ?_)
  refine lv_goto (tgt := 23) hx hb dL_law_1679 (by decide) ?_
  refine lv_iload hx hb dL_law_23 (lv_at hl 0 rfl) ?_
  refine lv_aload_n hx hb dL_law_25 rfl (lv_at hl 1 rfl) ?_
  refine va_slen hx hb hX hbl hbA hS dL_law_26 ?_
  refine lv_iconst (v := nI 5) hx hb dL_law_27 (by decide) ?_
  refine lv_isub hx hb dL_law_28 ?_
  refine lv_icmp_gt (tgt := 1682) hx hb dL_law_29 (by decide) (fun _ => ?_) (fun h => absurd (by decide) h)
  exact lk_yes l C0 hS hk hn
