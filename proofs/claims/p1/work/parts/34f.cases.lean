set_option maxHeartbeats 4000000 in
set_option maxRecDepth 100000 in
theorem lk_27 {p : Program} {e : Env} {s : State} {m : MethodId} {below : List Frame} {meth : Method} {c : Code} (l : Launch) (hl9 : l.stackTraces = false) {b : Nat} {xs : Nat → Int32} (C0 : lw_At p s m meth c b 5 xs) {D : va_G} {cZ cI cJ : ClassId} {a u : Nat} {o o' q g : Nat → Nat} {H : Heap} {locs : List Loc} (hZ : zKJ D cZ cI cJ s) (hT : exT s) (hE : exS s H) (hC : xcT s) (hP : va_P D vwCl (pD cZ cI a o o' q κ0 ωz ωz σ0 ++ pM cZ cI g 0 0 (some 0) (fun _ => false) ++ [(u, .inl (cJ, 1, .inr (.inl (fun _ => (0 : Int64)))))]) H) (hD : va_D (fun q : Nat => s.heap.size ≤ q) (pD cZ cI a o o' q κ0 ωz ωz σ0 ++ pM cZ cI g 0 0 (some 0) (fun _ => false) ++ [(u, .inl (cJ, 1, .inr (.inl (fun _ => (0 : Int64)))))])) (hS : va_S (fun q : Nat => s.heap.size ≤ q) s.heap H locs)  {ls : Array Slot} (hl : lv_has ls 9 [(4, .int (nI 0)), (3, .ref u), (2, .ref (g 0)), (1, .ref a), (0, .ref b)]) : W p l e room_1 s m #[Value.ref b] below meth c H locs 29 3099 (lw_Z below #[Value.ref b] s) (F0 m 1475 ls []) := by
  obtain ⟨hx, hb, hr, hml, hown, hts0, hX, hbl, hlocks, hgv⟩ := id C0
  have hown : s.vm.findClass RL = some m.cls := hown
  have hts : ∀ w ∈ wsL_law, w.before #[Value.ref b] s = true := fun w h => hts0 w (wsL_law_in w h)
  have hA : ∀ q : Nat, s.heap.size ≤ q → (fun q : Nat => s.heap.size ≤ q) q := fun _ h => h
  have hbA : ¬ (fun q : Nat => s.heap.size ≤ q) b := Nat.not_le.mpr hbl
  refine lv_aload_n hx hb dL_law_1475 rfl (lv_at hl 3 rfl) ?_
  refine vp_callSi (va_runV (As := []) (rest := []) ⟨hx, hb, hml, hown, hts⟩ (co_X2_turnsToCatch l D cZ cI a o o' q 0 false 0 ωz ωz σ0) (cwV 0 hts gL_law_X2_turnsToCatch rfl rfl rfl (by decide +kernel) ⟨Nat.le_of_ble_eq_true rfl, Nat.le_of_ble_eq_true rfl⟩) ⟨RdP_blind, va_recv hZ.1 hP (ci := 2) (q0 := 0) rfl rfl, RdP_start (hP.sub (ws' := pD cZ cI a o o' q (0, false, false, none, none, 0) ωz ωz σ0) [0, 1, 2, 3, 4, 5, 6, 7, 8, 9, 10, 11, 12, 13, 14, 15, 16, 17, 18] rfl) hZ.two⟩ rfl rfl hl.1 rfl (lv_room (Nat.le_of_ble_eq_true rfl)) dL_law_1476 ⟨Nat.le_of_ble_eq_true rfl, Nat.le_of_ble_eq_true rfl⟩).run (fun r9 hq1 => ?_)
  obtain rfl : r9 = (-1 : Int32) := hq1
  refine lv_aload_n hx hb dL_law_1479 rfl (lv_at hl 2 rfl) ?_
  have hPc := hP.sub (ws' := pM cZ cI g 0 0 (some 0) (fun _ => false)) [19, 20, 21, 22, 23, 24, 25, 26, 27] rfl
  have hDc := hD.sub (ws' := pM cZ cI g 0 0 (some 0) (fun _ => false)) [19, 20, 21, 22, 23, 24, 25, 26, 27] (by decide) rfl
  have hFc := va_free (wc := pM cZ cI g 0 0 (some 0) (fun _ => false)) hD hS hA [19, 20, 21, 22, 23, 24, 25, 26, 27] rfl
  refine va_calli (va_runV (As := []) (rest := [.int (-1)]) ⟨hx, hb, hml, hown, hts⟩ (c_X3_turnsToCatch l D cZ cI g 0 (some 0) H.size ) (cwV 0 hts gL_law_X3_turnsToCatch rfl rfl rfl (by decide +kernel) ⟨Nat.le_of_ble_eq_true rfl, Nat.le_of_ble_eq_true rfl⟩) ⟨WrP_blind, va_recv hZ.1 hP (ci := 3) (q0 := 19) rfl rfl, WrP_start hPc hDc hZ.two⟩ rfl rfl hl.1 rfl (lv_room (Nat.le_of_ble_eq_true rfl)) dL_law_1480 ⟨Nat.le_of_ble_eq_true rfl, Nat.le_of_ble_eq_true rfl⟩) hS (fun q _ h => hFc q h) hFc (fun r9 u9 t H1 locs ht hvm hw hB hz1 hk1 hS => ?_)
  obtain ⟨hP1, hD1⟩ := hB
  rw [ht] at hP1
  obtain ⟨hP, hD⟩ := va_join (wr := pD cZ cI a o o' q κ0 ωz ωz σ0 ++ [(u, .inl (cJ, 1, .inr (.inl (fun _ => (0 : Int64)))))]) (w1 := pM cZ cI g 0 0 (some 0) (fun _ => false)) hP hD [19, 20, 21, 22, 23, 24, 25, 26, 27] [0, 1, 2, 3, 4, 5, 6, 7, 8, 9, 10, 11, 12, 13, 14, 15, 16, 17, 18, 28] rfl rfl (by decide) (by decide) hk1 hFc hP1 hD1
  replace hP : va_P D vwCl (pD cZ cI a o o' q κ0 ωz ωz σ0 ++ [(u, .inl (cJ, 1, .inr (.inl (fun _ => (0 : Int64)))))] ++ pM cZ cI g 0 0 (some 0) (fun _ => false)) H1 := hP
  replace hD : va_D (fun q : Nat => s.heap.size ≤ q) (pD cZ cI a o o' q κ0 ωz ωz σ0 ++ [(u, .inl (cJ, 1, .inr (.inl (fun _ => (0 : Int64)))))] ++ pM cZ cI g 0 0 (some 0) (fun _ => false)) := hD
  generalize H1 = H at hP hS ⊢
  obtain rfl : r9 = (-1 : Int32) := hw
  refine lv_icmp_eq (tgt := 1676) hx hb dL_law_1483 (by decide) (fun _ => ?_) (fun h => absurd (by first | rfl | decide) h)
  exact lk_end l C0 hS (Nat.le_of_ble_eq_true rfl) (Nat.le_of_ble_eq_true rfl) (lv_sub hl [0, 4] rfl)

set_option maxHeartbeats 4000000 in
set_option maxRecDepth 100000 in
theorem lk_29 {p : Program} {e : Env} {s : State} {m : MethodId} {below : List Frame} {meth : Method} {c : Code} (l : Launch) (hl9 : l.stackTraces = false) {b : Nat} {xs : Nat → Int32} (C0 : lw_At p s m meth c b 5 xs) {D : va_G} {cZ cI cJ : ClassId} {a u : Nat} {o o' q g : Nat → Nat} {H : Heap} {locs : List Loc} (hZ : zKJ D cZ cI cJ s) (hT : exT s) (hE : exS s H) (hC : xcT s) (hP : va_P D vwCl (pD cZ cI a o o' q κ0 ωz ωz σ0 ++ pM cZ cI g 0 0 (some 0) (fun _ => false) ++ [(u, .inl (cJ, 1, .inr (.inl (fun _ => (0 : Int64)))))]) H) (hD : va_D (fun q : Nat => s.heap.size ≤ q) (pD cZ cI a o o' q κ0 ωz ωz σ0 ++ pM cZ cI g 0 0 (some 0) (fun _ => false) ++ [(u, .inl (cJ, 1, .inr (.inl (fun _ => (0 : Int64)))))])) (hS : va_S (fun q : Nat => s.heap.size ≤ q) s.heap H locs)  {ls : Array Slot} (hl : lv_has ls 9 [(4, .int (nI 0)), (3, .ref u), (2, .ref (g 0)), (1, .ref a), (0, .ref b)]) : W p l e room_1 s m #[Value.ref b] below meth c H locs 29 3099 (lw_Z below #[Value.ref b] s) (F0 m 1556 ls []) := by
  obtain ⟨hx, hb, hr, hml, hown, hts0, hX, hbl, hlocks, hgv⟩ := id C0
  have hown : s.vm.findClass RL = some m.cls := hown
  have hts : ∀ w ∈ wsL_law, w.before #[Value.ref b] s = true := fun w h => hts0 w (wsL_law_in w h)
  have hA : ∀ q : Nat, s.heap.size ≤ q → (fun q : Nat => s.heap.size ≤ q) q := fun _ h => h
  have hbA : ¬ (fun q : Nat => s.heap.size ≤ q) b := Nat.not_le.mpr hbl
  refine lv_aload_n hx hb dL_law_1556 rfl (lv_at hl 3 rfl) ?_
  refine vp_callSi (va_runV (As := []) (rest := []) ⟨hx, hb, hml, hown, hts⟩ (co_X2_safeNow l D cZ cI a o o' q 0 false 0 ωz ωz σ0) (cwV 0 hts gL_law_X2_safeNow rfl rfl rfl (by decide +kernel) ⟨Nat.le_of_ble_eq_true rfl, Nat.le_of_ble_eq_true rfl⟩) ⟨RdP_blind, va_recv hZ.1 hP (ci := 2) (q0 := 0) rfl rfl, RdP_start (hP.sub (ws' := pD cZ cI a o o' q (0, false, false, none, none, 0) ωz ωz σ0) [0, 1, 2, 3, 4, 5, 6, 7, 8, 9, 10, 11, 12, 13, 14, 15, 16, 17, 18] rfl) hZ.two⟩ rfl rfl hl.1 rfl (lv_room (Nat.le_of_ble_eq_true rfl)) dL_law_1557 ⟨Nat.le_of_ble_eq_true rfl, Nat.le_of_ble_eq_true rfl⟩).run (fun r9 hq1 => ?_)
  obtain rfl : r9 = (nI 0 : Int32) := hq1
  refine lv_aload_n hx hb dL_law_1560 rfl (lv_at hl 2 rfl) ?_
  have hPc := hP.sub (ws' := pM cZ cI g 0 0 (some 0) (fun _ => false)) [19, 20, 21, 22, 23, 24, 25, 26, 27] rfl
  have hDc := hD.sub (ws' := pM cZ cI g 0 0 (some 0) (fun _ => false)) [19, 20, 21, 22, 23, 24, 25, 26, 27] (by decide) rfl
  have hFc := va_free (wc := pM cZ cI g 0 0 (some 0) (fun _ => false)) hD hS hA [19, 20, 21, 22, 23, 24, 25, 26, 27] rfl
  refine va_calli (va_runV (As := []) (rest := [.int (nI 0)]) ⟨hx, hb, hml, hown, hts⟩ (c_X3_safeNow l D cZ cI g 0 (some 0) H.size ) (cwV 0 hts gL_law_X3_safeNow rfl rfl rfl (by decide +kernel) ⟨Nat.le_of_ble_eq_true rfl, Nat.le_of_ble_eq_true rfl⟩) ⟨WrP_blind, va_recv hZ.1 hP (ci := 3) (q0 := 19) rfl rfl, WrP_start hPc hDc hZ.two⟩ rfl rfl hl.1 rfl (lv_room (Nat.le_of_ble_eq_true rfl)) dL_law_1561 ⟨Nat.le_of_ble_eq_true rfl, Nat.le_of_ble_eq_true rfl⟩) hS (fun q _ h => hFc q h) hFc (fun r9 u9 t H1 locs ht hvm hw hB hz1 hk1 hS => ?_)
  obtain ⟨hP1, hD1⟩ := hB
  rw [ht] at hP1
  obtain ⟨hP, hD⟩ := va_join (wr := pD cZ cI a o o' q κ0 ωz ωz σ0 ++ [(u, .inl (cJ, 1, .inr (.inl (fun _ => (0 : Int64)))))]) (w1 := pM cZ cI g 0 0 (some 0) (fun _ => false)) hP hD [19, 20, 21, 22, 23, 24, 25, 26, 27] [0, 1, 2, 3, 4, 5, 6, 7, 8, 9, 10, 11, 12, 13, 14, 15, 16, 17, 18, 28] rfl rfl (by decide) (by decide) hk1 hFc hP1 hD1
  replace hP : va_P D vwCl (pD cZ cI a o o' q κ0 ωz ωz σ0 ++ [(u, .inl (cJ, 1, .inr (.inl (fun _ => (0 : Int64)))))] ++ pM cZ cI g 0 0 (some 0) (fun _ => false)) H1 := hP
  replace hD : va_D (fun q : Nat => s.heap.size ≤ q) (pD cZ cI a o o' q κ0 ωz ωz σ0 ++ [(u, .inl (cJ, 1, .inr (.inl (fun _ => (0 : Int64)))))] ++ pM cZ cI g 0 0 (some 0) (fun _ => false)) := hD
  generalize H1 = H at hP hS ⊢
  obtain rfl : r9 = (nI 0 : Int32) := hw
  refine lv_icmp_eq (tgt := 1676) hx hb dL_law_1564 (by decide) (fun _ => ?_) (fun h => absurd (by first | rfl | decide) h)
  exact lk_end l C0 hS (Nat.le_of_ble_eq_true rfl) (Nat.le_of_ble_eq_true rfl) (lv_sub hl [0, 4] rfl)

set_option maxHeartbeats 4000000 in
set_option maxRecDepth 100000 in
theorem lk_30 {p : Program} {e : Env} {s : State} {m : MethodId} {below : List Frame} {meth : Method} {c : Code} (l : Launch) (hl9 : l.stackTraces = false) {b : Nat} {xs : Nat → Int32} (C0 : lw_At p s m meth c b 5 xs) {D : va_G} {cZ cI cJ : ClassId} {a u : Nat} {o o' q g : Nat → Nat} {H : Heap} {locs : List Loc} (hZ : zKJ D cZ cI cJ s) (hT : exT s) (hE : exS s H) (hC : xcT s) (hP : va_P D vwCl (pD cZ cI a o o' q κ0 ωz ωz σ0 ++ pM cZ cI g 0 0 (some 0) (fun _ => false) ++ [(u, .inl (cJ, 1, .inr (.inl (fun _ => (0 : Int64)))))]) H) (hD : va_D (fun q : Nat => s.heap.size ≤ q) (pD cZ cI a o o' q κ0 ωz ωz σ0 ++ pM cZ cI g 0 0 (some 0) (fun _ => false) ++ [(u, .inl (cJ, 1, .inr (.inl (fun _ => (0 : Int64)))))])) (hS : va_S (fun q : Nat => s.heap.size ≤ q) s.heap H locs)  {ls : Array Slot} (hl : lv_has ls 9 [(4, .int (nI 0)), (3, .ref u), (2, .ref (g 0)), (1, .ref a), (0, .ref b)]) : W p l e room_1 s m #[Value.ref b] below meth c H locs 29 3099 (lw_Z below #[Value.ref b] s) (F0 m 1569 ls []) := by
  obtain ⟨hx, hb, hr, hml, hown, hts0, hX, hbl, hlocks, hgv⟩ := id C0
  have hown : s.vm.findClass RL = some m.cls := hown
  have hts : ∀ w ∈ wsL_law, w.before #[Value.ref b] s = true := fun w h => hts0 w (wsL_law_in w h)
  have hA : ∀ q : Nat, s.heap.size ≤ q → (fun q : Nat => s.heap.size ≤ q) q := fun _ h => h
  have hbA : ¬ (fun q : Nat => s.heap.size ≤ q) b := Nat.not_le.mpr hbl
  refine lv_aload_n hx hb dL_law_1569 rfl (lv_at hl 3 rfl) ?_
  refine vp_callSi (va_runV (As := []) (rest := []) ⟨hx, hb, hml, hown, hts⟩ (co_X2_bestGo l D cZ cI a o o' q 0 false 0 ωz ωz σ0) (cwV 0 hts gL_law_X2_bestGo rfl rfl rfl (by decide +kernel) ⟨Nat.le_of_ble_eq_true rfl, Nat.le_of_ble_eq_true rfl⟩) ⟨RdP_blind, va_recv hZ.1 hP (ci := 2) (q0 := 0) rfl rfl, RdP_start (hP.sub (ws' := pD cZ cI a o o' q (0, false, false, none, none, 0) ωz ωz σ0) [0, 1, 2, 3, 4, 5, 6, 7, 8, 9, 10, 11, 12, 13, 14, 15, 16, 17, 18] rfl) hZ.two⟩ rfl rfl hl.1 rfl (lv_room (Nat.le_of_ble_eq_true rfl)) dL_law_1570 ⟨Nat.le_of_ble_eq_true rfl, Nat.le_of_ble_eq_true rfl⟩).run (fun r9 hq1 => ?_)
  obtain rfl : r9 = (-1 : Int32) := hq1
  refine lv_aload_n hx hb dL_law_1573 rfl (lv_at hl 2 rfl) ?_
  have hPc := hP.sub (ws' := pM cZ cI g 0 0 (some 0) (fun _ => false)) [19, 20, 21, 22, 23, 24, 25, 26, 27] rfl
  have hDc := hD.sub (ws' := pM cZ cI g 0 0 (some 0) (fun _ => false)) [19, 20, 21, 22, 23, 24, 25, 26, 27] (by decide) rfl
  have hFc := va_free (wc := pM cZ cI g 0 0 (some 0) (fun _ => false)) hD hS hA [19, 20, 21, 22, 23, 24, 25, 26, 27] rfl
  refine va_calli (va_runV (As := []) (rest := [.int (-1)]) ⟨hx, hb, hml, hown, hts⟩ (c_X3_bestGo l D cZ cI g 0 (some 0) H.size ) (cwV 0 hts gL_law_X3_bestGo rfl rfl rfl (by decide +kernel) ⟨Nat.le_of_ble_eq_true rfl, Nat.le_of_ble_eq_true rfl⟩) ⟨WrP_blind, va_recv hZ.1 hP (ci := 3) (q0 := 19) rfl rfl, WrP_start hPc hDc hZ.two⟩ rfl rfl hl.1 rfl (lv_room (Nat.le_of_ble_eq_true rfl)) dL_law_1574 ⟨Nat.le_of_ble_eq_true rfl, Nat.le_of_ble_eq_true rfl⟩) hS (fun q _ h => hFc q h) hFc (fun r9 u9 t H1 locs ht hvm hw hB hz1 hk1 hS => ?_)
  obtain ⟨hP1, hD1⟩ := hB
  rw [ht] at hP1
  obtain ⟨hP, hD⟩ := va_join (wr := pD cZ cI a o o' q κ0 ωz ωz σ0 ++ [(u, .inl (cJ, 1, .inr (.inl (fun _ => (0 : Int64)))))]) (w1 := pM cZ cI g 0 0 (some 0) (fun _ => false)) hP hD [19, 20, 21, 22, 23, 24, 25, 26, 27] [0, 1, 2, 3, 4, 5, 6, 7, 8, 9, 10, 11, 12, 13, 14, 15, 16, 17, 18, 28] rfl rfl (by decide) (by decide) hk1 hFc hP1 hD1
  replace hP : va_P D vwCl (pD cZ cI a o o' q κ0 ωz ωz σ0 ++ [(u, .inl (cJ, 1, .inr (.inl (fun _ => (0 : Int64)))))] ++ pM cZ cI g 0 0 (some 0) (fun _ => false)) H1 := hP
  replace hD : va_D (fun q : Nat => s.heap.size ≤ q) (pD cZ cI a o o' q κ0 ωz ωz σ0 ++ [(u, .inl (cJ, 1, .inr (.inl (fun _ => (0 : Int64)))))] ++ pM cZ cI g 0 0 (some 0) (fun _ => false)) := hD
  generalize H1 = H at hP hS ⊢
  obtain rfl : r9 = (-1 : Int32) := hw
  refine lv_icmp_eq (tgt := 1676) hx hb dL_law_1577 (by decide) (fun _ => ?_) (fun h => absurd (by first | rfl | decide) h)
  exact lk_end l C0 hS (Nat.le_of_ble_eq_true rfl) (Nat.le_of_ble_eq_true rfl) (lv_sub hl [0, 4] rfl)

set_option maxHeartbeats 4000000 in
set_option maxRecDepth 100000 in
theorem lk_31 {p : Program} {e : Env} {s : State} {m : MethodId} {below : List Frame} {meth : Method} {c : Code} (l : Launch) (hl9 : l.stackTraces = false) {b : Nat} {xs : Nat → Int32} (C0 : lw_At p s m meth c b 5 xs) {D : va_G} {cZ cI cJ : ClassId} {a u : Nat} {o o' q g : Nat → Nat} {H : Heap} {locs : List Loc} (hZ : zKJ D cZ cI cJ s) (hT : exT s) (hE : exS s H) (hC : xcT s) (hP : va_P D vwCl (pD cZ cI a o o' q κ0 ωz ωz σ0 ++ pM cZ cI g 0 0 (some 0) (fun _ => false) ++ [(u, .inl (cJ, 1, .inr (.inl (fun _ => (0 : Int64)))))]) H) (hD : va_D (fun q : Nat => s.heap.size ≤ q) (pD cZ cI a o o' q κ0 ωz ωz σ0 ++ pM cZ cI g 0 0 (some 0) (fun _ => false) ++ [(u, .inl (cJ, 1, .inr (.inl (fun _ => (0 : Int64)))))])) (hS : va_S (fun q : Nat => s.heap.size ≤ q) s.heap H locs)  {ls : Array Slot} (hl : lv_has ls 9 [(4, .int (nI 0)), (3, .ref u), (2, .ref (g 0)), (1, .ref a), (0, .ref b)]) : W p l e room_1 s m #[Value.ref b] below meth c H locs 29 3099 (lw_Z below #[Value.ref b] s) (F0 m 1582 ls []) := by
  obtain ⟨hx, hb, hr, hml, hown, hts0, hX, hbl, hlocks, hgv⟩ := id C0
  have hown : s.vm.findClass RL = some m.cls := hown
  have hts : ∀ w ∈ wsL_law, w.before #[Value.ref b] s = true := fun w h => hts0 w (wsL_law_in w h)
  have hA : ∀ q : Nat, s.heap.size ≤ q → (fun q : Nat => s.heap.size ≤ q) q := fun _ h => h
  have hbA : ¬ (fun q : Nat => s.heap.size ≤ q) b := Nat.not_le.mpr hbl
  refine lv_aload_n hx hb dL_law_1582 rfl (lv_at hl 3 rfl) ?_
  refine vp_callSi (va_runV (As := []) (rest := []) ⟨hx, hb, hml, hown, hts⟩ (c_X2_pairsCaught l D cZ cI a o o' q κ0 ωz ωz σ0 zOk_0 (by decide) tOk_0) (cwV 0 hts gL_law_X2_pairsCaught rfl rfl rfl (by decide +kernel) ⟨Nat.le_of_ble_eq_true rfl, Nat.le_of_ble_eq_true rfl⟩) ⟨RdP_blind, va_recv hZ.1 hP (ci := 2) (q0 := 0) rfl rfl, RdP_start (hP.sub (ws' := pD cZ cI a o o' q κ0 ωz ωz σ0) [0, 1, 2, 3, 4, 5, 6, 7, 8, 9, 10, 11, 12, 13, 14, 15, 16, 17, 18] rfl) hZ.two⟩ rfl rfl hl.1 rfl (lv_room (Nat.le_of_ble_eq_true rfl)) dL_law_1583 ⟨Nat.le_of_ble_eq_true rfl, Nat.le_of_ble_eq_true rfl⟩).run (fun r9 hq1 => ?_)
  obtain rfl : r9 = (nI 0 : Int32) := hq1.trans (congrArg nI pc_fresh)
  refine lv_aload_n hx hb dL_law_1586 rfl (lv_at hl 2 rfl) ?_
  have hPc := hP.sub (ws' := pM cZ cI g 0 0 (some 0) (fun _ => false)) [19, 20, 21, 22, 23, 24, 25, 26, 27] rfl
  have hDc := hD.sub (ws' := pM cZ cI g 0 0 (some 0) (fun _ => false)) [19, 20, 21, 22, 23, 24, 25, 26, 27] (by decide) rfl
  have hFc := va_free (wc := pM cZ cI g 0 0 (some 0) (fun _ => false)) hD hS hA [19, 20, 21, 22, 23, 24, 25, 26, 27] rfl
  refine va_calli (va_runV (As := []) (rest := [.int (nI 0)]) ⟨hx, hb, hml, hown, hts⟩ (c_X3_pairsCaught l D cZ cI g 0 (some 0) H.size ) (cwV 0 hts gL_law_X3_pairsCaught rfl rfl rfl (by decide +kernel) ⟨Nat.le_of_ble_eq_true rfl, Nat.le_of_ble_eq_true rfl⟩) ⟨WrP_blind, va_recv hZ.1 hP (ci := 3) (q0 := 19) rfl rfl, WrP_start hPc hDc hZ.two⟩ rfl rfl hl.1 rfl (lv_room (Nat.le_of_ble_eq_true rfl)) dL_law_1587 ⟨Nat.le_of_ble_eq_true rfl, Nat.le_of_ble_eq_true rfl⟩) hS (fun q _ h => hFc q h) hFc (fun r9 u9 t H1 locs ht hvm hw hB hz1 hk1 hS => ?_)
  obtain ⟨hP1, hD1⟩ := hB
  rw [ht] at hP1
  obtain ⟨hP, hD⟩ := va_join (wr := pD cZ cI a o o' q κ0 ωz ωz σ0 ++ [(u, .inl (cJ, 1, .inr (.inl (fun _ => (0 : Int64)))))]) (w1 := pM cZ cI g 0 0 none (fun _ => false)) hP hD [19, 20, 21, 22, 23, 24, 25, 26, 27] [0, 1, 2, 3, 4, 5, 6, 7, 8, 9, 10, 11, 12, 13, 14, 15, 16, 17, 18, 28] rfl rfl (by decide) (by decide) hk1 hFc hP1 hD1
  replace hP : va_P D vwCl (pD cZ cI a o o' q κ0 ωz ωz σ0 ++ [(u, .inl (cJ, 1, .inr (.inl (fun _ => (0 : Int64)))))] ++ pM cZ cI g 0 0 none (fun _ => false)) H1 := hP
  replace hD : va_D (fun q : Nat => s.heap.size ≤ q) (pD cZ cI a o o' q κ0 ωz ωz σ0 ++ [(u, .inl (cJ, 1, .inr (.inl (fun _ => (0 : Int64)))))] ++ pM cZ cI g 0 0 none (fun _ => false)) := hD
  generalize H1 = H at hP hS ⊢
  refine W.widen (k := 30) (n := 3867) (Nat.le_of_ble_eq_true rfl) (Nat.le_of_ble_eq_true rfl) ?_
  obtain rfl : r9 = (nI 0 : Int32) := hw
  refine lv_icmp_eq (tgt := 1676) hx hb dL_law_1590 (by decide) (fun _ => ?_) (fun h => absurd (by first | rfl | decide) h)
  exact lk_end l C0 hS (Nat.le_of_ble_eq_true rfl) (Nat.le_of_ble_eq_true rfl) (lv_sub hl [0, 4] rfl)

set_option maxHeartbeats 4000000 in
set_option maxRecDepth 100000 in
theorem lk_32 {p : Program} {e : Env} {s : State} {m : MethodId} {below : List Frame} {meth : Method} {c : Code} (l : Launch) (hl9 : l.stackTraces = false) {b : Nat} {xs : Nat → Int32} (C0 : lw_At p s m meth c b 5 xs) {D : va_G} {cZ cI cJ : ClassId} {a u : Nat} {o o' q g : Nat → Nat} {H : Heap} {locs : List Loc} (hZ : zKJ D cZ cI cJ s) (hT : exT s) (hE : exS s H) (hC : xcT s) (hP : va_P D vwCl (pD cZ cI a o o' q κ0 ωz ωz σ0 ++ pM cZ cI g 0 0 (some 0) (fun _ => false) ++ [(u, .inl (cJ, 1, .inr (.inl (fun _ => (0 : Int64)))))]) H) (hD : va_D (fun q : Nat => s.heap.size ≤ q) (pD cZ cI a o o' q κ0 ωz ωz σ0 ++ pM cZ cI g 0 0 (some 0) (fun _ => false) ++ [(u, .inl (cJ, 1, .inr (.inl (fun _ => (0 : Int64)))))])) (hS : va_S (fun q : Nat => s.heap.size ≤ q) s.heap H locs)  {ls : Array Slot} (hl : lv_has ls 9 [(4, .int (nI 0)), (3, .ref u), (2, .ref (g 0)), (1, .ref a), (0, .ref b)]) : W p l e room_1 s m #[Value.ref b] below meth c H locs 29 3099 (lw_Z below #[Value.ref b] s) (F0 m 1595 ls []) := by
  obtain ⟨hx, hb, hr, hml, hown, hts0, hX, hbl, hlocks, hgv⟩ := id C0
  have hown : s.vm.findClass RL = some m.cls := hown
  have hts : ∀ w ∈ wsL_law, w.before #[Value.ref b] s = true := fun w h => hts0 w (wsL_law_in w h)
  have hA : ∀ q : Nat, s.heap.size ≤ q → (fun q : Nat => s.heap.size ≤ q) q := fun _ h => h
  have hbA : ¬ (fun q : Nat => s.heap.size ≤ q) b := Nat.not_le.mpr hbl
  refine lv_aload_n hx hb dL_law_1595 rfl (lv_at hl 3 rfl) ?_
  refine vp_callSi (va_runV (As := []) (rest := []) ⟨hx, hb, hml, hown, hts⟩ (c_X2_longestChase l D cZ cI a o o' q κ0 ωz ωz σ0 zOk_0 (by decide) tOk_0) (cwV 0 hts gL_law_X2_longestChase rfl rfl rfl (by decide +kernel) ⟨Nat.le_of_ble_eq_true rfl, Nat.le_of_ble_eq_true rfl⟩) ⟨RdP_blind, va_recv hZ.1 hP (ci := 2) (q0 := 0) rfl rfl, RdP_start (hP.sub (ws' := pD cZ cI a o o' q κ0 ωz ωz σ0) [0, 1, 2, 3, 4, 5, 6, 7, 8, 9, 10, 11, 12, 13, 14, 15, 16, 17, 18] rfl) hZ.two⟩ rfl rfl hl.1 rfl (lv_room (Nat.le_of_ble_eq_true rfl)) dL_law_1596 ⟨Nat.le_of_ble_eq_true rfl, Nat.le_of_ble_eq_true rfl⟩).run (fun r9 hq1 => ?_)
  obtain rfl : r9 = (-1 : Int32) := hq1.trans (congrArg iO lc_fresh)
  refine lv_aload_n hx hb dL_law_1599 rfl (lv_at hl 2 rfl) ?_
  have hPc := hP.sub (ws' := pM cZ cI g 0 0 (some 0) (fun _ => false)) [19, 20, 21, 22, 23, 24, 25, 26, 27] rfl
  have hDc := hD.sub (ws' := pM cZ cI g 0 0 (some 0) (fun _ => false)) [19, 20, 21, 22, 23, 24, 25, 26, 27] (by decide) rfl
  have hFc := va_free (wc := pM cZ cI g 0 0 (some 0) (fun _ => false)) hD hS hA [19, 20, 21, 22, 23, 24, 25, 26, 27] rfl
  refine va_calli (va_runV (As := []) (rest := [.int (-1)]) ⟨hx, hb, hml, hown, hts⟩ (c_X3_longestChase l D cZ cI g 0 (some 0) H.size ) (cwV 0 hts gL_law_X3_longestChase rfl rfl rfl (by decide +kernel) ⟨Nat.le_of_ble_eq_true rfl, Nat.le_of_ble_eq_true rfl⟩) ⟨WrP_blind, va_recv hZ.1 hP (ci := 3) (q0 := 19) rfl rfl, WrP_start hPc hDc hZ.two⟩ rfl rfl hl.1 rfl (lv_room (Nat.le_of_ble_eq_true rfl)) dL_law_1600 ⟨Nat.le_of_ble_eq_true rfl, Nat.le_of_ble_eq_true rfl⟩) hS (fun q _ h => hFc q h) hFc (fun r9 u9 t H1 locs ht hvm hw hB hz1 hk1 hS => ?_)
  obtain ⟨hP1, hD1⟩ := hB
  rw [ht] at hP1
  obtain ⟨hP, hD⟩ := va_join (wr := pD cZ cI a o o' q κ0 ωz ωz σ0 ++ [(u, .inl (cJ, 1, .inr (.inl (fun _ => (0 : Int64)))))]) (w1 := pM cZ cI g 0 0 none (fun _ => false)) hP hD [19, 20, 21, 22, 23, 24, 25, 26, 27] [0, 1, 2, 3, 4, 5, 6, 7, 8, 9, 10, 11, 12, 13, 14, 15, 16, 17, 18, 28] rfl rfl (by decide) (by decide) hk1 hFc hP1 hD1
  replace hP : va_P D vwCl (pD cZ cI a o o' q κ0 ωz ωz σ0 ++ [(u, .inl (cJ, 1, .inr (.inl (fun _ => (0 : Int64)))))] ++ pM cZ cI g 0 0 none (fun _ => false)) H1 := hP
  replace hD : va_D (fun q : Nat => s.heap.size ≤ q) (pD cZ cI a o o' q κ0 ωz ωz σ0 ++ [(u, .inl (cJ, 1, .inr (.inl (fun _ => (0 : Int64)))))] ++ pM cZ cI g 0 0 none (fun _ => false)) := hD
  generalize H1 = H at hP hS ⊢
  refine W.widen (k := 30) (n := 3867) (Nat.le_of_ble_eq_true rfl) (Nat.le_of_ble_eq_true rfl) ?_
  obtain rfl : r9 = (-1 : Int32) := hw
  refine lv_icmp_eq (tgt := 1676) hx hb dL_law_1603 (by decide) (fun _ => ?_) (fun h => absurd (by first | rfl | decide) h)
  exact lk_end l C0 hS (Nat.le_of_ble_eq_true rfl) (Nat.le_of_ble_eq_true rfl) (lv_sub hl [0, 4] rfl)

set_option maxHeartbeats 4000000 in
set_option maxRecDepth 100000 in
theorem lk_33 {p : Program} {e : Env} {s : State} {m : MethodId} {below : List Frame} {meth : Method} {c : Code} (l : Launch) (hl9 : l.stackTraces = false) {b : Nat} {xs : Nat → Int32} (C0 : lw_At p s m meth c b 5 xs) {D : va_G} {cZ cI cJ : ClassId} {a u : Nat} {o o' q g : Nat → Nat} {H : Heap} {locs : List Loc} (hZ : zKJ D cZ cI cJ s) (hT : exT s) (hE : exS s H) (hC : xcT s) (hP : va_P D vwCl (pD cZ cI a o o' q κ0 ωz ωz σ0 ++ pM cZ cI g 0 0 (some 0) (fun _ => false) ++ [(u, .inl (cJ, 1, .inr (.inl (fun _ => (0 : Int64)))))]) H) (hD : va_D (fun q : Nat => s.heap.size ≤ q) (pD cZ cI a o o' q κ0 ωz ωz σ0 ++ pM cZ cI g 0 0 (some 0) (fun _ => false) ++ [(u, .inl (cJ, 1, .inr (.inl (fun _ => (0 : Int64)))))])) (hS : va_S (fun q : Nat => s.heap.size ≤ q) s.heap H locs)  {ls : Array Slot} (hl : lv_has ls 9 [(4, .int (nI 0)), (3, .ref u), (2, .ref (g 0)), (1, .ref a), (0, .ref b)]) : W p l e room_1 s m #[Value.ref b] below meth c H locs 29 3099 (lw_Z below #[Value.ref b] s) (F0 m 1608 ls []) := by
  obtain ⟨hx, hb, hr, hml, hown, hts0, hX, hbl, hlocks, hgv⟩ := id C0
  have hown : s.vm.findClass RL = some m.cls := hown
  have hts : ∀ w ∈ wsL_law, w.before #[Value.ref b] s = true := fun w h => hts0 w (wsL_law_in w h)
  have hA : ∀ q : Nat, s.heap.size ≤ q → (fun q : Nat => s.heap.size ≤ q) q := fun _ h => h
  have hbA : ¬ (fun q : Nat => s.heap.size ≤ q) b := Nat.not_le.mpr hbl
  refine lv_aload_n hx hb dL_law_1608 rfl (lv_at hl 3 rfl) ?_
  refine vp_callSi (va_runV (As := []) (rest := []) ⟨hx, hb, hml, hown, hts⟩ (co_X2_bestDoorToLock l D cZ cI a o o' q 0 false 0 ωz ωz σ0) (cwV 0 hts gL_law_X2_bestDoorToLock rfl rfl rfl (by decide +kernel) ⟨Nat.le_of_ble_eq_true rfl, Nat.le_of_ble_eq_true rfl⟩) ⟨RdP_blind, va_recv hZ.1 hP (ci := 2) (q0 := 0) rfl rfl, RdP_start (hP.sub (ws' := pD cZ cI a o o' q (0, false, false, none, none, 0) ωz ωz σ0) [0, 1, 2, 3, 4, 5, 6, 7, 8, 9, 10, 11, 12, 13, 14, 15, 16, 17, 18] rfl) hZ.two⟩ rfl rfl hl.1 rfl (lv_room (Nat.le_of_ble_eq_true rfl)) dL_law_1609 ⟨Nat.le_of_ble_eq_true rfl, Nat.le_of_ble_eq_true rfl⟩).run (fun r9 hq1 => ?_)
  obtain rfl : r9 = (-1 : Int32) := hq1
  refine lv_aload_n hx hb dL_law_1612 rfl (lv_at hl 2 rfl) ?_
  have hPc := hP.sub (ws' := pM cZ cI g 0 0 (some 0) (fun _ => false)) [19, 20, 21, 22, 23, 24, 25, 26, 27] rfl
  have hDc := hD.sub (ws' := pM cZ cI g 0 0 (some 0) (fun _ => false)) [19, 20, 21, 22, 23, 24, 25, 26, 27] (by decide) rfl
  have hFc := va_free (wc := pM cZ cI g 0 0 (some 0) (fun _ => false)) hD hS hA [19, 20, 21, 22, 23, 24, 25, 26, 27] rfl
  refine va_calli (va_runV (As := []) (rest := [.int (-1)]) ⟨hx, hb, hml, hown, hts⟩ (c_X3_bestDoorToLock l D cZ cI g 0 (some 0) H.size ) (cwV 0 hts gL_law_X3_bestDoorToLock rfl rfl rfl (by decide +kernel) ⟨Nat.le_of_ble_eq_true rfl, Nat.le_of_ble_eq_true rfl⟩) ⟨WrP_blind, va_recv hZ.1 hP (ci := 3) (q0 := 19) rfl rfl, WrP_start hPc hDc hZ.two⟩ rfl rfl hl.1 rfl (lv_room (Nat.le_of_ble_eq_true rfl)) dL_law_1613 ⟨Nat.le_of_ble_eq_true rfl, Nat.le_of_ble_eq_true rfl⟩) hS (fun q _ h => hFc q h) hFc (fun r9 u9 t H1 locs ht hvm hw hB hz1 hk1 hS => ?_)
  obtain ⟨hP1, hD1⟩ := hB
  rw [ht] at hP1
  obtain ⟨hP, hD⟩ := va_join (wr := pD cZ cI a o o' q κ0 ωz ωz σ0 ++ [(u, .inl (cJ, 1, .inr (.inl (fun _ => (0 : Int64)))))]) (w1 := pM cZ cI g 0 0 (some 0) (fun _ => false)) hP hD [19, 20, 21, 22, 23, 24, 25, 26, 27] [0, 1, 2, 3, 4, 5, 6, 7, 8, 9, 10, 11, 12, 13, 14, 15, 16, 17, 18, 28] rfl rfl (by decide) (by decide) hk1 hFc hP1 hD1
  replace hP : va_P D vwCl (pD cZ cI a o o' q κ0 ωz ωz σ0 ++ [(u, .inl (cJ, 1, .inr (.inl (fun _ => (0 : Int64)))))] ++ pM cZ cI g 0 0 (some 0) (fun _ => false)) H1 := hP
  replace hD : va_D (fun q : Nat => s.heap.size ≤ q) (pD cZ cI a o o' q κ0 ωz ωz σ0 ++ [(u, .inl (cJ, 1, .inr (.inl (fun _ => (0 : Int64)))))] ++ pM cZ cI g 0 0 (some 0) (fun _ => false)) := hD
  generalize H1 = H at hP hS ⊢
  obtain rfl : r9 = (-1 : Int32) := hw
  refine lv_icmp_eq (tgt := 1676) hx hb dL_law_1616 (by decide) (fun _ => ?_) (fun h => absurd (by first | rfl | decide) h)
  exact lk_end l C0 hS (Nat.le_of_ble_eq_true rfl) (Nat.le_of_ble_eq_true rfl) (lv_sub hl [0, 4] rfl)

set_option maxHeartbeats 4000000 in
set_option maxRecDepth 100000 in
theorem lk_34 {p : Program} {e : Env} {s : State} {m : MethodId} {below : List Frame} {meth : Method} {c : Code} (l : Launch) (hl9 : l.stackTraces = false) {b : Nat} {xs : Nat → Int32} (C0 : lw_At p s m meth c b 5 xs) {D : va_G} {cZ cI cJ : ClassId} {a u : Nat} {o o' q g : Nat → Nat} {H : Heap} {locs : List Loc} (hZ : zKJ D cZ cI cJ s) (hT : exT s) (hE : exS s H) (hC : xcT s) (hP : va_P D vwCl (pD cZ cI a o o' q κ0 ωz ωz σ0 ++ pM cZ cI g 0 0 (some 0) (fun _ => false) ++ [(u, .inl (cJ, 1, .inr (.inl (fun _ => (0 : Int64)))))]) H) (hD : va_D (fun q : Nat => s.heap.size ≤ q) (pD cZ cI a o o' q κ0 ωz ωz σ0 ++ pM cZ cI g 0 0 (some 0) (fun _ => false) ++ [(u, .inl (cJ, 1, .inr (.inl (fun _ => (0 : Int64)))))])) (hS : va_S (fun q : Nat => s.heap.size ≤ q) s.heap H locs)  {ls : Array Slot} (hl : lv_has ls 9 [(4, .int (nI 0)), (3, .ref u), (2, .ref (g 0)), (1, .ref a), (0, .ref b)]) : W p l e room_1 s m #[Value.ref b] below meth c H locs 29 3099 (lw_Z below #[Value.ref b] s) (F0 m 1621 ls []) := by
  obtain ⟨hx, hb, hr, hml, hown, hts0, hX, hbl, hlocks, hgv⟩ := id C0
  have hown : s.vm.findClass RL = some m.cls := hown
  have hts : ∀ w ∈ wsL_law, w.before #[Value.ref b] s = true := fun w h => hts0 w (wsL_law_in w h)
  have hA : ∀ q : Nat, s.heap.size ≤ q → (fun q : Nat => s.heap.size ≤ q) q := fun _ h => h
  have hbA : ¬ (fun q : Nat => s.heap.size ≤ q) b := Nat.not_le.mpr hbl
  refine lv_aload_n hx hb dL_law_1621 rfl (lv_at hl 3 rfl) ?_
  refine vp_callSd (va_runV (As := []) (rest := []) ⟨hx, hb, hml, hown, hts⟩ (c_X2_meanTurns l D cZ cI a o o' q κ0 ωz ωz σ0 zOk_0 (by decide) tOk_0) (cwV 0 hts gL_law_X2_meanTurns rfl rfl rfl (by decide +kernel) ⟨Nat.le_of_ble_eq_true rfl, Nat.le_of_ble_eq_true rfl⟩) ⟨RdP_blind, va_recv hZ.1 hP (ci := 2) (q0 := 0) rfl rfl, RdP_start (hP.sub (ws' := pD cZ cI a o o' q κ0 ωz ωz σ0) [0, 1, 2, 3, 4, 5, 6, 7, 8, 9, 10, 11, 12, 13, 14, 15, 16, 17, 18] rfl) hZ.two⟩ rfl rfl hl.1 rfl (lv_room (Nat.le_of_ble_eq_true rfl)) dL_law_1622 ⟨Nat.le_of_ble_eq_true rfl, Nat.le_of_ble_eq_true rfl⟩).run (fun r9 hq1 => ?_)
  obtain rfl : r9 = FP.dconst0 := hq1.trans mean_fresh
  refine lv_dstore (lv' := [(5, .double FP.dconst0), (4, .int (nI 0)), (3, .ref u), (2, .ref (g 0)), (1, .ref a), (0, .ref b)]) hx hb dL_law_1625 hl (by decide) rfl (fun ls hl => ?_)
  refine lv_aload_n hx hb dL_law_1627 rfl (lv_at hl 3 rfl) ?_
  have hPc := hP.sub (ws' := pM cZ cI g 0 0 (some 0) (fun _ => false)) [19, 20, 21, 22, 23, 24, 25, 26, 27] rfl
  have hDc := hD.sub (ws' := pM cZ cI g 0 0 (some 0) (fun _ => false)) [19, 20, 21, 22, 23, 24, 25, 26, 27] (by decide) rfl
  have hFc := va_free (wc := pM cZ cI g 0 0 (some 0) (fun _ => false)) hD hS hA [19, 20, 21, 22, 23, 24, 25, 26, 27] rfl
  refine va_calld (va_runV (As := []) (rest := []) ⟨hx, hb, hml, hown, hts⟩ (c_X3_meanTurns l D cZ cI g 0 (some 0) H.size ) (cwV 0 hts gL_law_X3_meanTurns rfl rfl rfl (by decide +kernel) ⟨Nat.le_of_ble_eq_true rfl, Nat.le_of_ble_eq_true rfl⟩) ⟨WrP_blind, va_recv hZ.1 hP (ci := 3) (q0 := 19) rfl rfl, WrP_start hPc hDc hZ.two⟩ rfl rfl hl.1 rfl (lv_room (Nat.le_of_ble_eq_true rfl)) dL_law_1628 ⟨Nat.le_of_ble_eq_true rfl, Nat.le_of_ble_eq_true rfl⟩) hS (fun q _ h => hFc q h) hFc (fun r9 u9 t H1 locs ht hvm hw hB hz1 hk1 hS => ?_)
  obtain ⟨hP1, hD1⟩ := hB
  rw [ht] at hP1
  obtain ⟨hP, hD⟩ := va_join (wr := pD cZ cI a o o' q κ0 ωz ωz σ0 ++ [(u, .inl (cJ, 1, .inr (.inl (fun _ => (0 : Int64)))))]) (w1 := pM cZ cI g 0 0 none (fun _ => false)) hP hD [19, 20, 21, 22, 23, 24, 25, 26, 27] [0, 1, 2, 3, 4, 5, 6, 7, 8, 9, 10, 11, 12, 13, 14, 15, 16, 17, 18, 28] rfl rfl (by decide) (by decide) hk1 hFc hP1 hD1
  replace hP : va_P D vwCl (pD cZ cI a o o' q κ0 ωz ωz σ0 ++ [(u, .inl (cJ, 1, .inr (.inl (fun _ => (0 : Int64)))))] ++ pM cZ cI g 0 0 none (fun _ => false)) H1 := hP
  replace hD : va_D (fun q : Nat => s.heap.size ≤ q) (pD cZ cI a o o' q κ0 ωz ωz σ0 ++ [(u, .inl (cJ, 1, .inr (.inl (fun _ => (0 : Int64)))))] ++ pM cZ cI g 0 0 none (fun _ => false)) := hD
  generalize H1 = H at hP hS ⊢
  refine W.widen (k := 30) (n := 3867) (Nat.le_of_ble_eq_true rfl) (Nat.le_of_ble_eq_true rfl) ?_
  obtain rfl : r9 = FP.dconst0 := hw
  refine lv_dstore (lv' := [(7, .double FP.dconst0), (5, .double FP.dconst0), (4, .int (nI 0)), (3, .ref u), (2, .ref (g 0)), (1, .ref a), (0, .ref b)]) hx hb dL_law_1631 hl (by decide) rfl (fun ls hl => ?_)
  refine lv_dload hx hb dL_law_1633 (lv_at hl 1 rfl) ?_
  refine lv_dload hx hb dL_law_1635 (lv_at hl 0 rfl) ?_
  refine lv_dcmp hx hb dL_law_1637 ?_
  refine lv_if_eq (tgt := 1659) hx hb dL_law_1638 (by decide) (fun _ => ?_) (fun h => absurd (by decide +kernel) h)
  refine lv_goto (tgt := 1676) hx hb dL_law_1659 (by decide) ?_
  exact lk_end l C0 hS (Nat.le_of_ble_eq_true rfl) (Nat.le_of_ble_eq_true rfl) (lv_sub hl [2, 6] rfl)

set_option maxHeartbeats 4000000 in
set_option maxRecDepth 100000 in
theorem lk_35 {p : Program} {e : Env} {s : State} {m : MethodId} {below : List Frame} {meth : Method} {c : Code} (l : Launch) (hl9 : l.stackTraces = false) {b : Nat} {xs : Nat → Int32} (C0 : lw_At p s m meth c b 5 xs) {D : va_G} {cZ cI cJ : ClassId} {a u : Nat} {o o' q g : Nat → Nat} {H : Heap} {locs : List Loc} (hZ : zKJ D cZ cI cJ s) (hT : exT s) (hE : exS s H) (hC : xcT s) (hP : va_P D vwCl (pD cZ cI a o o' q κ0 ωz ωz σ0 ++ pM cZ cI g 0 0 (some 0) (fun _ => false) ++ [(u, .inl (cJ, 1, .inr (.inl (fun _ => (0 : Int64)))))]) H) (hD : va_D (fun q : Nat => s.heap.size ≤ q) (pD cZ cI a o o' q κ0 ωz ωz σ0 ++ pM cZ cI g 0 0 (some 0) (fun _ => false) ++ [(u, .inl (cJ, 1, .inr (.inl (fun _ => (0 : Int64)))))])) (hS : va_S (fun q : Nat => s.heap.size ≤ q) s.heap H locs)  {ls : Array Slot} (hl : lv_has ls 9 [(4, .int (nI 0)), (3, .ref u), (2, .ref (g 0)), (1, .ref a), (0, .ref b)]) : W p l e room_1 s m #[Value.ref b] below meth c H locs 29 3099 (lw_Z below #[Value.ref b] s) (F0 m 1662 ls []) := by
  obtain ⟨hx, hb, hr, hml, hown, hts0, hX, hbl, hlocks, hgv⟩ := id C0
  have hown : s.vm.findClass RL = some m.cls := hown
  have hts : ∀ w ∈ wsL_law, w.before #[Value.ref b] s = true := fun w h => hts0 w (wsL_law_in w h)
  have hA : ∀ q : Nat, s.heap.size ≤ q → (fun q : Nat => s.heap.size ≤ q) q := fun _ h => h
  have hbA : ¬ (fun q : Nat => s.heap.size ≤ q) b := Nat.not_le.mpr hbl
  refine lv_aload_n hx hb dL_law_1662 rfl (lv_at hl 3 rfl) ?_
  refine vp_callSl (va_runV (As := []) (rest := []) ⟨hx, hb, hml, hown, hts⟩ (co_X2_digest l D cZ cI a o o' q 0 false 0 ωz ωz σ0 zOk_0 (by decide) tOk_0) (cwV 0 hts gL_law_X2_digest rfl rfl rfl (by decide +kernel) ⟨Nat.le_of_ble_eq_true rfl, Nat.le_of_ble_eq_true rfl⟩) ⟨RdP_blind, va_recv hZ.1 hP (ci := 2) (q0 := 0) rfl rfl, RdP_start (hP.sub (ws' := pD cZ cI a o o' q (0, false, false, none, none, 0) ωz ωz σ0) [0, 1, 2, 3, 4, 5, 6, 7, 8, 9, 10, 11, 12, 13, 14, 15, 16, 17, 18] rfl) hZ.two⟩ rfl rfl hl.1 rfl (lv_room (Nat.le_of_ble_eq_true rfl)) dL_law_1663 ⟨Nat.le_of_ble_eq_true rfl, Nat.le_of_ble_eq_true rfl⟩).run (fun d9 hq1 => ?_)
  refine lv_aload_n hx hb dL_law_1666 rfl (lv_at hl 2 rfl) ?_
  have hPc := hP.sub (ws' := pM cZ cI g 0 0 (some 0) (fun _ => false)) [19, 20, 21, 22, 23, 24, 25, 26, 27] rfl
  have hDc := hD.sub (ws' := pM cZ cI g 0 0 (some 0) (fun _ => false)) [19, 20, 21, 22, 23, 24, 25, 26, 27] (by decide) rfl
  have hFc := va_free (wc := pM cZ cI g 0 0 (some 0) (fun _ => false)) hD hS hA [19, 20, 21, 22, 23, 24, 25, 26, 27] rfl
  refine va_calll (va_runV (As := []) (rest := [.long d9]) ⟨hx, hb, hml, hown, hts⟩ (c_X3_digest l D cZ cI g 0 (some 0) H.size ) (cwV 0 hts gL_law_X3_digest rfl rfl rfl (by decide +kernel) ⟨Nat.le_of_ble_eq_true rfl, Nat.le_of_ble_eq_true rfl⟩) ⟨WrP_blind, va_recv hZ.1 hP (ci := 3) (q0 := 19) rfl rfl, WrP_start hPc hDc hZ.two⟩ rfl rfl hl.1 rfl (lv_room (Nat.le_of_ble_eq_true rfl)) dL_law_1667 ⟨Nat.le_of_ble_eq_true rfl, Nat.le_of_ble_eq_true rfl⟩) hS (fun q _ h => hFc q h) hFc (fun r9 u9 t H1 locs ht hvm hw hB hz1 hk1 hS => ?_)
  obtain ⟨hP1, hD1⟩ := hB
  rw [ht] at hP1
  obtain ⟨hP, hD⟩ := va_join (wr := pD cZ cI a o o' q κ0 ωz ωz σ0 ++ [(u, .inl (cJ, 1, .inr (.inl (fun _ => (0 : Int64)))))]) (w1 := pM cZ cI g 0 0 none (fun _ => false)) hP hD [19, 20, 21, 22, 23, 24, 25, 26, 27] [0, 1, 2, 3, 4, 5, 6, 7, 8, 9, 10, 11, 12, 13, 14, 15, 16, 17, 18, 28] rfl rfl (by decide) (by decide) hk1 hFc hP1 hD1
  replace hP : va_P D vwCl (pD cZ cI a o o' q κ0 ωz ωz σ0 ++ [(u, .inl (cJ, 1, .inr (.inl (fun _ => (0 : Int64)))))] ++ pM cZ cI g 0 0 none (fun _ => false)) H1 := hP
  replace hD : va_D (fun q : Nat => s.heap.size ≤ q) (pD cZ cI a o o' q κ0 ωz ωz σ0 ++ [(u, .inl (cJ, 1, .inr (.inl (fun _ => (0 : Int64)))))] ++ pM cZ cI g 0 0 none (fun _ => false)) := hD
  generalize H1 = H at hP hS ⊢
  refine W.widen (k := 31) (n := 4635) (Nat.le_of_ble_eq_true rfl) (Nat.le_of_ble_eq_true rfl) ?_
  refine W.lcmp hx hb dL_law_1670 ?_
  refine lv_if_eq (tgt := 1676) hx hb dL_law_1671 (by decide) (fun _ => ?_) (fun h => absurd (show lg_cmp d9 r9 = 0 by rw [hq1.trans dig_fresh, hw]; decide +kernel) h)
  exact lk_end l C0 hS (Nat.le_of_ble_eq_true rfl) (Nat.le_of_ble_eq_true rfl) (lv_sub hl [0, 4] rfl)

