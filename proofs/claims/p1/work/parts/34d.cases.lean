set_option maxHeartbeats 4000000 in
set_option maxRecDepth 100000 in
theorem lk_25 {p : Program} {e : Env} {s : State} {m : MethodId} {below : List Frame} {meth : Method} {c : Code} (l : Launch) (hl9 : l.stackTraces = false) {b : Nat} {xs : Nat → Int32} (C0 : lw_At p s m meth c b 5 xs) {D : va_G} {cZ cI cJ : ClassId} {a u : Nat} {o o' q g : Nat → Nat} {H : Heap} {locs : List Loc} (hZ : zKJ D cZ cI cJ s) (hT : exT s) (hE : exS s H) (hC : xcT s) (hP : va_P D vwCl (pD cZ cI a o o' q κ0 ωz ωz σ0 ++ pM cZ cI g 0 0 (some 0) (fun _ => false) ++ [(u, .inl (cJ, 1, .inr (.inl (fun _ => (0 : Int64)))))]) H) (hD : va_D (fun q : Nat => s.heap.size ≤ q) (pD cZ cI a o o' q κ0 ωz ωz σ0 ++ pM cZ cI g 0 0 (some 0) (fun _ => false) ++ [(u, .inl (cJ, 1, .inr (.inl (fun _ => (0 : Int64)))))])) (hS : va_S (fun q : Nat => s.heap.size ≤ q) s.heap H locs)  {ls : Array Slot} (hl : lv_has ls 9 [(4, .int (nI 0)), (3, .ref u), (2, .ref (g 0)), (1, .ref a), (0, .ref b)]) : W p l e room_1 s m #[Value.ref b] below meth c H locs 29 3099 (lw_Z below #[Value.ref b] s) (F0 m 1363 ls []) := by
  obtain ⟨hx, hb, hr, hml, hown, hts0, hX, hbl, hlocks, hgv⟩ := id C0
  have hown : s.vm.findClass RL = some m.cls := hown
  have hts : ∀ w ∈ wsL_law, w.before #[Value.ref b] s = true := fun w h => hts0 w (wsL_law_in w h)
  have hA : ∀ q : Nat, s.heap.size ≤ q → (fun q : Nat => s.heap.size ≤ q) q := fun _ h => h
  have hbA : ¬ (fun q : Nat => s.heap.size ≤ q) b := Nat.not_le.mpr hbl
  refine lv_aload_n hx hb dL_law_1363 rfl (lv_at hl 3 rfl) ?_
  refine lv_aload_n hx hb dL_law_1364 rfl (lv_at hl 4 rfl) ?_
  refine lv_iload hx hb dL_law_1365 (lv_at hl 0 rfl) ?_
  refine lv_iconst (v := nI 1) hx hb dL_law_1367 (by decide) ?_
  refine lv_iadd hx hb dL_law_1368 ?_
  refine rv_top (show nI 0 + nI 1 = nI 1 from by decide) ?_
  refine va_sld hx hb hX hbl hbA hS (nI_in (by decide) (by decide)) dL_law_1369 ?_
  refine rv_top (show xs (nI 1).toNatClampNeg = xs 1 from rfl) ?_
  refine lv_aload_n hx hb dL_law_1370 rfl (lv_at hl 1 rfl) ?_
  have hPc := hP.sub (ws' := pD cZ cI a o o' q κ0 ωz ωz σ0) [0, 1, 2, 3, 4, 5, 6, 7, 8, 9, 10, 11, 12, 13, 14, 15, 16, 17, 18] rfl
  have hDc := hD.sub (ws' := pD cZ cI a o o' q κ0 ωz ωz σ0) [0, 1, 2, 3, 4, 5, 6, 7, 8, 9, 10, 11, 12, 13, 14, 15, 16, 17, 18] (by decide) rfl
  have hFc := va_free (wc := pD cZ cI a o o' q κ0 ωz ωz σ0) hD hS hA [0, 1, 2, 3, 4, 5, 6, 7, 8, 9, 10, 11, 12, 13, 14, 15, 16, 17, 18] rfl
  refine va_calli (vx_runSW (As := [.ref a, .int (xs 1), .ref u]) (rest := []) ⟨hx, hb, hml, hown, hts⟩ (vx_toMet (w_L_catArrives l hl9 D cZ cI a o o' q κ0 ωz ωz σ0 u H.size (xs 1) rfl)) (vx_cwSW 3 hts gL_law_L_catArrives rfl rfl rfl (by decide +kernel) ⟨Nat.le_of_ble_eq_true rfl, Nat.le_of_ble_eq_true rfl⟩) ⟨XwP_blind, XwP_start hPc hDc hZ.two hT hE hC⟩ rfl rfl hl.1 rfl (lv_room (Nat.le_of_ble_eq_true rfl)) dL_law_1371 ⟨Nat.le_of_ble_eq_true rfl, Nat.le_of_ble_eq_true rfl⟩) hS (fun q _ h => hFc q h) hFc (fun r9 u9 t H1 locs ht hvm hw hB hz1 hk1 hS => ?_)
  obtain ⟨hP1, hD1⟩ := hB
  rw [ht] at hP1
  obtain ⟨hP, hD⟩ := va_join (wr := pM cZ cI g 0 0 (some 0) (fun _ => false) ++ [(u, .inl (cJ, 1, .inr (.inl (fun _ => (0 : Int64)))))]) (w1 := pD cZ cI a o o' q κ0 ωz ωz σ0) hP hD [0, 1, 2, 3, 4, 5, 6, 7, 8, 9, 10, 11, 12, 13, 14, 15, 16, 17, 18] [19, 20, 21, 22, 23, 24, 25, 26, 27, 28] rfl rfl (by decide) (by decide) hk1 hFc hP1 hD1
  replace hP : va_P D vwCl (pM cZ cI g 0 0 (some 0) (fun _ => false) ++ [(u, .inl (cJ, 1, .inr (.inl (fun _ => (0 : Int64)))))] ++ pD cZ cI a o o' q κ0 ωz ωz σ0) H1 := hP
  replace hD : va_D (fun q : Nat => s.heap.size ≤ q) (pM cZ cI g 0 0 (some 0) (fun _ => false) ++ [(u, .inl (cJ, 1, .inr (.inl (fun _ => (0 : Int64)))))] ++ pD cZ cI a o o' q κ0 ωz ωz σ0) := hD
  generalize H1 = H at hP hS ⊢
  refine W.widen (k := 30) (n := 3105) (Nat.le_of_ble_eq_true rfl) (Nat.le_of_ble_eq_true rfl) ?_
  subst hw
  refine lv_istore (lv' := [(5, .int (nI 1)), (4, .int (nI 0)), (3, .ref u), (2, .ref (g 0)), (1, .ref a), (0, .ref b)]) hx hb dL_law_1374 hl (by decide) rfl (fun ls hl => ?_)
  refine lv_aload_n hx hb dL_law_1376 rfl (lv_at hl 3 rfl) ?_
  refine lv_aload_n hx hb dL_law_1377 rfl (lv_at hl 5 rfl) ?_
  refine lv_iload hx hb dL_law_1378 (lv_at hl 1 rfl) ?_
  refine lv_iconst (v := nI 1) hx hb dL_law_1380 (by decide) ?_
  refine lv_iadd hx hb dL_law_1381 ?_
  refine rv_top (show nI 0 + nI 1 = nI 1 from by decide) ?_
  refine va_sld hx hb hX hbl hbA hS (nI_in (by decide) (by decide)) dL_law_1382 ?_
  refine rv_top (show xs (nI 1).toNatClampNeg = xs 1 from rfl) ?_
  have hPc := hP.sub (ws' := pM cZ cI g 0 0 (some 0) (fun _ => false)) [0, 1, 2, 3, 4, 5, 6, 7, 8] rfl
  have hDc := hD.sub (ws' := pM cZ cI g 0 0 (some 0) (fun _ => false)) [0, 1, 2, 3, 4, 5, 6, 7, 8] (by decide) rfl
  have hFc := va_free (wc := pM cZ cI g 0 0 (some 0) (fun _ => false)) hD hS hA [0, 1, 2, 3, 4, 5, 6, 7, 8] rfl
  refine va_calli (va_runV (As := [.int (xs 1)]) (rest := []) ⟨hx, hb, hml, hown, hts⟩ (c_X3_catArrives l D cZ cI g 0 (some 0) H.size (xs 1)) (cwV 1 hts gL_law_X3_catArrives rfl rfl rfl (by decide +kernel) ⟨Nat.le_of_ble_eq_true rfl, Nat.le_of_ble_eq_true rfl⟩) ⟨WrP_blind, va_recv hZ.1 hP (ci := 3) (q0 := 0) rfl rfl, WrP_start hPc hDc hZ.two⟩ rfl rfl hl.1 rfl (lv_room (Nat.le_of_ble_eq_true rfl)) dL_law_1383 ⟨Nat.le_of_ble_eq_true rfl, Nat.le_of_ble_eq_true rfl⟩) hS (fun q _ h => hFc q h) hFc (fun r9 u9 t H1 locs ht hvm hw hB hz1 hk1 hS => ?_)
  obtain ⟨hP1, hD1⟩ := hB
  rw [ht] at hP1
  obtain ⟨hP, hD⟩ := va_join (wr := [(u, .inl (cJ, 1, .inr (.inl (fun _ => (0 : Int64)))))] ++ pD cZ cI a o o' q κ0 ωz ωz σ0) (w1 := pM cZ cI g 1 0 (some 0) (fun _ => false)) hP hD [0, 1, 2, 3, 4, 5, 6, 7, 8] [9, 10, 11, 12, 13, 14, 15, 16, 17, 18, 19, 20, 21, 22, 23, 24, 25, 26, 27, 28] rfl rfl (by decide) (by decide) hk1 hFc hP1 hD1
  replace hP : va_P D vwCl ([(u, .inl (cJ, 1, .inr (.inl (fun _ => (0 : Int64)))))] ++ pD cZ cI a o o' q κ0 ωz ωz σ0 ++ pM cZ cI g 1 0 (some 0) (fun _ => false)) H1 := hP
  replace hD : va_D (fun q : Nat => s.heap.size ≤ q) ([(u, .inl (cJ, 1, .inr (.inl (fun _ => (0 : Int64)))))] ++ pD cZ cI a o o' q κ0 ωz ωz σ0 ++ pM cZ cI g 1 0 (some 0) (fun _ => false)) := hD
  generalize H1 = H at hP hS ⊢
  obtain rfl : r9 = (nI 0 : Int32) := hw
  refine lv_istore (lv' := [(6, .int (nI 0)), (5, .int (nI 1)), (4, .int (nI 0)), (3, .ref u), (2, .ref (g 0)), (1, .ref a), (0, .ref b)]) hx hb dL_law_1386 hl (by decide) rfl (fun ls hl => ?_)
  refine lv_aload_n hx hb dL_law_1388 rfl (lv_at hl 4 rfl) ?_
  refine vp_callSi (va_runV (As := []) (rest := []) ⟨hx, hb, hml, hown, hts⟩ (c_X3_thrown l D cZ cI g 1 (some 0)) (cwV 0 hts gL_law_X3_thrown rfl rfl rfl (by decide +kernel) ⟨Nat.le_of_ble_eq_true rfl, Nat.le_of_ble_eq_true rfl⟩) ⟨RdP_blind, va_recv hZ.1 hP (ci := 3) (q0 := 20) rfl rfl, RdP_start (hP.sub (ws' := pM cZ cI g 1 0 (some 0) (fun _ => false)) [20, 21, 22, 23, 24, 25, 26, 27, 28] rfl) hZ.two⟩ rfl rfl hl.1 rfl (lv_room (Nat.le_of_ble_eq_true rfl)) dL_law_1389 ⟨Nat.le_of_ble_eq_true rfl, Nat.le_of_ble_eq_true rfl⟩).run (fun r9 hq1 => ?_)
  obtain rfl : r9 = nI 1 := hq1
  refine lv_iload hx hb dL_law_1392 (lv_at hl 1 rfl) ?_
  refine lv_icmp_eq (tgt := 1399) hx hb dL_law_1394 (by decide) (fun _ => ?_) (fun h => absurd (by first | rfl | decide) h)
  refine lv_iload hx hb dL_law_1399 (lv_at hl 1 rfl) ?_
  refine lv_if_ne (tgt := 1416) hx hb dL_law_1401 (by decide) (fun _ => ?_) (fun h => absurd h (by decide))
  refine lv_goto (tgt := 1676) hx hb dL_law_1416 (by decide) ?_
  exact lk_end l C0 hS (Nat.le_of_ble_eq_true rfl) (Nat.le_of_ble_eq_true rfl) (lv_sub hl [2, 6] rfl)

set_option maxHeartbeats 4000000 in
set_option maxRecDepth 100000 in
theorem lk_26 {p : Program} {e : Env} {s : State} {m : MethodId} {below : List Frame} {meth : Method} {c : Code} (l : Launch) (hl9 : l.stackTraces = false) {b : Nat} {xs : Nat → Int32} (C0 : lw_At p s m meth c b 5 xs) {D : va_G} {cZ cI cJ : ClassId} {a u : Nat} {o o' q g : Nat → Nat} {H : Heap} {locs : List Loc} (hZ : zKJ D cZ cI cJ s) (hT : exT s) (hE : exS s H) (hC : xcT s) (hP : va_P D vwCl (pD cZ cI a o o' q κ0 ωz ωz σ0 ++ pM cZ cI g 0 0 (some 0) (fun _ => false) ++ [(u, .inl (cJ, 1, .inr (.inl (fun _ => (0 : Int64)))))]) H) (hD : va_D (fun q : Nat => s.heap.size ≤ q) (pD cZ cI a o o' q κ0 ωz ωz σ0 ++ pM cZ cI g 0 0 (some 0) (fun _ => false) ++ [(u, .inl (cJ, 1, .inr (.inl (fun _ => (0 : Int64)))))])) (hS : va_S (fun q : Nat => s.heap.size ≤ q) s.heap H locs)  {ls : Array Slot} (hl : lv_has ls 9 [(4, .int (nI 0)), (3, .ref u), (2, .ref (g 0)), (1, .ref a), (0, .ref b)]) : W p l e room_1 s m #[Value.ref b] below meth c H locs 29 3099 (lw_Z below #[Value.ref b] s) (F0 m 1419 ls []) := by
  obtain ⟨hx, hb, hr, hml, hown, hts0, hX, hbl, hlocks, hgv⟩ := id C0
  have hown : s.vm.findClass RL = some m.cls := hown
  have hts : ∀ w ∈ wsL_law, w.before #[Value.ref b] s = true := fun w h => hts0 w (wsL_law_in w h)
  have hA : ∀ q : Nat, s.heap.size ≤ q → (fun q : Nat => s.heap.size ≤ q) q := fun _ h => h
  have hbA : ¬ (fun q : Nat => s.heap.size ≤ q) b := Nat.not_le.mpr hbl
  refine lv_aload_n hx hb dL_law_1419 rfl (lv_at hl 3 rfl) ?_
  refine lv_aload_n hx hb dL_law_1420 rfl (lv_at hl 4 rfl) ?_
  refine lv_iload hx hb dL_law_1421 (lv_at hl 0 rfl) ?_
  refine lv_iconst (v := nI 1) hx hb dL_law_1423 (by decide) ?_
  refine lv_iadd hx hb dL_law_1424 ?_
  refine rv_top (show nI 0 + nI 1 = nI 1 from by decide) ?_
  refine va_sld hx hb hX hbl hbA hS (nI_in (by decide) (by decide)) dL_law_1425 ?_
  refine rv_top (show xs (nI 1).toNatClampNeg = xs 1 from rfl) ?_
  refine lv_aload_n hx hb dL_law_1426 rfl (lv_at hl 1 rfl) ?_
  have hPc := hP.sub (ws' := pD cZ cI a o o' q κ0 ωz ωz σ0) [0, 1, 2, 3, 4, 5, 6, 7, 8, 9, 10, 11, 12, 13, 14, 15, 16, 17, 18] rfl
  have hDc := hD.sub (ws' := pD cZ cI a o o' q κ0 ωz ωz σ0) [0, 1, 2, 3, 4, 5, 6, 7, 8, 9, 10, 11, 12, 13, 14, 15, 16, 17, 18] (by decide) rfl
  have hFc := va_free (wc := pD cZ cI a o o' q κ0 ωz ωz σ0) hD hS hA [0, 1, 2, 3, 4, 5, 6, 7, 8, 9, 10, 11, 12, 13, 14, 15, 16, 17, 18] rfl
  refine va_calli (vx_runSW (As := [.ref a, .int (xs 1), .ref u]) (rest := []) ⟨hx, hb, hml, hown, hts⟩ (vx_toMet (w_L_mouseArrives l hl9 D cZ cI a o o' q κ0 ωz ωz σ0 u H.size (xs 1) rfl)) (vx_cwSW 3 hts gL_law_L_mouseArrives rfl rfl rfl (by decide +kernel) ⟨Nat.le_of_ble_eq_true rfl, Nat.le_of_ble_eq_true rfl⟩) ⟨XwP_blind, XwP_start hPc hDc hZ.two hT hE hC⟩ rfl rfl hl.1 rfl (lv_room (Nat.le_of_ble_eq_true rfl)) dL_law_1427 ⟨Nat.le_of_ble_eq_true rfl, Nat.le_of_ble_eq_true rfl⟩) hS (fun q _ h => hFc q h) hFc (fun r9 u9 t H1 locs ht hvm hw hB hz1 hk1 hS => ?_)
  obtain ⟨hP1, hD1⟩ := hB
  rw [ht] at hP1
  obtain ⟨hP, hD⟩ := va_join (wr := pM cZ cI g 0 0 (some 0) (fun _ => false) ++ [(u, .inl (cJ, 1, .inr (.inl (fun _ => (0 : Int64)))))]) (w1 := pD cZ cI a o o' q κ0 ωz ωz σ0) hP hD [0, 1, 2, 3, 4, 5, 6, 7, 8, 9, 10, 11, 12, 13, 14, 15, 16, 17, 18] [19, 20, 21, 22, 23, 24, 25, 26, 27, 28] rfl rfl (by decide) (by decide) hk1 hFc hP1 hD1
  replace hP : va_P D vwCl (pM cZ cI g 0 0 (some 0) (fun _ => false) ++ [(u, .inl (cJ, 1, .inr (.inl (fun _ => (0 : Int64)))))] ++ pD cZ cI a o o' q κ0 ωz ωz σ0) H1 := hP
  replace hD : va_D (fun q : Nat => s.heap.size ≤ q) (pM cZ cI g 0 0 (some 0) (fun _ => false) ++ [(u, .inl (cJ, 1, .inr (.inl (fun _ => (0 : Int64)))))] ++ pD cZ cI a o o' q κ0 ωz ωz σ0) := hD
  generalize H1 = H at hP hS ⊢
  refine W.widen (k := 30) (n := 3105) (Nat.le_of_ble_eq_true rfl) (Nat.le_of_ble_eq_true rfl) ?_
  subst hw
  refine lv_istore (lv' := [(5, .int (nI 1)), (4, .int (nI 0)), (3, .ref u), (2, .ref (g 0)), (1, .ref a), (0, .ref b)]) hx hb dL_law_1430 hl (by decide) rfl (fun ls hl => ?_)
  refine lv_aload_n hx hb dL_law_1432 rfl (lv_at hl 3 rfl) ?_
  refine lv_aload_n hx hb dL_law_1433 rfl (lv_at hl 5 rfl) ?_
  refine lv_iload hx hb dL_law_1434 (lv_at hl 1 rfl) ?_
  refine lv_iconst (v := nI 1) hx hb dL_law_1436 (by decide) ?_
  refine lv_iadd hx hb dL_law_1437 ?_
  refine rv_top (show nI 0 + nI 1 = nI 1 from by decide) ?_
  refine va_sld hx hb hX hbl hbA hS (nI_in (by decide) (by decide)) dL_law_1438 ?_
  refine rv_top (show xs (nI 1).toNatClampNeg = xs 1 from rfl) ?_
  have hPc := hP.sub (ws' := pM cZ cI g 0 0 (some 0) (fun _ => false)) [0, 1, 2, 3, 4, 5, 6, 7, 8] rfl
  have hDc := hD.sub (ws' := pM cZ cI g 0 0 (some 0) (fun _ => false)) [0, 1, 2, 3, 4, 5, 6, 7, 8] (by decide) rfl
  have hFc := va_free (wc := pM cZ cI g 0 0 (some 0) (fun _ => false)) hD hS hA [0, 1, 2, 3, 4, 5, 6, 7, 8] rfl
  refine va_calli (va_runV (As := [.int (xs 1)]) (rest := []) ⟨hx, hb, hml, hown, hts⟩ (c_X3_mouseArrives l D cZ cI g 0 (some 0) H.size (xs 1)) (cwV 1 hts gL_law_X3_mouseArrives rfl rfl rfl (by decide +kernel) ⟨Nat.le_of_ble_eq_true rfl, Nat.le_of_ble_eq_true rfl⟩) ⟨WrP_blind, va_recv hZ.1 hP (ci := 3) (q0 := 0) rfl rfl, WrP_start hPc hDc hZ.two⟩ rfl rfl hl.1 rfl (lv_room (Nat.le_of_ble_eq_true rfl)) dL_law_1439 ⟨Nat.le_of_ble_eq_true rfl, Nat.le_of_ble_eq_true rfl⟩) hS (fun q _ h => hFc q h) hFc (fun r9 u9 t H1 locs ht hvm hw hB hz1 hk1 hS => ?_)
  obtain ⟨hP1, hD1⟩ := hB
  rw [ht] at hP1
  obtain ⟨hP, hD⟩ := va_join (wr := [(u, .inl (cJ, 1, .inr (.inl (fun _ => (0 : Int64)))))] ++ pD cZ cI a o o' q κ0 ωz ωz σ0) (w1 := pM cZ cI g 1 0 (some 0) (fun _ => false)) hP hD [0, 1, 2, 3, 4, 5, 6, 7, 8] [9, 10, 11, 12, 13, 14, 15, 16, 17, 18, 19, 20, 21, 22, 23, 24, 25, 26, 27, 28] rfl rfl (by decide) (by decide) hk1 hFc hP1 hD1
  replace hP : va_P D vwCl ([(u, .inl (cJ, 1, .inr (.inl (fun _ => (0 : Int64)))))] ++ pD cZ cI a o o' q κ0 ωz ωz σ0 ++ pM cZ cI g 1 0 (some 0) (fun _ => false)) H1 := hP
  replace hD : va_D (fun q : Nat => s.heap.size ≤ q) ([(u, .inl (cJ, 1, .inr (.inl (fun _ => (0 : Int64)))))] ++ pD cZ cI a o o' q κ0 ωz ωz σ0 ++ pM cZ cI g 1 0 (some 0) (fun _ => false)) := hD
  generalize H1 = H at hP hS ⊢
  obtain rfl : r9 = (nI 0 : Int32) := hw
  refine lv_istore (lv' := [(6, .int (nI 0)), (5, .int (nI 1)), (4, .int (nI 0)), (3, .ref u), (2, .ref (g 0)), (1, .ref a), (0, .ref b)]) hx hb dL_law_1442 hl (by decide) rfl (fun ls hl => ?_)
  refine lv_aload_n hx hb dL_law_1444 rfl (lv_at hl 4 rfl) ?_
  refine vp_callSi (va_runV (As := []) (rest := []) ⟨hx, hb, hml, hown, hts⟩ (c_X3_thrown l D cZ cI g 1 (some 0)) (cwV 0 hts gL_law_X3_thrown rfl rfl rfl (by decide +kernel) ⟨Nat.le_of_ble_eq_true rfl, Nat.le_of_ble_eq_true rfl⟩) ⟨RdP_blind, va_recv hZ.1 hP (ci := 3) (q0 := 20) rfl rfl, RdP_start (hP.sub (ws' := pM cZ cI g 1 0 (some 0) (fun _ => false)) [20, 21, 22, 23, 24, 25, 26, 27, 28] rfl) hZ.two⟩ rfl rfl hl.1 rfl (lv_room (Nat.le_of_ble_eq_true rfl)) dL_law_1445 ⟨Nat.le_of_ble_eq_true rfl, Nat.le_of_ble_eq_true rfl⟩).run (fun r9 hq1 => ?_)
  obtain rfl : r9 = nI 1 := hq1
  refine lv_iload hx hb dL_law_1448 (lv_at hl 1 rfl) ?_
  refine lv_icmp_eq (tgt := 1455) hx hb dL_law_1450 (by decide) (fun _ => ?_) (fun h => absurd (by first | rfl | decide) h)
  refine lv_iload hx hb dL_law_1455 (lv_at hl 1 rfl) ?_
  refine lv_if_ne (tgt := 1472) hx hb dL_law_1457 (by decide) (fun _ => ?_) (fun h => absurd h (by decide))
  refine lv_goto (tgt := 1676) hx hb dL_law_1472 (by decide) ?_
  exact lk_end l C0 hS (Nat.le_of_ble_eq_true rfl) (Nat.le_of_ble_eq_true rfl) (lv_sub hl [2, 6] rfl)

set_option maxHeartbeats 4000000 in
set_option maxRecDepth 100000 in
theorem lk_28 {p : Program} {e : Env} {s : State} {m : MethodId} {below : List Frame} {meth : Method} {c : Code} (l : Launch) (hl9 : l.stackTraces = false) {b : Nat} {xs : Nat → Int32} (C0 : lw_At p s m meth c b 5 xs) {D : va_G} {cZ cI cJ : ClassId} {a u : Nat} {o o' q g : Nat → Nat} {H : Heap} {locs : List Loc} (hZ : zKJ D cZ cI cJ s) (hT : exT s) (hE : exS s H) (hC : xcT s) (hP : va_P D vwCl (pD cZ cI a o o' q κ0 ωz ωz σ0 ++ pM cZ cI g 0 0 (some 0) (fun _ => false) ++ [(u, .inl (cJ, 1, .inr (.inl (fun _ => (0 : Int64)))))]) H) (hD : va_D (fun q : Nat => s.heap.size ≤ q) (pD cZ cI a o o' q κ0 ωz ωz σ0 ++ pM cZ cI g 0 0 (some 0) (fun _ => false) ++ [(u, .inl (cJ, 1, .inr (.inl (fun _ => (0 : Int64)))))])) (hS : va_S (fun q : Nat => s.heap.size ≤ q) s.heap H locs)  {ls : Array Slot} (hl : lv_has ls 9 [(4, .int (nI 0)), (3, .ref u), (2, .ref (g 0)), (1, .ref a), (0, .ref b)]) : W p l e room_1 s m #[Value.ref b] below meth c H locs 29 3099 (lw_Z below #[Value.ref b] s) (F0 m 1488 ls []) := by
  obtain ⟨hx, hb, hr, hml, hown, hts0, hX, hbl, hlocks, hgv⟩ := id C0
  have hown : s.vm.findClass RL = some m.cls := hown
  have hts : ∀ w ∈ wsL_law, w.before #[Value.ref b] s = true := fun w h => hts0 w (wsL_law_in w h)
  have hA : ∀ q : Nat, s.heap.size ≤ q → (fun q : Nat => s.heap.size ≤ q) q := fun _ h => h
  have hbA : ¬ (fun q : Nat => s.heap.size ≤ q) b := Nat.not_le.mpr hbl
  refine lv_aload_n hx hb dL_law_1488 rfl (lv_at hl 3 rfl) ?_
  refine lv_aload_n hx hb dL_law_1489 rfl (lv_at hl 4 rfl) ?_
  refine lv_iload hx hb dL_law_1490 (lv_at hl 0 rfl) ?_
  refine lv_iconst (v := nI 1) hx hb dL_law_1492 (by decide) ?_
  refine lv_iadd hx hb dL_law_1493 ?_
  refine rv_top (show nI 0 + nI 1 = nI 1 from by decide) ?_
  refine va_sld hx hb hX hbl hbA hS (nI_in (by decide) (by decide)) dL_law_1494 ?_
  refine rv_top (show xs (nI 1).toNatClampNeg = xs 1 from rfl) ?_
  refine lv_aload_n hx hb dL_law_1495 rfl (lv_at hl 4 rfl) ?_
  refine lv_iload hx hb dL_law_1496 (lv_at hl 0 rfl) ?_
  refine lv_iconst (v := nI 2) hx hb dL_law_1498 (by decide) ?_
  refine lv_iadd hx hb dL_law_1499 ?_
  refine rv_top (show nI 0 + nI 2 = nI 2 from by decide) ?_
  refine va_sld hx hb hX hbl hbA hS (nI_in (by decide) (by decide)) dL_law_1500 ?_
  refine rv_top (show xs (nI 2).toNatClampNeg = xs 2 from rfl) ?_
  refine lv_aload_n hx hb dL_law_1501 rfl (lv_at hl 1 rfl) ?_
  have hPc := hP.sub (ws' := pD cZ cI a o o' q κ0 ωz ωz σ0) [0, 1, 2, 3, 4, 5, 6, 7, 8, 9, 10, 11, 12, 13, 14, 15, 16, 17, 18] rfl
  have hDc := hD.sub (ws' := pD cZ cI a o o' q κ0 ωz ωz σ0) [0, 1, 2, 3, 4, 5, 6, 7, 8, 9, 10, 11, 12, 13, 14, 15, 16, 17, 18] (by decide) rfl
  have hFc := va_free (wc := pD cZ cI a o o' q κ0 ωz ωz σ0) hD hS hA [0, 1, 2, 3, 4, 5, 6, 7, 8, 9, 10, 11, 12, 13, 14, 15, 16, 17, 18] rfl
  refine va_calli (vx_runSW (As := [.ref a, .int (xs 1), .int (xs 2), .ref u]) (rest := []) ⟨hx, hb, hml, hown, hts⟩ (vx_toMet (w_L_turnsFrom l hl9 D cZ cI a o o' q κ0 ωz ωz σ0 u H.size (xs 1) (xs 2) rfl)) (vx_cwSW 4 hts gL_law_L_turnsFrom rfl rfl rfl (by decide +kernel) ⟨Nat.le_of_ble_eq_true rfl, Nat.le_of_ble_eq_true rfl⟩) ⟨XwP_blind, XwP_start hPc hDc hZ.two hT hE hC⟩ rfl rfl hl.1 rfl (lv_room (Nat.le_of_ble_eq_true rfl)) dL_law_1502 ⟨Nat.le_of_ble_eq_true rfl, Nat.le_of_ble_eq_true rfl⟩) hS (fun q _ h => hFc q h) hFc (fun r9 u9 t H1 locs ht hvm hw hB hz1 hk1 hS => ?_)
  obtain ⟨hP1, hD1⟩ := hB
  rw [ht] at hP1
  obtain ⟨hP, hD⟩ := va_join (wr := pM cZ cI g 0 0 (some 0) (fun _ => false) ++ [(u, .inl (cJ, 1, .inr (.inl (fun _ => (0 : Int64)))))]) (w1 := pD cZ cI a o o' q κ0 ωz ωz σ0) hP hD [0, 1, 2, 3, 4, 5, 6, 7, 8, 9, 10, 11, 12, 13, 14, 15, 16, 17, 18] [19, 20, 21, 22, 23, 24, 25, 26, 27, 28] rfl rfl (by decide) (by decide) hk1 hFc hP1 hD1
  replace hP : va_P D vwCl (pM cZ cI g 0 0 (some 0) (fun _ => false) ++ [(u, .inl (cJ, 1, .inr (.inl (fun _ => (0 : Int64)))))] ++ pD cZ cI a o o' q κ0 ωz ωz σ0) H1 := hP
  replace hD : va_D (fun q : Nat => s.heap.size ≤ q) (pM cZ cI g 0 0 (some 0) (fun _ => false) ++ [(u, .inl (cJ, 1, .inr (.inl (fun _ => (0 : Int64)))))] ++ pD cZ cI a o o' q κ0 ωz ωz σ0) := hD
  generalize H1 = H at hP hS ⊢
  refine W.widen (k := 30) (n := 3105) (Nat.le_of_ble_eq_true rfl) (Nat.le_of_ble_eq_true rfl) ?_
  subst hw
  refine lv_istore (lv' := [(5, .int (nI 1)), (4, .int (nI 0)), (3, .ref u), (2, .ref (g 0)), (1, .ref a), (0, .ref b)]) hx hb dL_law_1505 hl (by decide) rfl (fun ls hl => ?_)
  refine lv_aload_n hx hb dL_law_1507 rfl (lv_at hl 3 rfl) ?_
  refine lv_aload_n hx hb dL_law_1508 rfl (lv_at hl 5 rfl) ?_
  refine lv_iload hx hb dL_law_1509 (lv_at hl 1 rfl) ?_
  refine lv_iconst (v := nI 1) hx hb dL_law_1511 (by decide) ?_
  refine lv_iadd hx hb dL_law_1512 ?_
  refine rv_top (show nI 0 + nI 1 = nI 1 from by decide) ?_
  refine va_sld hx hb hX hbl hbA hS (nI_in (by decide) (by decide)) dL_law_1513 ?_
  refine rv_top (show xs (nI 1).toNatClampNeg = xs 1 from rfl) ?_
  refine lv_aload_n hx hb dL_law_1514 rfl (lv_at hl 5 rfl) ?_
  refine lv_iload hx hb dL_law_1515 (lv_at hl 1 rfl) ?_
  refine lv_iconst (v := nI 2) hx hb dL_law_1517 (by decide) ?_
  refine lv_iadd hx hb dL_law_1518 ?_
  refine rv_top (show nI 0 + nI 2 = nI 2 from by decide) ?_
  refine va_sld hx hb hX hbl hbA hS (nI_in (by decide) (by decide)) dL_law_1519 ?_
  refine rv_top (show xs (nI 2).toNatClampNeg = xs 2 from rfl) ?_
  have hPc := hP.sub (ws' := pM cZ cI g 0 0 (some 0) (fun _ => false)) [0, 1, 2, 3, 4, 5, 6, 7, 8] rfl
  have hDc := hD.sub (ws' := pM cZ cI g 0 0 (some 0) (fun _ => false)) [0, 1, 2, 3, 4, 5, 6, 7, 8] (by decide) rfl
  have hFc := va_free (wc := pM cZ cI g 0 0 (some 0) (fun _ => false)) hD hS hA [0, 1, 2, 3, 4, 5, 6, 7, 8] rfl
  refine va_calli (va_runV (As := [.int (xs 1), .int (xs 2)]) (rest := []) ⟨hx, hb, hml, hown, hts⟩ (c_X3_turnsFrom l D cZ cI g 0 (some 0) H.size (xs 1) (xs 2)) (cwV 2 hts gL_law_X3_turnsFrom rfl rfl rfl (by decide +kernel) ⟨Nat.le_of_ble_eq_true rfl, Nat.le_of_ble_eq_true rfl⟩) ⟨WrP_blind, va_recv hZ.1 hP (ci := 3) (q0 := 0) rfl rfl, WrP_start hPc hDc hZ.two⟩ rfl rfl hl.1 rfl (lv_room (Nat.le_of_ble_eq_true rfl)) dL_law_1520 ⟨Nat.le_of_ble_eq_true rfl, Nat.le_of_ble_eq_true rfl⟩) hS (fun q _ h => hFc q h) hFc (fun r9 u9 t H1 locs ht hvm hw hB hz1 hk1 hS => ?_)
  obtain ⟨hP1, hD1⟩ := hB
  rw [ht] at hP1
  obtain ⟨hP, hD⟩ := va_join (wr := [(u, .inl (cJ, 1, .inr (.inl (fun _ => (0 : Int64)))))] ++ pD cZ cI a o o' q κ0 ωz ωz σ0) (w1 := pM cZ cI g 1 0 (some 0) (fun _ => false)) hP hD [0, 1, 2, 3, 4, 5, 6, 7, 8] [9, 10, 11, 12, 13, 14, 15, 16, 17, 18, 19, 20, 21, 22, 23, 24, 25, 26, 27, 28] rfl rfl (by decide) (by decide) hk1 hFc hP1 hD1
  replace hP : va_P D vwCl ([(u, .inl (cJ, 1, .inr (.inl (fun _ => (0 : Int64)))))] ++ pD cZ cI a o o' q κ0 ωz ωz σ0 ++ pM cZ cI g 1 0 (some 0) (fun _ => false)) H1 := hP
  replace hD : va_D (fun q : Nat => s.heap.size ≤ q) ([(u, .inl (cJ, 1, .inr (.inl (fun _ => (0 : Int64)))))] ++ pD cZ cI a o o' q κ0 ωz ωz σ0 ++ pM cZ cI g 1 0 (some 0) (fun _ => false)) := hD
  generalize H1 = H at hP hS ⊢
  obtain rfl : r9 = (nI 0 : Int32) := hw
  refine lv_istore (lv' := [(6, .int (nI 0)), (5, .int (nI 1)), (4, .int (nI 0)), (3, .ref u), (2, .ref (g 0)), (1, .ref a), (0, .ref b)]) hx hb dL_law_1523 hl (by decide) rfl (fun ls hl => ?_)
  refine lv_aload_n hx hb dL_law_1525 rfl (lv_at hl 4 rfl) ?_
  refine vp_callSi (va_runV (As := []) (rest := []) ⟨hx, hb, hml, hown, hts⟩ (c_X3_thrown l D cZ cI g 1 (some 0)) (cwV 0 hts gL_law_X3_thrown rfl rfl rfl (by decide +kernel) ⟨Nat.le_of_ble_eq_true rfl, Nat.le_of_ble_eq_true rfl⟩) ⟨RdP_blind, va_recv hZ.1 hP (ci := 3) (q0 := 20) rfl rfl, RdP_start (hP.sub (ws' := pM cZ cI g 1 0 (some 0) (fun _ => false)) [20, 21, 22, 23, 24, 25, 26, 27, 28] rfl) hZ.two⟩ rfl rfl hl.1 rfl (lv_room (Nat.le_of_ble_eq_true rfl)) dL_law_1526 ⟨Nat.le_of_ble_eq_true rfl, Nat.le_of_ble_eq_true rfl⟩).run (fun r9 hq1 => ?_)
  obtain rfl : r9 = nI 1 := hq1
  refine lv_iload hx hb dL_law_1529 (lv_at hl 1 rfl) ?_
  refine lv_icmp_eq (tgt := 1536) hx hb dL_law_1531 (by decide) (fun _ => ?_) (fun h => absurd (by first | rfl | decide) h)
  refine lv_iload hx hb dL_law_1536 (lv_at hl 1 rfl) ?_
  refine lv_if_ne (tgt := 1553) hx hb dL_law_1538 (by decide) (fun _ => ?_) (fun h => absurd h (by decide))
  refine lv_goto (tgt := 1676) hx hb dL_law_1553 (by decide) ?_
  exact lk_end l C0 hS (Nat.le_of_ble_eq_true rfl) (Nat.le_of_ble_eq_true rfl) (lv_sub hl [2, 6] rfl)

