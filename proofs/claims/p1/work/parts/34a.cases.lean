set_option maxHeartbeats 4000000 in
set_option maxRecDepth 100000 in
theorem lk_1 {p : Program} {e : Env} {s : State} {m : MethodId} {below : List Frame} {meth : Method} {c : Code} (l : Launch) (hl9 : l.stackTraces = false) {b : Nat} {xs : Nat → Int32} (C0 : lw_At p s m meth c b 5 xs) {D : va_G} {cZ cI cJ : ClassId} {a u : Nat} {o o' q g : Nat → Nat} {H : Heap} {locs : List Loc} (hZ : zKJ D cZ cI cJ s) (hT : exT s) (hE : exS s H) (hC : xcT s) (hP : va_P D vwCl (pD cZ cI a o o' q κ0 ωz ωz σ0 ++ pM cZ cI g 0 0 (some 0) (fun _ => false) ++ [(u, .inl (cJ, 1, .inr (.inl (fun _ => (0 : Int64)))))]) H) (hD : va_D (fun q : Nat => s.heap.size ≤ q) (pD cZ cI a o o' q κ0 ωz ωz σ0 ++ pM cZ cI g 0 0 (some 0) (fun _ => false) ++ [(u, .inl (cJ, 1, .inr (.inl (fun _ => (0 : Int64)))))])) (hS : va_S (fun q : Nat => s.heap.size ≤ q) s.heap H locs)  {ls : Array Slot} (hl : lv_has ls 9 [(4, .int (nI 0)), (3, .ref u), (2, .ref (g 0)), (1, .ref a), (0, .ref b)]) : W p l e room_1 s m #[Value.ref b] below meth c H locs 29 3099 (lw_Z below #[Value.ref b] s) (F0 m 268 ls []) := by
  obtain ⟨hx, hb, hr, hml, hown, hts0, hX, hbl, hlocks, hgv⟩ := id C0
  have hown : s.vm.findClass RL = some m.cls := hown
  have hts : ∀ w ∈ wsL_law, w.before #[Value.ref b] s = true := fun w h => hts0 w (wsL_law_in w h)
  have hA : ∀ q : Nat, s.heap.size ≤ q → (fun q : Nat => s.heap.size ≤ q) q := fun _ h => h
  have hbA : ¬ (fun q : Nat => s.heap.size ≤ q) b := Nat.not_le.mpr hbl
  refine lv_aload_n hx hb dL_law_268 rfl (lv_at hl 3 rfl) ?_
  refine lv_aload_n hx hb dL_law_269 rfl (lv_at hl 4 rfl) ?_
  refine lv_iload hx hb dL_law_270 (lv_at hl 0 rfl) ?_
  refine lv_iconst (v := nI 1) hx hb dL_law_272 (by decide) ?_
  refine lv_iadd hx hb dL_law_273 ?_
  refine rv_top (show nI 0 + nI 1 = nI 1 from by decide) ?_
  refine va_sld hx hb hX hbl hbA hS (nI_in (by decide) (by decide)) dL_law_274 ?_
  refine rv_top (show xs (nI 1).toNatClampNeg = xs 1 from rfl) ?_
  refine lv_aload_n hx hb dL_law_275 rfl (lv_at hl 4 rfl) ?_
  refine lv_iload hx hb dL_law_276 (lv_at hl 0 rfl) ?_
  refine lv_iconst (v := nI 2) hx hb dL_law_278 (by decide) ?_
  refine lv_iadd hx hb dL_law_279 ?_
  refine rv_top (show nI 0 + nI 2 = nI 2 from by decide) ?_
  refine va_sld hx hb hX hbl hbA hS (nI_in (by decide) (by decide)) dL_law_280 ?_
  refine rv_top (show xs (nI 2).toNatClampNeg = xs 2 from rfl) ?_
  refine lv_aload_n hx hb dL_law_281 rfl (lv_at hl 4 rfl) ?_
  refine lv_iload hx hb dL_law_282 (lv_at hl 0 rfl) ?_
  refine lv_iconst (v := nI 3) hx hb dL_law_284 (by decide) ?_
  refine lv_iadd hx hb dL_law_285 ?_
  refine rv_top (show nI 0 + nI 3 = nI 3 from by decide) ?_
  refine va_sld hx hb hX hbl hbA hS (nI_in (by decide) (by decide)) dL_law_286 ?_
  refine rv_top (show xs (nI 3).toNatClampNeg = xs 3 from rfl) ?_
  refine lv_aload_n hx hb dL_law_287 rfl (lv_at hl 4 rfl) ?_
  refine lv_iload hx hb dL_law_288 (lv_at hl 0 rfl) ?_
  refine lv_iconst (v := nI 4) hx hb dL_law_290 (by decide) ?_
  refine lv_iadd hx hb dL_law_291 ?_
  refine rv_top (show nI 0 + nI 4 = nI 4 from by decide) ?_
  refine va_sld hx hb hX hbl hbA hS (nI_in (by decide) (by decide)) dL_law_292 ?_
  refine rv_top (show xs (nI 4).toNatClampNeg = xs 4 from rfl) ?_
  refine lv_aload_n hx hb dL_law_293 rfl (lv_at hl 1 rfl) ?_
  have hPc := hP.sub (ws' := pD cZ cI a o o' q κ0 ωz ωz σ0) [0, 1, 2, 3, 4, 5, 6, 7, 8, 9, 10, 11, 12, 13, 14, 15, 16, 17, 18] rfl
  have hDc := hD.sub (ws' := pD cZ cI a o o' q κ0 ωz ωz σ0) [0, 1, 2, 3, 4, 5, 6, 7, 8, 9, 10, 11, 12, 13, 14, 15, 16, 17, 18] (by decide) rfl
  have hFc := va_free (wc := pD cZ cI a o o' q κ0 ωz ωz σ0) hD hS hA [0, 1, 2, 3, 4, 5, 6, 7, 8, 9, 10, 11, 12, 13, 14, 15, 16, 17, 18] rfl
  refine va_calli (vx_runSW (As := [.ref a, .int (xs 1), .int (xs 2), .int (xs 3), .int (xs 4), .ref u]) (rest := []) ⟨hx, hb, hml, hown, hts⟩ (vx_toMet (w_L_addDoor l hl9 D cZ cI a o o' q κ0 ωz ωz σ0 u H.size (xs 1) (xs 2) (xs 3) (xs 4) rfl)) (vx_cwSW 6 hts gL_law_L_addDoor rfl rfl rfl (by decide +kernel) ⟨Nat.le_of_ble_eq_true rfl, Nat.le_of_ble_eq_true rfl⟩) ⟨XwP_blind, XwP_start hPc hDc hZ.two hT hE hC⟩ rfl rfl hl.1 rfl (lv_room (Nat.le_of_ble_eq_true rfl)) dL_law_294 ⟨Nat.le_of_ble_eq_true rfl, Nat.le_of_ble_eq_true rfl⟩) hS (fun q _ h => hFc q h) hFc (fun r9 u9 t H1 locs ht hvm hw hB hz1 hk1 hS => ?_)
  obtain ⟨hP1, hD1⟩ := hB
  rw [ht] at hP1
  obtain ⟨hP, hD⟩ := va_join (wr := pM cZ cI g 0 0 (some 0) (fun _ => false) ++ [(u, .inl (cJ, 1, .inr (.inl (fun _ => (0 : Int64)))))]) (w1 := pD cZ cI a o o' q κ0 ωz ωz σ0) hP hD [0, 1, 2, 3, 4, 5, 6, 7, 8, 9, 10, 11, 12, 13, 14, 15, 16, 17, 18] [19, 20, 21, 22, 23, 24, 25, 26, 27, 28] rfl rfl (by decide) (by decide) hk1 hFc hP1 hD1
  replace hP : va_P D vwCl (pM cZ cI g 0 0 (some 0) (fun _ => false) ++ [(u, .inl (cJ, 1, .inr (.inl (fun _ => (0 : Int64)))))] ++ pD cZ cI a o o' q κ0 ωz ωz σ0) H1 := hP
  replace hD : va_D (fun q : Nat => s.heap.size ≤ q) (pM cZ cI g 0 0 (some 0) (fun _ => false) ++ [(u, .inl (cJ, 1, .inr (.inl (fun _ => (0 : Int64)))))] ++ pD cZ cI a o o' q κ0 ωz ωz σ0) := hD
  generalize H1 = H at hP hS ⊢
  refine W.widen (k := 30) (n := 3105) (Nat.le_of_ble_eq_true rfl) (Nat.le_of_ble_eq_true rfl) ?_
  subst hw
  refine lv_istore (lv' := [(5, .int (nI 1)), (4, .int (nI 0)), (3, .ref u), (2, .ref (g 0)), (1, .ref a), (0, .ref b)]) hx hb dL_law_297 hl (by decide) rfl (fun ls hl => ?_)
  refine lv_aload_n hx hb dL_law_299 rfl (lv_at hl 3 rfl) ?_
  refine lv_aload_n hx hb dL_law_300 rfl (lv_at hl 5 rfl) ?_
  refine lv_iload hx hb dL_law_301 (lv_at hl 1 rfl) ?_
  refine lv_iconst (v := nI 1) hx hb dL_law_303 (by decide) ?_
  refine lv_iadd hx hb dL_law_304 ?_
  refine rv_top (show nI 0 + nI 1 = nI 1 from by decide) ?_
  refine va_sld hx hb hX hbl hbA hS (nI_in (by decide) (by decide)) dL_law_305 ?_
  refine rv_top (show xs (nI 1).toNatClampNeg = xs 1 from rfl) ?_
  refine lv_aload_n hx hb dL_law_306 rfl (lv_at hl 5 rfl) ?_
  refine lv_iload hx hb dL_law_307 (lv_at hl 1 rfl) ?_
  refine lv_iconst (v := nI 2) hx hb dL_law_309 (by decide) ?_
  refine lv_iadd hx hb dL_law_310 ?_
  refine rv_top (show nI 0 + nI 2 = nI 2 from by decide) ?_
  refine va_sld hx hb hX hbl hbA hS (nI_in (by decide) (by decide)) dL_law_311 ?_
  refine rv_top (show xs (nI 2).toNatClampNeg = xs 2 from rfl) ?_
  refine lv_aload_n hx hb dL_law_312 rfl (lv_at hl 5 rfl) ?_
  refine lv_iload hx hb dL_law_313 (lv_at hl 1 rfl) ?_
  refine lv_iconst (v := nI 3) hx hb dL_law_315 (by decide) ?_
  refine lv_iadd hx hb dL_law_316 ?_
  refine rv_top (show nI 0 + nI 3 = nI 3 from by decide) ?_
  refine va_sld hx hb hX hbl hbA hS (nI_in (by decide) (by decide)) dL_law_317 ?_
  refine rv_top (show xs (nI 3).toNatClampNeg = xs 3 from rfl) ?_
  refine lv_aload_n hx hb dL_law_318 rfl (lv_at hl 5 rfl) ?_
  refine lv_iload hx hb dL_law_319 (lv_at hl 1 rfl) ?_
  refine lv_iconst (v := nI 4) hx hb dL_law_321 (by decide) ?_
  refine lv_iadd hx hb dL_law_322 ?_
  refine rv_top (show nI 0 + nI 4 = nI 4 from by decide) ?_
  refine va_sld hx hb hX hbl hbA hS (nI_in (by decide) (by decide)) dL_law_323 ?_
  refine rv_top (show xs (nI 4).toNatClampNeg = xs 4 from rfl) ?_
  have hPc := hP.sub (ws' := pM cZ cI g 0 0 (some 0) (fun _ => false)) [0, 1, 2, 3, 4, 5, 6, 7, 8] rfl
  have hDc := hD.sub (ws' := pM cZ cI g 0 0 (some 0) (fun _ => false)) [0, 1, 2, 3, 4, 5, 6, 7, 8] (by decide) rfl
  have hFc := va_free (wc := pM cZ cI g 0 0 (some 0) (fun _ => false)) hD hS hA [0, 1, 2, 3, 4, 5, 6, 7, 8] rfl
  refine va_calli (va_runV (As := [.int (xs 1), .int (xs 2), .int (xs 3), .int (xs 4)]) (rest := []) ⟨hx, hb, hml, hown, hts⟩ (c_X3_addDoor l D cZ cI g 0 (some 0) H.size (xs 1) (xs 2) (xs 3) (xs 4)) (cwV 4 hts gL_law_X3_addDoor rfl rfl rfl (by decide +kernel) ⟨Nat.le_of_ble_eq_true rfl, Nat.le_of_ble_eq_true rfl⟩) ⟨WrP_blind, va_recv hZ.1 hP (ci := 3) (q0 := 0) rfl rfl, WrP_start hPc hDc hZ.two⟩ rfl rfl hl.1 rfl (lv_room (Nat.le_of_ble_eq_true rfl)) dL_law_324 ⟨Nat.le_of_ble_eq_true rfl, Nat.le_of_ble_eq_true rfl⟩) hS (fun q _ h => hFc q h) hFc (fun r9 u9 t H1 locs ht hvm hw hB hz1 hk1 hS => ?_)
  obtain ⟨hP1, hD1⟩ := hB
  rw [ht] at hP1
  obtain ⟨hP, hD⟩ := va_join (wr := [(u, .inl (cJ, 1, .inr (.inl (fun _ => (0 : Int64)))))] ++ pD cZ cI a o o' q κ0 ωz ωz σ0) (w1 := pM cZ cI g 1 0 (some 0) (fun _ => false)) hP hD [0, 1, 2, 3, 4, 5, 6, 7, 8] [9, 10, 11, 12, 13, 14, 15, 16, 17, 18, 19, 20, 21, 22, 23, 24, 25, 26, 27, 28] rfl rfl (by decide) (by decide) hk1 hFc hP1 hD1
  replace hP : va_P D vwCl ([(u, .inl (cJ, 1, .inr (.inl (fun _ => (0 : Int64)))))] ++ pD cZ cI a o o' q κ0 ωz ωz σ0 ++ pM cZ cI g 1 0 (some 0) (fun _ => false)) H1 := hP
  replace hD : va_D (fun q : Nat => s.heap.size ≤ q) ([(u, .inl (cJ, 1, .inr (.inl (fun _ => (0 : Int64)))))] ++ pD cZ cI a o o' q κ0 ωz ωz σ0 ++ pM cZ cI g 1 0 (some 0) (fun _ => false)) := hD
  generalize H1 = H at hP hS ⊢
  obtain rfl : r9 = (nI 0 : Int32) := hw
  refine lv_istore (lv' := [(6, .int (nI 0)), (5, .int (nI 1)), (4, .int (nI 0)), (3, .ref u), (2, .ref (g 0)), (1, .ref a), (0, .ref b)]) hx hb dL_law_327 hl (by decide) rfl (fun ls hl => ?_)
  refine lv_aload_n hx hb dL_law_329 rfl (lv_at hl 4 rfl) ?_
  refine vp_callSi (va_runV (As := []) (rest := []) ⟨hx, hb, hml, hown, hts⟩ (c_X3_thrown l D cZ cI g 1 (some 0)) (cwV 0 hts gL_law_X3_thrown rfl rfl rfl (by decide +kernel) ⟨Nat.le_of_ble_eq_true rfl, Nat.le_of_ble_eq_true rfl⟩) ⟨RdP_blind, va_recv hZ.1 hP (ci := 3) (q0 := 20) rfl rfl, RdP_start (hP.sub (ws' := pM cZ cI g 1 0 (some 0) (fun _ => false)) [20, 21, 22, 23, 24, 25, 26, 27, 28] rfl) hZ.two⟩ rfl rfl hl.1 rfl (lv_room (Nat.le_of_ble_eq_true rfl)) dL_law_330 ⟨Nat.le_of_ble_eq_true rfl, Nat.le_of_ble_eq_true rfl⟩).run (fun r9 hq1 => ?_)
  obtain rfl : r9 = nI 1 := hq1
  refine lv_iload hx hb dL_law_333 (lv_at hl 1 rfl) ?_
  refine lv_icmp_eq (tgt := 340) hx hb dL_law_335 (by decide) (fun _ => ?_) (fun h => absurd (by first | rfl | decide) h)
  refine lv_iload hx hb dL_law_340 (lv_at hl 1 rfl) ?_
  refine lv_if_ne (tgt := 357) hx hb dL_law_342 (by decide) (fun _ => ?_) (fun h => absurd h (by decide))
  refine lv_goto (tgt := 1676) hx hb dL_law_357 (by decide) ?_
  exact lk_end l C0 hS (Nat.le_of_ble_eq_true rfl) (Nat.le_of_ble_eq_true rfl) (lv_sub hl [2, 6] rfl)

set_option maxHeartbeats 4000000 in
set_option maxRecDepth 100000 in
theorem lk_2 {p : Program} {e : Env} {s : State} {m : MethodId} {below : List Frame} {meth : Method} {c : Code} (l : Launch) (hl9 : l.stackTraces = false) {b : Nat} {xs : Nat → Int32} (C0 : lw_At p s m meth c b 5 xs) {D : va_G} {cZ cI cJ : ClassId} {a u : Nat} {o o' q g : Nat → Nat} {H : Heap} {locs : List Loc} (hZ : zKJ D cZ cI cJ s) (hT : exT s) (hE : exS s H) (hC : xcT s) (hP : va_P D vwCl (pD cZ cI a o o' q κ0 ωz ωz σ0 ++ pM cZ cI g 0 0 (some 0) (fun _ => false) ++ [(u, .inl (cJ, 1, .inr (.inl (fun _ => (0 : Int64)))))]) H) (hD : va_D (fun q : Nat => s.heap.size ≤ q) (pD cZ cI a o o' q κ0 ωz ωz σ0 ++ pM cZ cI g 0 0 (some 0) (fun _ => false) ++ [(u, .inl (cJ, 1, .inr (.inl (fun _ => (0 : Int64)))))])) (hS : va_S (fun q : Nat => s.heap.size ≤ q) s.heap H locs)  {ls : Array Slot} (hl : lv_has ls 9 [(4, .int (nI 0)), (3, .ref u), (2, .ref (g 0)), (1, .ref a), (0, .ref b)]) : W p l e room_1 s m #[Value.ref b] below meth c H locs 29 3099 (lw_Z below #[Value.ref b] s) (F0 m 360 ls []) := by
  obtain ⟨hx, hb, hr, hml, hown, hts0, hX, hbl, hlocks, hgv⟩ := id C0
  have hown : s.vm.findClass RL = some m.cls := hown
  have hts : ∀ w ∈ wsL_law, w.before #[Value.ref b] s = true := fun w h => hts0 w (wsL_law_in w h)
  have hA : ∀ q : Nat, s.heap.size ≤ q → (fun q : Nat => s.heap.size ≤ q) q := fun _ h => h
  have hbA : ¬ (fun q : Nat => s.heap.size ≤ q) b := Nat.not_le.mpr hbl
  refine lv_aload_n hx hb dL_law_360 rfl (lv_at hl 3 rfl) ?_
  refine lv_aload_n hx hb dL_law_361 rfl (lv_at hl 4 rfl) ?_
  refine lv_iload hx hb dL_law_362 (lv_at hl 0 rfl) ?_
  refine lv_iconst (v := nI 1) hx hb dL_law_364 (by decide) ?_
  refine lv_iadd hx hb dL_law_365 ?_
  refine rv_top (show nI 0 + nI 1 = nI 1 from by decide) ?_
  refine va_sld hx hb hX hbl hbA hS (nI_in (by decide) (by decide)) dL_law_366 ?_
  refine rv_top (show xs (nI 1).toNatClampNeg = xs 1 from rfl) ?_
  refine lv_aload_n hx hb dL_law_367 rfl (lv_at hl 1 rfl) ?_
  have hPc := hP.sub (ws' := pD cZ cI a o o' q κ0 ωz ωz σ0) [0, 1, 2, 3, 4, 5, 6, 7, 8, 9, 10, 11, 12, 13, 14, 15, 16, 17, 18] rfl
  have hDc := hD.sub (ws' := pD cZ cI a o o' q κ0 ωz ωz σ0) [0, 1, 2, 3, 4, 5, 6, 7, 8, 9, 10, 11, 12, 13, 14, 15, 16, 17, 18] (by decide) rfl
  have hFc := va_free (wc := pD cZ cI a o o' q κ0 ωz ωz σ0) hD hS hA [0, 1, 2, 3, 4, 5, 6, 7, 8, 9, 10, 11, 12, 13, 14, 15, 16, 17, 18] rfl
  refine va_calli (vx_runSW (As := [.ref a, .int (xs 1), .ref u]) (rest := []) ⟨hx, hb, hml, hown, hts⟩ (vx_toMet (w_L_turnLock l hl9 D cZ cI a o o' q κ0 ωz ωz σ0 u H.size (xs 1) rfl)) (vx_cwSW 3 hts gL_law_L_turnLock rfl rfl rfl (by decide +kernel) ⟨Nat.le_of_ble_eq_true rfl, Nat.le_of_ble_eq_true rfl⟩) ⟨XwP_blind, XwP_start hPc hDc hZ.two hT hE hC⟩ rfl rfl hl.1 rfl (lv_room (Nat.le_of_ble_eq_true rfl)) dL_law_368 ⟨Nat.le_of_ble_eq_true rfl, Nat.le_of_ble_eq_true rfl⟩) hS (fun q _ h => hFc q h) hFc (fun r9 u9 t H1 locs ht hvm hw hB hz1 hk1 hS => ?_)
  obtain ⟨hP1, hD1⟩ := hB
  rw [ht] at hP1
  obtain ⟨hP, hD⟩ := va_join (wr := pM cZ cI g 0 0 (some 0) (fun _ => false) ++ [(u, .inl (cJ, 1, .inr (.inl (fun _ => (0 : Int64)))))]) (w1 := pD cZ cI a o o' q κ0 ωz ωz σ0) hP hD [0, 1, 2, 3, 4, 5, 6, 7, 8, 9, 10, 11, 12, 13, 14, 15, 16, 17, 18] [19, 20, 21, 22, 23, 24, 25, 26, 27, 28] rfl rfl (by decide) (by decide) hk1 hFc hP1 hD1
  replace hP : va_P D vwCl (pM cZ cI g 0 0 (some 0) (fun _ => false) ++ [(u, .inl (cJ, 1, .inr (.inl (fun _ => (0 : Int64)))))] ++ pD cZ cI a o o' q κ0 ωz ωz σ0) H1 := hP
  replace hD : va_D (fun q : Nat => s.heap.size ≤ q) (pM cZ cI g 0 0 (some 0) (fun _ => false) ++ [(u, .inl (cJ, 1, .inr (.inl (fun _ => (0 : Int64)))))] ++ pD cZ cI a o o' q κ0 ωz ωz σ0) := hD
  generalize H1 = H at hP hS ⊢
  refine W.widen (k := 30) (n := 3105) (Nat.le_of_ble_eq_true rfl) (Nat.le_of_ble_eq_true rfl) ?_
  subst hw
  refine lv_istore (lv' := [(5, .int (nI 1)), (4, .int (nI 0)), (3, .ref u), (2, .ref (g 0)), (1, .ref a), (0, .ref b)]) hx hb dL_law_371 hl (by decide) rfl (fun ls hl => ?_)
  refine lv_aload_n hx hb dL_law_373 rfl (lv_at hl 3 rfl) ?_
  refine lv_aload_n hx hb dL_law_374 rfl (lv_at hl 5 rfl) ?_
  refine lv_iload hx hb dL_law_375 (lv_at hl 1 rfl) ?_
  refine lv_iconst (v := nI 1) hx hb dL_law_377 (by decide) ?_
  refine lv_iadd hx hb dL_law_378 ?_
  refine rv_top (show nI 0 + nI 1 = nI 1 from by decide) ?_
  refine va_sld hx hb hX hbl hbA hS (nI_in (by decide) (by decide)) dL_law_379 ?_
  refine rv_top (show xs (nI 1).toNatClampNeg = xs 1 from rfl) ?_
  have hPc := hP.sub (ws' := pM cZ cI g 0 0 (some 0) (fun _ => false)) [0, 1, 2, 3, 4, 5, 6, 7, 8] rfl
  have hDc := hD.sub (ws' := pM cZ cI g 0 0 (some 0) (fun _ => false)) [0, 1, 2, 3, 4, 5, 6, 7, 8] (by decide) rfl
  have hFc := va_free (wc := pM cZ cI g 0 0 (some 0) (fun _ => false)) hD hS hA [0, 1, 2, 3, 4, 5, 6, 7, 8] rfl
  refine va_calli (va_runV (As := [.int (xs 1)]) (rest := []) ⟨hx, hb, hml, hown, hts⟩ (c_X3_turnLock l D cZ cI g 0 (some 0) H.size (xs 1)) (cwV 1 hts gL_law_X3_turnLock rfl rfl rfl (by decide +kernel) ⟨Nat.le_of_ble_eq_true rfl, Nat.le_of_ble_eq_true rfl⟩) ⟨WrP_blind, va_recv hZ.1 hP (ci := 3) (q0 := 0) rfl rfl, WrP_start hPc hDc hZ.two⟩ rfl rfl hl.1 rfl (lv_room (Nat.le_of_ble_eq_true rfl)) dL_law_380 ⟨Nat.le_of_ble_eq_true rfl, Nat.le_of_ble_eq_true rfl⟩) hS (fun q _ h => hFc q h) hFc (fun r9 u9 t H1 locs ht hvm hw hB hz1 hk1 hS => ?_)
  obtain ⟨hP1, hD1⟩ := hB
  rw [ht] at hP1
  obtain ⟨hP, hD⟩ := va_join (wr := [(u, .inl (cJ, 1, .inr (.inl (fun _ => (0 : Int64)))))] ++ pD cZ cI a o o' q κ0 ωz ωz σ0) (w1 := pM cZ cI g 1 0 (some 0) (fun _ => false)) hP hD [0, 1, 2, 3, 4, 5, 6, 7, 8] [9, 10, 11, 12, 13, 14, 15, 16, 17, 18, 19, 20, 21, 22, 23, 24, 25, 26, 27, 28] rfl rfl (by decide) (by decide) hk1 hFc hP1 hD1
  replace hP : va_P D vwCl ([(u, .inl (cJ, 1, .inr (.inl (fun _ => (0 : Int64)))))] ++ pD cZ cI a o o' q κ0 ωz ωz σ0 ++ pM cZ cI g 1 0 (some 0) (fun _ => false)) H1 := hP
  replace hD : va_D (fun q : Nat => s.heap.size ≤ q) ([(u, .inl (cJ, 1, .inr (.inl (fun _ => (0 : Int64)))))] ++ pD cZ cI a o o' q κ0 ωz ωz σ0 ++ pM cZ cI g 1 0 (some 0) (fun _ => false)) := hD
  generalize H1 = H at hP hS ⊢
  obtain rfl : r9 = (nI 0 : Int32) := hw
  refine lv_istore (lv' := [(6, .int (nI 0)), (5, .int (nI 1)), (4, .int (nI 0)), (3, .ref u), (2, .ref (g 0)), (1, .ref a), (0, .ref b)]) hx hb dL_law_383 hl (by decide) rfl (fun ls hl => ?_)
  refine lv_aload_n hx hb dL_law_385 rfl (lv_at hl 4 rfl) ?_
  refine vp_callSi (va_runV (As := []) (rest := []) ⟨hx, hb, hml, hown, hts⟩ (c_X3_thrown l D cZ cI g 1 (some 0)) (cwV 0 hts gL_law_X3_thrown rfl rfl rfl (by decide +kernel) ⟨Nat.le_of_ble_eq_true rfl, Nat.le_of_ble_eq_true rfl⟩) ⟨RdP_blind, va_recv hZ.1 hP (ci := 3) (q0 := 20) rfl rfl, RdP_start (hP.sub (ws' := pM cZ cI g 1 0 (some 0) (fun _ => false)) [20, 21, 22, 23, 24, 25, 26, 27, 28] rfl) hZ.two⟩ rfl rfl hl.1 rfl (lv_room (Nat.le_of_ble_eq_true rfl)) dL_law_386 ⟨Nat.le_of_ble_eq_true rfl, Nat.le_of_ble_eq_true rfl⟩).run (fun r9 hq1 => ?_)
  obtain rfl : r9 = nI 1 := hq1
  refine lv_iload hx hb dL_law_389 (lv_at hl 1 rfl) ?_
  refine lv_icmp_eq (tgt := 396) hx hb dL_law_391 (by decide) (fun _ => ?_) (fun h => absurd (by first | rfl | decide) h)
  refine lv_iload hx hb dL_law_396 (lv_at hl 1 rfl) ?_
  refine lv_if_ne (tgt := 420) hx hb dL_law_398 (by decide) (fun _ => ?_) (fun h => absurd h (by decide))
  refine lv_goto (tgt := 1676) hx hb dL_law_420 (by decide) ?_
  exact lk_end l C0 hS (Nat.le_of_ble_eq_true rfl) (Nat.le_of_ble_eq_true rfl) (lv_sub hl [2, 6] rfl)

set_option maxHeartbeats 4000000 in
set_option maxRecDepth 100000 in
theorem lk_3 {p : Program} {e : Env} {s : State} {m : MethodId} {below : List Frame} {meth : Method} {c : Code} (l : Launch) (hl9 : l.stackTraces = false) {b : Nat} {xs : Nat → Int32} (C0 : lw_At p s m meth c b 5 xs) {D : va_G} {cZ cI cJ : ClassId} {a u : Nat} {o o' q g : Nat → Nat} {H : Heap} {locs : List Loc} (hZ : zKJ D cZ cI cJ s) (hT : exT s) (hE : exS s H) (hC : xcT s) (hP : va_P D vwCl (pD cZ cI a o o' q κ0 ωz ωz σ0 ++ pM cZ cI g 0 0 (some 0) (fun _ => false) ++ [(u, .inl (cJ, 1, .inr (.inl (fun _ => (0 : Int64)))))]) H) (hD : va_D (fun q : Nat => s.heap.size ≤ q) (pD cZ cI a o o' q κ0 ωz ωz σ0 ++ pM cZ cI g 0 0 (some 0) (fun _ => false) ++ [(u, .inl (cJ, 1, .inr (.inl (fun _ => (0 : Int64)))))])) (hS : va_S (fun q : Nat => s.heap.size ≤ q) s.heap H locs)  {ls : Array Slot} (hl : lv_has ls 9 [(4, .int (nI 0)), (3, .ref u), (2, .ref (g 0)), (1, .ref a), (0, .ref b)]) : W p l e room_1 s m #[Value.ref b] below meth c H locs 29 3099 (lw_Z below #[Value.ref b] s) (F0 m 423 ls []) := by
  obtain ⟨hx, hb, hr, hml, hown, hts0, hX, hbl, hlocks, hgv⟩ := id C0
  have hown : s.vm.findClass RL = some m.cls := hown
  have hts : ∀ w ∈ wsL_law, w.before #[Value.ref b] s = true := fun w h => hts0 w (wsL_law_in w h)
  have hA : ∀ q : Nat, s.heap.size ≤ q → (fun q : Nat => s.heap.size ≤ q) q := fun _ h => h
  have hbA : ¬ (fun q : Nat => s.heap.size ≤ q) b := Nat.not_le.mpr hbl
  refine lv_aload_n hx hb dL_law_423 rfl (lv_at hl 3 rfl) ?_
  refine lv_aload_n hx hb dL_law_424 rfl (lv_at hl 4 rfl) ?_
  refine lv_iload hx hb dL_law_425 (lv_at hl 0 rfl) ?_
  refine lv_iconst (v := nI 1) hx hb dL_law_427 (by decide) ?_
  refine lv_iadd hx hb dL_law_428 ?_
  refine rv_top (show nI 0 + nI 1 = nI 1 from by decide) ?_
  refine va_sld hx hb hX hbl hbA hS (nI_in (by decide) (by decide)) dL_law_429 ?_
  refine rv_top (show xs (nI 1).toNatClampNeg = xs 1 from rfl) ?_
  refine lv_aload_n hx hb dL_law_430 rfl (lv_at hl 4 rfl) ?_
  refine lv_iload hx hb dL_law_431 (lv_at hl 0 rfl) ?_
  refine lv_iconst (v := nI 2) hx hb dL_law_433 (by decide) ?_
  refine lv_iadd hx hb dL_law_434 ?_
  refine rv_top (show nI 0 + nI 2 = nI 2 from by decide) ?_
  refine va_sld hx hb hX hbl hbA hS (nI_in (by decide) (by decide)) dL_law_435 ?_
  refine rv_top (show xs (nI 2).toNatClampNeg = xs 2 from rfl) ?_
  refine lv_aload_n hx hb dL_law_436 rfl (lv_at hl 1 rfl) ?_
  have hPc := hP.sub (ws' := pD cZ cI a o o' q κ0 ωz ωz σ0) [0, 1, 2, 3, 4, 5, 6, 7, 8, 9, 10, 11, 12, 13, 14, 15, 16, 17, 18] rfl
  have hDc := hD.sub (ws' := pD cZ cI a o o' q κ0 ωz ωz σ0) [0, 1, 2, 3, 4, 5, 6, 7, 8, 9, 10, 11, 12, 13, 14, 15, 16, 17, 18] (by decide) rfl
  have hFc := va_free (wc := pD cZ cI a o o' q κ0 ωz ωz σ0) hD hS hA [0, 1, 2, 3, 4, 5, 6, 7, 8, 9, 10, 11, 12, 13, 14, 15, 16, 17, 18] rfl
  refine va_calli (vx_runSW (As := [.ref a, .int (xs 1), .int (xs 2), .ref u]) (rest := []) ⟨hx, hb, hml, hown, hts⟩ (vx_toMet (w_L_putCheese l hl9 D cZ cI a o o' q κ0 ωz ωz σ0 u H.size (xs 1) (xs 2) rfl)) (vx_cwSW 4 hts gL_law_L_putCheese rfl rfl rfl (by decide +kernel) ⟨Nat.le_of_ble_eq_true rfl, Nat.le_of_ble_eq_true rfl⟩) ⟨XwP_blind, XwP_start hPc hDc hZ.two hT hE hC⟩ rfl rfl hl.1 rfl (lv_room (Nat.le_of_ble_eq_true rfl)) dL_law_437 ⟨Nat.le_of_ble_eq_true rfl, Nat.le_of_ble_eq_true rfl⟩) hS (fun q _ h => hFc q h) hFc (fun r9 u9 t H1 locs ht hvm hw hB hz1 hk1 hS => ?_)
  obtain ⟨hP1, hD1⟩ := hB
  rw [ht] at hP1
  obtain ⟨hP, hD⟩ := va_join (wr := pM cZ cI g 0 0 (some 0) (fun _ => false) ++ [(u, .inl (cJ, 1, .inr (.inl (fun _ => (0 : Int64)))))]) (w1 := pD cZ cI a o o' q κ0 ωz ωz σ0) hP hD [0, 1, 2, 3, 4, 5, 6, 7, 8, 9, 10, 11, 12, 13, 14, 15, 16, 17, 18] [19, 20, 21, 22, 23, 24, 25, 26, 27, 28] rfl rfl (by decide) (by decide) hk1 hFc hP1 hD1
  replace hP : va_P D vwCl (pM cZ cI g 0 0 (some 0) (fun _ => false) ++ [(u, .inl (cJ, 1, .inr (.inl (fun _ => (0 : Int64)))))] ++ pD cZ cI a o o' q κ0 ωz ωz σ0) H1 := hP
  replace hD : va_D (fun q : Nat => s.heap.size ≤ q) (pM cZ cI g 0 0 (some 0) (fun _ => false) ++ [(u, .inl (cJ, 1, .inr (.inl (fun _ => (0 : Int64)))))] ++ pD cZ cI a o o' q κ0 ωz ωz σ0) := hD
  generalize H1 = H at hP hS ⊢
  refine W.widen (k := 30) (n := 3105) (Nat.le_of_ble_eq_true rfl) (Nat.le_of_ble_eq_true rfl) ?_
  subst hw
  refine lv_istore (lv' := [(5, .int (nI 1)), (4, .int (nI 0)), (3, .ref u), (2, .ref (g 0)), (1, .ref a), (0, .ref b)]) hx hb dL_law_440 hl (by decide) rfl (fun ls hl => ?_)
  refine lv_aload_n hx hb dL_law_442 rfl (lv_at hl 3 rfl) ?_
  refine lv_aload_n hx hb dL_law_443 rfl (lv_at hl 5 rfl) ?_
  refine lv_iload hx hb dL_law_444 (lv_at hl 1 rfl) ?_
  refine lv_iconst (v := nI 1) hx hb dL_law_446 (by decide) ?_
  refine lv_iadd hx hb dL_law_447 ?_
  refine rv_top (show nI 0 + nI 1 = nI 1 from by decide) ?_
  refine va_sld hx hb hX hbl hbA hS (nI_in (by decide) (by decide)) dL_law_448 ?_
  refine rv_top (show xs (nI 1).toNatClampNeg = xs 1 from rfl) ?_
  refine lv_aload_n hx hb dL_law_449 rfl (lv_at hl 5 rfl) ?_
  refine lv_iload hx hb dL_law_450 (lv_at hl 1 rfl) ?_
  refine lv_iconst (v := nI 2) hx hb dL_law_452 (by decide) ?_
  refine lv_iadd hx hb dL_law_453 ?_
  refine rv_top (show nI 0 + nI 2 = nI 2 from by decide) ?_
  refine va_sld hx hb hX hbl hbA hS (nI_in (by decide) (by decide)) dL_law_454 ?_
  refine rv_top (show xs (nI 2).toNatClampNeg = xs 2 from rfl) ?_
  have hPc := hP.sub (ws' := pM cZ cI g 0 0 (some 0) (fun _ => false)) [0, 1, 2, 3, 4, 5, 6, 7, 8] rfl
  have hDc := hD.sub (ws' := pM cZ cI g 0 0 (some 0) (fun _ => false)) [0, 1, 2, 3, 4, 5, 6, 7, 8] (by decide) rfl
  have hFc := va_free (wc := pM cZ cI g 0 0 (some 0) (fun _ => false)) hD hS hA [0, 1, 2, 3, 4, 5, 6, 7, 8] rfl
  refine va_calli (va_runV (As := [.int (xs 1), .int (xs 2)]) (rest := []) ⟨hx, hb, hml, hown, hts⟩ (c_X3_putCheese l D cZ cI g 0 (some 0) H.size (xs 1) (xs 2)) (cwV 2 hts gL_law_X3_putCheese rfl rfl rfl (by decide +kernel) ⟨Nat.le_of_ble_eq_true rfl, Nat.le_of_ble_eq_true rfl⟩) ⟨WrP_blind, va_recv hZ.1 hP (ci := 3) (q0 := 0) rfl rfl, WrP_start hPc hDc hZ.two⟩ rfl rfl hl.1 rfl (lv_room (Nat.le_of_ble_eq_true rfl)) dL_law_455 ⟨Nat.le_of_ble_eq_true rfl, Nat.le_of_ble_eq_true rfl⟩) hS (fun q _ h => hFc q h) hFc (fun r9 u9 t H1 locs ht hvm hw hB hz1 hk1 hS => ?_)
  obtain ⟨hP1, hD1⟩ := hB
  rw [ht] at hP1
  obtain ⟨hP, hD⟩ := va_join (wr := [(u, .inl (cJ, 1, .inr (.inl (fun _ => (0 : Int64)))))] ++ pD cZ cI a o o' q κ0 ωz ωz σ0) (w1 := pM cZ cI g 1 0 (some 0) (fun _ => false)) hP hD [0, 1, 2, 3, 4, 5, 6, 7, 8] [9, 10, 11, 12, 13, 14, 15, 16, 17, 18, 19, 20, 21, 22, 23, 24, 25, 26, 27, 28] rfl rfl (by decide) (by decide) hk1 hFc hP1 hD1
  replace hP : va_P D vwCl ([(u, .inl (cJ, 1, .inr (.inl (fun _ => (0 : Int64)))))] ++ pD cZ cI a o o' q κ0 ωz ωz σ0 ++ pM cZ cI g 1 0 (some 0) (fun _ => false)) H1 := hP
  replace hD : va_D (fun q : Nat => s.heap.size ≤ q) ([(u, .inl (cJ, 1, .inr (.inl (fun _ => (0 : Int64)))))] ++ pD cZ cI a o o' q κ0 ωz ωz σ0 ++ pM cZ cI g 1 0 (some 0) (fun _ => false)) := hD
  generalize H1 = H at hP hS ⊢
  obtain rfl : r9 = (nI 0 : Int32) := hw
  refine lv_istore (lv' := [(6, .int (nI 0)), (5, .int (nI 1)), (4, .int (nI 0)), (3, .ref u), (2, .ref (g 0)), (1, .ref a), (0, .ref b)]) hx hb dL_law_458 hl (by decide) rfl (fun ls hl => ?_)
  refine lv_aload_n hx hb dL_law_460 rfl (lv_at hl 4 rfl) ?_
  refine vp_callSi (va_runV (As := []) (rest := []) ⟨hx, hb, hml, hown, hts⟩ (c_X3_thrown l D cZ cI g 1 (some 0)) (cwV 0 hts gL_law_X3_thrown rfl rfl rfl (by decide +kernel) ⟨Nat.le_of_ble_eq_true rfl, Nat.le_of_ble_eq_true rfl⟩) ⟨RdP_blind, va_recv hZ.1 hP (ci := 3) (q0 := 20) rfl rfl, RdP_start (hP.sub (ws' := pM cZ cI g 1 0 (some 0) (fun _ => false)) [20, 21, 22, 23, 24, 25, 26, 27, 28] rfl) hZ.two⟩ rfl rfl hl.1 rfl (lv_room (Nat.le_of_ble_eq_true rfl)) dL_law_461 ⟨Nat.le_of_ble_eq_true rfl, Nat.le_of_ble_eq_true rfl⟩).run (fun r9 hq1 => ?_)
  obtain rfl : r9 = nI 1 := hq1
  refine lv_iload hx hb dL_law_464 (lv_at hl 1 rfl) ?_
  refine lv_icmp_eq (tgt := 471) hx hb dL_law_466 (by decide) (fun _ => ?_) (fun h => absurd (by first | rfl | decide) h)
  refine lv_iload hx hb dL_law_471 (lv_at hl 1 rfl) ?_
  refine lv_if_ne (tgt := 488) hx hb dL_law_473 (by decide) (fun _ => ?_) (fun h => absurd h (by decide))
  refine lv_goto (tgt := 1676) hx hb dL_law_488 (by decide) ?_
  exact lk_end l C0 hS (Nat.le_of_ble_eq_true rfl) (Nat.le_of_ble_eq_true rfl) (lv_sub hl [2, 6] rfl)

set_option maxHeartbeats 4000000 in
set_option maxRecDepth 100000 in
theorem lk_4 {p : Program} {e : Env} {s : State} {m : MethodId} {below : List Frame} {meth : Method} {c : Code} (l : Launch) (hl9 : l.stackTraces = false) {b : Nat} {xs : Nat → Int32} (C0 : lw_At p s m meth c b 5 xs) {D : va_G} {cZ cI cJ : ClassId} {a u : Nat} {o o' q g : Nat → Nat} {H : Heap} {locs : List Loc} (hZ : zKJ D cZ cI cJ s) (hT : exT s) (hE : exS s H) (hC : xcT s) (hP : va_P D vwCl (pD cZ cI a o o' q κ0 ωz ωz σ0 ++ pM cZ cI g 0 0 (some 0) (fun _ => false) ++ [(u, .inl (cJ, 1, .inr (.inl (fun _ => (0 : Int64)))))]) H) (hD : va_D (fun q : Nat => s.heap.size ≤ q) (pD cZ cI a o o' q κ0 ωz ωz σ0 ++ pM cZ cI g 0 0 (some 0) (fun _ => false) ++ [(u, .inl (cJ, 1, .inr (.inl (fun _ => (0 : Int64)))))])) (hS : va_S (fun q : Nat => s.heap.size ≤ q) s.heap H locs)  {ls : Array Slot} (hl : lv_has ls 9 [(4, .int (nI 0)), (3, .ref u), (2, .ref (g 0)), (1, .ref a), (0, .ref b)]) : W p l e room_1 s m #[Value.ref b] below meth c H locs 29 3099 (lw_Z below #[Value.ref b] s) (F0 m 491 ls []) := by
  obtain ⟨hx, hb, hr, hml, hown, hts0, hX, hbl, hlocks, hgv⟩ := id C0
  have hown : s.vm.findClass RL = some m.cls := hown
  have hts : ∀ w ∈ wsL_law, w.before #[Value.ref b] s = true := fun w h => hts0 w (wsL_law_in w h)
  have hA : ∀ q : Nat, s.heap.size ≤ q → (fun q : Nat => s.heap.size ≤ q) q := fun _ h => h
  have hbA : ¬ (fun q : Nat => s.heap.size ≤ q) b := Nat.not_le.mpr hbl
  refine lv_aload_n hx hb dL_law_491 rfl (lv_at hl 3 rfl) ?_
  refine lv_aload_n hx hb dL_law_492 rfl (lv_at hl 4 rfl) ?_
  refine lv_iload hx hb dL_law_493 (lv_at hl 0 rfl) ?_
  refine lv_iconst (v := nI 1) hx hb dL_law_495 (by decide) ?_
  refine lv_iadd hx hb dL_law_496 ?_
  refine rv_top (show nI 0 + nI 1 = nI 1 from by decide) ?_
  refine va_sld hx hb hX hbl hbA hS (nI_in (by decide) (by decide)) dL_law_497 ?_
  refine rv_top (show xs (nI 1).toNatClampNeg = xs 1 from rfl) ?_
  refine lv_aload_n hx hb dL_law_498 rfl (lv_at hl 4 rfl) ?_
  refine lv_iload hx hb dL_law_499 (lv_at hl 0 rfl) ?_
  refine lv_iconst (v := nI 2) hx hb dL_law_501 (by decide) ?_
  refine lv_iadd hx hb dL_law_502 ?_
  refine rv_top (show nI 0 + nI 2 = nI 2 from by decide) ?_
  refine va_sld hx hb hX hbl hbA hS (nI_in (by decide) (by decide)) dL_law_503 ?_
  refine rv_top (show xs (nI 2).toNatClampNeg = xs 2 from rfl) ?_
  refine lv_aload_n hx hb dL_law_504 rfl (lv_at hl 1 rfl) ?_
  have hPc := hP.sub (ws' := pD cZ cI a o o' q κ0 ωz ωz σ0) [0, 1, 2, 3, 4, 5, 6, 7, 8, 9, 10, 11, 12, 13, 14, 15, 16, 17, 18] rfl
  have hDc := hD.sub (ws' := pD cZ cI a o o' q κ0 ωz ωz σ0) [0, 1, 2, 3, 4, 5, 6, 7, 8, 9, 10, 11, 12, 13, 14, 15, 16, 17, 18] (by decide) rfl
  have hFc := va_free (wc := pD cZ cI a o o' q κ0 ωz ωz σ0) hD hS hA [0, 1, 2, 3, 4, 5, 6, 7, 8, 9, 10, 11, 12, 13, 14, 15, 16, 17, 18] rfl
  refine va_calli (vx_runSW (As := [.ref a, .int (xs 1), .int (xs 2), .ref u]) (rest := []) ⟨hx, hb, hml, hown, hts⟩ (vx_toMet (w_L_begin l hl9 D cZ cI a o o' q κ0 ωz ωz σ0 u H.size (xs 1) (xs 2) rfl)) (vx_cwSW 4 hts gL_law_L_begin rfl rfl rfl (by decide +kernel) ⟨Nat.le_of_ble_eq_true rfl, Nat.le_of_ble_eq_true rfl⟩) ⟨XwP_blind, XwP_start hPc hDc hZ.two hT hE hC⟩ rfl rfl hl.1 rfl (lv_room (Nat.le_of_ble_eq_true rfl)) dL_law_505 ⟨Nat.le_of_ble_eq_true rfl, Nat.le_of_ble_eq_true rfl⟩) hS (fun q _ h => hFc q h) hFc (fun r9 u9 t H1 locs ht hvm hw hB hz1 hk1 hS => ?_)
  obtain ⟨hP1, hD1⟩ := hB
  rw [ht] at hP1
  obtain ⟨hP, hD⟩ := va_join (wr := pM cZ cI g 0 0 (some 0) (fun _ => false) ++ [(u, .inl (cJ, 1, .inr (.inl (fun _ => (0 : Int64)))))]) (w1 := pD cZ cI a o o' q κ0 ωz ωz σ0) hP hD [0, 1, 2, 3, 4, 5, 6, 7, 8, 9, 10, 11, 12, 13, 14, 15, 16, 17, 18] [19, 20, 21, 22, 23, 24, 25, 26, 27, 28] rfl rfl (by decide) (by decide) hk1 hFc hP1 hD1
  replace hP : va_P D vwCl (pM cZ cI g 0 0 (some 0) (fun _ => false) ++ [(u, .inl (cJ, 1, .inr (.inl (fun _ => (0 : Int64)))))] ++ pD cZ cI a o o' q κ0 ωz ωz σ0) H1 := hP
  replace hD : va_D (fun q : Nat => s.heap.size ≤ q) (pM cZ cI g 0 0 (some 0) (fun _ => false) ++ [(u, .inl (cJ, 1, .inr (.inl (fun _ => (0 : Int64)))))] ++ pD cZ cI a o o' q κ0 ωz ωz σ0) := hD
  generalize H1 = H at hP hS ⊢
  refine W.widen (k := 30) (n := 3105) (Nat.le_of_ble_eq_true rfl) (Nat.le_of_ble_eq_true rfl) ?_
  subst hw
  refine lv_istore (lv' := [(5, .int (nI 1)), (4, .int (nI 0)), (3, .ref u), (2, .ref (g 0)), (1, .ref a), (0, .ref b)]) hx hb dL_law_508 hl (by decide) rfl (fun ls hl => ?_)
  refine lv_aload_n hx hb dL_law_510 rfl (lv_at hl 3 rfl) ?_
  refine lv_aload_n hx hb dL_law_511 rfl (lv_at hl 5 rfl) ?_
  refine lv_iload hx hb dL_law_512 (lv_at hl 1 rfl) ?_
  refine lv_iconst (v := nI 1) hx hb dL_law_514 (by decide) ?_
  refine lv_iadd hx hb dL_law_515 ?_
  refine rv_top (show nI 0 + nI 1 = nI 1 from by decide) ?_
  refine va_sld hx hb hX hbl hbA hS (nI_in (by decide) (by decide)) dL_law_516 ?_
  refine rv_top (show xs (nI 1).toNatClampNeg = xs 1 from rfl) ?_
  refine lv_aload_n hx hb dL_law_517 rfl (lv_at hl 5 rfl) ?_
  refine lv_iload hx hb dL_law_518 (lv_at hl 1 rfl) ?_
  refine lv_iconst (v := nI 2) hx hb dL_law_520 (by decide) ?_
  refine lv_iadd hx hb dL_law_521 ?_
  refine rv_top (show nI 0 + nI 2 = nI 2 from by decide) ?_
  refine va_sld hx hb hX hbl hbA hS (nI_in (by decide) (by decide)) dL_law_522 ?_
  refine rv_top (show xs (nI 2).toNatClampNeg = xs 2 from rfl) ?_
  have hPc := hP.sub (ws' := pM cZ cI g 0 0 (some 0) (fun _ => false)) [0, 1, 2, 3, 4, 5, 6, 7, 8] rfl
  have hDc := hD.sub (ws' := pM cZ cI g 0 0 (some 0) (fun _ => false)) [0, 1, 2, 3, 4, 5, 6, 7, 8] (by decide) rfl
  have hFc := va_free (wc := pM cZ cI g 0 0 (some 0) (fun _ => false)) hD hS hA [0, 1, 2, 3, 4, 5, 6, 7, 8] rfl
  refine va_calli (va_runV (As := [.int (xs 1), .int (xs 2)]) (rest := []) ⟨hx, hb, hml, hown, hts⟩ (c_X3_begin l D cZ cI g 0 (some 0) H.size (xs 1) (xs 2)) (cwV 2 hts gL_law_X3_begin rfl rfl rfl (by decide +kernel) ⟨Nat.le_of_ble_eq_true rfl, Nat.le_of_ble_eq_true rfl⟩) ⟨WrP_blind, va_recv hZ.1 hP (ci := 3) (q0 := 0) rfl rfl, WrP_start hPc hDc hZ.two⟩ rfl rfl hl.1 rfl (lv_room (Nat.le_of_ble_eq_true rfl)) dL_law_523 ⟨Nat.le_of_ble_eq_true rfl, Nat.le_of_ble_eq_true rfl⟩) hS (fun q _ h => hFc q h) hFc (fun r9 u9 t H1 locs ht hvm hw hB hz1 hk1 hS => ?_)
  obtain ⟨hP1, hD1⟩ := hB
  rw [ht] at hP1
  obtain ⟨hP, hD⟩ := va_join (wr := [(u, .inl (cJ, 1, .inr (.inl (fun _ => (0 : Int64)))))] ++ pD cZ cI a o o' q κ0 ωz ωz σ0) (w1 := pM cZ cI g 1 0 (some 0) (fun _ => false)) hP hD [0, 1, 2, 3, 4, 5, 6, 7, 8] [9, 10, 11, 12, 13, 14, 15, 16, 17, 18, 19, 20, 21, 22, 23, 24, 25, 26, 27, 28] rfl rfl (by decide) (by decide) hk1 hFc hP1 hD1
  replace hP : va_P D vwCl ([(u, .inl (cJ, 1, .inr (.inl (fun _ => (0 : Int64)))))] ++ pD cZ cI a o o' q κ0 ωz ωz σ0 ++ pM cZ cI g 1 0 (some 0) (fun _ => false)) H1 := hP
  replace hD : va_D (fun q : Nat => s.heap.size ≤ q) ([(u, .inl (cJ, 1, .inr (.inl (fun _ => (0 : Int64)))))] ++ pD cZ cI a o o' q κ0 ωz ωz σ0 ++ pM cZ cI g 1 0 (some 0) (fun _ => false)) := hD
  generalize H1 = H at hP hS ⊢
  obtain rfl : r9 = (nI 0 : Int32) := hw
  refine lv_istore (lv' := [(6, .int (nI 0)), (5, .int (nI 1)), (4, .int (nI 0)), (3, .ref u), (2, .ref (g 0)), (1, .ref a), (0, .ref b)]) hx hb dL_law_526 hl (by decide) rfl (fun ls hl => ?_)
  refine lv_aload_n hx hb dL_law_528 rfl (lv_at hl 4 rfl) ?_
  refine vp_callSi (va_runV (As := []) (rest := []) ⟨hx, hb, hml, hown, hts⟩ (c_X3_thrown l D cZ cI g 1 (some 0)) (cwV 0 hts gL_law_X3_thrown rfl rfl rfl (by decide +kernel) ⟨Nat.le_of_ble_eq_true rfl, Nat.le_of_ble_eq_true rfl⟩) ⟨RdP_blind, va_recv hZ.1 hP (ci := 3) (q0 := 20) rfl rfl, RdP_start (hP.sub (ws' := pM cZ cI g 1 0 (some 0) (fun _ => false)) [20, 21, 22, 23, 24, 25, 26, 27, 28] rfl) hZ.two⟩ rfl rfl hl.1 rfl (lv_room (Nat.le_of_ble_eq_true rfl)) dL_law_529 ⟨Nat.le_of_ble_eq_true rfl, Nat.le_of_ble_eq_true rfl⟩).run (fun r9 hq1 => ?_)
  obtain rfl : r9 = nI 1 := hq1
  refine lv_iload hx hb dL_law_532 (lv_at hl 1 rfl) ?_
  refine lv_icmp_eq (tgt := 539) hx hb dL_law_534 (by decide) (fun _ => ?_) (fun h => absurd (by first | rfl | decide) h)
  refine lv_iload hx hb dL_law_539 (lv_at hl 1 rfl) ?_
  refine lv_if_ne (tgt := 556) hx hb dL_law_541 (by decide) (fun _ => ?_) (fun h => absurd h (by decide))
  refine lv_goto (tgt := 1676) hx hb dL_law_556 (by decide) ?_
  exact lk_end l C0 hS (Nat.le_of_ble_eq_true rfl) (Nat.le_of_ble_eq_true rfl) (lv_sub hl [2, 6] rfl)

