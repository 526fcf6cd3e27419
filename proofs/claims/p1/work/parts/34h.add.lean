set_option maxHeartbeats 4000000 in
set_option maxRecDepth 100000 in
theorem lk_addRoom_t {p : Program} {e : Env} {s : State} {m : MethodId} {below : List Frame} {meth : Method} {c : Code} (l : Launch) (hl9 : l.stackTraces = false) {b : Nat} {xs : Nat → Int32} (C0 : lw_At p s m meth c b 5 xs) {D : va_G} {cZ cI cJ : ClassId} {a u : Nat} {o o' q g : Nat → Nat} {H : Heap} {locs : List Loc} (hZ : zKJ D cZ cI cJ s) (hT : exT s) (hE : exS s H) (hC : xcT s) (hP : va_P D vwCl (pD cZ cI a o o' q κ0 ωz ωz σ0 ++ pM cZ cI g 0 0 (some 0) (fun _ => false) ++ [(u, .inl (cJ, 1, .inr (.inl (fun _ => (0 : Int64)))))]) H) (hD : va_D (fun q : Nat => s.heap.size ≤ q) (pD cZ cI a o o' q κ0 ωz ωz σ0 ++ pM cZ cI g 0 0 (some 0) (fun _ => false) ++ [(u, .inl (cJ, 1, .inr (.inl (fun _ => (0 : Int64)))))])) (hS : va_S (fun q : Nat => s.heap.size ≤ q) s.heap H locs) (hb9 : ¬ xs 1 = 0) {ls : Array Slot} (hl : lv_has ls 9 [(4, .int (nI 0)), (3, .ref u), (2, .ref (g 0)), (1, .ref a), (0, .ref b)]) : W p l e room_1 s m #[Value.ref b] below meth c H locs 29 3099 (lw_Z below #[Value.ref b] s) (F0 m 196 ls []) := by
  obtain ⟨hx, hb, hr, hml, hown, hts0, hX, hbl, hlocks, hgv⟩ := id C0
  have hown : s.vm.findClass RL = some m.cls := hown
  have hts : ∀ w ∈ wsL_law, w.before #[Value.ref b] s = true := fun w h => hts0 w (wsL_law_in w h)
  have hA : ∀ q : Nat, s.heap.size ≤ q → (fun q : Nat => s.heap.size ≤ q) q := fun _ h => h
  have hbA : ¬ (fun q : Nat => s.heap.size ≤ q) b := Nat.not_le.mpr hbl
  refine lv_aload_n hx hb dL_law_196 rfl (lv_at hl 3 rfl) ?_
  refine lv_aload_n hx hb dL_law_197 rfl (lv_at hl 4 rfl) ?_
  refine lv_iload hx hb dL_law_198 (lv_at hl 0 rfl) ?_
  refine lv_iconst (v := nI 1) hx hb dL_law_200 (by decide) ?_
  refine lv_iadd hx hb dL_law_201 ?_
  refine rv_top (show nI 0 + nI 1 = nI 1 from by decide) ?_
  refine va_sld hx hb hX hbl hbA hS (nI_in (by decide) (by decide)) dL_law_202 ?_
  refine rv_top (show xs (nI 1).toNatClampNeg = xs 1 from rfl) ?_
  refine lv_if_eq (tgt := 210) hx hb dL_law_203 (by decide) (fun h => absurd h hb9) (fun _ => ?_)
  refine lv_iconst (v := nI 1) hx hb dL_law_206 (by decide) ?_
  refine rv_top (show nI 1 = bI true from rfl) ?_
  refine lv_goto (tgt := 211) hx hb dL_law_207 (by decide) ?_
  refine lv_aload_n hx hb dL_law_211 rfl (lv_at hl 1 rfl) ?_
  have hPc := hP.sub (ws' := pD cZ cI a o o' q κ0 ωz ωz σ0 ++ [(u, .inl (cJ, 1, .inr (.inl (fun _ => (0 : Int64)))))]) [0, 1, 2, 3, 4, 5, 6, 7, 8, 9, 10, 11, 12, 13, 14, 15, 16, 17, 18, 28] rfl
  have hDc := hD.sub (ws' := pD cZ cI a o o' q κ0 ωz ωz σ0 ++ [(u, .inl (cJ, 1, .inr (.inl (fun _ => (0 : Int64)))))]) [0, 1, 2, 3, 4, 5, 6, 7, 8, 9, 10, 11, 12, 13, 14, 15, 16, 17, 18, 28] (by decide) rfl
  have hFc := va_free (wc := pD cZ cI a o o' q κ0 ωz ωz σ0 ++ [(u, .inl (cJ, 1, .inr (.inl (fun _ => (0 : Int64)))))]) hD hS hA [0, 1, 2, 3, 4, 5, 6, 7, 8, 9, 10, 11, 12, 13, 14, 15, 16, 17, 18, 28] rfl
  obtain ⟨ω1, hω1⟩ : ∃ ω1 : OS, ω1 = (lookW (zN σ0 + 1, zM σ0, va_up (zS σ0) (zN σ0) true, zC σ0, zF σ0, zG σ0, zP σ0, zT σ0, zL σ0) none ωz, (lookR (zN σ0 + 1, zM σ0, va_up (zS σ0) (zN σ0) true, zC σ0, zF σ0, zG σ0, zP σ0, zT σ0, zL σ0) none ωz).1, (lookR (zN σ0 + 1, zM σ0, va_up (zS σ0) (zN σ0) true, zC σ0, zF σ0, zG σ0, zP σ0, zT σ0, zL σ0) none ωz).2.1, (lookR (zN σ0 + 1, zM σ0, va_up (zS σ0) (zN σ0) true, zC σ0, zF σ0, zG σ0, zP σ0, zT σ0, zL σ0) none ωz).2.2.1) := ⟨_, rfl⟩
  refine va_calli (vx_runSW (As := [.ref a, .int (bI true), .ref u]) (rest := []) ⟨hx, hb, hml, hown, hts⟩ (vx_toMet (w_L_addRoom l D cZ cI cJ a o o' q κ0 ωz ωz σ0 u H.size (fun _ => (0 : Int64)) true zOk_0 (by decide))) (vx_cwSW 3 hts gL_law_L_addRoom rfl rfl rfl (by decide +kernel) ⟨Nat.le_of_ble_eq_true rfl, Nat.le_of_ble_eq_true rfl⟩) ⟨WjP_blind, WjP_start hPc hDc hZ⟩ rfl rfl hl.1 rfl (lv_room (Nat.le_of_ble_eq_true rfl)) dL_law_212 ⟨Nat.le_of_ble_eq_true rfl, Nat.le_of_ble_eq_true rfl⟩) hS (fun q _ h => hFc q h) hFc (fun r9 u9 t H1 locs ht hvm hw hB hz1 hk1 hS => ?_)
  obtain ⟨hP1, hD1⟩ := hB
  rw [ht] at hP1
  rw [← hω1] at hP1 hD1
  obtain ⟨hP, hD⟩ := va_join (wr := pM cZ cI g 0 0 (some 0) (fun _ => false)) (w1 := pD cZ cI a o o' q κ0 ω1 ωz (zN σ0 + 1, zM σ0, va_up (zS σ0) (zN σ0) true, zC σ0, zF σ0, zG σ0, zP σ0, zT σ0, zL σ0) ++ [(u, .inl (cJ, 1, .inr (.inl (vp_updL (fun _ => (0 : Int64)) (nI 0).toNatClampNeg (nI (zN σ0 + 1 - 1)).toInt64))))]) hP hD [0, 1, 2, 3, 4, 5, 6, 7, 8, 9, 10, 11, 12, 13, 14, 15, 16, 17, 18, 28] [19, 20, 21, 22, 23, 24, 25, 26, 27] rfl rfl (by decide) (by decide) hk1 hFc hP1 hD1
  replace hP : va_P D vwCl (pM cZ cI g 0 0 (some 0) (fun _ => false) ++ pD cZ cI a o o' q κ0 ω1 ωz (zN σ0 + 1, zM σ0, va_up (zS σ0) (zN σ0) true, zC σ0, zF σ0, zG σ0, zP σ0, zT σ0, zL σ0) ++ [(u, .inl (cJ, 1, .inr (.inl (vp_updL (fun _ => (0 : Int64)) (nI 0).toNatClampNeg (nI (zN σ0 + 1 - 1)).toInt64))))]) H1 := hP
  replace hD : va_D (fun q : Nat => s.heap.size ≤ q) (pM cZ cI g 0 0 (some 0) (fun _ => false) ++ pD cZ cI a o o' q κ0 ω1 ωz (zN σ0 + 1, zM σ0, va_up (zS σ0) (zN σ0) true, zC σ0, zF σ0, zG σ0, zP σ0, zT σ0, zL σ0) ++ [(u, .inl (cJ, 1, .inr (.inl (vp_updL (fun _ => (0 : Int64)) (nI 0).toNatClampNeg (nI (zN σ0 + 1 - 1)).toInt64))))]) := hD
  generalize H1 = H at hP hS ⊢
  subst hw
  refine lv_istore (lv' := [(5, .int (nI 0)), (4, .int (nI 0)), (3, .ref u), (2, .ref (g 0)), (1, .ref a), (0, .ref b)]) hx hb dL_law_215 hl (by decide) rfl (fun ls hl => ?_)
  refine lv_aload_n hx hb dL_law_217 rfl (lv_at hl 3 rfl) ?_
  refine lv_aload_n hx hb dL_law_218 rfl (lv_at hl 5 rfl) ?_
  refine lv_iload hx hb dL_law_219 (lv_at hl 1 rfl) ?_
  refine lv_iconst (v := nI 1) hx hb dL_law_221 (by decide) ?_
  refine lv_iadd hx hb dL_law_222 ?_
  refine rv_top (show nI 0 + nI 1 = nI 1 from by decide) ?_
  refine va_sld hx hb hX hbl hbA hS (nI_in (by decide) (by decide)) dL_law_223 ?_
  refine rv_top (show xs (nI 1).toNatClampNeg = xs 1 from rfl) ?_
  refine lv_if_eq (tgt := 231) hx hb dL_law_224 (by decide) (fun h => absurd h hb9) (fun _ => ?_)
  refine lv_iconst (v := nI 1) hx hb dL_law_227 (by decide) ?_
  refine rv_top (show nI 1 = bI true from rfl) ?_
  refine lv_goto (tgt := 232) hx hb dL_law_228 (by decide) ?_
  have hPc := hP.sub (ws' := pM cZ cI g 0 0 (some 0) (fun _ => false)) [0, 1, 2, 3, 4, 5, 6, 7, 8] rfl
  have hDc := hD.sub (ws' := pM cZ cI g 0 0 (some 0) (fun _ => false)) [0, 1, 2, 3, 4, 5, 6, 7, 8] (by decide) rfl
  have hFc := va_free (wc := pM cZ cI g 0 0 (some 0) (fun _ => false)) hD hS hA [0, 1, 2, 3, 4, 5, 6, 7, 8] rfl
  refine va_calli (va_runV (As := [.int (bI true)]) (rest := []) ⟨hx, hb, hml, hown, hts⟩ (c_X3_addRoom l D cZ cI g 0 (some 0) H.size true) (cwV 1 hts gL_law_X3_addRoom rfl rfl rfl (by decide +kernel) ⟨Nat.le_of_ble_eq_true rfl, Nat.le_of_ble_eq_true rfl⟩) ⟨WrP_blind, va_recv hZ.1 hP (ci := 3) (q0 := 0) rfl rfl, WrP_start hPc hDc hZ.two⟩ rfl rfl hl.1 rfl (lv_room (Nat.le_of_ble_eq_true rfl)) dL_law_232 ⟨Nat.le_of_ble_eq_true rfl, Nat.le_of_ble_eq_true rfl⟩) hS (fun q _ h => hFc q h) hFc (fun r9 u9 t H1 locs ht hvm hw hB hz1 hk1 hS => ?_)
  obtain ⟨hP1, hD1⟩ := hB
  rw [ht] at hP1
  obtain ⟨hP, hD⟩ := va_join (wr := pD cZ cI a o o' q κ0 ω1 ωz (zN σ0 + 1, zM σ0, va_up (zS σ0) (zN σ0) true, zC σ0, zF σ0, zG σ0, zP σ0, zT σ0, zL σ0) ++ [(u, .inl (cJ, 1, .inr (.inl (vp_updL (fun _ => (0 : Int64)) (nI 0).toNatClampNeg (nI (zN σ0 + 1 - 1)).toInt64))))]) (w1 := pM cZ cI g 0 (0 + 1) (some 0) (va_up (fun _ => false) 0 true)) hP hD [0, 1, 2, 3, 4, 5, 6, 7, 8] [9, 10, 11, 12, 13, 14, 15, 16, 17, 18, 19, 20, 21, 22, 23, 24, 25, 26, 27, 28] rfl rfl (by decide) (by decide) hk1 hFc hP1 hD1
  replace hP : va_P D vwCl (pD cZ cI a o o' q κ0 ω1 ωz (zN σ0 + 1, zM σ0, va_up (zS σ0) (zN σ0) true, zC σ0, zF σ0, zG σ0, zP σ0, zT σ0, zL σ0) ++ [(u, .inl (cJ, 1, .inr (.inl (vp_updL (fun _ => (0 : Int64)) (nI 0).toNatClampNeg (nI (zN σ0 + 1 - 1)).toInt64))))] ++ pM cZ cI g 0 (0 + 1) (some 0) (va_up (fun _ => false) 0 true)) H1 := hP
  replace hD : va_D (fun q : Nat => s.heap.size ≤ q) (pD cZ cI a o o' q κ0 ω1 ωz (zN σ0 + 1, zM σ0, va_up (zS σ0) (zN σ0) true, zC σ0, zF σ0, zG σ0, zP σ0, zT σ0, zL σ0) ++ [(u, .inl (cJ, 1, .inr (.inl (vp_updL (fun _ => (0 : Int64)) (nI 0).toNatClampNeg (nI (zN σ0 + 1 - 1)).toInt64))))] ++ pM cZ cI g 0 (0 + 1) (some 0) (va_up (fun _ => false) 0 true)) := hD
  generalize H1 = H at hP hS ⊢
  obtain rfl : r9 = (nI 0 : Int32) := hw
  refine lv_istore (lv' := [(6, .int (nI 0)), (5, .int (nI 0)), (4, .int (nI 0)), (3, .ref u), (2, .ref (g 0)), (1, .ref a), (0, .ref b)]) hx hb dL_law_235 hl (by decide) rfl (fun ls hl => ?_)
  refine lv_aload_n hx hb dL_law_237 rfl (lv_at hl 4 rfl) ?_
  refine vp_callSi (va_runV (As := []) (rest := []) ⟨hx, hb, hml, hown, hts⟩ (c_X3_thrown9 l D cZ cI g 0 (0 + 1) (some 0) (va_up (fun _ => false) 0 true)) (cwV 0 hts gL_law_X3_thrown rfl rfl rfl (by decide +kernel) ⟨Nat.le_of_ble_eq_true rfl, Nat.le_of_ble_eq_true rfl⟩) ⟨RdP_blind, va_recv hZ.1 hP (ci := 3) (q0 := 20) rfl rfl, RdP_start (hP.sub (ws' := pM cZ cI g 0 (0 + 1) (some 0) (va_up (fun _ => false) 0 true)) [20, 21, 22, 23, 24, 25, 26, 27, 28] rfl) hZ.two⟩ rfl rfl hl.1 rfl (lv_room (Nat.le_of_ble_eq_true rfl)) dL_law_238 ⟨Nat.le_of_ble_eq_true rfl, Nat.le_of_ble_eq_true rfl⟩).run (fun r9 hq1 => ?_)
  obtain rfl : r9 = nI 0 := hq1
  refine lv_iload hx hb dL_law_241 (lv_at hl 1 rfl) ?_
  refine lv_icmp_eq (tgt := 248) hx hb dL_law_243 (by decide) (fun _ => ?_) (fun h => absurd (by first | rfl | decide) h)
  refine lv_iload hx hb dL_law_248 (lv_at hl 1 rfl) ?_
  refine lv_if_ne (tgt := 265) hx hb dL_law_250 (by decide) (fun h => absurd rfl h) (fun _ => ?_)
  refine lv_aload_n hx hb dL_law_253 rfl (lv_at hl 3 rfl) ?_
  refine lv_iconst (v := nI 0) hx hb dL_law_254 (by decide) ?_
  refine va_lald hx hb hZ.1 hP 19 2 rfl rfl (nI_in (by decide) (by decide)) dL_law_255 ?_
  refine lv_iload hx hb dL_law_256 (lv_at hl 0 rfl) ?_
  refine lv_i2l (v := (nI 0).toInt64) hx hb dL_law_258 rfl ?_
  refine W.lcmp hx hb dL_law_259 ?_
  refine lv_if_eq (tgt := 265) hx hb dL_law_260 (by decide) (fun _ => ?_) (fun h => absurd (by first | rfl | decide +kernel) h)
  refine lv_goto (tgt := 1676) hx hb dL_law_265 (by decide) ?_
  exact lk_end l C0 hS (Nat.le_of_ble_eq_true rfl) (Nat.le_of_ble_eq_true rfl) (lv_sub hl [2, 6] rfl)

set_option maxHeartbeats 4000000 in
set_option maxRecDepth 100000 in
theorem lk_addRoom_f {p : Program} {e : Env} {s : State} {m : MethodId} {below : List Frame} {meth : Method} {c : Code} (l : Launch) (hl9 : l.stackTraces = false) {b : Nat} {xs : Nat → Int32} (C0 : lw_At p s m meth c b 5 xs) {D : va_G} {cZ cI cJ : ClassId} {a u : Nat} {o o' q g : Nat → Nat} {H : Heap} {locs : List Loc} (hZ : zKJ D cZ cI cJ s) (hT : exT s) (hE : exS s H) (hC : xcT s) (hP : va_P D vwCl (pD cZ cI a o o' q κ0 ωz ωz σ0 ++ pM cZ cI g 0 0 (some 0) (fun _ => false) ++ [(u, .inl (cJ, 1, .inr (.inl (fun _ => (0 : Int64)))))]) H) (hD : va_D (fun q : Nat => s.heap.size ≤ q) (pD cZ cI a o o' q κ0 ωz ωz σ0 ++ pM cZ cI g 0 0 (some 0) (fun _ => false) ++ [(u, .inl (cJ, 1, .inr (.inl (fun _ => (0 : Int64)))))])) (hS : va_S (fun q : Nat => s.heap.size ≤ q) s.heap H locs) (hb9 : xs 1 = 0) {ls : Array Slot} (hl : lv_has ls 9 [(4, .int (nI 0)), (3, .ref u), (2, .ref (g 0)), (1, .ref a), (0, .ref b)]) : W p l e room_1 s m #[Value.ref b] below meth c H locs 29 3099 (lw_Z below #[Value.ref b] s) (F0 m 196 ls []) := by
  obtain ⟨hx, hb, hr, hml, hown, hts0, hX, hbl, hlocks, hgv⟩ := id C0
  have hown : s.vm.findClass RL = some m.cls := hown
  have hts : ∀ w ∈ wsL_law, w.before #[Value.ref b] s = true := fun w h => hts0 w (wsL_law_in w h)
  have hA : ∀ q : Nat, s.heap.size ≤ q → (fun q : Nat => s.heap.size ≤ q) q := fun _ h => h
  have hbA : ¬ (fun q : Nat => s.heap.size ≤ q) b := Nat.not_le.mpr hbl
  refine lv_aload_n hx hb dL_law_196 rfl (lv_at hl 3 rfl) ?_
  refine lv_aload_n hx hb dL_law_197 rfl (lv_at hl 4 rfl) ?_
  refine lv_iload hx hb dL_law_198 (lv_at hl 0 rfl) ?_
  refine lv_iconst (v := nI 1) hx hb dL_law_200 (by decide) ?_
  refine lv_iadd hx hb dL_law_201 ?_
  refine rv_top (show nI 0 + nI 1 = nI 1 from by decide) ?_
  refine va_sld hx hb hX hbl hbA hS (nI_in (by decide) (by decide)) dL_law_202 ?_
  refine rv_top (show xs (nI 1).toNatClampNeg = xs 1 from rfl) ?_
  refine lv_if_eq (tgt := 210) hx hb dL_law_203 (by decide) (fun _ => ?_) (fun h => absurd hb9 h)
  refine lv_iconst (v := nI 0) hx hb dL_law_210 (by decide) ?_
  refine rv_top (show nI 0 = bI false from rfl) ?_
  refine lv_aload_n hx hb dL_law_211 rfl (lv_at hl 1 rfl) ?_
  have hPc := hP.sub (ws' := pD cZ cI a o o' q κ0 ωz ωz σ0 ++ [(u, .inl (cJ, 1, .inr (.inl (fun _ => (0 : Int64)))))]) [0, 1, 2, 3, 4, 5, 6, 7, 8, 9, 10, 11, 12, 13, 14, 15, 16, 17, 18, 28] rfl
  have hDc := hD.sub (ws' := pD cZ cI a o o' q κ0 ωz ωz σ0 ++ [(u, .inl (cJ, 1, .inr (.inl (fun _ => (0 : Int64)))))]) [0, 1, 2, 3, 4, 5, 6, 7, 8, 9, 10, 11, 12, 13, 14, 15, 16, 17, 18, 28] (by decide) rfl
  have hFc := va_free (wc := pD cZ cI a o o' q κ0 ωz ωz σ0 ++ [(u, .inl (cJ, 1, .inr (.inl (fun _ => (0 : Int64)))))]) hD hS hA [0, 1, 2, 3, 4, 5, 6, 7, 8, 9, 10, 11, 12, 13, 14, 15, 16, 17, 18, 28] rfl
  obtain ⟨ω1, hω1⟩ : ∃ ω1 : OS, ω1 = (lookW (zN σ0 + 1, zM σ0, va_up (zS σ0) (zN σ0) false, zC σ0, zF σ0, zG σ0, zP σ0, zT σ0, zL σ0) none ωz, (lookR (zN σ0 + 1, zM σ0, va_up (zS σ0) (zN σ0) false, zC σ0, zF σ0, zG σ0, zP σ0, zT σ0, zL σ0) none ωz).1, (lookR (zN σ0 + 1, zM σ0, va_up (zS σ0) (zN σ0) false, zC σ0, zF σ0, zG σ0, zP σ0, zT σ0, zL σ0) none ωz).2.1, (lookR (zN σ0 + 1, zM σ0, va_up (zS σ0) (zN σ0) false, zC σ0, zF σ0, zG σ0, zP σ0, zT σ0, zL σ0) none ωz).2.2.1) := ⟨_, rfl⟩
  refine va_calli (vx_runSW (As := [.ref a, .int (bI false), .ref u]) (rest := []) ⟨hx, hb, hml, hown, hts⟩ (vx_toMet (w_L_addRoom l D cZ cI cJ a o o' q κ0 ωz ωz σ0 u H.size (fun _ => (0 : Int64)) false zOk_0 (by decide))) (vx_cwSW 3 hts gL_law_L_addRoom rfl rfl rfl (by decide +kernel) ⟨Nat.le_of_ble_eq_true rfl, Nat.le_of_ble_eq_true rfl⟩) ⟨WjP_blind, WjP_start hPc hDc hZ⟩ rfl rfl hl.1 rfl (lv_room (Nat.le_of_ble_eq_true rfl)) dL_law_212 ⟨Nat.le_of_ble_eq_true rfl, Nat.le_of_ble_eq_true rfl⟩) hS (fun q _ h => hFc q h) hFc (fun r9 u9 t H1 locs ht hvm hw hB hz1 hk1 hS => ?_)
  obtain ⟨hP1, hD1⟩ := hB
  rw [ht] at hP1
  rw [← hω1] at hP1 hD1
  obtain ⟨hP, hD⟩ := va_join (wr := pM cZ cI g 0 0 (some 0) (fun _ => false)) (w1 := pD cZ cI a o o' q κ0 ω1 ωz (zN σ0 + 1, zM σ0, va_up (zS σ0) (zN σ0) false, zC σ0, zF σ0, zG σ0, zP σ0, zT σ0, zL σ0) ++ [(u, .inl (cJ, 1, .inr (.inl (vp_updL (fun _ => (0 : Int64)) (nI 0).toNatClampNeg (nI (zN σ0 + 1 - 1)).toInt64))))]) hP hD [0, 1, 2, 3, 4, 5, 6, 7, 8, 9, 10, 11, 12, 13, 14, 15, 16, 17, 18, 28] [19, 20, 21, 22, 23, 24, 25, 26, 27] rfl rfl (by decide) (by decide) hk1 hFc hP1 hD1
  replace hP : va_P D vwCl (pM cZ cI g 0 0 (some 0) (fun _ => false) ++ pD cZ cI a o o' q κ0 ω1 ωz (zN σ0 + 1, zM σ0, va_up (zS σ0) (zN σ0) false, zC σ0, zF σ0, zG σ0, zP σ0, zT σ0, zL σ0) ++ [(u, .inl (cJ, 1, .inr (.inl (vp_updL (fun _ => (0 : Int64)) (nI 0).toNatClampNeg (nI (zN σ0 + 1 - 1)).toInt64))))]) H1 := hP
  replace hD : va_D (fun q : Nat => s.heap.size ≤ q) (pM cZ cI g 0 0 (some 0) (fun _ => false) ++ pD cZ cI a o o' q κ0 ω1 ωz (zN σ0 + 1, zM σ0, va_up (zS σ0) (zN σ0) false, zC σ0, zF σ0, zG σ0, zP σ0, zT σ0, zL σ0) ++ [(u, .inl (cJ, 1, .inr (.inl (vp_updL (fun _ => (0 : Int64)) (nI 0).toNatClampNeg (nI (zN σ0 + 1 - 1)).toInt64))))]) := hD
  generalize H1 = H at hP hS ⊢
  subst hw
  refine lv_istore (lv' := [(5, .int (nI 0)), (4, .int (nI 0)), (3, .ref u), (2, .ref (g 0)), (1, .ref a), (0, .ref b)]) hx hb dL_law_215 hl (by decide) rfl (fun ls hl => ?_)
  refine lv_aload_n hx hb dL_law_217 rfl (lv_at hl 3 rfl) ?_
  refine lv_aload_n hx hb dL_law_218 rfl (lv_at hl 5 rfl) ?_
  refine lv_iload hx hb dL_law_219 (lv_at hl 1 rfl) ?_
  refine lv_iconst (v := nI 1) hx hb dL_law_221 (by decide) ?_
  refine lv_iadd hx hb dL_law_222 ?_
  refine rv_top (show nI 0 + nI 1 = nI 1 from by decide) ?_
  refine va_sld hx hb hX hbl hbA hS (nI_in (by decide) (by decide)) dL_law_223 ?_
  refine rv_top (show xs (nI 1).toNatClampNeg = xs 1 from rfl) ?_
  refine lv_if_eq (tgt := 231) hx hb dL_law_224 (by decide) (fun _ => ?_) (fun h => absurd hb9 h)
  refine lv_iconst (v := nI 0) hx hb dL_law_231 (by decide) ?_
  refine rv_top (show nI 0 = bI false from rfl) ?_
  have hPc := hP.sub (ws' := pM cZ cI g 0 0 (some 0) (fun _ => false)) [0, 1, 2, 3, 4, 5, 6, 7, 8] rfl
  have hDc := hD.sub (ws' := pM cZ cI g 0 0 (some 0) (fun _ => false)) [0, 1, 2, 3, 4, 5, 6, 7, 8] (by decide) rfl
  have hFc := va_free (wc := pM cZ cI g 0 0 (some 0) (fun _ => false)) hD hS hA [0, 1, 2, 3, 4, 5, 6, 7, 8] rfl
  refine va_calli (va_runV (As := [.int (bI false)]) (rest := []) ⟨hx, hb, hml, hown, hts⟩ (c_X3_addRoom l D cZ cI g 0 (some 0) H.size false) (cwV 1 hts gL_law_X3_addRoom rfl rfl rfl (by decide +kernel) ⟨Nat.le_of_ble_eq_true rfl, Nat.le_of_ble_eq_true rfl⟩) ⟨WrP_blind, va_recv hZ.1 hP (ci := 3) (q0 := 0) rfl rfl, WrP_start hPc hDc hZ.two⟩ rfl rfl hl.1 rfl (lv_room (Nat.le_of_ble_eq_true rfl)) dL_law_232 ⟨Nat.le_of_ble_eq_true rfl, Nat.le_of_ble_eq_true rfl⟩) hS (fun q _ h => hFc q h) hFc (fun r9 u9 t H1 locs ht hvm hw hB hz1 hk1 hS => ?_)
  obtain ⟨hP1, hD1⟩ := hB
  rw [ht] at hP1
  obtain ⟨hP, hD⟩ := va_join (wr := pD cZ cI a o o' q κ0 ω1 ωz (zN σ0 + 1, zM σ0, va_up (zS σ0) (zN σ0) false, zC σ0, zF σ0, zG σ0, zP σ0, zT σ0, zL σ0) ++ [(u, .inl (cJ, 1, .inr (.inl (vp_updL (fun _ => (0 : Int64)) (nI 0).toNatClampNeg (nI (zN σ0 + 1 - 1)).toInt64))))]) (w1 := pM cZ cI g 0 (0 + 1) (some 0) (va_up (fun _ => false) 0 false)) hP hD [0, 1, 2, 3, 4, 5, 6, 7, 8] [9, 10, 11, 12, 13, 14, 15, 16, 17, 18, 19, 20, 21, 22, 23, 24, 25, 26, 27, 28] rfl rfl (by decide) (by decide) hk1 hFc hP1 hD1
  replace hP : va_P D vwCl (pD cZ cI a o o' q κ0 ω1 ωz (zN σ0 + 1, zM σ0, va_up (zS σ0) (zN σ0) false, zC σ0, zF σ0, zG σ0, zP σ0, zT σ0, zL σ0) ++ [(u, .inl (cJ, 1, .inr (.inl (vp_updL (fun _ => (0 : Int64)) (nI 0).toNatClampNeg (nI (zN σ0 + 1 - 1)).toInt64))))] ++ pM cZ cI g 0 (0 + 1) (some 0) (va_up (fun _ => false) 0 false)) H1 := hP
  replace hD : va_D (fun q : Nat => s.heap.size ≤ q) (pD cZ cI a o o' q κ0 ω1 ωz (zN σ0 + 1, zM σ0, va_up (zS σ0) (zN σ0) false, zC σ0, zF σ0, zG σ0, zP σ0, zT σ0, zL σ0) ++ [(u, .inl (cJ, 1, .inr (.inl (vp_updL (fun _ => (0 : Int64)) (nI 0).toNatClampNeg (nI (zN σ0 + 1 - 1)).toInt64))))] ++ pM cZ cI g 0 (0 + 1) (some 0) (va_up (fun _ => false) 0 false)) := hD
  generalize H1 = H at hP hS ⊢
  obtain rfl : r9 = (nI 0 : Int32) := hw
  refine lv_istore (lv' := [(6, .int (nI 0)), (5, .int (nI 0)), (4, .int (nI 0)), (3, .ref u), (2, .ref (g 0)), (1, .ref a), (0, .ref b)]) hx hb dL_law_235 hl (by decide) rfl (fun ls hl => ?_)
  refine lv_aload_n hx hb dL_law_237 rfl (lv_at hl 4 rfl) ?_
  refine vp_callSi (va_runV (As := []) (rest := []) ⟨hx, hb, hml, hown, hts⟩ (c_X3_thrown9 l D cZ cI g 0 (0 + 1) (some 0) (va_up (fun _ => false) 0 false)) (cwV 0 hts gL_law_X3_thrown rfl rfl rfl (by decide +kernel) ⟨Nat.le_of_ble_eq_true rfl, Nat.le_of_ble_eq_true rfl⟩) ⟨RdP_blind, va_recv hZ.1 hP (ci := 3) (q0 := 20) rfl rfl, RdP_start (hP.sub (ws' := pM cZ cI g 0 (0 + 1) (some 0) (va_up (fun _ => false) 0 false)) [20, 21, 22, 23, 24, 25, 26, 27, 28] rfl) hZ.two⟩ rfl rfl hl.1 rfl (lv_room (Nat.le_of_ble_eq_true rfl)) dL_law_238 ⟨Nat.le_of_ble_eq_true rfl, Nat.le_of_ble_eq_true rfl⟩).run (fun r9 hq1 => ?_)
  obtain rfl : r9 = nI 0 := hq1
  refine lv_iload hx hb dL_law_241 (lv_at hl 1 rfl) ?_
  refine lv_icmp_eq (tgt := 248) hx hb dL_law_243 (by decide) (fun _ => ?_) (fun h => absurd (by first | rfl | decide) h)
  refine lv_iload hx hb dL_law_248 (lv_at hl 1 rfl) ?_
  refine lv_if_ne (tgt := 265) hx hb dL_law_250 (by decide) (fun h => absurd rfl h) (fun _ => ?_)
  refine lv_aload_n hx hb dL_law_253 rfl (lv_at hl 3 rfl) ?_
  refine lv_iconst (v := nI 0) hx hb dL_law_254 (by decide) ?_
  refine va_lald hx hb hZ.1 hP 19 2 rfl rfl (nI_in (by decide) (by decide)) dL_law_255 ?_
  refine lv_iload hx hb dL_law_256 (lv_at hl 0 rfl) ?_
  refine lv_i2l (v := (nI 0).toInt64) hx hb dL_law_258 rfl ?_
  refine W.lcmp hx hb dL_law_259 ?_
  refine lv_if_eq (tgt := 265) hx hb dL_law_260 (by decide) (fun _ => ?_) (fun h => absurd (by first | rfl | decide +kernel) h)
  refine lv_goto (tgt := 1676) hx hb dL_law_265 (by decide) ?_
  exact lk_end l C0 hS (Nat.le_of_ble_eq_true rfl) (Nat.le_of_ble_eq_true rfl) (lv_sub hl [2, 6] rfl)

