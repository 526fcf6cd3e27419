set_option maxHeartbeats 2000000 in
set_option maxRecDepth 100000 in
theorem lr_begin {p : Program} {e : Env} {s : State} {m : MethodId} {below : List Frame} {meth : Method} {c : Code} {l : Launch} {b L : Nat} {xs : Nat → Int32} {D : va_G} {cZ cI cJ : ClassId} (C : lR_At p s m meth c b L xs) (hZ : zKJ D cZ cI cJ s) (K : Nat) {Q : State → Prop} {ce sl : Nat} (hce : ce + 1 ≤ 30 + 330 * K) (hsl : sl + 768 ≤ 3867 + 48240 * K) {a u : Nat} {o o' q g : Nat → Nat} {i : Nat} (hi : i + 5 ≤ L) (hL31 : L < 2 ^ 31) (h0 : xs i = nI 4) (h1 : xs (i + 1) = nI 0) (h2 : xs (i + 2) = nI 1) {ω : OS} (hL : LK (σd 2) ω) {f : Nat → Int64} {pl : va_W} {H : Heap} {locs : List Loc}  (hP : va_P D vwCl (pD cZ cI a o o' q κ0 ω ωz (σd 2) ++ pR cZ cI g 0 2 0 false false 0 0 0 (fun _ => false) (fun _ _ _ => some 0) ++ [(u, .inl (cJ, 1, .inr (.inl f)))] ++ pl) H) (hD : va_D (fun q : Nat => s.heap.size ≤ q) (pD cZ cI a o o' q κ0 ω ωz (σd 2) ++ pR cZ cI g 0 2 0 false false 0 0 0 (fun _ => false) (fun _ _ _ => some 0) ++ [(u, .inl (cJ, 1, .inr (.inl f)))] ++ pl)) (hS : va_S (fun q : Nat => s.heap.size ≤ q) s.heap H locs) {ls : Array Slot} (hl : lv_has ls 9 [(4, .int (nI i)), (3, .ref u), (2, .ref (g 0)), (1, .ref a), (0, .ref b)])
    (KK : ∀ (T1 : Nat → Nat → Nat → Option Nat) (f1 : Nat → Int64) (H : Heap) (locs : List Loc) (ls : Array Slot), va_P D vwCl (pD cZ cI a o o' q (0, true, false, some 0, some 1, 0) ω ωz (σd 2) ++ pR cZ cI g 0 2 0 true false 0 1 0 (fun _ => false) T1 ++ [(u, .inl (cJ, 1, .inr (.inl f1)))] ++ pl) H → va_D (fun q : Nat => s.heap.size ≤ q) (pD cZ cI a o o' q (0, true, false, some 0, some 1, 0) ω ωz (σd 2) ++ pR cZ cI g 0 2 0 true false 0 1 0 (fun _ => false) T1 ++ [(u, .inl (cJ, 1, .inr (.inl f1)))] ++ pl) → va_S (fun q : Nat => s.heap.size ≤ q) s.heap H locs → lv_has ls 9 [(4, .int (nI (i + 5))), (3, .ref u), (2, .ref (g 0)), (1, .ref a), (0, .ref b)] → W p l e (R9 K) s m #[Value.ref b] below meth c H locs (ce + 1) (sl + 768) Q (F0 m 23 ls [])) : W p l e (R9 K) s m #[Value.ref b] below meth c H locs (ce) (sl) Q (F0 m 23 ls []) := by
  obtain ⟨hx, hb, hr, hml, hown, hts0, hX, hbl, hlocks⟩ := id C
  have hown : s.vm.findClass RL = some m.cls := hown
  have hts : ∀ w ∈ wsL_law, w.before #[Value.ref b] s = true := fun w h => hts0 w (wsL_law_in w h)
  have hA : ∀ q : Nat, s.heap.size ≤ q → (fun q : Nat => s.heap.size ≤ q) q := fun _ h => h
  have hbA : ¬ (fun q : Nat => s.heap.size ≤ q) b := Nat.not_le.mpr hbl
  have hR0 : ce + 0 ≤ (R9 K).cells ∧ sl + 0 ≤ (R9 K).slots := ⟨(show ce + 0 ≤ 30 + 330 * K by omega), (show sl + 0 ≤ 3867 + 48240 * K by omega)⟩
  refine lv_iload hx hb dL_law_23 (lv_at hl 0 rfl) ?_
  refine lv_aload_n hx hb dL_law_25 rfl (lv_at hl 4 rfl) ?_
  refine va_slen hx hb hX hbl hbA hS dL_law_26 ?_
  refine rv_top (show Int32.ofNat L = nI L from rfl) ?_
  refine lv_iconst (v := nI 5) hx hb dL_law_27 (by decide) ?_
  refine rv_sub hx hb (by omega) dL_law_28 ?_
  refine rv_gt (tgt := 1682) hx hb (by omega) (by omega) dL_law_29 (by decide) (fun q => absurd q (by omega)) (fun _ => ?_)
  refine lv_aload_n hx hb dL_law_32 rfl (lv_at hl 4 rfl) ?_
  refine lv_iload hx hb dL_law_33 (lv_at hl 0 rfl) ?_
  refine va_sld hx hb hX hbl hbA hS (nI_in (by omega) hL31) dL_law_35 ?_
  refine rv_top (show xs (nI i).toNatClampNeg = nI 4 from by rw [nI_clamp (by omega)]; exact h0) ?_
  refine lv_bipush (v := nI 63) hx hb dL_law_36 (by decide) ?_
  refine lv_iand hx hb dL_law_38 ?_
  refine rv_top (show (nI 4 : Int32) &&& nI 63 = nI 4 from by decide) ?_
  refine lv_tableIn (off := 452) (tgt := 491) hx hb dL_law_39 (by decide) (by decide) rfl (by decide) ?_
  refine lv_aload_n hx hb dL_law_491 rfl (lv_at hl 3 rfl) ?_
  refine lv_aload_n hx hb dL_law_492 rfl (lv_at hl 4 rfl) ?_
  refine lv_iload hx hb dL_law_493 (lv_at hl 0 rfl) ?_
  refine lv_iconst (v := nI 1) hx hb dL_law_495 (by decide) ?_
  refine rv_add hx hb dL_law_496 ?_
  refine va_sld hx hb hX hbl hbA hS (nI_in (by omega) hL31) dL_law_497 ?_
  refine rv_top (show xs (nI (i + 1)).toNatClampNeg = nI 0 from by rw [nI_clamp (by omega)]; exact h1) ?_
  refine lv_aload_n hx hb dL_law_498 rfl (lv_at hl 4 rfl) ?_
  refine lv_iload hx hb dL_law_499 (lv_at hl 0 rfl) ?_
  refine lv_iconst (v := nI 2) hx hb dL_law_501 (by decide) ?_
  refine rv_add hx hb dL_law_502 ?_
  refine va_sld hx hb hX hbl hbA hS (nI_in (by omega) hL31) dL_law_503 ?_
  refine rv_top (show xs (nI (i + 2)).toNatClampNeg = nI 1 from by rw [nI_clamp (by omega)]; exact h2) ?_
  refine lv_aload_n hx hb dL_law_504 rfl (lv_at hl 1 rfl) ?_
  have hPc := hP.sub (ws' := pD cZ cI a o o' q κ0 ω ωz (σd 2) ++ [(u, .inl (cJ, 1, .inr (.inl f)))]) [0, 1, 2, 3, 4, 5, 6, 7, 8, 9, 10, 11, 12, 13, 14, 15, 16, 17, 18, 28] rfl
  have hDc := hD.sub (ws' := pD cZ cI a o o' q κ0 ω ωz (σd 2) ++ [(u, .inl (cJ, 1, .inr (.inl f)))]) [0, 1, 2, 3, 4, 5, 6, 7, 8, 9, 10, 11, 12, 13, 14, 15, 16, 17, 18, 28] (by decide) rfl
  have hFc := va_free (wc := pD cZ cI a o o' q κ0 ω ωz (σd 2) ++ [(u, .inl (cJ, 1, .inr (.inl f)))]) hD hS hA [0, 1, 2, 3, 4, 5, 6, 7, 8, 9, 10, 11, 12, 13, 14, 15, 16, 17, 18, 28] rfl
  refine va_calli (vx_runSW (As := [.ref a, .int (nI 0), .int (nI 1), .ref u]) (rest := []) ⟨hx, hb, hml, hown, hts⟩ (vx_toMet (r_L_begin l D cZ cI cJ a o o' q κ0 ω ωz hL u H.size f)) (vx_cwSW 4 hts gL_law_L_begin rfl rfl rfl (by decide +kernel) ⟨Nat.le_of_ble_eq_true rfl, Nat.le_of_ble_eq_true rfl⟩) ⟨WjP_blind, WjP_start hPc hDc hZ⟩ rfl rfl hl.1 rfl (lv_room (Nat.le_of_ble_eq_true rfl)) dL_law_505 hR0) hS (fun q _ h => hFc q h) hFc (fun r9 u9 t H1 locs ht hvm hw hB hz1 hk1 hS => ?_)
  obtain ⟨hP1, hD1⟩ := hB
  rw [ht] at hP1
  obtain ⟨hP, hD⟩ := va_joinQ (wr := pR cZ cI g 0 2 0 false false 0 0 0 (fun _ => false) (fun _ _ _ => some 0)) (w1 := pD cZ cI a o o' q (0, true, false, some 0, some 1, 0) ω ωz (σd 2) ++ [(u, .inl (cJ, 1, .inr (.inl (vp_updL f (nI 0).toNatClampNeg ((-1 : Int32)).toInt64))))]) (cx := pD cZ cI a o o' q κ0 ω ωz (σd 2) ++ [(u, .inl (cJ, 1, .inr (.inl f)))]) hP hD [0, 1, 2, 3, 4, 5, 6, 7, 8, 9, 10, 11, 12, 13, 14, 15, 16, 17, 18, 28] [19, 20, 21, 22, 23, 24, 25, 26, 27] rfl rfl rfl (by decide) hk1 hFc hP1 hD1
  replace hP := va_P.part (cx := pD cZ cI a o o' q (0, true, false, some 0, some 1, 0) ω ωz (σd 2) ++ pR cZ cI g 0 2 0 false false 0 0 0 (fun _ => false) (fun _ _ _ => some 0) ++ [(u, .inl (cJ, 1, .inr (.inl (vp_updL f (nI 0).toNatClampNeg ((-1 : Int32)).toInt64))))]) hP [9, 10, 11, 12, 13, 14, 15, 16, 17, 18, 19, 20, 21, 22, 23, 24, 25, 26, 27, 0, 1, 2, 3, 4, 5, 6, 7, 8, 28] rfl
  replace hD := va_D.part (cx := pD cZ cI a o o' q (0, true, false, some 0, some 1, 0) ω ωz (σd 2) ++ pR cZ cI g 0 2 0 false false 0 0 0 (fun _ => false) (fun _ _ _ => some 0) ++ [(u, .inl (cJ, 1, .inr (.inl (vp_updL f (nI 0).toNatClampNeg ((-1 : Int32)).toInt64))))]) hD [9, 10, 11, 12, 13, 14, 15, 16, 17, 18, 19, 20, 21, 22, 23, 24, 25, 26, 27, 0, 1, 2, 3, 4, 5, 6, 7, 8, 28] rfl rfl
  clear hP1 hD1 hFc hPc hDc
  generalize H1 = H at hP hS ⊢
  obtain rfl : r9 = nI 0 := hw
  obtain ⟨f1, hf1⟩ : ∃ f1 : Nat → Int64, f1 = (vp_updL f (nI 0).toNatClampNeg ((-1 : Int32)).toInt64) := ⟨_, rfl⟩
  rw [← hf1] at hP hD
  have hf0 : f1 (nI 0).toNatClampNeg = ((-1 : Int32) : Int32).toInt64 := by rw [hf1]; exact if_pos rfl
  have hP : va_P D vwCl (pD cZ cI a o o' q (0, true, false, some 0, some 1, 0) ω ωz (σd 2) ++ pR cZ cI g 0 2 0 false false 0 0 0 (fun _ => false) (fun _ _ _ => some 0) ++ [(u, .inl (cJ, 1, .inr (.inl f1)))] ++ pl) H := hP
  have hD : va_D (fun q : Nat => s.heap.size ≤ q) (pD cZ cI a o o' q (0, true, false, some 0, some 1, 0) ω ωz (σd 2) ++ pR cZ cI g 0 2 0 false false 0 0 0 (fun _ => false) (fun _ _ _ => some 0) ++ [(u, .inl (cJ, 1, .inr (.inl f1)))] ++ pl) := hD
  refine lv_istore (lv' := [(5, .int (nI 0)), (4, .int (nI i)), (3, .ref u), (2, .ref (g 0)), (1, .ref a), (0, .ref b)]) hx hb dL_law_508 hl (by decide) rfl (fun ls hl => ?_)
  refine lv_aload_n hx hb dL_law_510 rfl (lv_at hl 3 rfl) ?_
  refine lv_aload_n hx hb dL_law_511 rfl (lv_at hl 5 rfl) ?_
  refine lv_iload hx hb dL_law_512 (lv_at hl 1 rfl) ?_
  refine lv_iconst (v := nI 1) hx hb dL_law_514 (by decide) ?_
  refine rv_add hx hb dL_law_515 ?_
  refine va_sld hx hb hX hbl hbA hS (nI_in (by omega) hL31) dL_law_516 ?_
  refine rv_top (show xs (nI (i + 1)).toNatClampNeg = nI 0 from by rw [nI_clamp (by omega)]; exact h1) ?_
  refine lv_aload_n hx hb dL_law_517 rfl (lv_at hl 5 rfl) ?_
  refine lv_iload hx hb dL_law_518 (lv_at hl 1 rfl) ?_
  refine lv_iconst (v := nI 2) hx hb dL_law_520 (by decide) ?_
  refine rv_add hx hb dL_law_521 ?_
  refine va_sld hx hb hX hbl hbA hS (nI_in (by omega) hL31) dL_law_522 ?_
  refine rv_top (show xs (nI (i + 2)).toNatClampNeg = nI 1 from by rw [nI_clamp (by omega)]; exact h2) ?_
  have hPc := hP.sub (ws' := pR cZ cI g 0 2 0 false false 0 0 0 (fun _ => false) (fun _ _ _ => some 0)) [19, 20, 21, 22, 23, 24, 25, 26, 27] rfl
  have hDc := hD.sub (ws' := pR cZ cI g 0 2 0 false false 0 0 0 (fun _ => false) (fun _ _ _ => some 0)) [19, 20, 21, 22, 23, 24, 25, 26, 27] (by decide) rfl
  have hFc := va_free (wc := pR cZ cI g 0 2 0 false false 0 0 0 (fun _ => false) (fun _ _ _ => some 0)) hD hS hA [19, 20, 21, 22, 23, 24, 25, 26, 27] rfl
  refine va_calli (va_runV (As := [.int (nI 0), .int (nI 1)]) (rest := []) ⟨hx, hb, hml, hown, hts⟩ (r_X3_begin l D cZ cI g 0 0 false false 0 0 0 (fun _ _ _ => some 0) H.size) (cwV 2 hts gL_law_X3_begin rfl rfl rfl (by decide +kernel) ⟨Nat.le_of_ble_eq_true rfl, Nat.le_of_ble_eq_true rfl⟩) ⟨WrP_blind, va_recv hZ.1 hP (ci := 3) (q0 := 19) rfl rfl, WrP_start hPc hDc hZ.two⟩ rfl rfl hl.1 rfl (lv_room (Nat.le_of_ble_eq_true rfl)) dL_law_523 ⟨hce, hsl⟩) hS (fun q _ h => hFc q h) hFc (fun r9 u9 t H1 locs ht hvm hw hB hz1 hk1 hS => ?_)
  obtain ⟨a9, g9, T1⟩ := u9
  obtain ⟨hw, -⟩ := hw
  obtain ⟨hP1, hD1⟩ := hB
  rw [ht] at hP1
  obtain ⟨hP, hD⟩ := va_joinQ (wr := pD cZ cI a o o' q (0, true, false, some 0, some 1, 0) ω ωz (σd 2) ++ [(u, .inl (cJ, 1, .inr (.inl f1)))]) (w1 := pR cZ cI g 0 2 0 true false 0 1 0 (fun _ => false) T1 ++ [(a9, .inl (cZ, 768, .inl g9))]) (cx := pR cZ cI g 0 2 0 false false 0 0 0 (fun _ => false) (fun _ _ _ => some 0)) hP hD [19, 20, 21, 22, 23, 24, 25, 26, 27] [0, 1, 2, 3, 4, 5, 6, 7, 8, 9, 10, 11, 12, 13, 14, 15, 16, 17, 18, 28] rfl rfl rfl (by decide) hk1 hFc hP1 hD1
  replace hP := va_P.part (cx := pD cZ cI a o o' q (0, true, false, some 0, some 1, 0) ω ωz (σd 2) ++ pR cZ cI g 0 2 0 true false 0 1 0 (fun _ => false) T1 ++ [(u, .inl (cJ, 1, .inr (.inl f1)))]) hP [0, 1, 2, 3, 4, 5, 6, 7, 8, 9, 10, 11, 12, 13, 14, 15, 16, 17, 18, 20, 21, 22, 23, 24, 25, 26, 27, 28, 19] rfl
  replace hD := va_D.part (cx := pD cZ cI a o o' q (0, true, false, some 0, some 1, 0) ω ωz (σd 2) ++ pR cZ cI g 0 2 0 true false 0 1 0 (fun _ => false) T1 ++ [(u, .inl (cJ, 1, .inr (.inl f1)))]) hD [0, 1, 2, 3, 4, 5, 6, 7, 8, 9, 10, 11, 12, 13, 14, 15, 16, 17, 18, 20, 21, 22, 23, 24, 25, 26, 27, 28, 19] rfl rfl
  clear hP1 hD1 hFc hPc hDc
  generalize H1 = H at hP hS ⊢
  obtain rfl : r9 = (-1 : Int32) := hw
  have hP : va_P D vwCl (pD cZ cI a o o' q (0, true, false, some 0, some 1, 0) ω ωz (σd 2) ++ pR cZ cI g 0 2 0 true false 0 1 0 (fun _ => false) T1 ++ [(u, .inl (cJ, 1, .inr (.inl f1)))] ++ pl) H := hP
  have hD : va_D (fun q : Nat => s.heap.size ≤ q) (pD cZ cI a o o' q (0, true, false, some 0, some 1, 0) ω ωz (σd 2) ++ pR cZ cI g 0 2 0 true false 0 1 0 (fun _ => false) T1 ++ [(u, .inl (cJ, 1, .inr (.inl f1)))] ++ pl) := hD
  have hR0 : ce + 1 + 0 ≤ (R9 K).cells ∧ sl + 768 + 0 ≤ (R9 K).slots := ⟨hce, hsl⟩
  refine lv_istore (lv' := [(6, .int ((-1 : Int32))), (5, .int (nI 0)), (4, .int (nI i)), (3, .ref u), (2, .ref (g 0)), (1, .ref a), (0, .ref b)]) hx hb dL_law_526 hl (by decide) rfl (fun ls hl => ?_)
  refine lv_aload_n hx hb dL_law_528 rfl (lv_at hl 4 rfl) ?_
  refine vp_callSi (va_runV (As := []) (rest := []) ⟨hx, hb, hml, hown, hts⟩ (r_X3_thrown l D cZ cI g 0 2 0 true false 0 1 0 T1) (cwV 0 hts gL_law_X3_thrown rfl rfl rfl (by decide +kernel) ⟨Nat.le_of_ble_eq_true rfl, Nat.le_of_ble_eq_true rfl⟩) ⟨RdP_blind, va_recv hZ.1 hP (ci := 3) (q0 := 19) rfl rfl, RdP_start (hP.sub (ws' := pR cZ cI g 0 2 0 true false 0 1 0 (fun _ => false) T1) [19, 20, 21, 22, 23, 24, 25, 26, 27] rfl) hZ.two⟩ rfl rfl hl.1 rfl (lv_room (Nat.le_of_ble_eq_true rfl)) dL_law_529 hR0).run (fun r9 hq => ?_)
  obtain rfl : r9 = nI 0 := hq
  refine lv_iload hx hb dL_law_532 (lv_at hl 1 rfl) ?_
  refine lv_icmp_eq (tgt := 539) hx hb dL_law_534 (by decide) (fun _ => ?_) (fun h => absurd rfl h)
  refine lv_iload hx hb dL_law_539 (lv_at hl 1 rfl) ?_
  refine lv_if_ne (tgt := 556) hx hb dL_law_541 (by decide) (fun h => absurd rfl h) (fun _ => ?_)
  refine lv_aload_n hx hb dL_law_544 rfl (lv_at hl 3 rfl) ?_
  refine lv_iconst (v := nI 0) hx hb dL_law_545 (by decide) ?_
  refine va_lald hx hb hZ.1 hP 28 2 rfl rfl (nI_in (by decide) (by decide)) dL_law_546 ?_
  rw [hf0]
  refine lv_iload hx hb dL_law_547 (lv_at hl 0 rfl) ?_
  refine lv_i2l (v := ((-1 : Int32) : Int32).toInt64) hx hb dL_law_549 rfl ?_
  refine W.lcmp hx hb dL_law_550 ?_
  refine lv_if_eq (tgt := 556) hx hb dL_law_551 (by decide) (fun _ => ?_) (fun h => absurd (by first | rfl | decide +kernel) h)
  refine lv_goto (tgt := 1676) hx hb dL_law_556 (by decide) ?_
  refine lv_iinc (v := nI (i + 5)) (lv' := [(4, .int (nI (i + 5))), (6, .int ((-1 : Int32))), (5, .int (nI 0)), (3, .ref u), (2, .ref (g 0)), (1, .ref a), (0, .ref b)]) hx hb dL_law_1676 hl (k := 2) rfl (nI_add i 5) (by decide) rfl (fun ls hl => ?_)
  refine lv_goto (tgt := 23) hx hb dL_law_1679 (by decide) ?_
  exact KK T1 f1 H locs ls hP hD hS (lv_sub hl [0, 3, 4, 5, 6] rfl)

