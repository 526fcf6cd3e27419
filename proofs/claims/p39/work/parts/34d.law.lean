set_option maxHeartbeats 4000000 in
set_option maxRecDepth 100000 in
theorem lg_yes {p : Program} {e : Env} {s : State} {m : MethodId} {below : List Frame} {meth : Method} {c : Code} {l : Launch} {b L : Nat} {xs : Nat → Int32} {D : va_G} {cZ cI cR : ClassId} (C : LwC p s m meth c b L xs D cZ cI cR) {H : Heap} {locs : List Loc} (hS : va_S (fun q : Nat => s.heap.size ≤ q) s.heap H locs) {pc : Nat} (hdg : decode cL_law pc = .ok (.ireturn, 1)) {ls : Array Slot} : W p l e room_1 s m #[Value.ref b] below meth c H locs 36 2330 (lw_Z below #[Value.ref b] s) (F0 m pc ls [.int (nI 1)]) := by
  obtain ⟨⟨hx, hb, hr, hml, hown, hts0, hX, hbl, hlocks, hgv⟩, hZ, hL⟩ := id C
  have hown : s.vm.findClass RL = some m.cls := hown
  have hts : ∀ w ∈ wsL_law, w.before #[Value.ref b] s = true := fun w h => hts0 w (wsL_law_in w h)
  have hA : ∀ q : Nat, s.heap.size ≤ q → (fun q : Nat => s.heap.size ≤ q) q := fun _ h => h
  have hbA : ¬ (fun q : Nat => s.heap.size ≤ q) b := Nat.not_le.mpr hbl
  refine va_forget (fun q hq => hS.2.2 q hq) ?_
  refine W.widen (k := room_1.cells) (n := room_1.slots) (Nat.le_of_ble_eq_true rfl) (Nat.le_of_ble_eq_true rfl) ?_
  have hd0 := Drawn.sameBut.refl s.drawn lw_cs
  refine W.base ?_
  exact lw_ret hd0 hx hb hr hlocks hdg
set_option maxHeartbeats 4000000 in
set_option maxRecDepth 100000 in
theorem lg_end {p : Program} {e : Env} {s : State} {m : MethodId} {below : List Frame} {meth : Method} {c : Code} {l : Launch} {b L : Nat} {xs : Nat → Int32} {D : va_G} {cZ cI cR : ClassId} (C : LwC p s m meth c b L xs D cZ cI cR) {a sf n ra dn : Nat} {o o' q : Nat → Nat} {S : Nat → Bool} {fr : Nat → Option Nat} {ω : OS} {κ : CS} {ω' : OS} {σ : HS} {w : Option Nat} {ch t : Nat} {H : Heap} {locs : List Loc} (hI : LgS n S dn σ ω) (hk : LgK σ ω w t κ) (ht14 : t ≤ 14) (hex : t = 14 ∨ ko κ = false) (hwl : ∀ k, w = some k → k < 2 ^ 31) (hP : va_P D vwCl (pD cZ cI a o o' q κ ω ω' σ ++ wSf cZ sf n S ++ wDr cR ra dn fr) H) (hD : va_D (fun q : Nat => s.heap.size ≤ q) (pD cZ cI a o o' q κ ω ω' σ ++ wSf cZ sf n S ++ wDr cR ra dn fr)) (hS : va_S (fun q : Nat => s.heap.size ≤ q) s.heap H locs) {ls : Array Slot} (hl : lv_has ls 21 [(8, .int (nI t)), (7, .int (iO w)), (5, .int (nI ch)), (4, .ref ra), (3, .int (nI n)), (2, .ref sf), (1, .ref a), (0, .ref b)]) : W p l e room_1 s m #[Value.ref b] below meth c H locs 36 2330 (lw_Z below #[Value.ref b] s) (F0 m 482 ls []) := by
  obtain ⟨⟨hx, hb, hr, hml, hown, hts0, hX, hbl, hlocks, hgv⟩, hZ, hL⟩ := id C
  have hown : s.vm.findClass RL = some m.cls := hown
  have hts : ∀ w ∈ wsL_law, w.before #[Value.ref b] s = true := fun w h => hts0 w (wsL_law_in w h)
  have hA : ∀ q : Nat, s.heap.size ≤ q → (fun q : Nat => s.heap.size ≤ q) q := fun _ h => h
  have hbA : ¬ (fun q : Nat => s.heap.size ≤ q) b := Nat.not_le.mpr hbl
  have hN := hI.1.1
  have hzn := hI.2.2.2.2.1
  have hzm := hI.1.2.1
  have hdn := hI.2.2.2.2.2.2
  have hT : tOk ω := hI.2.2.2.1.tOk
  refine lv_iload hx hb dL_law_482 (lv_at hl 1 rfl) ?_
  cases w with
  | none =>
    rcases hk with ⟨cg, ct, mo, ea, rfl, hO, hv⟩ | ⟨ea, rfl, hw⟩
    · skip
      have hct : ct < zN σ := hO.2.2.2.2.1
      have hmo : mo < zN σ := hO.2.2.2.2.2.2.1
      refine lv_if_ge (tgt := 529) hx hb dL_law_484 (by decide) (fun h => absurd h (by decide)) (fun _ => ?_)
      have hl : lv_has ls 21 [(8, .int (nI t)), (7, .int (iO none)), (5, .int (nI ch)), (4, .ref ra), (3, .int (nI n)), (2, .ref sf), (1, .ref a), (0, .ref b)] := hl
      refine lv_aload_n hx hb dL_law_487 rfl (lv_at hl 6 rfl) ?_
      refine vp_callSi (va_runV (As := []) (rest := []) ⟨hx, hb, hml, hown, hts⟩ (c_X2_isOn l D cZ cI a o o' q (t, true, cg, some ct, some mo, ea) ω ω' σ) (cwV 0 hts gL_law_X2_isOn rfl rfl rfl (by decide +kernel) ⟨Nat.le_of_ble_eq_true rfl, Nat.le_of_ble_eq_true rfl⟩) ⟨RdP_blind, va_recv hZ.1 hP (ci := 2) (q0 := 0) rfl rfl, RdP_start (hP.sub (ws' := pD cZ cI a o o' q (t, true, cg, some ct, some mo, ea) ω ω' σ) [0, 1, 2, 3, 4, 5, 6, 7, 8, 9, 10, 11, 12, 13, 14, 15, 16, 17, 18] rfl) hZ.two⟩ rfl rfl hl.1 rfl (lv_room (Nat.le_of_ble_eq_true rfl)) dL_law_488 ⟨Nat.le_of_ble_eq_true rfl, Nat.le_of_ble_eq_true rfl⟩).run (fun r9 hq => ?_)
      obtain rfl : r9 = (bI true : Int32) := hq
      refine rv_ifeqB (tgt := 527) hx hb dL_law_491 (by decide) (fun h => absurd h.symm Bool.false_ne_true) (fun _ => ?_)
      refine lv_aload_n hx hb dL_law_494 rfl (lv_at hl 6 rfl) ?_
      refine lv_bipush (v := nI 20) hx hb dL_law_495 (by decide) ?_
      obtain ⟨p1, p2, ct2, mo2, ea2, p3, p4, p5⟩ := pl_never (σ := σ) (ω := ω) 20 0 t ct mo ea cg (zC σ) hI.1.2.2.2.2.2.2 hO hv
      have hPc := hP.sub (ws' := pD cZ cI a o o' q (t, true, cg, some ct, some mo, ea) ω ω' σ) [0, 1, 2, 3, 4, 5, 6, 7, 8, 9, 10, 11, 12, 13, 14, 15, 16, 17, 18] rfl
      have hDc := hD.sub (ws' := pD cZ cI a o o' q (t, true, cg, some ct, some mo, ea) ω ω' σ) [0, 1, 2, 3, 4, 5, 6, 7, 8, 9, 10, 11, 12, 13, 14, 15, 16, 17, 18] (by decide) rfl
      have hFc := va_free (wc := pD cZ cI a o o' q (t, true, cg, some ct, some mo, ea) ω ω' σ) hD hS hA [0, 1, 2, 3, 4, 5, 6, 7, 8, 9, 10, 11, 12, 13, 14, 15, 16, 17, 18] rfl
      refine va_calli (va_runV (As := [.int (nI 20)]) (rest := []) ⟨hx, hb, hml, hown, hts⟩ (c_X2_play l D cZ cI a o o' q t cg ct mo ea ω ω' σ H.size 20 hI.1 hct hmo (by omega) (by decide) (by decide) hT) (cwV 1 hts gL_law_X2_play rfl rfl rfl (by decide +kernel) ⟨Nat.le_of_ble_eq_true rfl, Nat.le_of_ble_eq_true rfl⟩) ⟨WrP_blind, va_recv hZ.1 hP (ci := 2) (q0 := 0) rfl rfl, WrP_start hPc hDc hZ.two⟩ rfl rfl hl.1 rfl (lv_room (Nat.le_of_ble_eq_true rfl)) dL_law_497 ⟨Nat.le_of_ble_eq_true rfl, Nat.le_of_ble_eq_true rfl⟩) hS (fun q _ h => hFc q h) hFc (fun r9 u9 t9 H1 locs ht hvm hw hB hz1 hk1 hS => ?_)
      obtain ⟨hP1, hD1⟩ := hB
      rw [ht] at hP1
      obtain ⟨hP, hD⟩ := va_join (wr := wSf cZ sf n S ++ wDr cR ra dn fr) (w1 := pD cZ cI a o o' q (plL σ ω 20 0 (t, true, cg, some ct, some mo, ea) (zC σ)).2.1 ω ω' (zN σ, zM σ, zS σ, (plL σ ω 20 0 (t, true, cg, some ct, some mo, ea) (zC σ)).2.2, zF σ, zG σ, zP σ, zT σ, zL σ)) hP hD [0, 1, 2, 3, 4, 5, 6, 7, 8, 9, 10, 11, 12, 13, 14, 15, 16, 17, 18] [19, 20] rfl rfl (by decide) (by decide) hk1 hFc hP1 hD1
      replace hP := hP.sub (ws' := pD cZ cI a o o' q (plL σ ω 20 0 (t, true, cg, some ct, some mo, ea) (zC σ)).2.1 ω ω' (zN σ, zM σ, zS σ, (plL σ ω 20 0 (t, true, cg, some ct, some mo, ea) (zC σ)).2.2, zF σ, zG σ, zP σ, zT σ, zL σ) ++ wSf cZ sf n S ++ wDr cR ra dn fr) [2, 3, 4, 5, 6, 7, 8, 9, 10, 11, 12, 13, 14, 15, 16, 17, 18, 19, 20, 0, 1] rfl
      replace hD := hD.sub (ws' := pD cZ cI a o o' q (plL σ ω 20 0 (t, true, cg, some ct, some mo, ea) (zC σ)).2.1 ω ω' (zN σ, zM σ, zS σ, (plL σ ω 20 0 (t, true, cg, some ct, some mo, ea) (zC σ)).2.2, zF σ, zG σ, zP σ, zT σ, zL σ) ++ wSf cZ sf n S ++ wDr cR ra dn fr) [2, 3, 4, 5, 6, 7, 8, 9, 10, 11, 12, 13, 14, 15, 16, 17, 18, 19, 20, 0, 1] (by decide) rfl
      generalize H1 = H at hP hS ⊢
      obtain rfl : r9 = (nI (plL σ ω 20 0 (t, true, cg, some ct, some mo, ea) (zC σ)).1 : Int32) := hw
      rw [p3] at hP hD
      obtain ⟨σ1, hσ1⟩ : ∃ z : HS, z = (zN σ, zM σ, zS σ, (plL σ ω 20 0 (t, true, cg, some ct, some mo, ea) (zC σ)).2.2, zF σ, zG σ, zP σ, zT σ, zL σ) := ⟨_, rfl⟩
      rw [← hσ1] at hP hD
      have hz1 : zOk σ1 := by rw [hσ1]; exact zOk_C hI.1 p2
      have hn1 : zN σ1 = zN σ := by rw [hσ1]
      have hm1 : zM σ1 = zM σ := by rw [hσ1]
      have hc2 : ct2 < zN σ := p4.2.2.2.2.1
      have hm2 : mo2 < zN σ := p4.2.2.2.2.2.2.1
      refine rv_top (show nI (plL σ ω 20 0 (t, true, cg, some ct, some mo, ea) (zC σ)).1 = nI 20 by rw [p1]) ?_
      refine lv_bipush (v := nI 20) hx hb dL_law_500 (by decide) ?_
      refine lv_icmp_ne (tgt := 527) hx hb dL_law_502 (by decide) (fun h => absurd rfl h) (fun _ => ?_)
      refine lv_aload_n hx hb dL_law_505 rfl (lv_at hl 6 rfl) ?_
      refine vp_callSi (va_runV (As := []) (rest := []) ⟨hx, hb, hml, hown, hts⟩ (c_X2_turnsToCatch l D cZ cI a o o' q (t + 20) cg ct2 mo2 ea2 ω ω' σ1 hz1 (by omega) (by omega) (by omega)) (cwV 0 hts gL_law_X2_turnsToCatch rfl rfl rfl (by decide +kernel) ⟨Nat.le_of_ble_eq_true rfl, Nat.le_of_ble_eq_true rfl⟩) ⟨RdP_blind, va_recv hZ.1 hP (ci := 2) (q0 := 0) rfl rfl, RdP_start (hP.sub (ws' := pD cZ cI a o o' q (t + 20, true, cg, some ct2, some mo2, ea2) ω ω' σ1) [0, 1, 2, 3, 4, 5, 6, 7, 8, 9, 10, 11, 12, 13, 14, 15, 16, 17, 18] rfl) hZ.two⟩ rfl rfl hl.1 rfl (lv_room (Nat.le_of_ble_eq_true rfl)) dL_law_506 ⟨Nat.le_of_ble_eq_true rfl, Nat.le_of_ble_eq_true rfl⟩).run (fun r9 hq => ?_)
      obtain rfl : r9 = ((-1) : Int32) := hq.trans (by rw [LK.nv hI.2.2.2.1 (by omega) (by omega), p5]; rfl)
      refine lv_iconst (v := (-1)) hx hb dL_law_509 (by decide) ?_
      refine lv_icmp_ne (tgt := 527) hx hb dL_law_510 (by decide) (fun h => absurd rfl h) (fun _ => ?_)
      refine lv_aload hx hb dL_law_513 (lv_at hl 3 rfl) ?_
      refine va_alen hx hb hZ.1 hP 20 2 rfl rfl (v := nI dn) rfl dL_law_515 ?_
      refine lv_aload_n hx hb dL_law_516 rfl (lv_at hl 6 rfl) ?_
      refine vp_callSi (va_runV (As := []) (rest := [.int (nI dn)]) ⟨hx, hb, hml, hown, hts⟩ (c_X2_doors l D cZ cI a o o' q (t + 20, true, cg, some ct2, some mo2, ea2) ω ω' σ1) (cwV 0 hts gL_law_X2_doors rfl rfl rfl (by decide +kernel) ⟨Nat.le_of_ble_eq_true rfl, Nat.le_of_ble_eq_true rfl⟩) ⟨RdP_blind, va_recv hZ.1 hP (ci := 2) (q0 := 0) rfl rfl, RdP_start (hP.sub (ws' := pD cZ cI a o o' q (t + 20, true, cg, some ct2, some mo2, ea2) ω ω' σ1) [0, 1, 2, 3, 4, 5, 6, 7, 8, 9, 10, 11, 12, 13, 14, 15, 16, 17, 18] rfl) hZ.two⟩ rfl rfl hl.1 rfl (lv_room (Nat.le_of_ble_eq_true rfl)) dL_law_517 ⟨Nat.le_of_ble_eq_true rfl, Nat.le_of_ble_eq_true rfl⟩).run (fun r9 hq => ?_)
      obtain rfl : r9 = (nI dn : Int32) := hq.trans (by rw [hm1, hdn])
      refine lv_icmp_ne (tgt := 527) hx hb dL_law_520 (by decide) (fun h => absurd rfl h) (fun _ => ?_)
      refine lv_iconst (v := nI 1) hx hb dL_law_523 (by decide) ?_
      refine lv_goto (tgt := 528) hx hb dL_law_524 (by decide) ?_
      exact lg_yes C hS dL_law_528
    · cases hw
  | some k =>
    have hk31 := hwl k rfl
    refine rv_top (iO_some k) ?_
    refine rv_ifgeN (tgt := 529) (x := k) hx hb hk31 dL_law_484 (by decide) ?_
    have hl : lv_has ls 21 [(8, .int (nI t)), (7, .int (nI k)), (5, .int (nI ch)), (4, .ref ra), (3, .int (nI n)), (2, .ref sf), (1, .ref a), (0, .ref b)] := hl
    have K571 : W p l e room_1 s m #[Value.ref b] below meth c H locs 36 2330 (lw_Z below #[Value.ref b] s) (F0 m 571 ls []) := by
      refine lv_iconst (v := nI 1) hx hb dL_law_571 (by decide) ?_
      refine lv_goto (tgt := 576) hx hb dL_law_572 (by decide) ?_
      exact lg_yes C hS dL_law_576
    refine lv_iload hx hb dL_law_529 (lv_at hl 1 rfl) ?_
    refine lv_bipush (v := nI 14) hx hb dL_law_531 (by decide) ?_
    rcases hk with ⟨cg, ct, mo, ea, rfl, hO, hv⟩ | ⟨ea, rfl, hw⟩
    · have ht : t = 14 := hex.elim id (fun h => by cases h)
      have hk14 : 14 < k := by have := hv.1; omega
      refine rv_le (tgt := 540) (x := k) (y := 14) hx hb hk31 (by decide) dL_law_533 (by decide) (fun h => absurd h (by omega)) (fun _ => ?_)
      refine lv_iconst (v := nI 1) hx hb dL_law_536 (by decide) ?_
      refine lv_goto (tgt := 541) hx hb dL_law_537 (by decide) ?_
      refine lv_aload_n hx hb dL_law_541 rfl (lv_at hl 6 rfl) ?_
      refine vp_callSi (va_runV (As := []) (rest := [.int (nI 1)]) ⟨hx, hb, hml, hown, hts⟩ (c_X2_isOn l D cZ cI a o o' q (t, true, cg, some ct, some mo, ea) ω ω' σ) (cwV 0 hts gL_law_X2_isOn rfl rfl rfl (by decide +kernel) ⟨Nat.le_of_ble_eq_true rfl, Nat.le_of_ble_eq_true rfl⟩) ⟨RdP_blind, va_recv hZ.1 hP (ci := 2) (q0 := 0) rfl rfl, RdP_start (hP.sub (ws' := pD cZ cI a o o' q (t, true, cg, some ct, some mo, ea) ω ω' σ) [0, 1, 2, 3, 4, 5, 6, 7, 8, 9, 10, 11, 12, 13, 14, 15, 16, 17, 18] rfl) hZ.two⟩ rfl rfl hl.1 rfl (lv_room (Nat.le_of_ble_eq_true rfl)) dL_law_542 ⟨Nat.le_of_ble_eq_true rfl, Nat.le_of_ble_eq_true rfl⟩).run (fun r9 hq => ?_)
      obtain rfl : r9 = (bI true : Int32) := hq
      refine lv_icmp_ne (tgt := 575) hx hb dL_law_545 (by decide) (fun h => absurd rfl h) (fun _ => ?_)
      refine lv_aload_n hx hb dL_law_548 rfl (lv_at hl 6 rfl) ?_
      refine vp_callSi (va_runV (As := []) (rest := []) ⟨hx, hb, hml, hown, hts⟩ (c_X2_isOn l D cZ cI a o o' q (t, true, cg, some ct, some mo, ea) ω ω' σ) (cwV 0 hts gL_law_X2_isOn rfl rfl rfl (by decide +kernel) ⟨Nat.le_of_ble_eq_true rfl, Nat.le_of_ble_eq_true rfl⟩) ⟨RdP_blind, va_recv hZ.1 hP (ci := 2) (q0 := 0) rfl rfl, RdP_start (hP.sub (ws' := pD cZ cI a o o' q (t, true, cg, some ct, some mo, ea) ω ω' σ) [0, 1, 2, 3, 4, 5, 6, 7, 8, 9, 10, 11, 12, 13, 14, 15, 16, 17, 18] rfl) hZ.two⟩ rfl rfl hl.1 rfl (lv_room (Nat.le_of_ble_eq_true rfl)) dL_law_549 ⟨Nat.le_of_ble_eq_true rfl, Nat.le_of_ble_eq_true rfl⟩).run (fun r9 hq => ?_)
      obtain rfl : r9 = (bI true : Int32) := hq
      exact rv_ifneB (tgt := 571) hx hb dL_law_552 (by decide) (fun _ => K571) (fun h => absurd h.symm Bool.false_ne_true)
    · have hkt : k = t := Option.some.inj hw
      refine rv_le (tgt := 540) (x := k) (y := 14) hx hb hk31 (by decide) dL_law_533 (by decide) (fun _ => ?_) (fun h => absurd (by omega) h)
      refine lv_iconst (v := nI 0) hx hb dL_law_540 (by decide) ?_
      refine lv_aload_n hx hb dL_law_541 rfl (lv_at hl 6 rfl) ?_
      refine vp_callSi (va_runV (As := []) (rest := [.int (nI 0)]) ⟨hx, hb, hml, hown, hts⟩ (c_X2_isOn l D cZ cI a o o' q (t, false, true, none, none, ea) ω ω' σ) (cwV 0 hts gL_law_X2_isOn rfl rfl rfl (by decide +kernel) ⟨Nat.le_of_ble_eq_true rfl, Nat.le_of_ble_eq_true rfl⟩) ⟨RdP_blind, va_recv hZ.1 hP (ci := 2) (q0 := 0) rfl rfl, RdP_start (hP.sub (ws' := pD cZ cI a o o' q (t, false, true, none, none, ea) ω ω' σ) [0, 1, 2, 3, 4, 5, 6, 7, 8, 9, 10, 11, 12, 13, 14, 15, 16, 17, 18] rfl) hZ.two⟩ rfl rfl hl.1 rfl (lv_room (Nat.le_of_ble_eq_true rfl)) dL_law_542 ⟨Nat.le_of_ble_eq_true rfl, Nat.le_of_ble_eq_true rfl⟩).run (fun r9 hq => ?_)
      obtain rfl : r9 = (bI false : Int32) := hq
      refine lv_icmp_ne (tgt := 575) hx hb dL_law_545 (by decide) (fun h => absurd rfl h) (fun _ => ?_)
      refine lv_aload_n hx hb dL_law_548 rfl (lv_at hl 6 rfl) ?_
      refine vp_callSi (va_runV (As := []) (rest := []) ⟨hx, hb, hml, hown, hts⟩ (c_X2_isOn l D cZ cI a o o' q (t, false, true, none, none, ea) ω ω' σ) (cwV 0 hts gL_law_X2_isOn rfl rfl rfl (by decide +kernel) ⟨Nat.le_of_ble_eq_true rfl, Nat.le_of_ble_eq_true rfl⟩) ⟨RdP_blind, va_recv hZ.1 hP (ci := 2) (q0 := 0) rfl rfl, RdP_start (hP.sub (ws' := pD cZ cI a o o' q (t, false, true, none, none, ea) ω ω' σ) [0, 1, 2, 3, 4, 5, 6, 7, 8, 9, 10, 11, 12, 13, 14, 15, 16, 17, 18] rfl) hZ.two⟩ rfl rfl hl.1 rfl (lv_room (Nat.le_of_ble_eq_true rfl)) dL_law_549 ⟨Nat.le_of_ble_eq_true rfl, Nat.le_of_ble_eq_true rfl⟩).run (fun r9 hq => ?_)
      obtain rfl : r9 = (bI false : Int32) := hq
      refine rv_ifneB (tgt := 571) hx hb dL_law_552 (by decide) (fun _ => K571) (fun _ => ?_)
      refine lv_aload_n hx hb dL_law_555 rfl (lv_at hl 6 rfl) ?_
      refine vp_callSi (va_runV (As := []) (rest := []) ⟨hx, hb, hml, hown, hts⟩ (c_X2_turn l D cZ cI a o o' q (t, false, true, none, none, ea) ω ω' σ) (cwV 0 hts gL_law_X2_turn rfl rfl rfl (by decide +kernel) ⟨Nat.le_of_ble_eq_true rfl, Nat.le_of_ble_eq_true rfl⟩) ⟨RdP_blind, va_recv hZ.1 hP (ci := 2) (q0 := 0) rfl rfl, RdP_start (hP.sub (ws' := pD cZ cI a o o' q (t, false, true, none, none, ea) ω ω' σ) [0, 1, 2, 3, 4, 5, 6, 7, 8, 9, 10, 11, 12, 13, 14, 15, 16, 17, 18] rfl) hZ.two⟩ rfl rfl hl.1 rfl (lv_room (Nat.le_of_ble_eq_true rfl)) dL_law_556 ⟨Nat.le_of_ble_eq_true rfl, Nat.le_of_ble_eq_true rfl⟩).run (fun r9 hq => ?_)
      obtain rfl : r9 = (nI t : Int32) := hq
      refine lv_iload hx hb dL_law_559 (lv_at hl 1 rfl) ?_
      refine lv_icmp_ne (tgt := 575) hx hb dL_law_561 (by decide) (fun h => absurd (by rw [hkt]) h) (fun _ => ?_)
      refine lv_aload_n hx hb dL_law_564 rfl (lv_at hl 6 rfl) ?_
      refine vp_callSi (va_runV (As := []) (rest := []) ⟨hx, hb, hml, hown, hts⟩ (c_X2_isCaught l D cZ cI a o o' q (t, false, true, none, none, ea) ω ω' σ) (cwV 0 hts gL_law_X2_isCaught rfl rfl rfl (by decide +kernel) ⟨Nat.le_of_ble_eq_true rfl, Nat.le_of_ble_eq_true rfl⟩) ⟨RdP_blind, va_recv hZ.1 hP (ci := 2) (q0 := 0) rfl rfl, RdP_start (hP.sub (ws' := pD cZ cI a o o' q (t, false, true, none, none, ea) ω ω' σ) [0, 1, 2, 3, 4, 5, 6, 7, 8, 9, 10, 11, 12, 13, 14, 15, 16, 17, 18] rfl) hZ.two⟩ rfl rfl hl.1 rfl (lv_room (Nat.le_of_ble_eq_true rfl)) dL_law_565 ⟨Nat.le_of_ble_eq_true rfl, Nat.le_of_ble_eq_true rfl⟩).run (fun r9 hq => ?_)
      obtain rfl : r9 = (bI true : Int32) := hq
      exact rv_ifeqB (tgt := 575) hx hb dL_law_568 (by decide) (fun h => absurd h.symm Bool.false_ne_true) (fun _ => K571)
set_option maxHeartbeats 4000000 in
set_option maxRecDepth 100000 in
theorem lg_loop {p : Program} {e : Env} {s : State} {m : MethodId} {below : List Frame} {meth : Method} {c : Code} {l : Launch} {b L : Nat} {xs : Nat → Int32} {D : va_G} {cZ cI cR : ClassId} (C : LwC p s m meth c b L xs D cZ cI cR) {a sf n ra dn : Nat} {o o' q : Nat → Nat} {S : Nat → Bool} {fr : Nat → Option Nat} {ω : OS} {w : Option Nat} {ch : Nat} (hch2 : ch < 2 ^ 30) (hwl : ∀ k, w = some k → k < 2 ^ 31) :
    ∀ (f t : Nat) (κ : CS) (ω' : OS) (σ : HS) (H : Heap) (locs : List Loc) (ls : Array Slot), 15 ≤ t + f → t ≤ 14 → LgS n S dn σ ω → LgK σ ω w t κ → cS (zC σ) n + ke κ = ch → va_P D vwCl (pD cZ cI a o o' q κ ω ω' σ ++ wSf cZ sf n S ++ wDr cR ra dn fr) H → va_D (fun q : Nat => s.heap.size ≤ q) (pD cZ cI a o o' q κ ω ω' σ ++ wSf cZ sf n S ++ wDr cR ra dn fr) → va_S (fun q : Nat => s.heap.size ≤ q) s.heap H locs → lv_has ls 21 [(8, .int (nI t)), (7, .int (iO w)), (5, .int (nI ch)), (4, .ref ra), (3, .int (nI n)), (2, .ref sf), (1, .ref a), (0, .ref b)] → W p l e room_1 s m #[Value.ref b] below meth c H locs 36 2330 (lw_Z below #[Value.ref b] s) (F0 m 119 ls []) := by
  intro f
  induction f with
  | zero => intro t κ ω' σ H locs ls h1 h2; exact absurd h1 (by omega)
  | succ f ih =>
    intro t κ ω' σ H locs ls hm ht hI hk hch hP hD hS hl
    obtain ⟨⟨hx, hb, hr, hml, hown, hts0, hX, hbl, hlocks, hgv⟩, hZ, hL⟩ := id C
    have hown : s.vm.findClass RL = some m.cls := hown
    have hts : ∀ w ∈ wsL_law, w.before #[Value.ref b] s = true := fun w h => hts0 w (wsL_law_in w h)
    have hA : ∀ q : Nat, s.heap.size ≤ q → (fun q : Nat => s.heap.size ≤ q) q := fun _ h => h
    have hbA : ¬ (fun q : Nat => s.heap.size ≤ q) b := Nat.not_le.mpr hbl
    refine lv_iload hx hb dL_law_119 (lv_at hl 0 rfl) ?_
    refine lv_bipush (v := nI 14) hx hb dL_law_121 (by decide) ?_
    refine rv_ge (tgt := 482) (x := t) (y := 14) hx hb (by omega) (by decide) dL_law_123 (by decide) (fun h => lg_end C hI hk ht (Or.inl (by omega)) hwl hP hD hS hl) (fun h => ?_)
    refine lv_aload_n hx hb dL_law_126 rfl (lv_at hl 6 rfl) ?_
    refine vp_callSi (va_runV (As := []) (rest := []) ⟨hx, hb, hml, hown, hts⟩ (c_X2_isOn l D cZ cI a o o' q κ ω ω' σ) (cwV 0 hts gL_law_X2_isOn rfl rfl rfl (by decide +kernel) ⟨Nat.le_of_ble_eq_true rfl, Nat.le_of_ble_eq_true rfl⟩) ⟨RdP_blind, va_recv hZ.1 hP (ci := 2) (q0 := 0) rfl rfl, RdP_start (hP.sub (ws' := pD cZ cI a o o' q κ ω ω' σ) [0, 1, 2, 3, 4, 5, 6, 7, 8, 9, 10, 11, 12, 13, 14, 15, 16, 17, 18] rfl) hZ.two⟩ rfl rfl hl.1 rfl (lv_room (Nat.le_of_ble_eq_true rfl)) dL_law_127 ⟨Nat.le_of_ble_eq_true rfl, Nat.le_of_ble_eq_true rfl⟩).run (fun r9 hq => ?_)
    obtain rfl : r9 = (bI (ko κ) : Int32) := hq
    refine rv_ifeqB (tgt := 482) hx hb dL_law_130 (by decide) (fun h => lg_end C hI hk ht (Or.inr h) hwl hP hD hS hl) (fun h9 => ?_)
    rcases hk with ⟨cg, ct, mo, ea, rfl, hO, hv⟩ | ⟨ea, rfl, hw⟩
    · refine lg_turnA C hI hO h (r := bestF (oW ω) (oT ω) σ t ct mo) rfl hP hD hS (fun ω' H locs ls hP hD hS hl => ?_) hl
      exact lg_turnB C hI hO hv h hch hch2 rfl hP hD hS (fun κ σ H locs ls hI hk hch hP hD hS hl => ih (t + 1) κ ω' σ H locs ls (by omega) (by omega) hI hk hch hP hD hS hl) hl
    · cases h9
