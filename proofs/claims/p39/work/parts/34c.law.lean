set_option maxHeartbeats 4000000 in
set_option maxRecDepth 100000 in
theorem lg_turnB {p : Program} {e : Env} {s : State} {m : MethodId} {below : List Frame} {meth : Method} {c : Code} {l : Launch} {b L : Nat} {xs : Nat → Int32} {D : va_G} {cZ cI cR : ClassId} (C : LwC p s m meth c b L xs D cZ cI cR) {a sf n ra dn : Nat} {o o' q : Nat → Nat} {S : Nat → Bool} {fr : Nat → Option Nat} {ω : OS} {ω' : OS} {σ : HS} {w : Option Nat} {cg : Bool} {ch t ct mo ea r : Nat} {H : Heap} {locs : List Loc} (hI : LgS n S dn σ ω) (hO : hOn σ ω ct mo) (hw9 : lgI σ t ct mo w) (ht14 : t < 14) (hch : cS (zC σ) n + ea = ch) (hch2 : ch < 2 ^ 30) (hr9 : r = bestF (oW ω) (oT ω) σ t ct mo) (hP : va_P D vwCl (pD cZ cI a o o' q (t, true, cg, some ct, some mo, ea) ω ω' σ ++ wSf cZ sf n S ++ wDr cR ra dn fr) H) (hD : va_D (fun q : Nat => s.heap.size ≤ q) (pD cZ cI a o o' q (t, true, cg, some ct, some mo, ea) ω ω' σ ++ wSf cZ sf n S ++ wDr cR ra dn fr)) (hS : va_S (fun q : Nat => s.heap.size ≤ q) s.heap H locs)
    (K : ∀ (κ : CS) (σ : HS) (H : Heap) (locs : List Loc) (ls : Array Slot), LgS n S dn σ ω → LgK σ ω w (t + 1) κ → cS (zC σ) n + ke κ = ch → va_P D vwCl (pD cZ cI a o o' q κ ω ω' σ ++ wSf cZ sf n S ++ wDr cR ra dn fr) H → va_D (fun q : Nat => s.heap.size ≤ q) (pD cZ cI a o o' q κ ω ω' σ ++ wSf cZ sf n S ++ wDr cR ra dn fr) → va_S (fun q : Nat => s.heap.size ≤ q) s.heap H locs → lv_has ls 21 [(8, .int (nI (t + 1))), (7, .int (iO w)), (5, .int (nI ch)), (4, .ref ra), (3, .int (nI n)), (2, .ref sf), (1, .ref a), (0, .ref b)] → W p l e room_1 s m #[Value.ref b] below meth c H locs 36 2330 (lw_Z below #[Value.ref b] s) (F0 m 119 ls []))
    {ls : Array Slot} (hl : lv_has ls 21 [(15, .int (nI r)), (14, .int (iO (nV σ t ct mo))), (9, .int (bI (isC t))), (8, .int (nI t)), (7, .int (iO w)), (5, .int (nI ch)), (4, .ref ra), (3, .int (nI n)), (2, .ref sf), (1, .ref a), (0, .ref b)]) : W p l e room_1 s m #[Value.ref b] below meth c H locs 36 2330 (lw_Z below #[Value.ref b] s) (F0 m 359 ls []) := by
  obtain ⟨⟨hx, hb, hr, hml, hown, hts0, hX, hbl, hlocks, hgv⟩, hZ, hL⟩ := id C
  have hown : s.vm.findClass RL = some m.cls := hown
  have hts : ∀ w ∈ wsL_law, w.before #[Value.ref b] s = true := fun w h => hts0 w (wsL_law_in w h)
  have hA : ∀ q : Nat, s.heap.size ≤ q → (fun q : Nat => s.heap.size ≤ q) q := fun _ h => h
  have hbA : ¬ (fun q : Nat => s.heap.size ≤ q) b := Nat.not_le.mpr hbl
  have hN := hI.1.1
  have hzn := hI.2.2.2.2.1
  have hct : ct < zN σ := hO.2.2.2.2.1
  have hmo : mo < zN σ := hO.2.2.2.2.2.2.1
  obtain ⟨b1, b2, b3, b4⟩ := st_best (nw := t) hO hr9
  have hcs9 := cS_step (σ := σ) (nw := t) (ct := ct) (mo := mo) (ea := ea) (cg := cg) b2
  have hC9 : ∀ x, mvC σ t ct mo r x ≤ 9 := mvC_le hI.1.2.2.2.2.2.2
  have hI1 : LgS n S dn (setC σ (mvC σ t ct mo r)) ω := hI.C hC9
  refine lv_aload_n hx hb dL_law_359 rfl (lv_at hl 9 rfl) ?_
  refine lv_iload hx hb dL_law_360 (lv_at hl 0 rfl) ?_
  have hPc := hP.sub (ws' := pD cZ cI a o o' q (t, true, cg, some ct, some mo, ea) ω ω' σ) [0, 1, 2, 3, 4, 5, 6, 7, 8, 9, 10, 11, 12, 13, 14, 15, 16, 17, 18] rfl
  have hDc := hD.sub (ws' := pD cZ cI a o o' q (t, true, cg, some ct, some mo, ea) ω ω' σ) [0, 1, 2, 3, 4, 5, 6, 7, 8, 9, 10, 11, 12, 13, 14, 15, 16, 17, 18] (by decide) rfl
  have hFc := va_free (wc := pD cZ cI a o o' q (t, true, cg, some ct, some mo, ea) ω ω' σ) hD hS hA [0, 1, 2, 3, 4, 5, 6, 7, 8, 9, 10, 11, 12, 13, 14, 15, 16, 17, 18] rfl
  refine va_calli (va_runV (As := [.int (nI r)]) (rest := []) ⟨hx, hb, hml, hown, hts⟩ (c_X2_go l D cZ cI a o o' q t cg ct mo ea ω ω' σ H.size r hI.1 b2 hct hmo (by omega) b1) (cwV 1 hts gL_law_X2_go rfl rfl rfl (by decide +kernel) ⟨Nat.le_of_ble_eq_true rfl, Nat.le_of_ble_eq_true rfl⟩) ⟨WrP_blind, va_recv hZ.1 hP (ci := 2) (q0 := 0) rfl rfl, WrP_start hPc hDc hZ.two⟩ rfl rfl hl.1 rfl (lv_room (Nat.le_of_ble_eq_true rfl)) dL_law_362 ⟨Nat.le_of_ble_eq_true rfl, Nat.le_of_ble_eq_true rfl⟩) hS (fun q _ h => hFc q h) hFc (fun r9 u9 t9 H1 locs ht hvm hw hB hz1 hk1 hS => ?_)
  obtain ⟨hP1, hD1⟩ := hB
  rw [ht] at hP1
  obtain ⟨hP, hD⟩ := va_join (wr := wSf cZ sf n S ++ wDr cR ra dn fr) (w1 := pD cZ cI a o o' q (mvK σ t cg ct mo ea r) ω ω' (zN σ, zM σ, zS σ, mvC σ t ct mo r, zF σ, zG σ, zP σ, zT σ, zL σ)) hP hD [0, 1, 2, 3, 4, 5, 6, 7, 8, 9, 10, 11, 12, 13, 14, 15, 16, 17, 18] [19, 20] rfl rfl (by decide) (by decide) hk1 hFc hP1 hD1
  replace hP := hP.sub (ws' := pD cZ cI a o o' q (mvK σ t cg ct mo ea r) ω ω' (zN σ, zM σ, zS σ, mvC σ t ct mo r, zF σ, zG σ, zP σ, zT σ, zL σ) ++ wSf cZ sf n S ++ wDr cR ra dn fr) [2, 3, 4, 5, 6, 7, 8, 9, 10, 11, 12, 13, 14, 15, 16, 17, 18, 19, 20, 0, 1] rfl
  replace hD := hD.sub (ws' := pD cZ cI a o o' q (mvK σ t cg ct mo ea r) ω ω' (zN σ, zM σ, zS σ, mvC σ t ct mo r, zF σ, zG σ, zP σ, zT σ, zL σ) ++ wSf cZ sf n S ++ wDr cR ra dn fr) [2, 3, 4, 5, 6, 7, 8, 9, 10, 11, 12, 13, 14, 15, 16, 17, 18, 19, 20, 0, 1] (by decide) rfl
  generalize H1 = H at hP hS ⊢
  obtain rfl : r9 = (bI (!(ko (mvK σ t cg ct mo ea r))) : Int32) := hw
  obtain ⟨κ1, hκ1⟩ : ∃ z : CS, z = (mvK σ t cg ct mo ea r) := ⟨_, rfl⟩
  rw [← hκ1] at hP hD hcs9 ⊢
  obtain ⟨σ1, hσ1⟩ : ∃ z : HS, z = (zN σ, zM σ, zS σ, mvC σ t ct mo r, zF σ, zG σ, zP σ, zT σ, zL σ) := ⟨_, rfl⟩
  rw [← hσ1] at hP hD
  have hI1 : LgS n S dn σ1 ω := by rw [hσ1]; exact hI1
  have hzc : zC σ1 = mvC σ t ct mo r := by rw [hσ1]
  have hch1 : cS (zC σ1) n + ke κ1 = ch := by rw [hzc, ← hzn, hcs9, hzn]; exact hch
  refine lv_istore (lv' := [(18, .int (bI (!(ko κ1)))), (15, .int (nI r)), (14, .int (iO (nV σ t ct mo))), (9, .int (bI (isC t))), (8, .int (nI t)), (7, .int (iO w)), (5, .int (nI ch)), (4, .ref ra), (3, .int (nI n)), (2, .ref sf), (1, .ref a), (0, .ref b)]) hx hb dL_law_365 hl (by decide) rfl (fun ls hl => ?_)
  have K433 : LgK σ1 ω w (t + 1) κ1 → ∀ ls : Array Slot, lv_has ls 21 [(18, .int (bI (!(ko κ1)))), (15, .int (nI r)), (14, .int (iO (nV σ t ct mo))), (9, .int (bI (isC t))), (8, .int (nI t)), (7, .int (iO w)), (5, .int (nI ch)), (4, .ref ra), (3, .int (nI n)), (2, .ref sf), (1, .ref a), (0, .ref b)] → W p l e room_1 s m #[Value.ref b] below meth c H locs 36 2330 (lw_Z below #[Value.ref b] s) (F0 m 433 ls []) := by
    intro hk ls hl
    refine lv_iconst (v := nI 0) hx hb dL_law_433 (by decide) ?_
    refine lv_istore (lv' := [(19, .int (nI 0)), (18, .int (bI (!(ko κ1)))), (15, .int (nI r)), (14, .int (iO (nV σ t ct mo))), (9, .int (bI (isC t))), (8, .int (nI t)), (7, .int (iO w)), (5, .int (nI ch)), (4, .ref ra), (3, .int (nI n)), (2, .ref sf), (1, .ref a), (0, .ref b)]) hx hb dL_law_434 hl (by decide) rfl (fun ls hl => ?_)
    refine lv_iconst (v := nI 0) hx hb dL_law_436 (by decide) ?_
    refine lv_istore (lv' := [(20, .int (nI 0)), (19, .int (nI 0)), (18, .int (bI (!(ko κ1)))), (15, .int (nI r)), (14, .int (iO (nV σ t ct mo))), (9, .int (bI (isC t))), (8, .int (nI t)), (7, .int (iO w)), (5, .int (nI ch)), (4, .ref ra), (3, .int (nI n)), (2, .ref sf), (1, .ref a), (0, .ref b)]) hx hb dL_law_437 hl (by decide) rfl (fun ls hl => ?_)
    refine lg_left C hI1 (κ := κ1) hP hD hS (fun ls hl => ?_) (n + 1) 0 ls (by omega) (by omega) (lv_sub hl [0, 1, 6, 7, 8, 9, 10, 11, 12, 13] rfl)
    refine lv_iload hx hb dL_law_462 (lv_at hl 0 rfl) ?_
    refine lv_aload_n hx hb dL_law_464 rfl (lv_at hl 7 rfl) ?_
    refine vp_callSi (va_runV (As := []) (rest := [.int (nI (cS (zC σ1) n))]) ⟨hx, hb, hml, hown, hts⟩ (c_X2_eaten l D cZ cI a o o' q κ1 ω ω' σ1) (cwV 0 hts gL_law_X2_eaten rfl rfl rfl (by decide +kernel) ⟨Nat.le_of_ble_eq_true rfl, Nat.le_of_ble_eq_true rfl⟩) ⟨RdP_blind, va_recv hZ.1 hP (ci := 2) (q0 := 0) rfl rfl, RdP_start (hP.sub (ws' := pD cZ cI a o o' q κ1 ω ω' σ1) [0, 1, 2, 3, 4, 5, 6, 7, 8, 9, 10, 11, 12, 13, 14, 15, 16, 17, 18] rfl) hZ.two⟩ rfl rfl hl.1 rfl (lv_room (Nat.le_of_ble_eq_true rfl)) dL_law_465 ⟨Nat.le_of_ble_eq_true rfl, Nat.le_of_ble_eq_true rfl⟩).run (fun r9 hq => ?_)
    obtain rfl : r9 = (nI (ke κ1) : Int32) := hq
    refine rv_add hx hb dL_law_468 ?_
    refine lv_iload hx hb dL_law_469 (lv_at hl 3 rfl) ?_
    refine lv_icmp_eq (tgt := 476) hx hb dL_law_471 (by decide) (fun _ => ?_) (fun h => absurd (by rw [hch1]) h)
    refine lv_iinc (v := nI (t + 1)) (lv' := [(8, .int (nI (t + 1))), (19, .int (nI (cS (zC σ1) n))), (7, .int (iO w)), (5, .int (nI ch)), (4, .ref ra), (3, .int (nI n)), (2, .ref sf), (1, .ref a), (0, .ref b)]) hx hb dL_law_476 hl (k := 1) rfl (nI_add t 1) (by decide) rfl (fun ls hl => ?_)
    refine lv_goto (tgt := 119) hx hb dL_law_479 (by decide) ?_
    exact K κ1 σ1 H locs ls hI1 hk hch1 hP hD hS (lv_sub hl [0, 2, 3, 4, 5, 6, 7, 8] rfl)
  have hb3 := b3
  by_cases he : mvCat t ct r = mvMou t mo r
  · have hv1 : nV σ t ct mo = some 1 := b3.mp he
    have hk1 : κ1 = (t + 1, false, true, none, none, ea) := by rw [hκ1]; exact mvK_off he
    have hb9 : bI (!(ko κ1)) = nI 1 := by rw [hk1]; rfl
    have hv9 : iO (nV σ t ct mo) = nI 1 := by rw [hv1]; rfl
    have hkk : LgK σ1 ω w (t + 1) κ1 := Or.inr ⟨ea, hk1, lgI_off hO hr9 he hw9⟩
    have hl9 := hl
    rw [hb9, hv9] at hl
    refine lv_iload hx hb dL_law_367 (lv_at hl 0 rfl) ?_
    refine lv_iload hx hb dL_law_369 (lv_at hl 2 rfl) ?_
    refine lv_iconst (v := nI 1) hx hb dL_law_371 (by decide) ?_
    refine lv_icmp_ne (tgt := 379) hx hb dL_law_372 (by decide) (fun h => absurd rfl h) (fun _ => ?_)
    refine lv_iconst (v := nI 1) hx hb dL_law_375 (by decide) ?_
    refine lv_goto (tgt := 380) hx hb dL_law_376 (by decide) ?_
    refine lv_icmp_eq (tgt := 393) hx hb dL_law_380 (by decide) (fun _ => ?_) (fun h => absurd rfl h)
    refine lv_iload hx hb dL_law_393 (lv_at hl 0 rfl) ?_
    refine lv_if_ne (tgt := 414) hx hb dL_law_395 (by decide) (fun _ => ?_) (fun h => absurd h (by decide))
    refine lv_iload hx hb dL_law_414 (lv_at hl 0 rfl) ?_
    refine lv_if_ne (tgt := 433) hx hb dL_law_416 (by decide) (fun _ => ?_) (fun h => absurd h (by decide))
    exact K433 hkk ls hl9
  · have hk1 : κ1 = (t + 1, true, cg, some (mvCat t ct r), some (mvMou t mo r), if isC t = true then ea else eatE σ r ea) := by rw [hκ1]; exact mvK_on he
    obtain ⟨g1, g2, g3, g4, g5⟩ := b4 he
    have hb9 : bI (!(ko κ1)) = nI 0 := by rw [hk1]; rfl
    have hon1 : hOn σ1 ω (mvCat t ct r) (mvMou t mo r) := by rw [hσ1]; exact hOn_C hC9 (st_on hO hr9 he)
    have hkk : LgK σ1 ω w (t + 1) κ1 := Or.inl ⟨cg, _, _, _, hk1, hon1, by rw [hσ1]; exact lgI_C.mpr (lgI_on hO hr9 he hw9)⟩
    have hv1 : ¬ nV σ t ct mo = some 1 := fun h => he (b3.mpr h)
    have hV1 : oT ω ((t + 1 + 0) % 12) (mvCat t ct r) (mvMou t mo r) = nV σ (t + 1) (mvCat t ct r) (mvMou t mo r) := LK.nv hI.2.2.2.1 (by omega) (by omega)
    have hl9 := hl
    rw [hb9] at hl
    have K433 := K433 hkk ls hl9
    rw [hk1] at hP hD
    refine lv_iload hx hb dL_law_367 (lv_at hl 0 rfl) ?_
    refine lv_iload hx hb dL_law_369 (lv_at hl 2 rfl) ?_
    refine lv_iconst (v := nI 1) hx hb dL_law_371 (by decide) ?_
    refine lv_icmp_ne (tgt := 379) hx hb dL_law_372 (by decide) (fun _ => ?_) (fun h => absurd ((iO_nI (x := 1) (by decide) nV_lt).mp h.symm) hv1)
    refine lv_iconst (v := nI 0) hx hb dL_law_379 (by decide) ?_
    refine lv_icmp_eq (tgt := 393) hx hb dL_law_380 (by decide) (fun _ => ?_) (fun h => absurd rfl h)
    refine lv_iload hx hb dL_law_393 (lv_at hl 0 rfl) ?_
    refine lv_if_ne (tgt := 414) hx hb dL_law_395 (by decide) (fun h => absurd rfl h) (fun _ => ?_)
    refine lv_iload hx hb dL_law_398 (lv_at hl 2 rfl) ?_
    cases hv : nV σ t ct mo with
    | none =>
      refine lv_if_lt (tgt := 414) hx hb dL_law_400 (by decide) (fun _ => ?_) (fun h => absurd (show (-1 : Int32) < 0 by decide) h)
      have hl : lv_has ls 21 [(18, .int (nI 0)), (15, .int (nI r)), (14, .int (iO (nV σ t ct mo))), (9, .int (bI (isC t))), (8, .int (nI t)), (7, .int (iO w)), (5, .int (nI ch)), (4, .ref ra), (3, .int (nI n)), (2, .ref sf), (1, .ref a), (0, .ref b)] := hl
      refine lv_iload hx hb dL_law_414 (lv_at hl 0 rfl) ?_
      refine lv_if_ne (tgt := 433) hx hb dL_law_416 (by decide) (fun h => absurd rfl h) (fun _ => ?_)
      refine lv_iload hx hb dL_law_419 (lv_at hl 2 rfl) ?_
      refine rv_top (show iO (nV σ t ct mo) = (-1 : Int32) by rw [hv]; rfl) ?_
      refine lv_if_ge (tgt := 433) hx hb dL_law_421 (by decide) (fun h => absurd h (by decide)) (fun _ => ?_)
      refine lv_aload_n hx hb dL_law_424 rfl (lv_at hl 10 rfl) ?_
      refine vp_callSi (va_runV (As := []) (rest := []) ⟨hx, hb, hml, hown, hts⟩ (c_X2_turnsToCatch l D cZ cI a o o' q (t + 1) cg (mvCat t ct r) (mvMou t mo r) (if isC t = true then ea else eatE σ r ea) ω ω' σ1 hI1.1 (by rw [hI1.2.2.2.2.1, ← hzn]; exact g2) (by rw [hI1.2.2.2.2.1, ← hzn]; exact g3) (by omega)) (cwV 0 hts gL_law_X2_turnsToCatch rfl rfl rfl (by decide +kernel) ⟨Nat.le_of_ble_eq_true rfl, Nat.le_of_ble_eq_true rfl⟩) ⟨RdP_blind, va_recv hZ.1 hP (ci := 2) (q0 := 0) rfl rfl, RdP_start (hP.sub (ws' := pD cZ cI a o o' q (t + 1, true, cg, some (mvCat t ct r), some (mvMou t mo r), if isC t = true then ea else eatE σ r ea) ω ω' σ1) [0, 1, 2, 3, 4, 5, 6, 7, 8, 9, 10, 11, 12, 13, 14, 15, 16, 17, 18] rfl) hZ.two⟩ rfl rfl hl.1 rfl (lv_room (Nat.le_of_ble_eq_true rfl)) dL_law_425 ⟨Nat.le_of_ble_eq_true rfl, Nat.le_of_ble_eq_true rfl⟩).run (fun r9 hq => ?_)
      obtain rfl : r9 = ((-1) : Int32) := hq.trans (by rw [hV1, g4 hv]; rfl)
      exact lv_if_lt (tgt := 433) hx hb dL_law_428 (by decide) (fun _ => K433) (fun h => absurd (show (-1 : Int32) < 0 by decide) h)
    | some v9 =>
      have hv9 := nV_lt v9 hv
      obtain ⟨v8, rfl⟩ : ∃ v8, v9 = v8 + 2 := ⟨v9 - 2, by have q1 : ¬ v9 = 0 := fun h => nV_ne0 hO (by rw [hv, h]); have q2 : ¬ v9 = 1 := fun h => hv1 (by rw [hv, h]); omega⟩
      refine rv_top (iO_some (v8 + 2)) ?_
      refine rv_ifltN (tgt := 414) (x := v8 + 2) hx hb hv9 dL_law_400 (by decide) ?_
      refine lv_aload_n hx hb dL_law_403 rfl (lv_at hl 10 rfl) ?_
      refine vp_callSi (va_runV (As := []) (rest := []) ⟨hx, hb, hml, hown, hts⟩ (c_X2_turnsToCatch l D cZ cI a o o' q (t + 1) cg (mvCat t ct r) (mvMou t mo r) (if isC t = true then ea else eatE σ r ea) ω ω' σ1 hI1.1 (by rw [hI1.2.2.2.2.1, ← hzn]; exact g2) (by rw [hI1.2.2.2.2.1, ← hzn]; exact g3) (by omega)) (cwV 0 hts gL_law_X2_turnsToCatch rfl rfl rfl (by decide +kernel) ⟨Nat.le_of_ble_eq_true rfl, Nat.le_of_ble_eq_true rfl⟩) ⟨RdP_blind, va_recv hZ.1 hP (ci := 2) (q0 := 0) rfl rfl, RdP_start (hP.sub (ws' := pD cZ cI a o o' q (t + 1, true, cg, some (mvCat t ct r), some (mvMou t mo r), if isC t = true then ea else eatE σ r ea) ω ω' σ1) [0, 1, 2, 3, 4, 5, 6, 7, 8, 9, 10, 11, 12, 13, 14, 15, 16, 17, 18] rfl) hZ.two⟩ rfl rfl hl.1 rfl (lv_room (Nat.le_of_ble_eq_true rfl)) dL_law_404 ⟨Nat.le_of_ble_eq_true rfl, Nat.le_of_ble_eq_true rfl⟩).run (fun r9 hq => ?_)
      obtain rfl : r9 = (nI (v8 + 1) : Int32) := hq.trans (by rw [hV1, g5 (v8 + 1) hv]; rfl)
      refine lv_iload hx hb dL_law_407 (lv_at hl 2 rfl) ?_
      refine rv_top (show iO (nV σ t ct mo) = nI (v8 + 2) by rw [hv]; rfl) ?_
      refine lv_iconst (v := nI 1) hx hb dL_law_409 (by decide) ?_
      refine rv_sub hx hb (by omega) dL_law_410 ?_
      refine lv_icmp_ne (tgt := 431) hx hb dL_law_411 (by decide) (fun h => absurd rfl h) (fun _ => ?_)
      refine lv_iload hx hb dL_law_414 (lv_at hl 0 rfl) ?_
      refine lv_if_ne (tgt := 433) hx hb dL_law_416 (by decide) (fun h => absurd rfl h) (fun _ => ?_)
      refine lv_iload hx hb dL_law_419 (lv_at hl 2 rfl) ?_
      refine rv_top (show iO (nV σ t ct mo) = nI (v8 + 2) by rw [hv]; rfl) ?_
      exact rv_ifgeN (tgt := 433) (x := v8 + 2) hx hb hv9 dL_law_421 (by decide) K433
