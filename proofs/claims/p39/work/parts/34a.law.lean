/-! ===== p39: the law ===== -/
def LwC (p : Program) (s : State) (m : MethodId) (meth : Method) (c : Code) (b L : Nat) (xs : Nat → Int32) (D : va_G) (cZ cI cR : ClassId) : Prop := lw_At p s m meth c b L xs ∧ zKR D cZ cI cR s ∧ L < 2 ^ 31
/-- how the house stands in the law's loop -/
def LgS (n : Nat) (S : Nat → Bool) (dn : Nat) (σ : HS) (ω : OS) : Prop := zOk σ ∧ hIn σ ∧ hUq σ ∧ LK σ ω ∧ zN σ = n ∧ (∀ i, i < n → S i = zS σ i) ∧ zM σ = dn
/-- how the chase stands at turn t: on, or over in it -/
def LgK (σ : HS) (ω : OS) (w : Option Nat) (t : Nat) (κ : CS) : Prop := (∃ cg ct mo ea, κ = (t, true, cg, some ct, some mo, ea) ∧ hOn σ ω ct mo ∧ lgI σ t ct mo w) ∨ ∃ ea, κ = (t, false, true, none, none, ea) ∧ w = some t
theorem vT_le {σ : HS} {p c m k : Nat} (h : vT σ p c m = some k) : k ≤ 768 := fN_le 768 k h
theorem nV_lt {σ : HS} {t c m : Nat} : ∀ k, nV σ t c m = some k → k < 2 ^ 31 := fun k h => Nat.lt_of_le_of_lt (vT_le h) (by decide)
theorem LK.nv {σ : HS} {ω : OS} (h : LK σ ω) {t c m : Nat} (hc : c < 8) (hm : m < 8) : oT ω ((t + 0) % 12) c m = nV σ t c m := h.2 _ _ _ (by omega) hc hm
theorem LgS.on {n dn : Nat} {S : Nat → Bool} {σ : HS} {ω : OS} {ct mo : Nat} (h : LgS n S dn σ ω) (hc : ct < n) (hs : zS σ ct = false) (hm : mo < n) (hne : ¬ mo = ct) : hOn σ ω ct mo := ⟨h.1, h.2.1, h.2.2.1, h.2.2.2.1, by rw [h.2.2.2.2.1]; exact hc, hs, by rw [h.2.2.2.2.1]; exact hm, hne⟩
theorem LgS.C {n dn : Nat} {S : Nat → Bool} {σ : HS} {ω : OS} {C : Nat → Nat} (h : LgS n S dn σ ω) (hC : ∀ r, C r ≤ 9) : LgS n S dn (setC σ C) ω := ⟨zOk_C h.1 hC, h.2.1, h.2.2.1, LK_C.mpr h.2.2.2.1, h.2.2.2.2⟩
set_option maxHeartbeats 4000000 in
set_option maxRecDepth 100000 in
theorem lg_left {p : Program} {e : Env} {s : State} {m : MethodId} {below : List Frame} {meth : Method} {c : Code} {l : Launch} {b L : Nat} {xs : Nat → Int32} {D : va_G} {cZ cI cR : ClassId} (C : LwC p s m meth c b L xs D cZ cI cR) {a sf n ra dn : Nat} {o o' q : Nat → Nat} {S : Nat → Bool} {fr : Nat → Option Nat} {ω : OS} {κ : CS} {ω' : OS} {σ : HS} {w : Option Nat} {ch t : Nat} {H : Heap} {locs : List Loc} (hI : LgS n S dn σ ω) (hP : va_P D vwCl (pD cZ cI a o o' q κ ω ω' σ ++ wSf cZ sf n S ++ wDr cR ra dn fr) H) (hD : va_D (fun q : Nat => s.heap.size ≤ q) (pD cZ cI a o o' q κ ω ω' σ ++ wSf cZ sf n S ++ wDr cR ra dn fr)) (hS : va_S (fun q : Nat => s.heap.size ≤ q) s.heap H locs)
    (K : ∀ ls : Array Slot, lv_has ls 21 [(19, .int (nI (cS (zC σ) n))), (8, .int (nI t)), (7, .int (iO w)), (5, .int (nI ch)), (4, .ref ra), (3, .int (nI n)), (2, .ref sf), (1, .ref a), (0, .ref b)] → W p l e room_1 s m #[Value.ref b] below meth c H locs 36 2330 (lw_Z below #[Value.ref b] s) (F0 m 462 ls [])) :
    ∀ (f i : Nat) (ls : Array Slot), n + 1 ≤ i + f → i ≤ n → lv_has ls 21 [(20, .int (nI i)), (19, .int (nI (cS (zC σ) i))), (8, .int (nI t)), (7, .int (iO w)), (5, .int (nI ch)), (4, .ref ra), (3, .int (nI n)), (2, .ref sf), (1, .ref a), (0, .ref b)] → W p l e room_1 s m #[Value.ref b] below meth c H locs 36 2330 (lw_Z below #[Value.ref b] s) (F0 m 439 ls []) := by
  intro f
  induction f with
  | zero => intro i ls h1 h2; exact absurd h1 (by omega)
  | succ f ih =>
    intro i ls hm hin hl
    obtain ⟨⟨hx, hb, hr, hml, hown, hts0, hX, hbl, hlocks, hgv⟩, hZ, hL⟩ := id C
    have hown : s.vm.findClass RL = some m.cls := hown
    have hts : ∀ w ∈ wsL_law, w.before #[Value.ref b] s = true := fun w h => hts0 w (wsL_law_in w h)
    have hA : ∀ q : Nat, s.heap.size ≤ q → (fun q : Nat => s.heap.size ≤ q) q := fun _ h => h
    have hbA : ¬ (fun q : Nat => s.heap.size ≤ q) b := Nat.not_le.mpr hbl
    have hN := hI.1.1
    have hzn := hI.2.2.2.2.1
    refine lv_iload hx hb dL_law_439 (lv_at hl 0 rfl) ?_
    refine lv_iload_n hx hb dL_law_441 rfl (lv_at hl 6 rfl) ?_
    refine rv_ge (tgt := 462) (x := i) (y := n) hx hb (by omega) (by omega) dL_law_442 (by decide) (fun h => ?_) (fun h => ?_)
    · have e : i = n := by omega
      subst e
      exact K ls (lv_sub hl [1, 2, 3, 4, 5, 6, 7, 8, 9] rfl)
    · skip
      refine lv_iload hx hb dL_law_445 (lv_at hl 1 rfl) ?_
      refine lv_aload_n hx hb dL_law_447 rfl (lv_at hl 8 rfl) ?_
      refine lv_iload hx hb dL_law_448 (lv_at hl 0 rfl) ?_
      refine vp_callSi (va_runV (As := [.int (nI i)]) (rest := [.int (nI (cS (zC σ) i))]) ⟨hx, hb, hml, hown, hts⟩ (c_X2_cheeseIn l D cZ cI a o o' q κ ω ω' σ i hI.1 (by omega)) (cwV 1 hts gL_law_X2_cheeseIn rfl rfl rfl (by decide +kernel) ⟨Nat.le_of_ble_eq_true rfl, Nat.le_of_ble_eq_true rfl⟩) ⟨RdP_blind, va_recv hZ.1 hP (ci := 2) (q0 := 0) rfl rfl, RdP_start (hP.sub (ws' := pD cZ cI a o o' q κ ω ω' σ) [0, 1, 2, 3, 4, 5, 6, 7, 8, 9, 10, 11, 12, 13, 14, 15, 16, 17, 18] rfl) hZ.two⟩ rfl rfl hl.1 rfl (lv_room (Nat.le_of_ble_eq_true rfl)) dL_law_450 ⟨Nat.le_of_ble_eq_true rfl, Nat.le_of_ble_eq_true rfl⟩).run (fun r9 hq => ?_)
      obtain rfl : r9 = (nI (zC σ i) : Int32) := hq
      refine rv_add hx hb dL_law_453 ?_
      refine lv_istore (lv' := [(19, .int (nI (cS (zC σ) (i + 1)))), (20, .int (nI i)), (8, .int (nI t)), (7, .int (iO w)), (5, .int (nI ch)), (4, .ref ra), (3, .int (nI n)), (2, .ref sf), (1, .ref a), (0, .ref b)]) hx hb dL_law_454 hl (by decide) rfl (fun ls hl => ?_)
      refine lv_iinc (v := nI (i + 1)) (lv' := [(20, .int (nI (i + 1))), (19, .int (nI (cS (zC σ) (i + 1)))), (8, .int (nI t)), (7, .int (iO w)), (5, .int (nI ch)), (4, .ref ra), (3, .int (nI n)), (2, .ref sf), (1, .ref a), (0, .ref b)]) hx hb dL_law_456 hl (k := 1) rfl (nI_add i 1) (by decide) rfl (fun ls hl => ?_)
      refine lv_goto (tgt := 439) hx hb dL_law_459 (by decide) ?_
      exact ih (i + 1) ls (by omega) (by omega) (lv_sub hl [0, 1, 2, 3, 4, 5, 6, 7, 8, 9] rfl)
set_option maxHeartbeats 4000000 in
set_option maxRecDepth 100000 in
theorem lg_ways {p : Program} {e : Env} {s : State} {m : MethodId} {below : List Frame} {meth : Method} {c : Code} {l : Launch} {b L : Nat} {xs : Nat → Int32} {D : va_G} {cZ cI cR : ClassId} (C : LwC p s m meth c b L xs D cZ cI cR) {a sf n ra dn : Nat} {o o' q : Nat → Nat} {S : Nat → Bool} {fr : Nat → Option Nat} {ω : OS} {κ : CS} {ω' : OS} {σ : HS} {w V : Option Nat} {ch t fw r : Nat} {is : Bool} {H : Heap} {locs : List Loc} (hI : LgS n S dn σ ω) (hfw : fw < n) (hnw : kn κ < 2 ^ 30) (hP : va_P D vwCl (pD cZ cI a o o' q κ ω ω' σ ++ wSf cZ sf n S ++ wDr cR ra dn fr) H) (hD : va_D (fun q : Nat => s.heap.size ≤ q) (pD cZ cI a o o' q κ ω ω' σ ++ wSf cZ sf n S ++ wDr cR ra dn fr)) (hS : va_S (fun q : Nat => s.heap.size ≤ q) s.heap H locs)
    (K : ∀ ls : Array Slot, lv_has ls 21 [(17, .int (nI (wyL σ ((kn κ + 0) % 12) is fw n 0 0))), (16, .int (nI fw)), (15, .int (nI r)), (14, .int (iO V)), (9, .int (bI is)), (8, .int (nI t)), (7, .int (iO w)), (5, .int (nI ch)), (4, .ref ra), (3, .int (nI n)), (2, .ref sf), (1, .ref a), (0, .ref b)] → W p l e room_1 s m #[Value.ref b] below meth c H locs 36 2330 (lw_Z below #[Value.ref b] s) (F0 m 312 ls [])) :
    ∀ (f i c0 : Nat) (ls : Array Slot), n = i + f → c0 ≤ i → wyL σ ((kn κ + 0) % 12) is fw f i c0 = wyL σ ((kn κ + 0) % 12) is fw n 0 0 → lv_has ls 21 [(18, .int (nI i)), (17, .int (nI c0)), (16, .int (nI fw)), (15, .int (nI r)), (14, .int (iO V)), (9, .int (bI is)), (8, .int (nI t)), (7, .int (iO w)), (5, .int (nI ch)), (4, .ref ra), (3, .int (nI n)), (2, .ref sf), (1, .ref a), (0, .ref b)] → W p l e room_1 s m #[Value.ref b] below meth c H locs 36 2330 (lw_Z below #[Value.ref b] s) (F0 m 267 ls []) := by
  intro f
  induction f with
  | zero =>
    intro i c0 ls hm hc0 hw hl
    obtain ⟨⟨hx, hb, hr, hml, hown, hts0, hX, hbl, hlocks, hgv⟩, hZ, hL⟩ := id C
    have hown : s.vm.findClass RL = some m.cls := hown
    have hts : ∀ w ∈ wsL_law, w.before #[Value.ref b] s = true := fun w h => hts0 w (wsL_law_in w h)
    have hA : ∀ q : Nat, s.heap.size ≤ q → (fun q : Nat => s.heap.size ≤ q) q := fun _ h => h
    have hbA : ¬ (fun q : Nat => s.heap.size ≤ q) b := Nat.not_le.mpr hbl
    have hN := hI.1.1
    have hzn := hI.2.2.2.2.1
    refine lv_iload hx hb dL_law_267 (lv_at hl 0 rfl) ?_
    refine lv_iload_n hx hb dL_law_269 rfl (lv_at hl 10 rfl) ?_
    refine rv_ge (tgt := 312) (x := i) (y := n) hx hb (by omega) (by omega) dL_law_270 (by decide) (fun _ => ?_) (fun h => absurd h (by omega))
    have hl : lv_has ls 21 [(17, .int (nI (wyL σ ((kn κ + 0) % 12) is fw n 0 0))), (16, .int (nI fw)), (15, .int (nI r)), (14, .int (iO V)), (9, .int (bI is)), (8, .int (nI t)), (7, .int (iO w)), (5, .int (nI ch)), (4, .ref ra), (3, .int (nI n)), (2, .ref sf), (1, .ref a), (0, .ref b)] := by rw [← hw]; exact (lv_sub hl [1, 2, 3, 4, 5, 6, 7, 8, 9, 10, 11, 12, 13] rfl)
    exact K ls hl
  | succ f ih =>
    intro i c0 ls hm hc0 hw hl
    obtain ⟨⟨hx, hb, hr, hml, hown, hts0, hX, hbl, hlocks, hgv⟩, hZ, hL⟩ := id C
    have hown : s.vm.findClass RL = some m.cls := hown
    have hts : ∀ w ∈ wsL_law, w.before #[Value.ref b] s = true := fun w h => hts0 w (wsL_law_in w h)
    have hA : ∀ q : Nat, s.heap.size ≤ q → (fun q : Nat => s.heap.size ≤ q) q := fun _ h => h
    have hbA : ¬ (fun q : Nat => s.heap.size ≤ q) b := Nat.not_le.mpr hbl
    have hN := hI.1.1
    have hzn := hI.2.2.2.2.1
    refine lv_iload hx hb dL_law_267 (lv_at hl 0 rfl) ?_
    refine lv_iload_n hx hb dL_law_269 rfl (lv_at hl 10 rfl) ?_
    refine rv_ge (tgt := 312) (x := i) (y := n) hx hb (by omega) (by omega) dL_law_270 (by decide) (fun h => absurd (by omega) h) (fun h => ?_)
    refine lv_iload hx hb dL_law_273 (lv_at hl 1 rfl) ?_
    refine lv_aload_n hx hb dL_law_275 rfl (lv_at hl 12 rfl) ?_
    refine lv_iload hx hb dL_law_276 (lv_at hl 2 rfl) ?_
    refine lv_iload hx hb dL_law_278 (lv_at hl 0 rfl) ?_
    refine vp_callSi (va_runV (As := [.int (nI fw), .int (nI i)]) (rest := [.int (nI c0)]) ⟨hx, hb, hml, hown, hts⟩ (c_X2_isWayOpen l D cZ cI a o o' q κ ω ω' σ fw i hI.1 (by omega) (by omega) hnw) (cwV 2 hts gL_law_X2_isWayOpen rfl rfl rfl (by decide +kernel) ⟨Nat.le_of_ble_eq_true rfl, Nat.le_of_ble_eq_true rfl⟩) ⟨RdP_blind, va_recv hZ.1 hP (ci := 2) (q0 := 0) rfl rfl, RdP_start (hP.sub (ws' := pD cZ cI a o o' q κ ω ω' σ) [0, 1, 2, 3, 4, 5, 6, 7, 8, 9, 10, 11, 12, 13, 14, 15, 16, 17, 18] rfl) hZ.two⟩ rfl rfl hl.1 rfl (lv_room (Nat.le_of_ble_eq_true rfl)) dL_law_280 ⟨Nat.le_of_ble_eq_true rfl, Nat.le_of_ble_eq_true rfl⟩).run (fun r9 hq => ?_)
    obtain rfl : r9 = (bI (hWay σ fw i ((kn κ + 0) % 12)) : Int32) := hq
    have K303 : ∀ v : Bool, v = (hWay σ fw i ((kn κ + 0) % 12) && !(is && zS σ i)) → W p l e room_1 s m #[Value.ref b] below meth c H locs 36 2330 (lw_Z below #[Value.ref b] s) (F0 m 303 ls [.int (bI v), .int (nI c0)]) := by
      intro v hv
      refine rv_top (show bI v = nI (cond v 1 0) by cases v <;> rfl) ?_
      refine rv_add hx hb dL_law_303 ?_
      refine lv_istore (lv' := [(17, .int (nI (c0 + cond v 1 0))), (18, .int (nI i)), (16, .int (nI fw)), (15, .int (nI r)), (14, .int (iO V)), (9, .int (bI is)), (8, .int (nI t)), (7, .int (iO w)), (5, .int (nI ch)), (4, .ref ra), (3, .int (nI n)), (2, .ref sf), (1, .ref a), (0, .ref b)]) hx hb dL_law_304 hl (by decide) rfl (fun ls hl => ?_)
      refine lv_iinc (v := nI (i + 1)) (lv' := [(18, .int (nI (i + 1))), (17, .int (nI (c0 + cond v 1 0))), (16, .int (nI fw)), (15, .int (nI r)), (14, .int (iO V)), (9, .int (bI is)), (8, .int (nI t)), (7, .int (iO w)), (5, .int (nI ch)), (4, .ref ra), (3, .int (nI n)), (2, .ref sf), (1, .ref a), (0, .ref b)]) hx hb dL_law_306 hl (k := 1) rfl (nI_add i 1) (by decide) rfl (fun ls hl => ?_)
      refine lv_goto (tgt := 267) hx hb dL_law_309 (by decide) ?_
      refine ih (i + 1) (c0 + cond v 1 0) ls (by omega) (by cases v <;> simp <;> omega) ?_ (lv_sub hl [0, 1, 2, 3, 4, 5, 6, 7, 8, 9, 10, 11, 12, 13] rfl)
      rw [← hw]
      show _ = if (hWay σ fw i ((kn κ + 0) % 12) && !(is && zS σ i)) = true then _ else _
      rw [← hv]
      cases v <;> rfl
    have K302 : (hWay σ fw i ((kn κ + 0) % 12) && !(is && zS σ i)) = false → W p l e room_1 s m #[Value.ref b] below meth c H locs 36 2330 (lw_Z below #[Value.ref b] s) (F0 m 302 ls [.int (nI c0)]) := by
      intro hv
      refine lv_iconst (v := nI 0) hx hb dL_law_302 (by decide) ?_
      refine rv_top (show nI 0 = bI false from rfl) ?_
      exact K303 false hv.symm
    have K298 : (hWay σ fw i ((kn κ + 0) % 12) && !(is && zS σ i)) = true → W p l e room_1 s m #[Value.ref b] below meth c H locs 36 2330 (lw_Z below #[Value.ref b] s) (F0 m 298 ls [.int (nI c0)]) := by
      intro hv
      refine lv_iconst (v := nI 1) hx hb dL_law_298 (by decide) ?_
      refine rv_top (show nI 1 = bI true from rfl) ?_
      refine lv_goto (tgt := 303) hx hb dL_law_299 (by decide) ?_
      exact K303 true hv.symm
    refine rv_ifeqB (tgt := 302) hx hb dL_law_283 (by decide) (fun hv => K302 (by rw [hv]; rfl)) (fun hv => ?_)
    refine lv_iload hx hb dL_law_286 (lv_at hl 5 rfl) ?_
    refine rv_ifeqB (tgt := 298) hx hb dL_law_288 (by decide) (fun hi => K298 (by rw [hv, hi]; rfl)) (fun hi => ?_)
    refine lv_aload_n hx hb dL_law_291 rfl (lv_at hl 11 rfl) ?_
    refine lv_iload hx hb dL_law_292 (lv_at hl 0 rfl) ?_
    refine rv_zald hx hb hZ.1 hP 19 0 rfl rfl (r := i) (by omega) (by omega) (v := bI (zS σ i)) (show bI (S i) = bI (zS σ i) by rw [hI.2.2.2.2.2.1 i (by omega)]) dL_law_294 ?_
    refine rv_ifneB (tgt := 302) hx hb dL_law_295 (by decide) (fun hz => K302 (by rw [hv, hi, hz]; rfl)) (fun hz => K298 (by rw [hv, hi, hz]; rfl))
