theorem max0 {g : Nat} (hg : g < 2 ^ 31) : (if nI 0 < nI g then nI g else nI 0) = nI g := by
  by_cases h : nI 0 < nI g
  · rw [if_pos h]
  · rw [if_neg h]
    have h2 := Int32.not_lt.mp h
    rw [Int32.le_iff_toInt_le, nI_toInt hg, nI_toInt (by decide)] at h2
    rw [show g = 0 by omega]
theorem omax_le {a b : Option Nat} {k : Nat} (ha : ∀ x, a = some x → x ≤ k) (hb : ∀ x, b = some x → x ≤ k) : ∀ x, omax a b = some x → x ≤ k := by
  intro x h
  unfold omax at h
  split at h
  · exact hb x h
  · exact ha x h
theorem lcL_le {ω : OS} {σ : HS} {nw : Nat} (hσ : zOk σ) (hT : tOk ω) : ∀ k p o, (∀ x, o = some x → x ≤ 768) → ∀ x, lcL ω σ nw k p o = some x → x ≤ 768
  | 0, _, _, h => h
  | k + 1, p, o, h => lcL_le hσ hT k (p + 1) (omax o (tPair ω σ nw p)) (omax_le h (fun x hx => tPair_le hσ hT nw p x hx))
theorem lcL_768 {ω : OS} {σ : HS} {nw g : Nat} (hσ : zOk σ) (hT : tOk ω) (h : lcL ω σ nw 64 0 none = some g) : g ≤ 768 := lcL_le hσ hT 64 0 none (fun _ h => by cases h) g h
theorem lcL_lt {ω : OS} {σ : HS} {nw g : Nat} (hσ : zOk σ) (hT : tOk ω) (h : lcL ω σ nw 64 0 none = some g) : g < 2 ^ 31 := Nat.lt_of_le_of_lt (lcL_768 hσ hT h) (by decide)
set_option maxHeartbeats 4000000 in
set_option maxRecDepth 100000 in
theorem lg_turnA {p : Program} {e : Env} {s : State} {m : MethodId} {below : List Frame} {meth : Method} {c : Code} {l : Launch} {b L : Nat} {xs : Nat → Int32} {D : va_G} {cZ cI cR : ClassId} (C : LwC p s m meth c b L xs D cZ cI cR) {a sf n ra dn : Nat} {o o' q : Nat → Nat} {S : Nat → Bool} {fr : Nat → Option Nat} {ω : OS} {ω' : OS} {σ : HS} {w : Option Nat} {cg : Bool} {ch t ct mo ea r : Nat} {H : Heap} {locs : List Loc} (hI : LgS n S dn σ ω) (hO : hOn σ ω ct mo) (ht14 : t < 14) (hr9 : r = bestF (oW ω) (oT ω) σ t ct mo) (hP : va_P D vwCl (pD cZ cI a o o' q (t, true, cg, some ct, some mo, ea) ω ω' σ ++ wSf cZ sf n S ++ wDr cR ra dn fr) H) (hD : va_D (fun q : Nat => s.heap.size ≤ q) (pD cZ cI a o o' q (t, true, cg, some ct, some mo, ea) ω ω' σ ++ wSf cZ sf n S ++ wDr cR ra dn fr)) (hS : va_S (fun q : Nat => s.heap.size ≤ q) s.heap H locs)
    (K : ∀ (ω' : OS) (H : Heap) (locs : List Loc) (ls : Array Slot), va_P D vwCl (pD cZ cI a o o' q (t, true, cg, some ct, some mo, ea) ω ω' σ ++ wSf cZ sf n S ++ wDr cR ra dn fr) H → va_D (fun q : Nat => s.heap.size ≤ q) (pD cZ cI a o o' q (t, true, cg, some ct, some mo, ea) ω ω' σ ++ wSf cZ sf n S ++ wDr cR ra dn fr) → va_S (fun q : Nat => s.heap.size ≤ q) s.heap H locs → lv_has ls 21 [(15, .int (nI r)), (14, .int (iO (nV σ t ct mo))), (9, .int (bI (isC t))), (8, .int (nI t)), (7, .int (iO w)), (5, .int (nI ch)), (4, .ref ra), (3, .int (nI n)), (2, .ref sf), (1, .ref a), (0, .ref b)] → W p l e room_1 s m #[Value.ref b] below meth c H locs 36 2330 (lw_Z below #[Value.ref b] s) (F0 m 359 ls []))
    {ls : Array Slot} (hl : lv_has ls 21 [(8, .int (nI t)), (7, .int (iO w)), (5, .int (nI ch)), (4, .ref ra), (3, .int (nI n)), (2, .ref sf), (1, .ref a), (0, .ref b)]) : W p l e room_1 s m #[Value.ref b] below meth c H locs 36 2330 (lw_Z below #[Value.ref b] s) (F0 m 133 ls []) := by
  obtain ⟨⟨hx, hb, hr, hml, hown, hts0, hX, hbl, hlocks, hgv⟩, hZ, hL⟩ := id C
  have hown : s.vm.findClass RL = some m.cls := hown
  have hts : ∀ w ∈ wsL_law, w.before #[Value.ref b] s = true := fun w h => hts0 w (wsL_law_in w h)
  have hA : ∀ q : Nat, s.heap.size ≤ q → (fun q : Nat => s.heap.size ≤ q) q := fun _ h => h
  have hbA : ¬ (fun q : Nat => s.heap.size ≤ q) b := Nat.not_le.mpr hbl
  have hN := hI.1.1
  have hzn := hI.2.2.2.2.1
  have hct : ct < zN σ := hO.2.2.2.2.1
  have hmo : mo < zN σ := hO.2.2.2.2.2.2.1
  have hcs : zS σ ct = false := hO.2.2.2.2.2.1
  have hT : tOk ω := hI.2.2.2.1.tOk
  have hV : oT ω ((t + 0) % 12) ct mo = nV σ t ct mo := LK.nv hI.2.2.2.1 (by omega) (by omega)
  obtain ⟨b1, b2, b3, b4⟩ := st_best (nw := t) hO hr9
  refine lv_aload_n hx hb dL_law_133 rfl (lv_at hl 6 rfl) ?_
  refine vp_callSi (va_runV (As := []) (rest := []) ⟨hx, hb, hml, hown, hts⟩ (c_X2_isCatsTurn l D cZ cI a o o' q (t, true, cg, some ct, some mo, ea) ω ω' σ (show t < 2 ^ 30 by omega)) (cwV 0 hts gL_law_X2_isCatsTurn rfl rfl rfl (by decide +kernel) ⟨Nat.le_of_ble_eq_true rfl, Nat.le_of_ble_eq_true rfl⟩) ⟨RdP_blind, va_recv hZ.1 hP (ci := 2) (q0 := 0) rfl rfl, RdP_start (hP.sub (ws' := pD cZ cI a o o' q (t, true, cg, some ct, some mo, ea) ω ω' σ) [0, 1, 2, 3, 4, 5, 6, 7, 8, 9, 10, 11, 12, 13, 14, 15, 16, 17, 18] rfl) hZ.two⟩ rfl rfl hl.1 rfl (lv_room (Nat.le_of_ble_eq_true rfl)) dL_law_134 ⟨Nat.le_of_ble_eq_true rfl, Nat.le_of_ble_eq_true rfl⟩).run (fun r9 hq => ?_)
  obtain rfl : r9 = (bI (isC t) : Int32) := hq
  refine lv_istore (lv' := [(9, .int (bI (isC t))), (8, .int (nI t)), (7, .int (iO w)), (5, .int (nI ch)), (4, .ref ra), (3, .int (nI n)), (2, .ref sf), (1, .ref a), (0, .ref b)]) hx hb dL_law_137 hl (by decide) rfl (fun ls hl => ?_)
  refine lv_aload_n hx hb dL_law_139 rfl (lv_at hl 7 rfl) ?_
  refine vp_callSi (va_runV (As := []) (rest := []) ⟨hx, hb, hml, hown, hts⟩ (c_X2_catIn l D cZ cI a o o' q (t, true, cg, some ct, some mo, ea) ω ω' σ) (cwV 0 hts gL_law_X2_catIn rfl rfl rfl (by decide +kernel) ⟨Nat.le_of_ble_eq_true rfl, Nat.le_of_ble_eq_true rfl⟩) ⟨RdP_blind, va_recv hZ.1 hP (ci := 2) (q0 := 0) rfl rfl, RdP_start (hP.sub (ws' := pD cZ cI a o o' q (t, true, cg, some ct, some mo, ea) ω ω' σ) [0, 1, 2, 3, 4, 5, 6, 7, 8, 9, 10, 11, 12, 13, 14, 15, 16, 17, 18] rfl) hZ.two⟩ rfl rfl hl.1 rfl (lv_room (Nat.le_of_ble_eq_true rfl)) dL_law_140 ⟨Nat.le_of_ble_eq_true rfl, Nat.le_of_ble_eq_true rfl⟩).run (fun r9 hq => ?_)
  obtain rfl : r9 = (nI ct : Int32) := hq
  refine lv_istore (lv' := [(10, .int (nI ct)), (9, .int (bI (isC t))), (8, .int (nI t)), (7, .int (iO w)), (5, .int (nI ch)), (4, .ref ra), (3, .int (nI n)), (2, .ref sf), (1, .ref a), (0, .ref b)]) hx hb dL_law_143 hl (by decide) rfl (fun ls hl => ?_)
  refine lv_aload_n hx hb dL_law_145 rfl (lv_at hl 8 rfl) ?_
  refine vp_callSi (va_runV (As := []) (rest := []) ⟨hx, hb, hml, hown, hts⟩ (c_X2_mouseIn l D cZ cI a o o' q (t, true, cg, some ct, some mo, ea) ω ω' σ) (cwV 0 hts gL_law_X2_mouseIn rfl rfl rfl (by decide +kernel) ⟨Nat.le_of_ble_eq_true rfl, Nat.le_of_ble_eq_true rfl⟩) ⟨RdP_blind, va_recv hZ.1 hP (ci := 2) (q0 := 0) rfl rfl, RdP_start (hP.sub (ws' := pD cZ cI a o o' q (t, true, cg, some ct, some mo, ea) ω ω' σ) [0, 1, 2, 3, 4, 5, 6, 7, 8, 9, 10, 11, 12, 13, 14, 15, 16, 17, 18] rfl) hZ.two⟩ rfl rfl hl.1 rfl (lv_room (Nat.le_of_ble_eq_true rfl)) dL_law_146 ⟨Nat.le_of_ble_eq_true rfl, Nat.le_of_ble_eq_true rfl⟩).run (fun r9 hq => ?_)
  obtain rfl : r9 = (nI mo : Int32) := hq
  refine lv_istore (lv' := [(11, .int (nI mo)), (10, .int (nI ct)), (9, .int (bI (isC t))), (8, .int (nI t)), (7, .int (iO w)), (5, .int (nI ch)), (4, .ref ra), (3, .int (nI n)), (2, .ref sf), (1, .ref a), (0, .ref b)]) hx hb dL_law_149 hl (by decide) rfl (fun ls hl => ?_)
  refine lv_aload_n hx hb dL_law_151 rfl (lv_at hl 9 rfl) ?_
  have hPc := hP.sub (ws' := pD cZ cI a o o' q (t, true, cg, some ct, some mo, ea) ω ω' σ) [0, 1, 2, 3, 4, 5, 6, 7, 8, 9, 10, 11, 12, 13, 14, 15, 16, 17, 18] rfl
  have hDc := hD.sub (ws' := pD cZ cI a o o' q (t, true, cg, some ct, some mo, ea) ω ω' σ) [0, 1, 2, 3, 4, 5, 6, 7, 8, 9, 10, 11, 12, 13, 14, 15, 16, 17, 18] (by decide) rfl
  have hFc := va_free (wc := pD cZ cI a o o' q (t, true, cg, some ct, some mo, ea) ω ω' σ) hD hS hA [0, 1, 2, 3, 4, 5, 6, 7, 8, 9, 10, 11, 12, 13, 14, 15, 16, 17, 18] rfl
  refine va_calll (va_runV (As := []) (rest := []) ⟨hx, hb, hml, hown, hts⟩ (c_X2_digest l D cZ cI a o o' q t cg ct mo ea ω ω' σ H.size hI.1 hct hmo (by omega) hT) (cwV 0 hts gL_law_X2_digest rfl rfl rfl (by decide +kernel) ⟨Nat.le_of_ble_eq_true rfl, Nat.le_of_ble_eq_true rfl⟩) ⟨WrP_blind, va_recv hZ.1 hP (ci := 2) (q0 := 0) rfl rfl, WrP_start hPc hDc hZ.two⟩ rfl rfl hl.1 rfl (lv_room (Nat.le_of_ble_eq_true rfl)) dL_law_152 ⟨Nat.le_of_ble_eq_true rfl, Nat.le_of_ble_eq_true rfl⟩) hS (fun q _ h => hFc q h) hFc (fun d1 u1 t9 H1 locs ht hvm hw hB hz1 hk1 hS => ?_)
  obtain ⟨hP1, hD1⟩ := hB
  rw [ht] at hP1
  obtain ⟨hP, hD⟩ := va_join (wr := wSf cZ sf n S ++ wDr cR ra dn fr) (w1 := pD cZ cI a o o' q (t, true, cg, some ct, some mo, ea) ω u1 σ) hP hD [0, 1, 2, 3, 4, 5, 6, 7, 8, 9, 10, 11, 12, 13, 14, 15, 16, 17, 18] [19, 20] rfl rfl (by decide) (by decide) hk1 hFc hP1 hD1
  replace hP := hP.sub (ws' := pD cZ cI a o o' q (t, true, cg, some ct, some mo, ea) ω u1 σ ++ wSf cZ sf n S ++ wDr cR ra dn fr) [2, 3, 4, 5, 6, 7, 8, 9, 10, 11, 12, 13, 14, 15, 16, 17, 18, 19, 20, 0, 1] rfl
  replace hD := hD.sub (ws' := pD cZ cI a o o' q (t, true, cg, some ct, some mo, ea) ω u1 σ ++ wSf cZ sf n S ++ wDr cR ra dn fr) [2, 3, 4, 5, 6, 7, 8, 9, 10, 11, 12, 13, 14, 15, 16, 17, 18, 19, 20, 0, 1] (by decide) rfl
  generalize H1 = H at hP hS ⊢
  have hd1 := hw
  refine lv_lstore (lv' := [(12, .long d1), (11, .int (nI mo)), (10, .int (nI ct)), (9, .int (bI (isC t))), (8, .int (nI t)), (7, .int (iO w)), (5, .int (nI ch)), (4, .ref ra), (3, .int (nI n)), (2, .ref sf), (1, .ref a), (0, .ref b)]) hx hb dL_law_155 hl (by decide) rfl (fun ls hl => ?_)
  refine lv_aload_n hx hb dL_law_157 rfl (lv_at hl 10 rfl) ?_
  refine vp_callSi (va_runV (As := []) (rest := []) ⟨hx, hb, hml, hown, hts⟩ (c_X2_turnsToCatch l D cZ cI a o o' q t cg ct mo ea ω u1 σ hI.1 hct hmo (by omega)) (cwV 0 hts gL_law_X2_turnsToCatch rfl rfl rfl (by decide +kernel) ⟨Nat.le_of_ble_eq_true rfl, Nat.le_of_ble_eq_true rfl⟩) ⟨RdP_blind, va_recv hZ.1 hP (ci := 2) (q0 := 0) rfl rfl, RdP_start (hP.sub (ws' := pD cZ cI a o o' q (t, true, cg, some ct, some mo, ea) ω u1 σ) [0, 1, 2, 3, 4, 5, 6, 7, 8, 9, 10, 11, 12, 13, 14, 15, 16, 17, 18] rfl) hZ.two⟩ rfl rfl hl.1 rfl (lv_room (Nat.le_of_ble_eq_true rfl)) dL_law_158 ⟨Nat.le_of_ble_eq_true rfl, Nat.le_of_ble_eq_true rfl⟩).run (fun r9 hq => ?_)
  obtain rfl : r9 = (iO (nV σ t ct mo) : Int32) := hq.trans (congrArg iO hV)
  refine lv_istore (lv' := [(14, .int (iO (nV σ t ct mo))), (12, .long d1), (11, .int (nI mo)), (10, .int (nI ct)), (9, .int (bI (isC t))), (8, .int (nI t)), (7, .int (iO w)), (5, .int (nI ch)), (4, .ref ra), (3, .int (nI n)), (2, .ref sf), (1, .ref a), (0, .ref b)]) hx hb dL_law_161 hl (by decide) rfl (fun ls hl => ?_)
  refine lv_aload_n hx hb dL_law_163 rfl (lv_at hl 11 rfl) ?_
  refine vp_callSi (va_runV (As := []) (rest := []) ⟨hx, hb, hml, hown, hts⟩ (c_X2_bestGo l D cZ cI a o o' q t cg ct mo ea ω u1 σ hI.1 hct hmo (by omega) hT) (cwV 0 hts gL_law_X2_bestGo rfl rfl rfl (by decide +kernel) ⟨Nat.le_of_ble_eq_true rfl, Nat.le_of_ble_eq_true rfl⟩) ⟨RdP_blind, va_recv hZ.1 hP (ci := 2) (q0 := 0) rfl rfl, RdP_start (hP.sub (ws' := pD cZ cI a o o' q (t, true, cg, some ct, some mo, ea) ω u1 σ) [0, 1, 2, 3, 4, 5, 6, 7, 8, 9, 10, 11, 12, 13, 14, 15, 16, 17, 18] rfl) hZ.two⟩ rfl rfl hl.1 rfl (lv_room (Nat.le_of_ble_eq_true rfl)) dL_law_164 ⟨Nat.le_of_ble_eq_true rfl, Nat.le_of_ble_eq_true rfl⟩).run (fun r9 hq => ?_)
  obtain rfl : r9 = (nI r : Int32) := hq.trans (by rw [hr9])
  refine lv_istore (lv' := [(15, .int (nI r)), (14, .int (iO (nV σ t ct mo))), (12, .long d1), (11, .int (nI mo)), (10, .int (nI ct)), (9, .int (bI (isC t))), (8, .int (nI t)), (7, .int (iO w)), (5, .int (nI ch)), (4, .ref ra), (3, .int (nI n)), (2, .ref sf), (1, .ref a), (0, .ref b)]) hx hb dL_law_167 hl (by decide) rfl (fun ls hl => ?_)
  refine lv_iload hx hb dL_law_169 (lv_at hl 1 rfl) ?_
  refine lv_aload_n hx hb dL_law_171 rfl (lv_at hl 12 rfl) ?_
  refine lv_iload hx hb dL_law_172 (lv_at hl 4 rfl) ?_
  refine lv_iload hx hb dL_law_174 (lv_at hl 3 rfl) ?_
  refine vp_callSi (va_runV (As := [.int (nI ct), .int (nI mo)]) (rest := [.int (iO (nV σ t ct mo))]) ⟨hx, hb, hml, hown, hts⟩ (c_X2_turnsFrom l D cZ cI a o o' q (t, true, cg, some ct, some mo, ea) ω u1 σ ct mo hI.1 hct hmo hcs (show t < 2 ^ 30 by omega)) (cwV 2 hts gL_law_X2_turnsFrom rfl rfl rfl (by decide +kernel) ⟨Nat.le_of_ble_eq_true rfl, Nat.le_of_ble_eq_true rfl⟩) ⟨RdP_blind, va_recv hZ.1 hP (ci := 2) (q0 := 0) rfl rfl, RdP_start (hP.sub (ws' := pD cZ cI a o o' q (t, true, cg, some ct, some mo, ea) ω u1 σ) [0, 1, 2, 3, 4, 5, 6, 7, 8, 9, 10, 11, 12, 13, 14, 15, 16, 17, 18] rfl) hZ.two⟩ rfl rfl hl.1 rfl (lv_room (Nat.le_of_ble_eq_true rfl)) dL_law_176 ⟨Nat.le_of_ble_eq_true rfl, Nat.le_of_ble_eq_true rfl⟩).run (fun r9 hq => ?_)
  obtain rfl : r9 = (iO (nV σ t ct mo) : Int32) := hq.trans (congrArg iO hV)
  refine lv_icmp_ne (tgt := 245) hx hb dL_law_179 (by decide) (fun h => absurd rfl h) (fun _ => ?_)
  refine lv_aload_n hx hb dL_law_182 rfl (lv_at hl 12 rfl) ?_
  have hPc := hP.sub (ws' := pD cZ cI a o o' q (t, true, cg, some ct, some mo, ea) ω u1 σ) [0, 1, 2, 3, 4, 5, 6, 7, 8, 9, 10, 11, 12, 13, 14, 15, 16, 17, 18] rfl
  have hDc := hD.sub (ws' := pD cZ cI a o o' q (t, true, cg, some ct, some mo, ea) ω u1 σ) [0, 1, 2, 3, 4, 5, 6, 7, 8, 9, 10, 11, 12, 13, 14, 15, 16, 17, 18] (by decide) rfl
  have hFc := va_free (wc := pD cZ cI a o o' q (t, true, cg, some ct, some mo, ea) ω u1 σ) hD hS hA [0, 1, 2, 3, 4, 5, 6, 7, 8, 9, 10, 11, 12, 13, 14, 15, 16, 17, 18] rfl
  refine va_calll (va_runV (As := []) (rest := []) ⟨hx, hb, hml, hown, hts⟩ (c_X2_digest l D cZ cI a o o' q t cg ct mo ea ω u1 σ H.size hI.1 hct hmo (by omega) hT) (cwV 0 hts gL_law_X2_digest rfl rfl rfl (by decide +kernel) ⟨Nat.le_of_ble_eq_true rfl, Nat.le_of_ble_eq_true rfl⟩) ⟨WrP_blind, va_recv hZ.1 hP (ci := 2) (q0 := 0) rfl rfl, WrP_start hPc hDc hZ.two⟩ rfl rfl hl.1 rfl (lv_room (Nat.le_of_ble_eq_true rfl)) dL_law_183 ⟨Nat.le_of_ble_eq_true rfl, Nat.le_of_ble_eq_true rfl⟩) hS (fun q _ h => hFc q h) hFc (fun d2 u2 t9 H1 locs ht hvm hw hB hz1 hk1 hS => ?_)
  obtain ⟨hP1, hD1⟩ := hB
  rw [ht] at hP1
  obtain ⟨hP, hD⟩ := va_join (wr := wSf cZ sf n S ++ wDr cR ra dn fr) (w1 := pD cZ cI a o o' q (t, true, cg, some ct, some mo, ea) ω u2 σ) hP hD [0, 1, 2, 3, 4, 5, 6, 7, 8, 9, 10, 11, 12, 13, 14, 15, 16, 17, 18] [19, 20] rfl rfl (by decide) (by decide) hk1 hFc hP1 hD1
  replace hP := hP.sub (ws' := pD cZ cI a o o' q (t, true, cg, some ct, some mo, ea) ω u2 σ ++ wSf cZ sf n S ++ wDr cR ra dn fr) [2, 3, 4, 5, 6, 7, 8, 9, 10, 11, 12, 13, 14, 15, 16, 17, 18, 19, 20, 0, 1] rfl
  replace hD := hD.sub (ws' := pD cZ cI a o o' q (t, true, cg, some ct, some mo, ea) ω u2 σ ++ wSf cZ sf n S ++ wDr cR ra dn fr) [2, 3, 4, 5, 6, 7, 8, 9, 10, 11, 12, 13, 14, 15, 16, 17, 18, 19, 20, 0, 1] (by decide) rfl
  generalize H1 = H at hP hS ⊢
  have hd2 : d2 = d1 := hw.trans hd1.symm
  refine lv_lload hx hb dL_law_186 (lv_at hl 2 rfl) ?_
  refine W.lcmp hx hb dL_law_188 ?_
  refine lv_if_ne (tgt := 245) hx hb dL_law_189 (by decide) (fun h => absurd (by rw [hd2]; unfold lg_cmp; simp) h) (fun _ => ?_)
  refine lv_aload_n hx hb dL_law_192 rfl (lv_at hl 12 rfl) ?_
  refine vp_callSi (va_runV (As := []) (rest := []) ⟨hx, hb, hml, hown, hts⟩ (c_X2_turn l D cZ cI a o o' q (t, true, cg, some ct, some mo, ea) ω u2 σ) (cwV 0 hts gL_law_X2_turn rfl rfl rfl (by decide +kernel) ⟨Nat.le_of_ble_eq_true rfl, Nat.le_of_ble_eq_true rfl⟩) ⟨RdP_blind, va_recv hZ.1 hP (ci := 2) (q0 := 0) rfl rfl, RdP_start (hP.sub (ws' := pD cZ cI a o o' q (t, true, cg, some ct, some mo, ea) ω u2 σ) [0, 1, 2, 3, 4, 5, 6, 7, 8, 9, 10, 11, 12, 13, 14, 15, 16, 17, 18] rfl) hZ.two⟩ rfl rfl hl.1 rfl (lv_room (Nat.le_of_ble_eq_true rfl)) dL_law_193 ⟨Nat.le_of_ble_eq_true rfl, Nat.le_of_ble_eq_true rfl⟩).run (fun r9 hq => ?_)
  obtain rfl : r9 = (nI t : Int32) := hq
  refine lv_iload hx hb dL_law_196 (lv_at hl 6 rfl) ?_
  refine lv_icmp_ne (tgt := 245) hx hb dL_law_198 (by decide) (fun h => absurd rfl h) (fun _ => ?_)
  refine lv_aload_n hx hb dL_law_201 rfl (lv_at hl 12 rfl) ?_
  have K247 : W p l e room_1 s m #[Value.ref b] below meth c H locs 36 2330 (lw_Z below #[Value.ref b] s) (F0 m 247 ls []) := by
    refine lv_iload hx hb dL_law_247 (lv_at hl 5 rfl) ?_
    have K259 : W p l e room_1 s m #[Value.ref b] below meth c H locs 36 2330 (lw_Z below #[Value.ref b] s) (F0 m 259 ls [.int (nI (whoF t ct mo))]) := by
      refine lv_istore (lv' := [(16, .int (nI (whoF t ct mo))), (15, .int (nI r)), (14, .int (iO (nV σ t ct mo))), (12, .long d1), (11, .int (nI mo)), (10, .int (nI ct)), (9, .int (bI (isC t))), (8, .int (nI t)), (7, .int (iO w)), (5, .int (nI ch)), (4, .ref ra), (3, .int (nI n)), (2, .ref sf), (1, .ref a), (0, .ref b)]) hx hb dL_law_259 hl (by decide) rfl (fun ls hl => ?_)
      refine lv_iconst (v := nI 0) hx hb dL_law_261 (by decide) ?_
      refine lv_istore (lv' := [(17, .int (nI 0)), (16, .int (nI (whoF t ct mo))), (15, .int (nI r)), (14, .int (iO (nV σ t ct mo))), (12, .long d1), (11, .int (nI mo)), (10, .int (nI ct)), (9, .int (bI (isC t))), (8, .int (nI t)), (7, .int (iO w)), (5, .int (nI ch)), (4, .ref ra), (3, .int (nI n)), (2, .ref sf), (1, .ref a), (0, .ref b)]) hx hb dL_law_262 hl (by decide) rfl (fun ls hl => ?_)
      refine lv_iconst (v := nI 0) hx hb dL_law_264 (by decide) ?_
      refine lv_istore (lv' := [(18, .int (nI 0)), (17, .int (nI 0)), (16, .int (nI (whoF t ct mo))), (15, .int (nI r)), (14, .int (iO (nV σ t ct mo))), (12, .long d1), (11, .int (nI mo)), (10, .int (nI ct)), (9, .int (bI (isC t))), (8, .int (nI t)), (7, .int (iO w)), (5, .int (nI ch)), (4, .ref ra), (3, .int (nI n)), (2, .ref sf), (1, .ref a), (0, .ref b)]) hx hb dL_law_265 hl (by decide) rfl (fun ls hl => ?_)
      refine lg_ways C hI (κ := (t, true, cg, some ct, some mo, ea)) (whoF_lt (by omega) (by omega)) (show t < 2 ^ 30 by omega) hP hD hS (fun ls hl => ?_) n 0 0 ls (by omega) (by omega) rfl (lv_sub hl [0, 1, 2, 3, 4, 8, 9, 10, 11, 12, 13, 14, 15, 16] rfl)
      have hl : lv_has ls 21 [(17, .int (nI (wyL σ ((t + 0) % 12) (isC t) (whoF t ct mo) n 0 0))), (16, .int (nI (whoF t ct mo))), (15, .int (nI r)), (14, .int (iO (nV σ t ct mo))), (9, .int (bI (isC t))), (8, .int (nI t)), (7, .int (iO w)), (5, .int (nI ch)), (4, .ref ra), (3, .int (nI n)), (2, .ref sf), (1, .ref a), (0, .ref b)] := hl
      have hwy : wyL σ ((t + 0) % 12) (isC t) (whoF t ct mo) n 0 0 ≤ 8 := Nat.le_trans (wyL_le n 0 0) (by omega)
      have K359 : W p l e room_1 s m #[Value.ref b] below meth c H locs 36 2330 (lw_Z below #[Value.ref b] s) (F0 m 359 ls []) := K _ H locs ls hP hD hS (lv_sub hl [2, 3, 4, 5, 6, 7, 8, 9, 10, 11, 12] rfl)
      have K334 : W p l e room_1 s m #[Value.ref b] below meth c H locs 36 2330 (lw_Z below #[Value.ref b] s) (F0 m 334 ls []) := by
        refine lv_iload hx hb dL_law_334 (lv_at hl 3 rfl) ?_
        cases hv : nV σ t ct mo with
        | none => exact lv_if_lt (tgt := 359) hx hb dL_law_336 (by decide) (fun _ => K359) (fun h => absurd (show (-1 : Int32) < 0 by decide) h)
        | some v9 =>
          have hv9 := nV_lt v9 hv
          refine rv_top (iO_some v9) ?_
          refine rv_ifltN (tgt := 359) (x := v9) hx hb hv9 dL_law_336 (by decide) ?_
          refine lv_iload hx hb dL_law_339 (lv_at hl 4 rfl) ?_
          refine lv_iload hx hb dL_law_341 (lv_at hl 3 rfl) ?_
          refine rv_top (show iO (nV σ t ct mo) = nI v9 by rw [hv]; rfl) ?_
          refine lv_iconst (v := nI 2) hx hb dL_law_343 (by decide) ?_
          refine rv_rem hx hb hv9 (by decide) (by decide) dL_law_344 ?_
          refine lv_iconst (v := nI 1) hx hb dL_law_345 (by decide) ?_
          have hpar := st_par hO hv
          refine rv_ne (tgt := 353) (x := v9 % 2) (y := 1) hx hb (by omega) (by decide) dL_law_346 (by decide) (fun h => ?_) (fun h => ?_)
          · refine lv_iconst (v := nI 0) hx hb dL_law_353 (by decide) ?_
            refine rv_top (show nI 0 = bI false from rfl) ?_
            have e : isC t = false := by rw [hpar]; exact beq_false_of_ne h
            refine lv_icmp_eq (tgt := 359) hx hb dL_law_354 (by decide) (fun _ => K359) (fun g => absurd (by rw [e]) g)
          · refine lv_iconst (v := nI 1) hx hb dL_law_349 (by decide) ?_
            refine rv_top (show nI 1 = bI true from rfl) ?_
            refine lv_goto (tgt := 354) hx hb dL_law_350 (by decide) ?_
            have e : isC t = true := by rw [hpar]; exact beq_iff_eq.mpr h
            refine lv_icmp_eq (tgt := 359) hx hb dL_law_354 (by decide) (fun _ => K359) (fun g => absurd (by rw [e]) g)
      have K324 : W p l e room_1 s m #[Value.ref b] below meth c H locs 36 2330 (lw_Z below #[Value.ref b] s) (F0 m 324 ls []) := by
        refine lv_iload hx hb dL_law_324 (lv_at hl 4 rfl) ?_
        refine rv_ifeqB (tgt := 334) hx hb dL_law_326 (by decide) (fun _ => K334) (fun _ => ?_)
        refine lv_iload hx hb dL_law_329 (lv_at hl 3 rfl) ?_
        refine lv_if_eq (tgt := 357) hx hb dL_law_331 (by decide) (fun h => ?_) (fun _ => K334)
        exact absurd ((iO_nI (x := 0) (by decide) nV_lt).mp h.symm) (nV_ne0 hO)
      refine lv_iload hx hb dL_law_312 (lv_at hl 0 rfl) ?_
      refine rv_ifneN (tgt := 324) (x := wyL σ ((t + 0) % 12) (isC t) (whoF t ct mo) n 0 0) hx hb (by omega) dL_law_314 (by decide) (fun _ => K324) (fun h0 => ?_)
      refine lv_iload hx hb dL_law_317 (lv_at hl 2 rfl) ?_
      refine lv_iload hx hb dL_law_319 (lv_at hl 1 rfl) ?_
      have hst : r = whoF t ct mo := st_stay hO hr9 (by rw [hzn]; exact h0)
      refine lv_icmp_ne (tgt := 357) hx hb dL_law_321 (by decide) (fun h => absurd (by rw [← hst]) h) (fun _ => K324)
    refine rv_ifeqB (tgt := 257) hx hb dL_law_249 (by decide) (fun hc => ?_) (fun hc => ?_)
    · skip
      refine lv_iload hx hb dL_law_257 (lv_at hl 3 rfl) ?_
      refine rv_top (show nI mo = nI (whoF t ct mo) by unfold whoF; rw [if_neg (by rw [hc]; exact Bool.false_ne_true)]) ?_
      exact K259
    · skip
      refine lv_iload hx hb dL_law_252 (lv_at hl 4 rfl) ?_
      refine lv_goto (tgt := 259) hx hb dL_law_254 (by decide) ?_
      refine rv_top (show nI ct = nI (whoF t ct mo) by unfold whoF; rw [if_pos hc]) ?_
      exact K259
  refine vp_callSi (va_runV (As := []) (rest := []) ⟨hx, hb, hml, hown, hts⟩ (c_X2_longestChase l D cZ cI a o o' q (t, true, cg, some ct, some mo, ea) ω u2 σ hI.1 (show t < 2 ^ 30 by omega) hT) (cwV 0 hts gL_law_X2_longestChase rfl rfl rfl (by decide +kernel) ⟨Nat.le_of_ble_eq_true rfl, Nat.le_of_ble_eq_true rfl⟩) ⟨RdP_blind, va_recv hZ.1 hP (ci := 2) (q0 := 0) rfl rfl, RdP_start (hP.sub (ws' := pD cZ cI a o o' q (t, true, cg, some ct, some mo, ea) ω u2 σ) [0, 1, 2, 3, 4, 5, 6, 7, 8, 9, 10, 11, 12, 13, 14, 15, 16, 17, 18] rfl) hZ.two⟩ rfl rfl hl.1 rfl (lv_room (Nat.le_of_ble_eq_true rfl)) dL_law_202 ⟨Nat.le_of_ble_eq_true rfl, Nat.le_of_ble_eq_true rfl⟩).run (fun r9 hq => ?_)
  obtain rfl : r9 = (iO (lcL ω σ t 64 0 none) : Int32) := hq
  have hln := lcL_none (ω := ω) (σ := σ) (nw := t) 64 0 none 0
  have hpb : pcL ω σ t 64 0 0 ≤ 64 := Nat.le_trans (pcL_le 64 0 0) (by decide)
  have hlb : ∀ g, lcL ω σ t 64 0 none = some g → g < 2 ^ 31 := fun g hg => lcL_lt hI.1 hT hg
  cases hLC : lcL ω σ t 64 0 none with
  | none =>
    have hp0 : pcL ω σ t 64 0 0 = 0 := (hln.mp hLC).2
    refine lv_if_ge (tgt := 212) hx hb dL_law_205 (by decide) (fun h => absurd h (by decide)) (fun _ => ?_)
    refine lv_iconst (v := nI 1) hx hb dL_law_208 (by decide) ?_
    refine lv_goto (tgt := 213) hx hb dL_law_209 (by decide) ?_
    refine lv_aload_n hx hb dL_law_213 rfl (lv_at hl 12 rfl) ?_
    refine vp_callSi (va_runV (As := []) (rest := [.int (nI 1)]) ⟨hx, hb, hml, hown, hts⟩ (c_X2_pairsCaught l D cZ cI a o o' q (t, true, cg, some ct, some mo, ea) ω u2 σ hI.1 (show t < 2 ^ 30 by omega) hT) (cwV 0 hts gL_law_X2_pairsCaught rfl rfl rfl (by decide +kernel) ⟨Nat.le_of_ble_eq_true rfl, Nat.le_of_ble_eq_true rfl⟩) ⟨RdP_blind, va_recv hZ.1 hP (ci := 2) (q0 := 0) rfl rfl, RdP_start (hP.sub (ws' := pD cZ cI a o o' q (t, true, cg, some ct, some mo, ea) ω u2 σ) [0, 1, 2, 3, 4, 5, 6, 7, 8, 9, 10, 11, 12, 13, 14, 15, 16, 17, 18] rfl) hZ.two⟩ rfl rfl hl.1 rfl (lv_room (Nat.le_of_ble_eq_true rfl)) dL_law_214 ⟨Nat.le_of_ble_eq_true rfl, Nat.le_of_ble_eq_true rfl⟩).run (fun r9 hq => ?_)
    obtain rfl : r9 = (nI 0 : Int32) := hq.trans (congrArg nI hp0)
    refine lv_if_ne (tgt := 224) hx hb dL_law_217 (by decide) (fun h => absurd rfl h) (fun _ => ?_)
    refine lv_iconst (v := nI 1) hx hb dL_law_220 (by decide) ?_
    refine lv_goto (tgt := 225) hx hb dL_law_221 (by decide) ?_
    refine lv_icmp_ne (tgt := 245) hx hb dL_law_225 (by decide) (fun h => absurd rfl h) (fun _ => ?_)
    refine lv_aload_n hx hb dL_law_228 rfl (lv_at hl 12 rfl) ?_
    refine vp_callSd (va_runV (As := []) (rest := []) ⟨hx, hb, hml, hown, hts⟩ (c_X2_meanTurns l D cZ cI a o o' q (t, true, cg, some ct, some mo, ea) ω u2 σ hI.1 (show t < 2 ^ 30 by omega) hT) (cwV 0 hts gL_law_X2_meanTurns rfl rfl rfl (by decide +kernel) ⟨Nat.le_of_ble_eq_true rfl, Nat.le_of_ble_eq_true rfl⟩) ⟨RdP_blind, va_recv hZ.1 hP (ci := 2) (q0 := 0) rfl rfl, RdP_start (hP.sub (ws' := pD cZ cI a o o' q (t, true, cg, some ct, some mo, ea) ω u2 σ) [0, 1, 2, 3, 4, 5, 6, 7, 8, 9, 10, 11, 12, 13, 14, 15, 16, 17, 18] rfl) hZ.two⟩ rfl rfl hl.1 rfl (lv_room (Nat.le_of_ble_eq_true rfl)) dL_law_229 ⟨Nat.le_of_ble_eq_true rfl, Nat.le_of_ble_eq_true rfl⟩).run (fun r9 hq => ?_)
    obtain rfl : r9 = (FP.dconst0 : UInt64) := hq.trans (if_pos (by rw [mtL_pc]; exact hp0))
    refine lv_iconst (v := nI 0) hx hb dL_law_232 (by decide) ?_
    refine lv_aload_n hx hb dL_law_233 rfl (lv_at hl 12 rfl) ?_
    refine vp_callSi (va_runV (As := []) (rest := [.int (nI 0), .double (FP.dconst0)]) ⟨hx, hb, hml, hown, hts⟩ (c_X2_longestChase l D cZ cI a o o' q (t, true, cg, some ct, some mo, ea) ω u2 σ hI.1 (show t < 2 ^ 30 by omega) hT) (cwV 0 hts gL_law_X2_longestChase rfl rfl rfl (by decide +kernel) ⟨Nat.le_of_ble_eq_true rfl, Nat.le_of_ble_eq_true rfl⟩) ⟨RdP_blind, va_recv hZ.1 hP (ci := 2) (q0 := 0) rfl rfl, RdP_start (hP.sub (ws' := pD cZ cI a o o' q (t, true, cg, some ct, some mo, ea) ω u2 σ) [0, 1, 2, 3, 4, 5, 6, 7, 8, 9, 10, 11, 12, 13, 14, 15, 16, 17, 18] rfl) hZ.two⟩ rfl rfl hl.1 rfl (lv_room (Nat.le_of_ble_eq_true rfl)) dL_law_234 ⟨Nat.le_of_ble_eq_true rfl, Nat.le_of_ble_eq_true rfl⟩).run (fun r9 hq => ?_)
    obtain rfl : r9 = ((-1) : Int32) := hq.trans (by rw [show lcL ω σ (kn (t, true, cg, some ct, some mo, ea)) 64 0 none = none from hLC]; rfl)
    refine va_mmax hx hb (hml.trans hl.1.symm) hown (hts (.methodLink RL 96 Lib.Math.max.name) (by decide +kernel)) (hts (.static Lib.Math.max.name) (by decide +kernel)) (hts (.initialized "java/lang/Math") (by decide +kernel)) (hts (.code Lib.Math.max.name Lib.Math.max.code 2 (some .int)) (by decide +kernel)) (Nat.le_of_ble_eq_true rfl) (Nat.le_of_ble_eq_true rfl) (Nat.le_of_ble_eq_true rfl) (Nat.le_of_ble_eq_true rfl) dL_law_237 ?_
    refine rv_top (show (if nI 0 < (-1 : Int32) then (-1 : Int32) else nI 0) = nI 0 by decide) ?_
    refine lv_i2d hx hb dL_law_240 ?_
    refine lv_dcmp hx hb dL_law_241 ?_
    exact lv_if_le (tgt := 247) hx hb dL_law_242 (by decide) (fun _ => K247) (fun h => absurd (Int32.not_lt.mp zero_le_d) h)
  | some g9 =>
    have hg9 := hlb g9 hLC
    have hp1 : ¬ pcL ω σ t 64 0 0 = 0 := fun h => by rw [hln.mpr ⟨rfl, h⟩] at hLC; cases hLC
    have hmt := mtL_spec (ω := ω) (σ := σ) (nw := t) (g := g9) 64 0 none 0 0 hLC (by omega)
    have hg7 : g9 ≤ 768 := lcL_768 hI.1 hT hLC
    have hma : (mtL ω σ t 64 0 0 0).2 ≤ 64 * 768 := Nat.le_trans hmt.2 (Nat.mul_le_mul hpb hg7)
    refine rv_top (iO_some g9) ?_
    refine rv_ifgeN (tgt := 212) (x := g9) hx hb hg9 dL_law_205 (by decide) ?_
    refine lv_iconst (v := nI 0) hx hb dL_law_212 (by decide) ?_
    refine lv_aload_n hx hb dL_law_213 rfl (lv_at hl 12 rfl) ?_
    refine vp_callSi (va_runV (As := []) (rest := [.int (nI 0)]) ⟨hx, hb, hml, hown, hts⟩ (c_X2_pairsCaught l D cZ cI a o o' q (t, true, cg, some ct, some mo, ea) ω u2 σ hI.1 (show t < 2 ^ 30 by omega) hT) (cwV 0 hts gL_law_X2_pairsCaught rfl rfl rfl (by decide +kernel) ⟨Nat.le_of_ble_eq_true rfl, Nat.le_of_ble_eq_true rfl⟩) ⟨RdP_blind, va_recv hZ.1 hP (ci := 2) (q0 := 0) rfl rfl, RdP_start (hP.sub (ws' := pD cZ cI a o o' q (t, true, cg, some ct, some mo, ea) ω u2 σ) [0, 1, 2, 3, 4, 5, 6, 7, 8, 9, 10, 11, 12, 13, 14, 15, 16, 17, 18] rfl) hZ.two⟩ rfl rfl hl.1 rfl (lv_room (Nat.le_of_ble_eq_true rfl)) dL_law_214 ⟨Nat.le_of_ble_eq_true rfl, Nat.le_of_ble_eq_true rfl⟩).run (fun r9 hq => ?_)
    obtain rfl : r9 = (nI (pcL ω σ t 64 0 0) : Int32) := hq
    refine rv_ifneN (tgt := 224) (x := (pcL ω σ t 64 0 0)) hx hb (by omega) dL_law_217 (by decide) (fun _ => ?_) (fun h => absurd h hp1)
    refine lv_iconst (v := nI 0) hx hb dL_law_224 (by decide) ?_
    refine lv_icmp_ne (tgt := 245) hx hb dL_law_225 (by decide) (fun h => absurd rfl h) (fun _ => ?_)
    refine lv_aload_n hx hb dL_law_228 rfl (lv_at hl 12 rfl) ?_
    refine vp_callSd (va_runV (As := []) (rest := []) ⟨hx, hb, hml, hown, hts⟩ (c_X2_meanTurns l D cZ cI a o o' q (t, true, cg, some ct, some mo, ea) ω u2 σ hI.1 (show t < 2 ^ 30 by omega) hT) (cwV 0 hts gL_law_X2_meanTurns rfl rfl rfl (by decide +kernel) ⟨Nat.le_of_ble_eq_true rfl, Nat.le_of_ble_eq_true rfl⟩) ⟨RdP_blind, va_recv hZ.1 hP (ci := 2) (q0 := 0) rfl rfl, RdP_start (hP.sub (ws' := pD cZ cI a o o' q (t, true, cg, some ct, some mo, ea) ω u2 σ) [0, 1, 2, 3, 4, 5, 6, 7, 8, 9, 10, 11, 12, 13, 14, 15, 16, 17, 18] rfl) hZ.two⟩ rfl rfl hl.1 rfl (lv_room (Nat.le_of_ble_eq_true rfl)) dL_law_229 ⟨Nat.le_of_ble_eq_true rfl, Nat.le_of_ble_eq_true rfl⟩).run (fun r9 hq => ?_)
    obtain rfl : r9 = (FP.ddiv (FP.i2d (nI (mtL ω σ t 64 0 0 0).2)) (FP.i2d (nI (pcL ω σ t 64 0 0))) : UInt64) := hq.trans ((if_neg (by show ¬ (mtL ω σ t 64 0 0 0).1 = 0; rw [hmt.1]; exact hp1)).trans (by show FP.ddiv _ (FP.i2d (nI (mtL ω σ t 64 0 0 0).1)) = _; rw [hmt.1]))
    refine lv_iconst (v := nI 0) hx hb dL_law_232 (by decide) ?_
    refine lv_aload_n hx hb dL_law_233 rfl (lv_at hl 12 rfl) ?_
    refine vp_callSi (va_runV (As := []) (rest := [.int (nI 0), .double (FP.ddiv (FP.i2d (nI (mtL ω σ t 64 0 0 0).2)) (FP.i2d (nI (pcL ω σ t 64 0 0))))]) ⟨hx, hb, hml, hown, hts⟩ (c_X2_longestChase l D cZ cI a o o' q (t, true, cg, some ct, some mo, ea) ω u2 σ hI.1 (show t < 2 ^ 30 by omega) hT) (cwV 0 hts gL_law_X2_longestChase rfl rfl rfl (by decide +kernel) ⟨Nat.le_of_ble_eq_true rfl, Nat.le_of_ble_eq_true rfl⟩) ⟨RdP_blind, va_recv hZ.1 hP (ci := 2) (q0 := 0) rfl rfl, RdP_start (hP.sub (ws' := pD cZ cI a o o' q (t, true, cg, some ct, some mo, ea) ω u2 σ) [0, 1, 2, 3, 4, 5, 6, 7, 8, 9, 10, 11, 12, 13, 14, 15, 16, 17, 18] rfl) hZ.two⟩ rfl rfl hl.1 rfl (lv_room (Nat.le_of_ble_eq_true rfl)) dL_law_234 ⟨Nat.le_of_ble_eq_true rfl, Nat.le_of_ble_eq_true rfl⟩).run (fun r9 hq => ?_)
    obtain rfl : r9 = (nI g9 : Int32) := hq.trans (by rw [show lcL ω σ (kn (t, true, cg, some ct, some mo, ea)) 64 0 none = some g9 from hLC]; rfl)
    refine va_mmax hx hb (hml.trans hl.1.symm) hown (hts (.methodLink RL 96 Lib.Math.max.name) (by decide +kernel)) (hts (.static Lib.Math.max.name) (by decide +kernel)) (hts (.initialized "java/lang/Math") (by decide +kernel)) (hts (.code Lib.Math.max.name Lib.Math.max.code 2 (some .int)) (by decide +kernel)) (Nat.le_of_ble_eq_true rfl) (Nat.le_of_ble_eq_true rfl) (Nat.le_of_ble_eq_true rfl) (Nat.le_of_ble_eq_true rfl) dL_law_237 ?_
    refine rv_top (show (if nI 0 < nI g9 then nI g9 else nI 0) = nI g9 from max0 hg9) ?_
    refine lv_i2d hx hb dL_law_240 ?_
    refine lv_dcmp hx hb dL_law_241 ?_
    exact lv_if_le (tgt := 247) hx hb dL_law_242 (by decide) (fun _ => K247) (fun h => absurd (Int32.not_lt.mp (mean_le hmt.2 (by omega) (by omega) (by omega) hg9)) h)
