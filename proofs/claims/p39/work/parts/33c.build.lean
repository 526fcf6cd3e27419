set_option maxHeartbeats 4000000 in
set_option maxRecDepth 100000 in
theorem bd_make {p : Program} {l : Launch} {e : Env} {s : State} {m : MethodId} {args : Array Value} {below : List Frame} {meth : Method} {c : Code} {b L : Nat} {xs : Nat → Int32} {D : va_G} {cZ cI cR : ClassId} {A : Nat → Prop} {Q : State → Prop} (C : BdC p s m args c b L xs D cZ cI cR A) {a sf n dr : Nat} {o o' q : Nat → Nat} {κ : CS} {ω ω' : OS} {S : Nat → Bool} {σ : HS} {f : Nat → Option Nat} {LR : List Nat} {ρ : Nat → Nat → Int32} {k x y : Nat} {w : Int32} {v : Bool} {H : Heap} {locs : List Loc} (hI : bdD n S σ ω f LR ρ) (hn8 : n ≤ 8) (hx8 : x < n) (hy8 : y < n) (hne : ¬ x = y) (hnu : ∀ e, e < zM σ → hJn σ x y e = false) (h14 : zM σ < 14) (hP : va_P D vwCl (pD cZ cI a o o' q κ ω ω' σ ++ wSf cZ sf n S ++ wDr cR dr 14 f ++ rws cI LR ρ) H) (hD : va_D A (pD cZ cI a o o' q κ ω ω' σ ++ wSf cZ sf n S ++ wDr cR dr 14 f ++ rws cI LR ρ)) (hS : va_S A s.heap H locs)
    (K : ∀ (σ1 : HS) (ω1 : OS) (f1 : Nat → Option Nat) (LR1 : List Nat) (ρ1 : Nat → Nat → Int32) (H : Heap) (locs : List Loc) (ls : Array Slot), bdD n S σ1 ω1 f1 LR1 ρ1 → zM σ1 = zM σ + 1 → va_P D vwCl (pD cZ cI a o o' q κ ω1 ω' σ1 ++ wSf cZ sf n S ++ wDr cR dr 14 f1 ++ rws cI LR1 ρ1) H → va_D A (pD cZ cI a o o' q κ ω1 ω' σ1 ++ wSf cZ sf n S ++ wDr cR dr 14 f1 ++ rws cI LR1 ρ1) → va_S A s.heap H locs → lv_has ls 11 [(5, .int (nI k)), (4, .int (nI (zM σ + 1))), (3, .ref dr), (0, .ref a), (1, .ref b), (2, .ref sf)] → W p l e (headSpec wsL_build rmB).room s m args below meth c H locs (1 + (zM σ + 1)) (14 + 5 * (zM σ + 1)) Q (F0 m 342 ls []))
    {ls : Array Slot} (hl : lv_has ls 11 [(9, .int (bI v)), (8, .int (nI y)), (7, .int (nI x)), (6, .int w), (5, .int (nI k)), (4, .int (nI (zM σ))), (3, .ref dr), (0, .ref a), (1, .ref b), (2, .ref sf)]) : W p l e (headSpec wsL_build rmB).room s m args below meth c H locs (1 + zM σ) (14 + 5 * zM σ) Q (F0 m 238 ls []) := by
  obtain ⟨hx, hb, hml, hown, hts, hX, hbl, hbA, hL, hA, hZ⟩ := id C
  have hI0 := hI
  obtain ⟨i1, i2, i3, i4, i5, i6, i7, i8, i9⟩ := hI0
  refine lv_iconst (v := nI 1) hx hb dL_build_238 (by decide) ?_
  refine lv_iload hx hb dL_build_239 (lv_at hl 3 rfl) ?_
  refine lv_iconst (v := nI 5) hx hb dL_build_241 (by decide) ?_
  refine lv_ishr hx hb dL_build_242 ?_
  refine lv_topi (fun y1 _ => ?_)
  refine lv_iconst (v := nI 4) hx hb dL_build_243 (by decide) ?_
  refine vp_callSi (va_runS (As := [.int y1, .int (nI 4)]) (rest := [.int (nI 1)]) ⟨hx, hb, hml, hown, hts⟩ (c_L_below l D cZ cI y1 4 (by decide) (by decide)) (va_cwS 2 hts gL_build_L_below rfl rfl rfl (by decide +kernel) ⟨Nat.le_of_ble_eq_true rfl, Nat.le_of_ble_eq_true rfl⟩) ⟨RdP_blind, RdP_start (hP.sub (ws' := []) [] rfl) hZ.two⟩ rfl rfl hl.1 rfl (lv_room (Nat.le_of_ble_eq_true rfl)) dL_build_244 ⟨show 1 + zM σ + 0 ≤ 16 by omega, show 14 + 5 * zM σ + 0 ≤ 98 by omega⟩).run (fun r9 hq => ?_)
  subst hq
  refine rv_add hx hb dL_build_247 ?_
  have hpe4 := belF_lt y1 (N := 4) (by decide)
  obtain ⟨pe, hpe⟩ : ∃ pe, pe = 1 + belF y1 4 := ⟨_, rfl⟩
  rw [← hpe]
  refine lv_istore (lv' := [(10, .int (nI pe)), (9, .int (bI v)), (8, .int (nI y)), (7, .int (nI x)), (6, .int w), (5, .int (nI k)), (4, .int (nI (zM σ))), (3, .ref dr), (0, .ref a), (1, .ref b), (2, .ref sf)]) hx hb dL_build_248 hl (by decide) rfl (fun ls hl => ?_)
  refine lv_aload_n hx hb dL_build_250 rfl (lv_at hl 7 rfl) ?_
  refine lv_iload hx hb dL_build_251 (lv_at hl 6 rfl) ?_
  refine lv_iconst (v := nI 5) hx hb dL_build_253 (by decide) ?_
  refine va_newa (atype := .int) hx hb (hts (.arrayClass .int) (by decide +kernel)) (ty := .int) rfl hZ.1 hP hD hS hA (N' := 5) (a0 := (5, .inl (fun _ => 0))) (fun _ => rfl) (by decide) rfl (by decide) (show 1 + zM σ + 1 ≤ 16 by omega) (show 14 + 5 * zM σ + 5 ≤ 98 by omega) dL_build_254 (fun qa cA H hK1 hP hD hS => ?_)
  obtain rfl : cI = cA := Option.some.inj (((hK1.2 1 (cI, .int) rfl).2 : s.vm.findClass _ = some cI).symm.trans ((hK1.2 3 (cA, .int) rfl).2 : s.vm.findClass _ = some cA))
  replace hP := hP.swap
  replace hD := hD.swap
  replace hP : va_P D vwCl ((pD cZ cI a o o' q κ ω ω' σ ++ wSf cZ sf n S ++ wDr cR dr 14 f ++ [(qa, .inl (cI, 5, .inl (fun _ => 0)))]) ++ rws cI LR ρ) H := hP
  replace hD : va_D A ((pD cZ cI a o o' q κ ω ω' σ ++ wSf cZ sf n S ++ wDr cR dr 14 f ++ [(qa, .inl (cI, 5, .inl (fun _ => 0)))]) ++ rws cI LR ρ) := hD
  refine W.widen (k := 1 + (zM σ + 1)) (n := 14 + 5 * (zM σ + 1)) (by omega) (by omega) ?_
  refine lv_dup hx hb dL_build_256 rfl ?_
  refine lv_iconst (v := nI 0) hx hb dL_build_257 (by decide) ?_
  refine lv_iload hx hb dL_build_258 (lv_at hl 3 rfl) ?_
  refine rv_iast hx hb hZ.1 hP hD hS 21 1 rfl rfl (r := 0) (by decide) (by decide) (f' := (upd (fun _ => 0) 0 (nI x))) rfl dL_build_260 (fun H locs hP hD hS => ?_)
  replace hP : va_P D vwCl ((pD cZ cI a o o' q κ ω ω' σ ++ wSf cZ sf n S ++ wDr cR dr 14 f ++ [(qa, .inl (cI, 5, .inl (upd (fun _ => 0) 0 (nI x))))]) ++ rws cI LR ρ) H := hP
  replace hD : va_D A ((pD cZ cI a o o' q κ ω ω' σ ++ wSf cZ sf n S ++ wDr cR dr 14 f ++ [(qa, .inl (cI, 5, .inl (upd (fun _ => 0) 0 (nI x))))]) ++ rws cI LR ρ) := hD
  refine lv_dup hx hb dL_build_261 rfl ?_
  refine lv_iconst (v := nI 1) hx hb dL_build_262 (by decide) ?_
  refine lv_iload hx hb dL_build_263 (lv_at hl 2 rfl) ?_
  refine rv_iast hx hb hZ.1 hP hD hS 21 1 rfl rfl (r := 1) (by decide) (by decide) (f' := (upd (upd (fun _ => 0) 0 (nI x)) 1 (nI y))) rfl dL_build_265 (fun H locs hP hD hS => ?_)
  replace hP : va_P D vwCl ((pD cZ cI a o o' q κ ω ω' σ ++ wSf cZ sf n S ++ wDr cR dr 14 f ++ [(qa, .inl (cI, 5, .inl (upd (upd (fun _ => 0) 0 (nI x)) 1 (nI y))))]) ++ rws cI LR ρ) H := hP
  replace hD : va_D A ((pD cZ cI a o o' q κ ω ω' σ ++ wSf cZ sf n S ++ wDr cR dr 14 f ++ [(qa, .inl (cI, 5, .inl (upd (upd (fun _ => 0) 0 (nI x)) 1 (nI y))))]) ++ rws cI LR ρ) := hD
  refine lv_dup hx hb dL_build_266 rfl ?_
  refine lv_iconst (v := nI 2) hx hb dL_build_267 (by decide) ?_
  refine lv_iload hx hb dL_build_268 (lv_at hl 0 rfl) ?_
  refine rv_iast hx hb hZ.1 hP hD hS 21 1 rfl rfl (r := 2) (by decide) (by decide) (f' := (upd (upd (upd (fun _ => 0) 0 (nI x)) 1 (nI y)) 2 (nI pe))) rfl dL_build_270 (fun H locs hP hD hS => ?_)
  replace hP : va_P D vwCl ((pD cZ cI a o o' q κ ω ω' σ ++ wSf cZ sf n S ++ wDr cR dr 14 f ++ [(qa, .inl (cI, 5, .inl (upd (upd (upd (fun _ => 0) 0 (nI x)) 1 (nI y)) 2 (nI pe))))]) ++ rws cI LR ρ) H := hP
  replace hD : va_D A ((pD cZ cI a o o' q κ ω ω' σ ++ wSf cZ sf n S ++ wDr cR dr 14 f ++ [(qa, .inl (cI, 5, .inl (upd (upd (upd (fun _ => 0) 0 (nI x)) 1 (nI y)) 2 (nI pe))))]) ++ rws cI LR ρ) := hD
  refine lv_dup hx hb dL_build_271 rfl ?_
  refine lv_iconst (v := nI 3) hx hb dL_build_272 (by decide) ?_
  refine lv_iload hx hb dL_build_273 (lv_at hl 4 rfl) ?_
  refine lv_bipush (v := nI 7) hx hb dL_build_275 (by decide) ?_
  refine lv_ishr hx hb dL_build_277 ?_
  refine lv_topi (fun y2 _ => ?_)
  refine lv_iload hx hb dL_build_278 (lv_at hl 0 rfl) ?_
  refine vp_callSi (va_runS (As := [.int y2, .int (nI pe)]) (rest := [.int (nI 3), .ref qa, .ref qa, .int (nI (zM σ)), .ref dr]) ⟨hx, hb, hml, hown, hts⟩ (c_L_below l D cZ cI y2 pe (by omega) (by omega)) (va_cwS 2 hts gL_build_L_below rfl rfl rfl (by decide +kernel) ⟨Nat.le_of_ble_eq_true rfl, Nat.le_of_ble_eq_true rfl⟩) ⟨RdP_blind, RdP_start (hP.sub (ws' := []) [] rfl) hZ.two⟩ rfl rfl hl.1 rfl (lv_room (Nat.le_of_ble_eq_true rfl)) dL_build_280 ⟨show 1 + (zM σ + 1) + 0 ≤ 16 by omega, show 14 + 5 * (zM σ + 1) + 0 ≤ 98 by omega⟩).run (fun r9 hq => ?_)
  subst hq
  have hre4 := belF_lt y2 (N := pe) (by omega)
  obtain ⟨re, hre⟩ : ∃ re, re = belF y2 pe := ⟨_, rfl⟩
  rw [← hre] at hre4 ⊢
  refine rv_iast hx hb hZ.1 hP hD hS 21 1 rfl rfl (r := 3) (by decide) (by decide) (f' := (upd (upd (upd (upd (fun _ => 0) 0 (nI x)) 1 (nI y)) 2 (nI pe)) 3 (nI re))) rfl dL_build_283 (fun H locs hP hD hS => ?_)
  replace hP : va_P D vwCl ((pD cZ cI a o o' q κ ω ω' σ ++ wSf cZ sf n S ++ wDr cR dr 14 f ++ [(qa, .inl (cI, 5, .inl (upd (upd (upd (upd (fun _ => 0) 0 (nI x)) 1 (nI y)) 2 (nI pe)) 3 (nI re))))]) ++ rws cI LR ρ) H := hP
  replace hD : va_D A ((pD cZ cI a o o' q κ ω ω' σ ++ wSf cZ sf n S ++ wDr cR dr 14 f ++ [(qa, .inl (cI, 5, .inl (upd (upd (upd (upd (fun _ => 0) 0 (nI x)) 1 (nI y)) 2 (nI pe)) 3 (nI re))))]) ++ rws cI LR ρ) := hD
  refine lv_dup hx hb dL_build_284 rfl ?_
  refine lv_iconst (v := nI 4) hx hb dL_build_285 (by decide) ?_
  refine lv_iload hx hb dL_build_286 (lv_at hl 4 rfl) ?_
  refine lv_iconst (v := nI 4) hx hb dL_build_288 (by decide) ?_
  refine lv_ishr hx hb dL_build_289 ?_
  refine lv_topi (fun y3 _ => ?_)
  refine lv_bipush (v := nI 9) hx hb dL_build_290 (by decide) ?_
  refine vp_callSi (va_runS (As := [.int y3, .int (nI 9)]) (rest := [.int (nI 4), .ref qa, .ref qa, .int (nI (zM σ)), .ref dr]) ⟨hx, hb, hml, hown, hts⟩ (c_L_below l D cZ cI y3 9 (by decide) (by decide)) (va_cwS 2 hts gL_build_L_below rfl rfl rfl (by decide +kernel) ⟨Nat.le_of_ble_eq_true rfl, Nat.le_of_ble_eq_true rfl⟩) ⟨RdP_blind, RdP_start (hP.sub (ws' := []) [] rfl) hZ.two⟩ rfl rfl hl.1 rfl (lv_room (Nat.le_of_ble_eq_true rfl)) dL_build_292 ⟨show 1 + (zM σ + 1) + 0 ≤ 16 by omega, show 14 + 5 * (zM σ + 1) + 0 ≤ 98 by omega⟩).run (fun r9 hq => ?_)
  subst hq
  have K303 : ∀ u : Bool, W p l e (headSpec wsL_build rmB).room s m args below meth c H locs (1 + (zM σ + 1)) (14 + 5 * (zM σ + 1)) Q (F0 m 303 ls [.int (bI u), .int (nI 4), .ref qa, .ref qa, .int (nI (zM σ)), .ref dr]) := by
    intro u
    refine rv_iast hx hb hZ.1 hP hD hS 21 1 rfl rfl (r := 4) (by decide) (by decide) (f' := (row5 (nI x) (nI y) (nI pe) (nI re) (bI u))) rfl dL_build_303 (fun H locs hP hD hS => ?_)
    replace hP : va_P D vwCl ((pD cZ cI a o o' q κ ω ω' σ ++ wSf cZ sf n S ++ wDr cR dr 14 f ++ [(qa, .inl (cI, 5, .inl (row5 (nI x) (nI y) (nI pe) (nI re) (bI u))))]) ++ rws cI LR ρ) H := hP
    replace hD : va_D A ((pD cZ cI a o o' q κ ω ω' σ ++ wSf cZ sf n S ++ wDr cR dr 14 f ++ [(qa, .inl (cI, 5, .inl (row5 (nI x) (nI y) (nI pe) (nI re) (bI u))))]) ++ rws cI LR ρ) := hD
    refine va_stA hx hb hZ.1 hP hD hS 20 2 21 rfl rfl hZ.arr rfl (r := zM σ) h14 (by decide) dL_build_304 (fun H locs hP hD hS => ?_)
    replace hP : va_P D vwCl ((pD cZ cI a o o' q κ ω ω' σ ++ wSf cZ sf n S ++ wDr cR dr 14 (va_up f (zM σ) (some qa)) ++ [(qa, .inl (cI, 5, .inl (row5 (nI x) (nI y) (nI pe) (nI re) (bI u))))]) ++ rws cI LR ρ) H := hP
    replace hD : va_D A ((pD cZ cI a o o' q κ ω ω' σ ++ wSf cZ sf n S ++ wDr cR dr 14 (va_up f (zM σ) (some qa)) ++ [(qa, .inl (cI, 5, .inl (row5 (nI x) (nI y) (nI pe) (nI re) (bI u))))]) ++ rws cI LR ρ) := hD
    have hf9 : (va_up f (zM σ) (some qa)) (zM σ) = some qa := by unfold va_up; rw [if_pos rfl]
    refine lv_aload_n hx hb dL_build_305 rfl (lv_at hl 8 rfl) ?_
    refine lv_iload hx hb dL_build_306 (lv_at hl 3 rfl) ?_
    refine lv_iload hx hb dL_build_308 (lv_at hl 2 rfl) ?_
    refine lv_iload hx hb dL_build_310 (lv_at hl 0 rfl) ?_
    refine lv_aload_n hx hb dL_build_312 rfl (lv_at hl 7 rfl) ?_
    refine lv_iload hx hb dL_build_313 (lv_at hl 6 rfl) ?_
    refine va_ldA hx hb hZ.1 hP 20 2 rfl rfl (r := zM σ) h14 (by decide) hf9 dL_build_315 ?_
    refine lv_iconst (v := nI 3) hx hb dL_build_316 (by decide) ?_
    refine rv_iald hx hb hZ.1 hP 21 1 rfl rfl (r := 3) (by decide) (by decide) (v := nI re) rfl dL_build_317 ?_
    have hσ1 : zOk (zN σ, zM σ + 1, zS σ, zC σ, va_up (zF σ) (zM σ) x, va_up (zG σ) (zM σ) y, va_up (zP σ) (zM σ) pe, va_up (zT σ) (zM σ) re, zL σ) := zOk_door i1 (by omega) (by omega) (by omega) (by omega) (by omega)
    have hPc := hP.sub (ws' := pD cZ cI a o o' q κ ω ω' σ) [0, 1, 2, 3, 4, 5, 6, 7, 8, 9, 10, 11, 12, 13, 14, 15, 16, 17, 18] rfl
    have hDc := hD.sub (ws' := pD cZ cI a o o' q κ ω ω' σ) [0, 1, 2, 3, 4, 5, 6, 7, 8, 9, 10, 11, 12, 13, 14, 15, 16, 17, 18] (by decide) rfl
    have hFc := va_free (wc := pD cZ cI a o o' q κ ω ω' σ) hD hS hA [0, 1, 2, 3, 4, 5, 6, 7, 8, 9, 10, 11, 12, 13, 14, 15, 16, 17, 18] rfl
    refine va_calli (va_runV (As := [.int (nI x), .int (nI y), .int (nI pe), .int (nI re)]) (rest := []) ⟨hx, hb, hml, hown, hts⟩ (c_X2_addDoor l D cZ cI a o o' q κ ω ω' σ H.size x y pe re i1 (by omega) (by omega) hne (by omega) (by omega) hre4 h14 (hJoin_none2 hnu)) (cwV 4 hts gL_build_X2_addDoor rfl rfl rfl (by decide +kernel) ⟨Nat.le_of_ble_eq_true rfl, Nat.le_of_ble_eq_true rfl⟩) ⟨WrP_blind, va_recv hZ.1 hP (ci := 2) (q0 := 0) rfl rfl, WrP_start hPc hDc hZ.two⟩ rfl rfl hl.1 rfl (lv_room (Nat.le_of_ble_eq_true rfl)) dL_build_318 ⟨show 1 + (zM σ + 1) + 0 ≤ 16 by omega, show 14 + 5 * (zM σ + 1) + 0 ≤ 98 by omega⟩) hS (fun q _ h => hFc q h) hFc (fun r9 u9 t H1 locs ht hvm hw hB hz1 hk1 hS => ?_)
    obtain ⟨hP1, hD1⟩ := hB
    rw [ht] at hP1
    obtain ⟨ω1, hω1⟩ : ∃ z : OS, z = (lookW (zN σ, zM σ + 1, zS σ, zC σ, va_up (zF σ) (zM σ) x, va_up (zG σ) (zM σ) y, va_up (zP σ) (zM σ) pe, va_up (zT σ) (zM σ) re, zL σ) none ω, (lookR (zN σ, zM σ + 1, zS σ, zC σ, va_up (zF σ) (zM σ) x, va_up (zG σ) (zM σ) y, va_up (zP σ) (zM σ) pe, va_up (zT σ) (zM σ) re, zL σ) none ω).1, (lookR (zN σ, zM σ + 1, zS σ, zC σ, va_up (zF σ) (zM σ) x, va_up (zG σ) (zM σ) y, va_up (zP σ) (zM σ) pe, va_up (zT σ) (zM σ) re, zL σ) none ω).2.1, (lookR (zN σ, zM σ + 1, zS σ, zC σ, va_up (zF σ) (zM σ) x, va_up (zG σ) (zM σ) y, va_up (zP σ) (zM σ) pe, va_up (zT σ) (zM σ) re, zL σ) none ω).2.2.1) := ⟨_, rfl⟩
    rw [← hω1] at hP1 hD1
    obtain ⟨hP, hD⟩ := va_joinQ (X := pD cZ cI a o o' q κ ω ω' σ ++ wSf cZ sf n S ++ wDr cR dr 14 (va_up f (zM σ) (some qa)) ++ [(qa, .inl (cI, 5, .inl (row5 (nI x) (nI y) (nI pe) (nI re) (bI u))))]) (pl := rws cI LR ρ) (wr := wSf cZ sf n S ++ wDr cR dr 14 (va_up f (zM σ) (some qa)) ++ [(qa, .inl (cI, 5, .inl (row5 (nI x) (nI y) (nI pe) (nI re) (bI u))))]) (w1 := pD cZ cI a o o' q κ ω1 ω' (zN σ, zM σ + 1, zS σ, zC σ, va_up (zF σ) (zM σ) x, va_up (zG σ) (zM σ) y, va_up (zP σ) (zM σ) pe, va_up (zT σ) (zM σ) re, zL σ)) hP hD [0, 1, 2, 3, 4, 5, 6, 7, 8, 9, 10, 11, 12, 13, 14, 15, 16, 17, 18] [19, 20, 21] rfl rfl (by decide) (by decide) hk1 hFc hP1 hD1
    replace hP := hP.part (cx := pD cZ cI a o o' q κ ω1 ω' (zN σ, zM σ + 1, zS σ, zC σ, va_up (zF σ) (zM σ) x, va_up (zG σ) (zM σ) y, va_up (zP σ) (zM σ) pe, va_up (zT σ) (zM σ) re, zL σ) ++ wSf cZ sf n S ++ wDr cR dr 14 (va_up f (zM σ) (some qa)) ++ [(qa, .inl (cI, 5, .inl (row5 (nI x) (nI y) (nI pe) (nI re) (bI u))))]) [3, 4, 5, 6, 7, 8, 9, 10, 11, 12, 13, 14, 15, 16, 17, 18, 19, 20, 21, 0, 1, 2] rfl
    replace hD := hD.part (cx := pD cZ cI a o o' q κ ω1 ω' (zN σ, zM σ + 1, zS σ, zC σ, va_up (zF σ) (zM σ) x, va_up (zG σ) (zM σ) y, va_up (zP σ) (zM σ) pe, va_up (zT σ) (zM σ) re, zL σ) ++ wSf cZ sf n S ++ wDr cR dr 14 (va_up f (zM σ) (some qa)) ++ [(qa, .inl (cI, 5, .inl (row5 (nI x) (nI y) (nI pe) (nI re) (bI u))))]) [3, 4, 5, 6, 7, 8, 9, 10, 11, 12, 13, 14, 15, 16, 17, 18, 19, 20, 21, 0, 1, 2] (by decide) rfl
    generalize H1 = H at hP hS ⊢
    subst hw
    obtain ⟨hq9, -, -⟩ := rws_push hP hD
    have hI1 := bdD_row (ω1 := ω1) (g := (row5 (nI x) (nI y) (nI pe) (nI re) (bI u))) hI hσ1 hx8 hy8 hnu (by rw [hω1]; exact LK_look hσ1 ω) hq9 rfl rfl
    refine lv_pop hx hb dL_build_321 rfl ?_
    have K339 : ∀ (σ2 : HS) (ω2 : OS) (H : Heap) (locs : List Loc), bdD n S σ2 ω2 (va_up f (zM σ) (some qa)) (LR ++ [qa]) (va_up ρ qa (row5 (nI x) (nI y) (nI pe) (nI re) (bI u))) → zM σ2 = zM σ + 1 → va_P D vwCl ((pD cZ cI a o o' q κ ω2 ω' σ2 ++ wSf cZ sf n S ++ wDr cR dr 14 (va_up f (zM σ) (some qa)) ++ [(qa, .inl (cI, 5, .inl (row5 (nI x) (nI y) (nI pe) (nI re) (bI u))))]) ++ rws cI LR ρ) H → va_D A ((pD cZ cI a o o' q κ ω2 ω' σ2 ++ wSf cZ sf n S ++ wDr cR dr 14 (va_up f (zM σ) (some qa)) ++ [(qa, .inl (cI, 5, .inl (row5 (nI x) (nI y) (nI pe) (nI re) (bI u))))]) ++ rws cI LR ρ) → va_S A s.heap H locs → W p l e (headSpec wsL_build rmB).room s m args below meth c H locs (1 + (zM σ + 1)) (14 + 5 * (zM σ + 1)) Q (F0 m 339 ls []) := by
      intro σ2 ω2 H locs hI2 hz2 hP hD hS
      obtain ⟨-, hP, hD⟩ := rws_push hP hD
      refine lv_iinc (v := nI (zM σ + 1)) (lv' := [(4, .int (nI (zM σ + 1))), (10, .int (nI pe)), (9, .int (bI v)), (8, .int (nI y)), (7, .int (nI x)), (6, .int w), (5, .int (nI k)), (3, .ref dr), (0, .ref a), (1, .ref b), (2, .ref sf)]) hx hb dL_build_339 hl (k := 6) rfl (nI_add (zM σ) 1) (by decide) rfl (fun ls hl => ?_)
      exact K σ2 ω2 _ _ _ H locs ls hI2 hz2 hP hD hS (lv_sub hl [6, 0, 7, 8, 9, 10] rfl)
    refine lv_aload_n hx hb dL_build_322 rfl (lv_at hl 7 rfl) ?_
    refine lv_iload hx hb dL_build_323 (lv_at hl 6 rfl) ?_
    refine va_ldA hx hb hZ.1 hP 20 2 rfl rfl (r := zM σ) h14 (by decide) hf9 dL_build_325 ?_
    refine lv_iconst (v := nI 4) hx hb dL_build_326 (by decide) ?_
    refine rv_iald hx hb hZ.1 hP 21 1 rfl rfl (r := 4) (by decide) (by decide) (v := bI u) rfl dL_build_327 ?_
    refine lv_iconst (v := nI 1) hx hb dL_build_328 (by decide) ?_
    refine rv_neB1 (tgt := 339) hx hb dL_build_329 (by decide) (fun _ => K339 (zN σ, zM σ + 1, zS σ, zC σ, va_up (zF σ) (zM σ) x, va_up (zG σ) (zM σ) y, va_up (zP σ) (zM σ) pe, va_up (zT σ) (zM σ) re, zL σ) ω1 H locs hI1 rfl hP hD hS) (fun _ => ?_)
    refine lv_aload_n hx hb dL_build_332 rfl (lv_at hl 8 rfl) ?_
    refine lv_iload hx hb dL_build_333 (lv_at hl 6 rfl) ?_
    obtain ⟨σ3, hσ3⟩ : ∃ z : HS, z = (zN σ, zM σ + 1, zS σ, zC σ, va_up (zF σ) (zM σ) x, va_up (zG σ) (zM σ) y, va_up (zP σ) (zM σ) pe, va_up (zT σ) (zM σ) re, zL σ) := ⟨_, rfl⟩
    have hm3 : zM σ3 = zM σ + 1 := by rw [hσ3]
    rw [← hσ3] at hP hD hσ1
    rw [show addD σ x y pe re = σ3 from hσ3.symm] at hI1
    have hPc := hP.sub (ws' := pD cZ cI a o o' q κ ω1 ω' σ3) [0, 1, 2, 3, 4, 5, 6, 7, 8, 9, 10, 11, 12, 13, 14, 15, 16, 17, 18] rfl
    have hDc := hD.sub (ws' := pD cZ cI a o o' q κ ω1 ω' σ3) [0, 1, 2, 3, 4, 5, 6, 7, 8, 9, 10, 11, 12, 13, 14, 15, 16, 17, 18] (by decide) rfl
    have hFc := va_free (wc := pD cZ cI a o o' q κ ω1 ω' σ3) hD hS hA [0, 1, 2, 3, 4, 5, 6, 7, 8, 9, 10, 11, 12, 13, 14, 15, 16, 17, 18] rfl
    refine va_calli (va_runV (As := [.int (nI (zM σ))]) (rest := []) ⟨hx, hb, hml, hown, hts⟩ (c_X2_turnLock l D cZ cI a o o' q κ ω1 ω' σ3 H.size (zM σ) hσ1 (by omega)) (cwV 1 hts gL_build_X2_turnLock rfl rfl rfl (by decide +kernel) ⟨Nat.le_of_ble_eq_true rfl, Nat.le_of_ble_eq_true rfl⟩) ⟨WrP_blind, va_recv hZ.1 hP (ci := 2) (q0 := 0) rfl rfl, WrP_start hPc hDc hZ.two⟩ rfl rfl hl.1 rfl (lv_room (Nat.le_of_ble_eq_true rfl)) dL_build_335 ⟨show 1 + (zM σ + 1) + 0 ≤ 16 by omega, show 14 + 5 * (zM σ + 1) + 0 ≤ 98 by omega⟩) hS (fun q _ h => hFc q h) hFc (fun r9 u9 t H1 locs ht hvm hw hB hz1 hk1 hS => ?_)
    obtain ⟨hP1, hD1⟩ := hB
    rw [ht] at hP1
    obtain ⟨ω2, hω2⟩ : ∃ z : OS, z = (lookW (zN σ3, zM σ3, zS σ3, zC σ3, zF σ3, zG σ3, zP σ3, zT σ3, va_up (zL σ3) (zM σ) (!(zL σ3 (zM σ)))) none ω1, (lookR (zN σ3, zM σ3, zS σ3, zC σ3, zF σ3, zG σ3, zP σ3, zT σ3, va_up (zL σ3) (zM σ) (!(zL σ3 (zM σ)))) none ω1).1, (lookR (zN σ3, zM σ3, zS σ3, zC σ3, zF σ3, zG σ3, zP σ3, zT σ3, va_up (zL σ3) (zM σ) (!(zL σ3 (zM σ)))) none ω1).2.1, (lookR (zN σ3, zM σ3, zS σ3, zC σ3, zF σ3, zG σ3, zP σ3, zT σ3, va_up (zL σ3) (zM σ) (!(zL σ3 (zM σ)))) none ω1).2.2.1) := ⟨_, rfl⟩
    rw [← hω2] at hP1 hD1
    obtain ⟨hP, hD⟩ := va_joinQ (X := pD cZ cI a o o' q κ ω1 ω' σ3 ++ wSf cZ sf n S ++ wDr cR dr 14 (va_up f (zM σ) (some qa)) ++ [(qa, .inl (cI, 5, .inl (row5 (nI x) (nI y) (nI pe) (nI re) (bI u))))]) (pl := rws cI LR ρ) (wr := wSf cZ sf n S ++ wDr cR dr 14 (va_up f (zM σ) (some qa)) ++ [(qa, .inl (cI, 5, .inl (row5 (nI x) (nI y) (nI pe) (nI re) (bI u))))]) (w1 := pD cZ cI a o o' q κ ω2 ω' (zN σ3, zM σ3, zS σ3, zC σ3, zF σ3, zG σ3, zP σ3, zT σ3, va_up (zL σ3) (zM σ) (!(zL σ3 (zM σ))))) hP hD [0, 1, 2, 3, 4, 5, 6, 7, 8, 9, 10, 11, 12, 13, 14, 15, 16, 17, 18] [19, 20, 21] rfl rfl (by decide) (by decide) hk1 hFc hP1 hD1
    replace hP := hP.part (cx := pD cZ cI a o o' q κ ω2 ω' (zN σ3, zM σ3, zS σ3, zC σ3, zF σ3, zG σ3, zP σ3, zT σ3, va_up (zL σ3) (zM σ) (!(zL σ3 (zM σ)))) ++ wSf cZ sf n S ++ wDr cR dr 14 (va_up f (zM σ) (some qa)) ++ [(qa, .inl (cI, 5, .inl (row5 (nI x) (nI y) (nI pe) (nI re) (bI u))))]) [3, 4, 5, 6, 7, 8, 9, 10, 11, 12, 13, 14, 15, 16, 17, 18, 19, 20, 21, 0, 1, 2] rfl
    replace hD := hD.part (cx := pD cZ cI a o o' q κ ω2 ω' (zN σ3, zM σ3, zS σ3, zC σ3, zF σ3, zG σ3, zP σ3, zT σ3, va_up (zL σ3) (zM σ) (!(zL σ3 (zM σ)))) ++ wSf cZ sf n S ++ wDr cR dr 14 (va_up f (zM σ) (some qa)) ++ [(qa, .inl (cI, 5, .inl (row5 (nI x) (nI y) (nI pe) (nI re) (bI u))))]) [3, 4, 5, 6, 7, 8, 9, 10, 11, 12, 13, 14, 15, 16, 17, 18, 19, 20, 21, 0, 1, 2] (by decide) rfl
    generalize H1 = H at hP hS ⊢
    subst hw
    refine lv_pop hx hb dL_build_338 rfl ?_
    exact K339 (zN σ3, zM σ3, zS σ3, zC σ3, zF σ3, zG σ3, zP σ3, zT σ3, va_up (zL σ3) (zM σ) (!(zL σ3 (zM σ)))) ω2 H locs (bdD_lock hI1 (by rw [hω2]; exact LK_look (zOk_lock hσ1 _) ω1)) hm3 hP hD hS
  refine rv_ifneN (tgt := 302) (x := belF y3 9) hx hb (Nat.lt_trans (belF_lt y3 (by decide)) (by decide)) dL_build_295 (by decide) (fun _ => ?_) (fun _ => ?_)
  · refine lv_iconst (v := nI 0) hx hb dL_build_302 (by decide) ?_
    refine rv_top (show nI 0 = bI false from rfl) ?_
    exact K303 false
  · refine lv_iconst (v := nI 1) hx hb dL_build_298 (by decide) ?_
    refine rv_top (show nI 1 = bI true from rfl) ?_
    refine lv_goto (tgt := 303) hx hb dL_build_299 (by decide) ?_
    exact K303 true
