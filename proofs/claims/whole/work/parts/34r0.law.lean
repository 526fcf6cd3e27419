/-! ===== THE ROOM: the law on the script that breaks it ===== -/
def R9 (K : Nat) : Jvm.Room := { frames := 12, cells := 30 + 330 * K, slots := 3867 + 48240 * K, locals := 430 }
def R_lawR : String := "DoorChaseLaw"
/-- what holds at the law's entry -/
def lR_At (p : Program) (s : State) (m : MethodId) (meth : Method) (c : Code) (b L : Nat) (xs : Nat → Int32) : Prop :=
  p.tables.exec = Jvm.exec ∧ c.code = code ∧ meth.sig.returnType = ret ∧ c.maxLocals = 9 ∧ s.vm.findClass R_lawR = some m.cls ∧ (∀ w ∈ lw_tbl, w.before #[Value.ref b] s = true) ∧ va_X b L xs s s.heap ∧ b < s.heap.size ∧ meth.locks = false
set_option maxHeartbeats 2000000 in
set_option maxRecDepth 100000 in
theorem lr_add0 {p : Program} {e : Env} {s : State} {m : MethodId} {below : List Frame} {meth : Method} {c : Code} {l : Launch} {b L : Nat} {xs : Nat → Int32} {D : va_G} {cZ cI cJ : ClassId} (C : lR_At p s m meth c b L xs) (hZ : zKJ D cZ cI cJ s) (K : Nat) {Q : State → Prop} {ce sl : Nat} (hce : ce + 0 ≤ 30 + 330 * K) (hsl : sl + 0 ≤ 3867 + 48240 * K) {a u : Nat} {o o' q g : Nat → Nat} {i : Nat} (hi : i + 5 ≤ L) (hL31 : L < 2 ^ 31) (h0 : xs i = nI 0) (h1 : xs (i + 1) = nI 0) {th : Nat} {ω : OS} {f : Nat → Int64} {pl : va_W} {H : Heap} {locs : List Loc}  (hP : va_P D vwCl (pD cZ cI a o o' q κ0 ω ωz (σd 0) ++ pR cZ cI g th 0 0 false false 0 0 0 (fun _ => false) (fun _ _ _ => some 0) ++ [(u, .inl (cJ, 1, .inr (.inl f)))] ++ pl) H) (hD : va_D (fun q : Nat => s.heap.size ≤ q) (pD cZ cI a o o' q κ0 ω ωz (σd 0) ++ pR cZ cI g th 0 0 false false 0 0 0 (fun _ => false) (fun _ _ _ => some 0) ++ [(u, .inl (cJ, 1, .inr (.inl f)))] ++ pl)) (hS : va_S (fun q : Nat => s.heap.size ≤ q) s.heap H locs) {ls : Array Slot} (hl : lv_has ls 9 [(4, .int (nI i)), (3, .ref u), (2, .ref (g 0)), (1, .ref a), (0, .ref b)])
    (KK : ∀ (ω1 : OS), LK (σd 1) ω1 → ∀ (f1 : Nat → Int64) (H : Heap) (locs : List Loc) (ls : Array Slot), va_P D vwCl (pD cZ cI a o o' q κ0 ω1 ωz (σd 1) ++ pR cZ cI g 0 1 0 false false 0 0 0 (fun _ => false) (fun _ _ _ => some 0) ++ [(u, .inl (cJ, 1, .inr (.inl f1)))] ++ pl) H → va_D (fun q : Nat => s.heap.size ≤ q) (pD cZ cI a o o' q κ0 ω1 ωz (σd 1) ++ pR cZ cI g 0 1 0 false false 0 0 0 (fun _ => false) (fun _ _ _ => some 0) ++ [(u, .inl (cJ, 1, .inr (.inl f1)))] ++ pl) → va_S (fun q : Nat => s.heap.size ≤ q) s.heap H locs → lv_has ls 9 [(4, .int (nI (i + 5))), (3, .ref u), (2, .ref (g 0)), (1, .ref a), (0, .ref b)] → W p l e (R9 K) s m #[Value.ref b] below meth c H locs (ce + 0) (sl + 0) Q (F0 m 23 ls [])) : W p l e (R9 K) s m #[Value.ref b] below meth c H locs (ce) (sl) Q (F0 m 23 ls []) := by
  obtain ⟨hx, hb, hr, hml, hown, hts0, hX, hbl, hlocks⟩ := id C
  have hown : s.vm.findClass RL = some m.cls := hown
  have hts : ∀ w ∈ wsL_law, w.before #[Value.ref b] s = true := fun w h => hts0 w (wsL_law_in w h)
  have hA : ∀ q : Nat, s.heap.size ≤ q → (fun q : Nat => s.heap.size ≤ q) q := fun _ h => h
  have hbA : ¬ (fun q : Nat => s.heap.size ≤ q) b := Nat.not_le.mpr hbl
  have hR0 : ce + 0 ≤ (R9 K).cells ∧ sl + 0 ≤ (R9 K).slots := ⟨(show ce + 0 ≤ 30 + 330 * K by omega), (show sl + 0 ≤ 3867 + 48240 * K by omega)⟩
  refine lv_iload hx hb dL_law_23 (lv_at hl 0 rfl) ?_
  refine lv_aload_n hx hb dL_law_25 rfl (lv_at hl 4 rfl) ?_
  refine va_slen hx hb hX hbl hbA hS dL_law_26 ?_
  refine rv_top (show Int32.ofNat L = nI L from rfl) ?_
  refine lv_iconst (v := nI 5) hx hb dL_law_27 (by decide) ?_
  refine rv_sub hx hb (by omega) dL_law_28 ?_
  refine rv_gt (tgt := 1682) hx hb (by omega) (by omega) dL_law_29 (by decide) (fun q => absurd q (by omega)) (fun _ => ?_)
  refine lv_aload_n hx hb dL_law_32 rfl (lv_at hl 4 rfl) ?_
  refine lv_iload hx hb dL_law_33 (lv_at hl 0 rfl) ?_
  refine va_sld hx hb hX hbl hbA hS (nI_in (by omega) hL31) dL_law_35 ?_
  refine rv_top (show xs (nI i).toNatClampNeg = nI 0 from by rw [nI_clamp (by omega)]; exact h0) ?_
  refine lv_bipush (v := nI 63) hx hb dL_law_36 (by decide) ?_
  refine lv_iand hx hb dL_law_38 ?_
  refine rv_top (show (nI 0 : Int32) &&& nI 63 = nI 0 from by decide) ?_
  refine lv_tableIn (off := 157) (tgt := 196) hx hb dL_law_39 (by decide) (by decide) rfl (by decide) ?_
  refine lv_aload_n hx hb dL_law_196 rfl (lv_at hl 3 rfl) ?_
  refine lv_aload_n hx hb dL_law_197 rfl (lv_at hl 4 rfl) ?_
  refine lv_iload hx hb dL_law_198 (lv_at hl 0 rfl) ?_
  refine lv_iconst (v := nI 1) hx hb dL_law_200 (by decide) ?_
  refine rv_add hx hb dL_law_201 ?_
  refine va_sld hx hb hX hbl hbA hS (nI_in (by omega) hL31) dL_law_202 ?_
  refine rv_top (show xs (nI (i + 1)).toNatClampNeg = nI 0 from by rw [nI_clamp (by omega)]; exact h1) ?_
  refine lv_if_eq (tgt := 210) hx hb dL_law_203 (by decide) (fun _ => ?_) (fun h => absurd rfl h)
  refine lv_iconst (v := nI 0) hx hb dL_law_210 (by decide) ?_
  refine rv_top (show nI 0 = bI false from rfl) ?_
  refine lv_aload_n hx hb dL_law_211 rfl (lv_at hl 1 rfl) ?_
  have hPc := hP.sub (ws' := pD cZ cI a o o' q κ0 ω ωz (σd 0) ++ [(u, .inl (cJ, 1, .inr (.inl f)))]) [0, 1, 2, 3, 4, 5, 6, 7, 8, 9, 10, 11, 12, 13, 14, 15, 16, 17, 18, 28] rfl
  have hDc := hD.sub (ws' := pD cZ cI a o o' q κ0 ω ωz (σd 0) ++ [(u, .inl (cJ, 1, .inr (.inl f)))]) [0, 1, 2, 3, 4, 5, 6, 7, 8, 9, 10, 11, 12, 13, 14, 15, 16, 17, 18, 28] (by decide) rfl
  have hFc := va_free (wc := pD cZ cI a o o' q κ0 ω ωz (σd 0) ++ [(u, .inl (cJ, 1, .inr (.inl f)))]) hD hS hA [0, 1, 2, 3, 4, 5, 6, 7, 8, 9, 10, 11, 12, 13, 14, 15, 16, 17, 18, 28] rfl
  refine va_calli (vx_runSW (As := [.ref a, .int (bI false), .ref u]) (rest := []) ⟨hx, hb, hml, hown, hts⟩ (vx_toMet (r_L_addRoom l D cZ cI cJ a o o' q κ0 ω ωz 0 1 rfl (by decide) u H.size f)) (vx_cwSW 3 hts gL_law_L_addRoom rfl rfl rfl (by decide +kernel) ⟨Nat.le_of_ble_eq_true rfl, Nat.le_of_ble_eq_true rfl⟩) ⟨WjP_blind, WjP_start hPc hDc hZ⟩ rfl rfl hl.1 rfl (lv_room (Nat.le_of_ble_eq_true rfl)) dL_law_212 hR0) hS (fun q _ h => hFc q h) hFc (fun r9 u9 t H1 locs ht hvm hw hB hz1 hk1 hS => ?_)
  obtain ⟨hP1, hD1⟩ := hB
  rw [ht] at hP1
  obtain ⟨ω1, hω1, hL1⟩ : ∃ w9 : OS, (ωd 1 ω) = w9 ∧ LK (σd 1) w9 := ⟨_, rfl, LK_d (by decide) _⟩
  rw [hω1] at hP1 hD1
  obtain ⟨hP, hD⟩ := va_joinQ (wr := pR cZ cI g th 0 0 false false 0 0 0 (fun _ => false) (fun _ _ _ => some 0)) (w1 := pD cZ cI a o o' q κ0 ω1 ωz (σd 1) ++ [(u, .inl (cJ, 1, .inr (.inl (vp_updL f (nI 0).toNatClampNeg (nI 0).toInt64))))]) (cx := pD cZ cI a o o' q κ0 ω ωz (σd 0) ++ [(u, .inl (cJ, 1, .inr (.inl f)))]) hP hD [0, 1, 2, 3, 4, 5, 6, 7, 8, 9, 10, 11, 12, 13, 14, 15, 16, 17, 18, 28] [19, 20, 21, 22, 23, 24, 25, 26, 27] rfl rfl rfl (by decide) hk1 hFc hP1 hD1
  replace hP := va_P.part (cx := pD cZ cI a o o' q κ0 ω1 ωz (σd 1) ++ pR cZ cI g th 0 0 false false 0 0 0 (fun _ => false) (fun _ _ _ => some 0) ++ [(u, .inl (cJ, 1, .inr (.inl (vp_updL f (nI 0).toNatClampNeg (nI 0).toInt64))))]) hP [9, 10, 11, 12, 13, 14, 15, 16, 17, 18, 19, 20, 21, 22, 23, 24, 25, 26, 27, 0, 1, 2, 3, 4, 5, 6, 7, 8, 28] rfl
  replace hD := va_D.part (cx := pD cZ cI a o o' q κ0 ω1 ωz (σd 1) ++ pR cZ cI g th 0 0 false false 0 0 0 (fun _ => false) (fun _ _ _ => some 0) ++ [(u, .inl (cJ, 1, .inr (.inl (vp_updL f (nI 0).toNatClampNeg (nI 0).toInt64))))]) hD [9, 10, 11, 12, 13, 14, 15, 16, 17, 18, 19, 20, 21, 22, 23, 24, 25, 26, 27, 0, 1, 2, 3, 4, 5, 6, 7, 8, 28] rfl rfl
  clear hP1 hD1 hFc hPc hDc
  generalize H1 = H at hP hS ⊢
  obtain rfl : r9 = nI 0 := hw
  obtain ⟨f1, hf1⟩ : ∃ f1 : Nat → Int64, f1 = (vp_updL f (nI 0).toNatClampNeg (nI 0).toInt64) := ⟨_, rfl⟩
  rw [← hf1] at hP hD
  have hf0 : f1 (nI 0).toNatClampNeg = (nI 0 : Int32).toInt64 := by rw [hf1]; exact if_pos rfl
  have hP : va_P D vwCl (pD cZ cI a o o' q κ0 ω1 ωz (σd 1) ++ pR cZ cI g th 0 0 false false 0 0 0 (fun _ => false) (fun _ _ _ => some 0) ++ [(u, .inl (cJ, 1, .inr (.inl f1)))] ++ pl) H := hP
  have hD : va_D (fun q : Nat => s.heap.size ≤ q) (pD cZ cI a o o' q κ0 ω1 ωz (σd 1) ++ pR cZ cI g th 0 0 false false 0 0 0 (fun _ => false) (fun _ _ _ => some 0) ++ [(u, .inl (cJ, 1, .inr (.inl f1)))] ++ pl) := hD
  refine lv_istore (lv' := [(5, .int (nI 0)), (4, .int (nI i)), (3, .ref u), (2, .ref (g 0)), (1, .ref a), (0, .ref b)]) hx hb dL_law_215 hl (by decide) rfl (fun ls hl => ?_)
  refine lv_aload_n hx hb dL_law_217 rfl (lv_at hl 3 rfl) ?_
  refine lv_aload_n hx hb dL_law_218 rfl (lv_at hl 5 rfl) ?_
  refine lv_iload hx hb dL_law_219 (lv_at hl 1 rfl) ?_
  refine lv_iconst (v := nI 1) hx hb dL_law_221 (by decide) ?_
  refine rv_add hx hb dL_law_222 ?_
  refine va_sld hx hb hX hbl hbA hS (nI_in (by omega) hL31) dL_law_223 ?_
  refine rv_top (show xs (nI (i + 1)).toNatClampNeg = nI 0 from by rw [nI_clamp (by omega)]; exact h1) ?_
  refine lv_if_eq (tgt := 231) hx hb dL_law_224 (by decide) (fun _ => ?_) (fun h => absurd rfl h)
  refine lv_iconst (v := nI 0) hx hb dL_law_231 (by decide) ?_
  refine rv_top (show nI 0 = bI false from rfl) ?_
  have hPc := hP.sub (ws' := pR cZ cI g th 0 0 false false 0 0 0 (fun _ => false) (fun _ _ _ => some 0)) [19, 20, 21, 22, 23, 24, 25, 26, 27] rfl
  have hDc := hD.sub (ws' := pR cZ cI g th 0 0 false false 0 0 0 (fun _ => false) (fun _ _ _ => some 0)) [19, 20, 21, 22, 23, 24, 25, 26, 27] (by decide) rfl
  have hFc := va_free (wc := pR cZ cI g th 0 0 false false 0 0 0 (fun _ => false) (fun _ _ _ => some 0)) hD hS hA [19, 20, 21, 22, 23, 24, 25, 26, 27] rfl
  refine va_calli (va_runV (As := [.int (bI false)]) (rest := []) ⟨hx, hb, hml, hown, hts⟩ (r_X3_addRoom l D cZ cI g th 0 0 false false 0 0 0 (fun _ _ _ => some 0) H.size (by decide)) (cwV 1 hts gL_law_X3_addRoom rfl rfl rfl (by decide +kernel) ⟨Nat.le_of_ble_eq_true rfl, Nat.le_of_ble_eq_true rfl⟩) ⟨WrP_blind, va_recv hZ.1 hP (ci := 3) (q0 := 19) rfl rfl, WrP_start hPc hDc hZ.two⟩ rfl rfl hl.1 rfl (lv_room (Nat.le_of_ble_eq_true rfl)) dL_law_232 ⟨hce, hsl⟩) hS (fun q _ h => hFc q h) hFc (fun r9 u9 t H1 locs ht hvm hw hB hz1 hk1 hS => ?_)
  obtain ⟨hP1, hD1⟩ := hB
  rw [ht] at hP1
  obtain ⟨hP, hD⟩ := va_joinQ (wr := pD cZ cI a o o' q κ0 ω1 ωz (σd 1) ++ [(u, .inl (cJ, 1, .inr (.inl f1)))]) (w1 := pR cZ cI g 0 1 0 false false 0 0 0 (fun _ => false) (fun _ _ _ => some 0)) (cx := pR cZ cI g th 0 0 false false 0 0 0 (fun _ => false) (fun _ _ _ => some 0)) hP hD [19, 20, 21, 22, 23, 24, 25, 26, 27] [0, 1, 2, 3, 4, 5, 6, 7, 8, 9, 10, 11, 12, 13, 14, 15, 16, 17, 18, 28] rfl rfl rfl (by decide) hk1 hFc hP1 hD1
  replace hP := va_P.part (cx := pD cZ cI a o o' q κ0 ω1 ωz (σd 1) ++ pR cZ cI g 0 1 0 false false 0 0 0 (fun _ => false) (fun _ _ _ => some 0) ++ [(u, .inl (cJ, 1, .inr (.inl f1)))]) hP [0, 1, 2, 3, 4, 5, 6, 7, 8, 9, 10, 11, 12, 13, 14, 15, 16, 17, 18, 20, 21, 22, 23, 24, 25, 26, 27, 28, 19] rfl
  replace hD := va_D.part (cx := pD cZ cI a o o' q κ0 ω1 ωz (σd 1) ++ pR cZ cI g 0 1 0 false false 0 0 0 (fun _ => false) (fun _ _ _ => some 0) ++ [(u, .inl (cJ, 1, .inr (.inl f1)))]) hD [0, 1, 2, 3, 4, 5, 6, 7, 8, 9, 10, 11, 12, 13, 14, 15, 16, 17, 18, 20, 21, 22, 23, 24, 25, 26, 27, 28, 19] rfl rfl
  clear hP1 hD1 hFc hPc hDc
  generalize H1 = H at hP hS ⊢
  obtain rfl : r9 = nI 0 := hw
  have hP : va_P D vwCl (pD cZ cI a o o' q κ0 ω1 ωz (σd 1) ++ pR cZ cI g 0 1 0 false false 0 0 0 (fun _ => false) (fun _ _ _ => some 0) ++ [(u, .inl (cJ, 1, .inr (.inl f1)))] ++ pl) H := hP
  have hD : va_D (fun q : Nat => s.heap.size ≤ q) (pD cZ cI a o o' q κ0 ω1 ωz (σd 1) ++ pR cZ cI g 0 1 0 false false 0 0 0 (fun _ => false) (fun _ _ _ => some 0) ++ [(u, .inl (cJ, 1, .inr (.inl f1)))] ++ pl) := hD
  have hR0 : ce + 0 + 0 ≤ (R9 K).cells ∧ sl + 0 + 0 ≤ (R9 K).slots := ⟨hce, hsl⟩
  refine lv_istore (lv' := [(6, .int (nI 0)), (5, .int (nI 0)), (4, .int (nI i)), (3, .ref u), (2, .ref (g 0)), (1, .ref a), (0, .ref b)]) hx hb dL_law_235 hl (by decide) rfl (fun ls hl => ?_)
  refine lv_aload_n hx hb dL_law_237 rfl (lv_at hl 4 rfl) ?_
  refine vp_callSi (va_runV (As := []) (rest := []) ⟨hx, hb, hml, hown, hts⟩ (r_X3_thrown l D cZ cI g 0 1 0 false false 0 0 0 (fun _ _ _ => some 0)) (cwV 0 hts gL_law_X3_thrown rfl rfl rfl (by decide +kernel) ⟨Nat.le_of_ble_eq_true rfl, Nat.le_of_ble_eq_true rfl⟩) ⟨RdP_blind, va_recv hZ.1 hP (ci := 3) (q0 := 19) rfl rfl, RdP_start (hP.sub (ws' := pR cZ cI g 0 1 0 false false 0 0 0 (fun _ => false) (fun _ _ _ => some 0)) [19, 20, 21, 22, 23, 24, 25, 26, 27] rfl) hZ.two⟩ rfl rfl hl.1 rfl (lv_room (Nat.le_of_ble_eq_true rfl)) dL_law_238 hR0).run (fun r9 hq => ?_)
  obtain rfl : r9 = nI 0 := hq
  refine lv_iload hx hb dL_law_241 (lv_at hl 1 rfl) ?_
  refine lv_icmp_eq (tgt := 248) hx hb dL_law_243 (by decide) (fun _ => ?_) (fun h => absurd rfl h)
  refine lv_iload hx hb dL_law_248 (lv_at hl 1 rfl) ?_
  refine lv_if_ne (tgt := 265) hx hb dL_law_250 (by decide) (fun h => absurd rfl h) (fun _ => ?_)
  refine lv_aload_n hx hb dL_law_253 rfl (lv_at hl 3 rfl) ?_
  refine lv_iconst (v := nI 0) hx hb dL_law_254 (by decide) ?_
  refine va_lald hx hb hZ.1 hP 28 2 rfl rfl (nI_in (by decide) (by decide)) dL_law_255 ?_
  rw [hf0]
  refine lv_iload hx hb dL_law_256 (lv_at hl 0 rfl) ?_
  refine lv_i2l (v := (nI 0 : Int32).toInt64) hx hb dL_law_258 rfl ?_
  refine W.lcmp hx hb dL_law_259 ?_
  refine lv_if_eq (tgt := 265) hx hb dL_law_260 (by decide) (fun _ => ?_) (fun h => absurd (by first | rfl | decide +kernel) h)
  refine lv_goto (tgt := 1676) hx hb dL_law_265 (by decide) ?_
  refine lv_iinc (v := nI (i + 5)) (lv' := [(4, .int (nI (i + 5))), (6, .int (nI 0)), (5, .int (nI 0)), (3, .ref u), (2, .ref (g 0)), (1, .ref a), (0, .ref b)]) hx hb dL_law_1676 hl (k := 2) rfl (nI_add i 5) (by decide) rfl (fun ls hl => ?_)
  refine lv_goto (tgt := 23) hx hb dL_law_1679 (by decide) ?_
  exact KK ω1 hL1  f1 H locs ls hP hD hS (lv_sub hl [0, 3, 4, 5, 6] rfl)

