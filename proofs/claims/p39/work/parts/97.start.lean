set_option maxHeartbeats 4000000 in
set_option maxRecDepth 100000 in
theorem lg_cheese {p : Program} {e : Env} {s : State} {m : MethodId} {below : List Frame} {meth : Method} {c : Code} {l : Launch} {b L : Nat} {xs : Nat → Int32} {D : va_G} {cZ cI cR : ClassId} (C : LwC p s m meth c b L xs D cZ cI cR) {a sf n ra dn : Nat} {o o' q : Nat → Nat} {S : Nat → Bool} {fr : Nat → Option Nat} {ω : OS} {κ : CS} {ω' : OS}
    (K : ∀ (σ : HS) (ch : Nat) (H : Heap) (locs : List Loc) (ls : Array Slot), LgS n S dn σ ω → zS σ 0 = false → cS (zC σ) n = ch → ch ≤ 32 → va_P D vwCl (pD cZ cI a o o' q κ ω ω' σ ++ wSf cZ sf n S ++ wDr cR ra dn fr) H → va_D (fun q : Nat => s.heap.size ≤ q) (pD cZ cI a o o' q κ ω ω' σ ++ wSf cZ sf n S ++ wDr cR ra dn fr) → va_S (fun q : Nat => s.heap.size ≤ q) s.heap H locs → lv_has ls 21 [(6, .int (nI n)), (5, .int (nI ch)), (4, .ref ra), (3, .int (nI n)), (2, .ref sf), (1, .ref a), (0, .ref b)] → W p l e room_1 s m #[Value.ref b] below meth c H locs 36 2330 (lw_Z below #[Value.ref b] s) (F0 m 91 ls [])) :
    ∀ (f r ch : Nat) (σ : HS) (H : Heap) (locs : List Loc) (ls : Array Slot), n + 1 ≤ r + f → r ≤ n → LgS n S dn σ ω → zS σ 0 = false → cS (zC σ) n = ch → ch ≤ 4 * r → (∀ i, r ≤ i → zC σ i = 0) → va_P D vwCl (pD cZ cI a o o' q κ ω ω' σ ++ wSf cZ sf n S ++ wDr cR ra dn fr) H → va_D (fun q : Nat => s.heap.size ≤ q) (pD cZ cI a o o' q κ ω ω' σ ++ wSf cZ sf n S ++ wDr cR ra dn fr) → va_S (fun q : Nat => s.heap.size ≤ q) s.heap H locs → lv_has ls 21 [(6, .int (nI r)), (5, .int (nI ch)), (4, .ref ra), (3, .int (nI n)), (2, .ref sf), (1, .ref a), (0, .ref b)] → W p l e room_1 s m #[Value.ref b] below meth c H locs 36 2330 (lw_Z below #[Value.ref b] s) (F0 m 41 ls []) := by
  intro f
  induction f with
  | zero => intro r ch σ H locs ls h1 h2; exact absurd h1 (by omega)
  | succ f ih =>
    intro r ch σ H locs ls hm hrn hI hz0 hcs hc4 hci hP hD hS hl
    obtain ⟨⟨hx, hb, hr, hml, hown, hts0, hX, hbl, hlocks, hgv⟩, hZ, hL⟩ := id C
    have hown : s.vm.findClass RL = some m.cls := hown
    have hts : ∀ w ∈ wsL_law, w.before #[Value.ref b] s = true := fun w h => hts0 w (wsL_law_in w h)
    have hA : ∀ q : Nat, s.heap.size ≤ q → (fun q : Nat => s.heap.size ≤ q) q := fun _ h => h
    have hbA : ¬ (fun q : Nat => s.heap.size ≤ q) b := Nat.not_le.mpr hbl
    have hN := hI.1.1
    have hzn := hI.2.2.2.2.1
    refine lv_iload hx hb dL_law_41 (lv_at hl 0 rfl) ?_
    refine lv_iload_n hx hb dL_law_43 rfl (lv_at hl 3 rfl) ?_
    refine rv_ge (tgt := 91) (x := r) (y := n) hx hb (by omega) (by omega) dL_law_44 (by decide) (fun h => ?_) (fun h => ?_)
    · have e : r = n := by omega
      subst e
      exact K σ ch H locs ls hI hz0 hcs (by omega) hP hD hS hl
    · skip
      refine lv_aload_n hx hb dL_law_47 rfl (lv_at hl 6 rfl) ?_
      refine lv_iload hx hb dL_law_48 (lv_at hl 0 rfl) ?_
      refine lv_iconst (v := nI 3) hx hb dL_law_50 (by decide) ?_
      refine rv_add hx hb dL_law_51 ?_
      refine vp_callSi (va_runS (As := [.ref b, .int (nI (r + 3))]) (rest := []) ⟨hx, hb, hml, hown, hts⟩ (c_L_cell l b L xs (r + 3) (by omega) hL) (va_cwS 2 hts gL_law_L_cell rfl rfl rfl (by decide +kernel) ⟨Nat.le_of_ble_eq_true rfl, Nat.le_of_ble_eq_true rfl⟩) ⟨ScP_blind, ScP_start (hX.kept (hS.2.1 b hbl hbA))⟩ rfl rfl hl.1 rfl (lv_room (Nat.le_of_ble_eq_true rfl)) dL_law_52 ⟨Nat.le_of_ble_eq_true rfl, Nat.le_of_ble_eq_true rfl⟩).run (fun r9 hq => ?_)
      subst hq
      refine lv_iconst (v := nI 5) hx hb dL_law_55 (by decide) ?_
      refine vp_callSi (va_runS (As := [.int (celF xs L (r + 3)), .int (nI 5)]) (rest := []) ⟨hx, hb, hml, hown, hts⟩ (c_L_below l D cZ cI (celF xs L (r + 3)) 5 (by decide) (by decide)) (va_cwS 2 hts gL_law_L_below rfl rfl rfl (by decide +kernel) ⟨Nat.le_of_ble_eq_true rfl, Nat.le_of_ble_eq_true rfl⟩) ⟨RdP_blind, RdP_start (hP.sub (ws' := []) [] rfl) hZ.two⟩ rfl rfl hl.1 rfl (lv_room (Nat.le_of_ble_eq_true rfl)) dL_law_56 ⟨Nat.le_of_ble_eq_true rfl, Nat.le_of_ble_eq_true rfl⟩).run (fun r9 hq => ?_)
      subst hq
      have hm5 := belF_lt (celF xs L (r + 3)) (N := 5) (by decide)
      generalize belF (celF xs L (r + 3)) 5 = mm at hm5 ⊢
      refine lv_istore (lv' := [(7, .int (nI mm)), (6, .int (nI r)), (5, .int (nI ch)), (4, .ref ra), (3, .int (nI n)), (2, .ref sf), (1, .ref a), (0, .ref b)]) hx hb dL_law_59 hl (by decide) rfl (fun ls hl => ?_)
      refine lv_iload hx hb dL_law_61 (lv_at hl 0 rfl) ?_
      refine rv_ifneN (tgt := 69) (x := mm) hx hb (by omega) dL_law_63 (by decide) (fun hmm => ?_) (fun hmm => ?_)
      · skip
        refine lv_iload hx hb dL_law_69 (lv_at hl 2 rfl) ?_
        refine lv_iload hx hb dL_law_71 (lv_at hl 0 rfl) ?_
        refine rv_add hx hb dL_law_73 ?_
        refine lv_istore (lv' := [(5, .int (nI (ch + mm))), (7, .int (nI mm)), (6, .int (nI r)), (4, .ref ra), (3, .int (nI n)), (2, .ref sf), (1, .ref a), (0, .ref b)]) hx hb dL_law_74 hl (by decide) rfl (fun ls hl => ?_)
        refine lv_aload_n hx hb dL_law_76 rfl (lv_at hl 6 rfl) ?_
        refine lv_iload hx hb dL_law_77 (lv_at hl 2 rfl) ?_
        refine lv_iload hx hb dL_law_79 (lv_at hl 1 rfl) ?_
        have hr0 : zC σ r = 0 := hci r (Nat.le_refl r)
        have hPc := hP.sub (ws' := pD cZ cI a o o' q κ ω ω' σ) [0, 1, 2, 3, 4, 5, 6, 7, 8, 9, 10, 11, 12, 13, 14, 15, 16, 17, 18] rfl
        have hDc := hD.sub (ws' := pD cZ cI a o o' q κ ω ω' σ) [0, 1, 2, 3, 4, 5, 6, 7, 8, 9, 10, 11, 12, 13, 14, 15, 16, 17, 18] (by decide) rfl
        have hFc := va_free (wc := pD cZ cI a o o' q κ ω ω' σ) hD hS hA [0, 1, 2, 3, 4, 5, 6, 7, 8, 9, 10, 11, 12, 13, 14, 15, 16, 17, 18] rfl
        refine va_calli (va_runV (As := [.int (nI r), .int (nI mm)]) (rest := []) ⟨hx, hb, hml, hown, hts⟩ (c_X2_putCheese l D cZ cI a o o' q κ ω ω' σ H.size r mm hI.1 (by omega) (by omega) (by omega) (by omega)) (cwV 2 hts gL_law_X2_putCheese rfl rfl rfl (by decide +kernel) ⟨Nat.le_of_ble_eq_true rfl, Nat.le_of_ble_eq_true rfl⟩) ⟨WrP_blind, va_recv hZ.1 hP (ci := 2) (q0 := 0) rfl rfl, WrP_start hPc hDc hZ.two⟩ rfl rfl hl.1 rfl (lv_room (Nat.le_of_ble_eq_true rfl)) dL_law_81 ⟨Nat.le_of_ble_eq_true rfl, Nat.le_of_ble_eq_true rfl⟩) hS (fun q _ h => hFc q h) hFc (fun r9 u9 t9 H1 locs ht hvm hw hB hz1 hk1 hS => ?_)
        obtain ⟨hP1, hD1⟩ := hB
        rw [ht] at hP1
        obtain ⟨hP, hD⟩ := va_join (wr := wSf cZ sf n S ++ wDr cR ra dn fr) (w1 := pD cZ cI a o o' q κ ω ω' (zN σ, zM σ, zS σ, va_up (zC σ) r (zC σ r + mm), zF σ, zG σ, zP σ, zT σ, zL σ)) hP hD [0, 1, 2, 3, 4, 5, 6, 7, 8, 9, 10, 11, 12, 13, 14, 15, 16, 17, 18] [19, 20] rfl rfl (by decide) (by decide) hk1 hFc hP1 hD1
        replace hP := hP.sub (ws' := pD cZ cI a o o' q κ ω ω' (zN σ, zM σ, zS σ, va_up (zC σ) r (zC σ r + mm), zF σ, zG σ, zP σ, zT σ, zL σ) ++ wSf cZ sf n S ++ wDr cR ra dn fr) [2, 3, 4, 5, 6, 7, 8, 9, 10, 11, 12, 13, 14, 15, 16, 17, 18, 19, 20, 0, 1] rfl
        replace hD := hD.sub (ws' := pD cZ cI a o o' q κ ω ω' (zN σ, zM σ, zS σ, va_up (zC σ) r (zC σ r + mm), zF σ, zG σ, zP σ, zT σ, zL σ) ++ wSf cZ sf n S ++ wDr cR ra dn fr) [2, 3, 4, 5, 6, 7, 8, 9, 10, 11, 12, 13, 14, 15, 16, 17, 18, 19, 20, 0, 1] (by decide) rfl
        generalize H1 = H at hP hS ⊢
        obtain rfl : r9 = (nI (zC σ r + mm) : Int32) := hw
        refine lv_pop hx hb dL_law_84 rfl ?_
        refine lv_iinc (v := nI (r + 1)) (lv' := [(6, .int (nI (r + 1))), (5, .int (nI (ch + mm))), (7, .int (nI mm)), (4, .ref ra), (3, .int (nI n)), (2, .ref sf), (1, .ref a), (0, .ref b)]) hx hb dL_law_85 hl (k := 2) rfl (nI_add r 1) (by decide) rfl (fun ls hl => ?_)
        refine lv_goto (tgt := 41) hx hb dL_law_88 (by decide) ?_
        have hup := cS_up (C := zC σ) (v := zC σ r + mm) n h
        refine ih (r + 1) (ch + mm) (zN σ, zM σ, zS σ, va_up (zC σ) r (zC σ r + mm), zF σ, zG σ, zP σ, zT σ, zL σ) H locs ls (by omega) (by omega) (hI.C (fun x => ?_)) hz0 (show cS (va_up (zC σ) r (zC σ r + mm)) n = ch + mm by omega) (by omega) (fun x hx9 => ?_) hP hD hS (lv_sub hl [0, 1, 3, 4, 5, 6, 7] rfl)
        · show va_up (zC σ) r (zC σ r + mm) x ≤ 9
          unfold va_up
          split
          · omega
          · exact hI.1.2.2.2.2.2.2 x
        · show va_up (zC σ) r (zC σ r + mm) x = 0
          unfold va_up
          rw [if_neg (by omega)]
          exact hci x (by omega)
      · skip
        refine lv_goto (tgt := 85) hx hb dL_law_66 (by decide) ?_
        refine lv_iinc (v := nI (r + 1)) (lv' := [(6, .int (nI (r + 1))), (7, .int (nI mm)), (5, .int (nI ch)), (4, .ref ra), (3, .int (nI n)), (2, .ref sf), (1, .ref a), (0, .ref b)]) hx hb dL_law_85 hl (k := 1) rfl (nI_add r 1) (by decide) rfl (fun ls hl => ?_)
        refine lv_goto (tgt := 41) hx hb dL_law_88 (by decide) ?_
        exact ih (r + 1) ch σ H locs ls (by omega) (by omega) hI hz0 hcs (by omega) (fun x hx9 => hci x (by omega)) hP hD hS (lv_sub hl [0, 2, 3, 4, 5, 6, 7] rfl)
theorem kn_arr {args : Array Value} {s : State} {ty : FieldType} (h : (Cond.arrayClass ty).before args s = true) : ∃ cA : ClassId, ArrOfT s cA ty ∧ s.vm.findClass ("[" ++ ty.toString) = some cA := by
  obtain ⟨cA, kA, comp, h1, h2, h3⟩ := Cond.arrayClass_spec h
  exact ⟨cA, fun n z => ⟨fun k h => (by cases h), kA, h2, comp, h3⟩, h1⟩
theorem kn_arr2 {args : Array Value} {s : State} (h : (Cond.arrayOver (.array .int)).before args s = true) : ∃ cA : ClassId, ArrOfT s cA (.array .int) ∧ s.vm.findClass ("[" ++ (FieldType.array .int).toString) = some cA := by
  obtain ⟨comp, cA, kA, h1, -, h2, h3, h4⟩ := arrayOverA_spec h
  exact ⟨cA, fun n z => ⟨fun k h => (by cases h), kA, h2, comp, h3⟩, h4⟩
set_option maxHeartbeats 4000000 in
set_option maxRecDepth 100000 in
theorem st_known {s : State} {b : Nat} (hts : ∀ w ∈ lw_tbl, w.before #[Value.ref b] s = true) : ∃ (D : va_G) (cZ cI cR : ClassId), zKR D cZ cI cR s := by
  obtain ⟨c0, iS0, hK0⟩ := u_known (C := RX0) (T := TX0) (N := 9) (n := 9) hts inX0 (hts (.instantiable RX0 9) (by decide +kernel))
  obtain ⟨c1, iS1, hK1⟩ := u_known (C := RX1) (T := TX1) (N := 4) (n := 4) hts inX1 (hts (.instantiable RX1 4) (by decide +kernel))
  obtain ⟨c2, iS2, hK2⟩ := u_known (C := RX2) (T := TX2) (N := 9) (n := 9) hts inX2 (hts (.instantiable RX2 9) (by decide +kernel))
  obtain ⟨cZ, hZ1, hZ2⟩ := kn_arr (hts (.arrayClass .boolean) (by decide +kernel))
  obtain ⟨cI, hI1, hI2⟩ := kn_arr (hts (.arrayClass .int) (by decide +kernel))
  have hov := hts (.arrayOver (.array .int)) (by decide +kernel)
  obtain ⟨cR, hR1, hR2⟩ := kn_arr2 hov
  refine ⟨(fun k => if k = 0 then c0 else if k = 1 then c1 else c2, fun k => if k = 0 then iS0 else if k = 1 then iS1 else iS2), cZ, cI, cR, ⟨?_, ?_⟩, ⟨va_Nw.of rfl (hts (.methodLinkNest RX0 41 yX2_bit RX2) (by decide +kernel)), va_Nw.of rfl (hts (.methodLinkNest RX0 45 yX2_holds RX2) (by decide +kernel)), va_Nw.of rfl (hts (.methodLinkNest RX1 28 yX2_holds RX2) (by decide +kernel)), va_Nw.of rfl (hts (.methodLinkNest RX1 50 yX2_bit RX2) (by decide +kernel)), va_Nw.of rfl (hts (.methodLinkNest RX1 73 yX2_isCatsPhase RX2) (by decide +kernel)), va_Nw.of rfl (hts (.methodLinkNest RX2 9 yX0_init RX2) (by decide +kernel)), va_Nw.of rfl (hts (.methodLinkNest RX2 18 yX1_init RX2) (by decide +kernel))⟩, over_moved (Vm.Alike.refl s.vm) hov⟩
  · intro k q hq
    match k, hq with
    | 0, hq => cases hq; exact hK0
    | 1, hq => cases hq; exact hK1
    | 2, hq => cases hq; exact hK2
    | k + 3, hq => simp [vwCl] at hq
  · intro k q hq
    match k, hq with
    | 0, hq => cases hq; exact ⟨hZ1, hZ2⟩
    | 1, hq => cases hq; exact ⟨hI1, hI2⟩
    | 2, hq => cases hq; exact ⟨hR1, hR2⟩
    | k + 3, hq => simp at hq
theorem zOk_0 : zOk σ0 := ⟨by decide, by decide, fun _ => (show (0 : Nat) < 8 by decide), fun _ => (show (0 : Nat) < 8 by decide), fun _ => (show (0 : Nat) ≤ 4 by decide), fun _ => (show (0 : Nat) < 4 by decide), fun _ => (show (0 : Nat) ≤ 9 by decide)⟩
theorem cS_zero : ∀ n, cS (fun _ => 0) n = 0
  | 0 => rfl
  | n + 1 => cS_zero n
theorem lgI_0 {σ : HS} {ω : OS} {ct mo : Nat} (h : hOn σ ω ct mo) : lgI σ 0 ct mo (nV σ 0 ct mo) := by
  cases hv : nV σ 0 ct mo with
  | none => exact hv
  | some k => exact ⟨Nat.pos_of_ne_zero (fun e => nV_ne0 h (by rw [hv, e])), hv⟩
set_option maxHeartbeats 4000000 in
set_option maxRecDepth 100000 in
/-- THE LAW, from its entry -/
theorem whole_start {p : Program} {e : Env} {s : State} {m : MethodId} {below : List Frame} {meth : Method} {c : Code} (l : Launch) (hflags : l.flags = flags0) {b L : Nat} {xs : Nat → Int32} (hL9 : L ≤ 260) (C0 : lw_At p s m meth c b L xs) : W p l e room_1 s m #[Value.ref b] below meth c s.heap [] 0 0 (lw_Z below #[Value.ref b] s) (entryFrame m ([Value.ref b] : List Value).toArray 21) := by
  have hts0 := C0.2.2.2.2.2.1
  obtain ⟨D, cZ, cI, cR, hZ0⟩ := st_known hts0
  have C : LwC p s m meth c b L xs D cZ cI cR := ⟨C0, hZ0, by omega⟩
  obtain ⟨⟨hx, hb, hr, hml, hown, hts0, hX, hbl, hlocks, hgv⟩, hZ, hL⟩ := id C
  have hown : s.vm.findClass RL = some m.cls := hown
  have hts : ∀ w ∈ wsL_law, w.before #[Value.ref b] s = true := fun w h => hts0 w (wsL_law_in w h)
  have hA : ∀ q : Nat, s.heap.size ≤ q → (fun q : Nat => s.heap.size ≤ q) q := fun _ h => h
  have hbA : ¬ (fun q : Nat => s.heap.size ≤ q) b := Nat.not_le.mpr hbl
  have hS : va_S (fun q : Nat => s.heap.size ≤ q) s.heap s.heap [] := va_S.rf
  have hP : va_P D vwCl [] s.heap := fun k q h => by simp at h
  have hD : va_D (fun q : Nat => s.heap.size ≤ q) [] := ⟨fun i j p q h => by simp at h, fun k q h => by simp at h⟩
  have hl := lv_entry ([.ref b]) (n := 21) (Nat.le_of_ble_eq_true rfl)
  rw [lg_entry_eq]
  generalize (lg_sl ([.ref b]) ++ List.replicate (21 - (lg_sl ([.ref b])).length) Slot.unset).toArray = ls at hl ⊢
  have hl : lv_has ls 21 [(0, .ref b)] := hl
  refine va_new (ci := 2) (fs := [.null, .null, .null, .int 0, .int 0, .int 0, .int 0, .int 0, .int 0]) (C := RX2) (T := TX2) (N := 9) hx hb hts inlX2 tyX2 tyX2_ok hown (hts (.classLink RL 20 RX2) (by decide +kernel)) (hts (.instantiable RX2 9) (by decide +kernel)) (hts (.initialized RX2) (by decide +kernel)) hZ.1 hP hD hS hA rfl (fun j hj => by rcases (show j = 0 ∨ j = 1 ∨ j = 2 ∨ j = 3 ∨ j = 4 ∨ j = 5 ∨ j = 6 ∨ j = 7 ∨ j = 8 by omega) with rfl | rfl | rfl | rfl | rfl | rfl | rfl | rfl | rfl <;> rfl) (Nat.le_of_ble_eq_true rfl) (Nat.le_of_ble_eq_true rfl) dL_law_0 (fun a H hP hD hS => ?_)
  have hP : va_P D vwCl ([(a, .inr (2, [.null, .null, .null, .int 0, .int 0, .int 0, .int 0, .int 0, .int 0]))]) H := hP
  have hD : va_D (fun q : Nat => s.heap.size ≤ q) ([(a, .inr (2, [.null, .null, .null, .int 0, .int 0, .int 0, .int 0, .int 0, .int 0]))]) := hD
  refine W.widen (k := 1) (n := 9) (Nat.le_of_ble_eq_true rfl) (Nat.le_of_ble_eq_true rfl) ?_
  refine lv_dup hx hb dL_law_3 rfl ?_
  have hFc := va_free (wc := [(a, .inr (2, [.null, .null, .null, .int 0, .int 0, .int 0, .int 0, .int 0, .int 0]))]) hD hS hA [0] rfl
  refine va_callv (va_runI (As := []) (rest := [.ref a]) ⟨hx, hb, hml, hown, hts⟩ (c_X2_init l D cZ cI a H.size) (cwI 0 hts gL_law_X2_init rfl rfl rfl (hts (.initialized RX2) (by decide +kernel)) (hts (.methodLink RL 45 yX2_init) (by decide +kernel)) (hts (.instanceMethod yX2_init) (by decide +kernel)) rfl (by decide +kernel) ⟨Nat.le_of_ble_eq_true rfl, Nat.le_of_ble_eq_true rfl⟩) ⟨WrP_blind, WrP_start hP hD hZ.two⟩ rfl rfl hl.1 rfl (lv_room (Nat.le_of_ble_eq_true rfl)) dL_law_4 ⟨Nat.le_of_ble_eq_true rfl, Nat.le_of_ble_eq_true rfl⟩) hS (fun q _ h => hFc q h) hFc (fun u2 t H1 locs ht hvm hw hB hz1 hk1 hS => ?_)
  obtain ⟨hP1, hD1⟩ := hB
  rw [ht] at hP1
  obtain ⟨hP, hD⟩ := va_join (wr := []) (w1 := pD cZ cI a u2.2.1 u2.2.2 u2.1 κ0 ωz ωz σ0) hP hD [0] [] rfl rfl (by decide) (by decide) hk1 hFc hP1 hD1
  replace hP : va_P D vwCl (pD cZ cI a u2.2.1 u2.2.2 u2.1 κ0 ωz ωz σ0) H1 := hP
  replace hD : va_D (fun q : Nat => s.heap.size ≤ q) (pD cZ cI a u2.2.1 u2.2.2 u2.1 κ0 ωz ωz σ0) := hD
  generalize H1 = H at hP hS ⊢
  refine W.widen (k := 19) (n := 2224) (Nat.le_of_ble_eq_true rfl) (Nat.le_of_ble_eq_true rfl) ?_
  refine lv_astore_n (lv' := [(1, .ref a), (0, .ref b)]) hx hb dL_law_7 rfl hl (by decide) rfl (fun ls hl => ?_)
  refine lv_iconst (v := nI 2) hx hb dL_law_8 (by decide) ?_
  refine lv_aload_n hx hb dL_law_9 rfl (lv_at hl 1 rfl) ?_
  refine lv_bipush (v := nI 15) hx hb dL_law_10 (by decide) ?_
  refine vp_callSi (va_runS (As := [.ref b, .int (nI 15)]) (rest := [.int (nI 2)]) ⟨hx, hb, hml, hown, hts⟩ (c_L_cell l b L xs 15 (by decide) hL) (va_cwS 2 hts gL_law_L_cell rfl rfl rfl (by decide +kernel) ⟨Nat.le_of_ble_eq_true rfl, Nat.le_of_ble_eq_true rfl⟩) ⟨ScP_blind, ScP_start (hX.kept (hS.2.1 b hbl hbA))⟩ rfl rfl hl.1 rfl (lv_room (Nat.le_of_ble_eq_true rfl)) dL_law_12 ⟨Nat.le_of_ble_eq_true rfl, Nat.le_of_ble_eq_true rfl⟩).run (fun r9 hq => ?_)
  subst hq
  refine lv_bipush (v := nI 7) hx hb dL_law_15 (by decide) ?_
  refine vp_callSi (va_runS (As := [.int (celF xs L 15), .int (nI 7)]) (rest := [.int (nI 2)]) ⟨hx, hb, hml, hown, hts⟩ (c_L_below l D cZ cI (celF xs L 15) 7 (by decide) (by decide)) (va_cwS 2 hts gL_law_L_below rfl rfl rfl (by decide +kernel) ⟨Nat.le_of_ble_eq_true rfl, Nat.le_of_ble_eq_true rfl⟩) ⟨RdP_blind, RdP_start (hP.sub (ws' := []) [] rfl) hZ.two⟩ rfl rfl hl.1 rfl (lv_room (Nat.le_of_ble_eq_true rfl)) dL_law_17 ⟨Nat.le_of_ble_eq_true rfl, Nat.le_of_ble_eq_true rfl⟩).run (fun r9 hq => ?_)
  subst hq
  refine rv_add hx hb dL_law_20 ?_
  have hn7 := belF_lt (celF xs L 15) (N := 7) (by decide)
  obtain ⟨n, hn⟩ : ∃ n, n = 2 + belF (celF xs L 15) 7 := ⟨_, rfl⟩
  rw [← hn]
  refine va_newa (atype := .boolean) hx hb (hts (.arrayClass .boolean) (by decide +kernel)) (ty := .boolean) rfl hZ.1 hP hD hS hA (N' := n) (a0 := (n, .inl (encB (fun _ => false)))) (fun _ => rfl) (fun h9 => (nI_in (show n < n + 1 by omega) (by omega)) (Or.inl h9)) (nI_clamp (by omega)) (show n * 1 ≤ 536870912 by omega) (Nat.le_of_ble_eq_true rfl) (Nat.le_trans (show 2224 + n ≤ 2234 by omega) (Nat.le_of_ble_eq_true rfl : 2234 ≤ room_1.slots)) dL_law_21 (fun sf cA H hK1 hP hD hS => ?_)
  obtain rfl : cZ = cA := Option.some.inj (((hK1.2 0 (cZ, .boolean) rfl).2 : s.vm.findClass _ = some cZ).symm.trans ((hK1.2 3 (cA, .boolean) rfl).2 : s.vm.findClass _ = some cA))
  have hP : va_P D vwCl (pD cZ cI a u2.2.1 u2.2.2 u2.1 κ0 ωz ωz σ0 ++ wSf cZ sf n (fun _ => false)) H := hP
  have hD : va_D (fun q : Nat => s.heap.size ≤ q) (pD cZ cI a u2.2.1 u2.2.2 u2.1 κ0 ωz ωz σ0 ++ wSf cZ sf n (fun _ => false)) := hD
  refine W.widen (k := 20) (n := 2232) (by omega) (by omega) ?_
  refine lv_astore_n (lv' := [(2, .ref sf), (1, .ref a), (0, .ref b)]) hx hb dL_law_23 rfl hl (by decide) rfl (fun ls hl => ?_)
  refine lv_aload_n hx hb dL_law_24 rfl (lv_at hl 0 rfl) ?_
  refine va_alen hx hb hZ.1 hP 19 0 rfl rfl (v := nI n) rfl dL_law_25 ?_
  refine lv_istore_n (lv' := [(3, .int (nI n)), (2, .ref sf), (1, .ref a), (0, .ref b)]) hx hb dL_law_26 rfl hl (by decide) rfl (fun ls hl => ?_)
  refine lv_aload_n hx hb dL_law_27 rfl (lv_at hl 2 rfl) ?_
  refine lv_aload_n hx hb dL_law_28 rfl (lv_at hl 3 rfl) ?_
  refine lv_aload_n hx hb dL_law_29 rfl (lv_at hl 1 rfl) ?_
  have hFc := va_free (wc := pD cZ cI a u2.2.1 u2.2.2 u2.1 κ0 ωz ωz σ0 ++ wSf cZ sf n (fun _ => false)) hD hS hA [0, 1, 2, 3, 4, 5, 6, 7, 8, 9, 10, 11, 12, 13, 14, 15, 16, 17, 18, 19] rfl
  refine va_callr (va_runS (As := [.ref a, .ref b, .ref sf]) (rest := []) ⟨hx, hb, hml, hown, hts⟩ (c_L_build l D cZ cI cR b L xs a sf n u2.2.1 u2.2.2 u2.1 κ0 ωz ωz σ0 (fun _ => false) H.size (by omega) (by omega) hL zOk_0 rfl rfl rfl) (va_cwS 3 hts gL_law_L_build rfl rfl rfl (by decide +kernel) ⟨Nat.le_of_ble_eq_true rfl, Nat.le_of_ble_eq_true rfl⟩) ⟨BdP_blind, BdP_start hP hD hZ (hX.kept (hS.2.1 b hbl hbA)) (fun k q hk e9 => hbA (e9 ▸ hD.2 k q hk))⟩ rfl rfl hl.1 rfl (lv_room (Nat.le_of_ble_eq_true rfl)) dL_law_30 ⟨Nat.le_of_ble_eq_true rfl, Nat.le_of_ble_eq_true rfl⟩) hS (fun q _ h => hFc q h) hFc (fun u ra t9 H1 locs ht hvm hw hB hz1 hk1 hS => ?_)
  obtain ⟨σ, ω, S, fr⟩ := u
  obtain ⟨hP1, hD1⟩ := hB
  rw [ht] at hP1
  obtain ⟨k1, k2, k3, k4, k5, k6, k7, k8⟩ := hw
  generalize u2.2.1 = o at hP hD hFc hk1 hP1 hD1
  generalize u2.2.2 = o' at hP hD hFc hk1 hP1 hD1
  generalize u2.1 = q at hP hD hFc hk1 hP1 hD1
  obtain ⟨hP, hD⟩ := va_join (wr := []) (w1 := pD cZ cI a o o' q κ0 ω ωz σ ++ wSf cZ sf n S ++ wDr cR ra (zM σ) fr) hP hD [0, 1, 2, 3, 4, 5, 6, 7, 8, 9, 10, 11, 12, 13, 14, 15, 16, 17, 18, 19] [] rfl rfl (by decide) (by decide) hk1 hFc hP1 hD1
  replace hP : va_P D vwCl (pD cZ cI a o o' q κ0 ω ωz σ ++ wSf cZ sf n S ++ wDr cR ra (zM σ) fr) H1 := hP
  replace hD : va_D (fun q : Nat => s.heap.size ≤ q) (pD cZ cI a o o' q κ0 ω ωz σ ++ wSf cZ sf n S ++ wDr cR ra (zM σ) fr) := hD
  generalize H1 = H at hP hS ⊢
  refine W.widen (k := 36) (n := 2330) (Nat.le_of_ble_eq_true rfl) (Nat.le_of_ble_eq_true rfl) ?_
  have hI : LgS n S (zM σ) σ ω := ⟨k1, k2, k3, k4, k5, k6, rfl⟩
  refine lv_astore (lv' := [(4, .ref ra), (3, .int (nI n)), (2, .ref sf), (1, .ref a), (0, .ref b)]) hx hb dL_law_33 hl (by decide) rfl (fun ls hl => ?_)
  refine lv_iconst (v := nI 0) hx hb dL_law_35 (by decide) ?_
  refine lv_istore (lv' := [(5, .int (nI 0)), (4, .ref ra), (3, .int (nI n)), (2, .ref sf), (1, .ref a), (0, .ref b)]) hx hb dL_law_36 hl (by decide) rfl (fun ls hl => ?_)
  refine lv_iconst (v := nI 0) hx hb dL_law_38 (by decide) ?_
  refine lv_istore (lv' := [(6, .int (nI 0)), (5, .int (nI 0)), (4, .ref ra), (3, .int (nI n)), (2, .ref sf), (1, .ref a), (0, .ref b)]) hx hb dL_law_39 hl (by decide) rfl (fun ls hl => ?_)
  refine lg_cheese C (fun σ1 ch H locs ls hI hz0 hcs hch hP hD hS hl => ?_) (n + 1) 0 0 σ H locs ls (by omega) (by omega) hI k7 (by rw [show zC σ = fun _ => 0 from k8]; exact cS_zero n) (by omega) (fun i _ => by rw [show zC σ = fun _ => 0 from k8]) hP hD hS (lv_sub hl [0, 1, 2, 3, 4, 5, 6] rfl)
  have hl : lv_has ls 21 [(6, .int (nI n)), (5, .int (nI ch)), (4, .ref ra), (3, .int (nI n)), (2, .ref sf), (1, .ref a), (0, .ref b)] := hl
  have hn8 := hI.1.1
  have hzn := hI.2.2.2.2.1
  refine lv_iconst (v := nI 1) hx hb dL_law_91 (by decide) ?_
  refine lv_aload_n hx hb dL_law_92 rfl (lv_at hl 6 rfl) ?_
  refine lv_bipush (v := nI 14) hx hb dL_law_93 (by decide) ?_
  refine vp_callSi (va_runS (As := [.ref b, .int (nI 14)]) (rest := [.int (nI 1)]) ⟨hx, hb, hml, hown, hts⟩ (c_L_cell l b L xs 14 (by decide) hL) (va_cwS 2 hts gL_law_L_cell rfl rfl rfl (by decide +kernel) ⟨Nat.le_of_ble_eq_true rfl, Nat.le_of_ble_eq_true rfl⟩) ⟨ScP_blind, ScP_start (hX.kept (hS.2.1 b hbl hbA))⟩ rfl rfl hl.1 rfl (lv_room (Nat.le_of_ble_eq_true rfl)) dL_law_95 ⟨Nat.le_of_ble_eq_true rfl, Nat.le_of_ble_eq_true rfl⟩).run (fun r9 hq => ?_)
  subst hq
  refine lv_iload_n hx hb dL_law_98 rfl (lv_at hl 3 rfl) ?_
  refine lv_iconst (v := nI 1) hx hb dL_law_99 (by decide) ?_
  refine rv_sub hx hb (by omega) dL_law_100 ?_
  refine vp_callSi (va_runS (As := [.int (celF xs L 14), .int (nI (n - 1))]) (rest := [.int (nI 1)]) ⟨hx, hb, hml, hown, hts⟩ (c_L_below l D cZ cI (celF xs L 14) (n - 1) (by omega) (by omega)) (va_cwS 2 hts gL_law_L_below rfl rfl rfl (by decide +kernel) ⟨Nat.le_of_ble_eq_true rfl, Nat.le_of_ble_eq_true rfl⟩) ⟨RdP_blind, RdP_start (hP.sub (ws' := []) [] rfl) hZ.two⟩ rfl rfl hl.1 rfl (lv_room (Nat.le_of_ble_eq_true rfl)) dL_law_101 ⟨Nat.le_of_ble_eq_true rfl, Nat.le_of_ble_eq_true rfl⟩).run (fun r9 hq => ?_)
  subst hq
  refine rv_add hx hb dL_law_104 ?_
  have hmb := belF_lt (celF xs L 14) (N := n - 1) (by omega)
  obtain ⟨mo, hmo⟩ : ∃ mo, mo = 1 + belF (celF xs L 14) (n - 1) := ⟨_, rfl⟩
  rw [← hmo]
  refine lv_istore (lv' := [(6, .int (nI mo)), (5, .int (nI ch)), (4, .ref ra), (3, .int (nI n)), (2, .ref sf), (1, .ref a), (0, .ref b)]) hx hb dL_law_105 hl (by decide) rfl (fun ls hl => ?_)
  refine lv_aload_n hx hb dL_law_107 rfl (lv_at hl 5 rfl) ?_
  refine lv_iconst (v := nI 0) hx hb dL_law_108 (by decide) ?_
  refine lv_iload hx hb dL_law_109 (lv_at hl 0 rfl) ?_
  have hPc := hP.sub (ws' := pD cZ cI a o o' q κ0 ω ωz σ1) [0, 1, 2, 3, 4, 5, 6, 7, 8, 9, 10, 11, 12, 13, 14, 15, 16, 17, 18] rfl
  have hDc := hD.sub (ws' := pD cZ cI a o o' q κ0 ω ωz σ1) [0, 1, 2, 3, 4, 5, 6, 7, 8, 9, 10, 11, 12, 13, 14, 15, 16, 17, 18] (by decide) rfl
  have hFc := va_free (wc := pD cZ cI a o o' q κ0 ω ωz σ1) hD hS hA [0, 1, 2, 3, 4, 5, 6, 7, 8, 9, 10, 11, 12, 13, 14, 15, 16, 17, 18] rfl
  refine va_calli (va_runV (As := [.int (nI 0), .int (nI mo)]) (rest := []) ⟨hx, hb, hml, hown, hts⟩ (c_X2_begin l D cZ cI a o o' q κ0 ω ωz σ1 H.size 0 mo hI.1 (by omega) (by omega) (by omega) hz0) (cwV 2 hts gL_law_X2_begin rfl rfl rfl (by decide +kernel) ⟨Nat.le_of_ble_eq_true rfl, Nat.le_of_ble_eq_true rfl⟩) ⟨WrP_blind, va_recv hZ.1 hP (ci := 2) (q0 := 0) rfl rfl, WrP_start hPc hDc hZ.two⟩ rfl rfl hl.1 rfl (lv_room (Nat.le_of_ble_eq_true rfl)) dL_law_111 ⟨Nat.le_of_ble_eq_true rfl, Nat.le_of_ble_eq_true rfl⟩) hS (fun q _ h => hFc q h) hFc (fun r9 u9 t9 H1 locs ht hvm hw hB hz1 hk1 hS => ?_)
  obtain ⟨hP1, hD1⟩ := hB
  rw [ht] at hP1
  obtain ⟨hP, hD⟩ := va_join (wr := wSf cZ sf n S ++ wDr cR ra (zM σ) fr) (w1 := pD cZ cI a o o' q (0, true, false, some 0, some mo, 0) ω ωz σ1) hP hD [0, 1, 2, 3, 4, 5, 6, 7, 8, 9, 10, 11, 12, 13, 14, 15, 16, 17, 18] [19, 20] rfl rfl (by decide) (by decide) hk1 hFc hP1 hD1
  replace hP := hP.sub (ws' := pD cZ cI a o o' q (0, true, false, some 0, some mo, 0) ω ωz σ1 ++ wSf cZ sf n S ++ wDr cR ra (zM σ) fr) [2, 3, 4, 5, 6, 7, 8, 9, 10, 11, 12, 13, 14, 15, 16, 17, 18, 19, 20, 0, 1] rfl
  replace hD := hD.sub (ws' := pD cZ cI a o o' q (0, true, false, some 0, some mo, 0) ω ωz σ1 ++ wSf cZ sf n S ++ wDr cR ra (zM σ) fr) [2, 3, 4, 5, 6, 7, 8, 9, 10, 11, 12, 13, 14, 15, 16, 17, 18, 19, 20, 0, 1] (by decide) rfl
  generalize H1 = H at hP hS ⊢
  obtain rfl : r9 = (iO (nV σ1 0 0 mo) : Int32) := hw.trans (congrArg iO (LK.nv hI.2.2.2.1 (t := 0) (by decide) (by omega)))
  refine lv_istore (lv' := [(7, .int (iO (nV σ1 0 0 mo))), (6, .int (nI mo)), (5, .int (nI ch)), (4, .ref ra), (3, .int (nI n)), (2, .ref sf), (1, .ref a), (0, .ref b)]) hx hb dL_law_114 hl (by decide) rfl (fun ls hl => ?_)
  refine lv_iconst (v := nI 0) hx hb dL_law_116 (by decide) ?_
  refine lv_istore (lv' := [(8, .int (nI 0)), (7, .int (iO (nV σ1 0 0 mo))), (6, .int (nI mo)), (5, .int (nI ch)), (4, .ref ra), (3, .int (nI n)), (2, .ref sf), (1, .ref a), (0, .ref b)]) hx hb dL_law_117 hl (by decide) rfl (fun ls hl => ?_)
  have hO : hOn σ1 ω 0 mo := hI.on (by omega) hz0 (by omega) (by omega)
  refine lg_loop C (w := nV σ1 0 0 mo) (ch := ch) (by omega) (fun k hk => nV_lt k hk) 15 0 (0, true, false, some 0, some mo, 0) ωz σ1 H locs ls (by omega) (by omega) hI (Or.inl ⟨false, 0, mo, 0, rfl, hO, lgI_0 hO⟩) hcs hP hD hS (lv_sub hl [0, 1, 3, 4, 5, 6, 7, 8] rfl)
