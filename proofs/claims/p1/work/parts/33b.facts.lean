/-! ===== what the start gives ===== -/
theorem vx_toMet {l : Launch} {y : MethodName} {ws : List Cond} {rm : Room} {Pc : Array Value → State → Prop} {Qc : Array Value → State → Outcome → State → Prop} {mc ms : Nat} {free : Addr → Prop} (h : vx_Met l y ws rm Pc Qc (fun _ _ _ => False) mc ms free) : Met l y ws rm Pc Qc mc ms free :=
  MetFree.mono h (fun _ _ h => h) (fun _ _ _ _ _ h => h) (fun a st o t _ hq => hq.elim id (fun ⟨_, _, _, _, _, hf, _⟩ => hf.elim))
theorem kn_arr {args : Array Value} {s : State} {ty : FieldType} (h : (Cond.arrayClass ty).before args s = true) : ∃ cA : ClassId, ArrOfT s cA ty ∧ s.vm.findClass ("[" ++ ty.toString) = some cA := by
  obtain ⟨cA, kA, comp, h1, h2, h3⟩ := Cond.arrayClass_spec h
  exact ⟨cA, fun n z => ⟨fun k h => (by cases h), kA, h2, comp, h3⟩, h1⟩
set_option maxRecDepth 100000 in
theorem exL_in : ∀ w ∈ exL, w ∈ lw_tbl := by decide +kernel
set_option maxHeartbeats 4000000 in
set_option maxRecDepth 100000 in
theorem st_exc {s : State} {b : Nat} (hts : ∀ w ∈ lw_tbl, w.before #[Value.ref b] s = true) (hgv : (Jvm.Cond.and given_1 narrow_1).before #[Value.ref b] s = true) : exT s ∧ exS s s.heap ∧ xcT s := by
  have hn := flat_of_before _ hgv
  have hs264 : ∃ sa, vk_R RX2 264 "no such room" sa s := by
    obtain ⟨sa, -, -, -, ha, -⟩ := Cond.exactly_spec (hn (.exactly (.string "DoorChase" 264) "java/lang/String") (by decide +kernel))
    exact ⟨sa, vk_R.of (hts (.stringRef RX2 264 "no such room") (by decide +kernel)) ha⟩
  have hs267 : ∃ sa, vk_R RX2 267 "no such door" sa s := by
    obtain ⟨sa, -, -, -, ha, -⟩ := Cond.exactly_spec (hn (.exactly (.string "DoorChase" 267) "java/lang/String") (by decide +kernel))
    exact ⟨sa, vk_R.of (hts (.stringRef RX2 267 "no such door") (by decide +kernel)) ha⟩
  have hs133 : ∃ sa, vk_R RX2 133 "most is 1 to 60" sa s := by
    obtain ⟨sa, -, -, -, ha, -⟩ := Cond.exactly_spec (hn (.exactly (.string "DoorChase" 133) "java/lang/String") (by decide +kernel))
    exact ⟨sa, vk_R.of (hts (.stringRef RX2 133 "most is 1 to 60") (by decide +kernel)) ha⟩
  have hs271 : ∃ sa, vk_R RX2 271 "no chase is on" sa s := by
    obtain ⟨sa, -, -, -, ha, -⟩ := Cond.exactly_spec (hn (.exactly (.string "DoorChase" 271) "java/lang/String") (by decide +kernel))
    exact ⟨sa, vk_R.of (hts (.stringRef RX2 271 "no chase is on") (by decide +kernel)) ha⟩
  refine ⟨⟨fun w hw => va_Nw.of (by have := List.all_eq_true.mp exL_ok w hw; rw [Bool.and_eq_true] at this; exact this.1) (hts w (exL_in w hw)), hs264, hs267, hs133, hs271⟩, ⟨?_, ?_⟩, ?_, ?_, ?_, ?_⟩
  · exact vx_Zqof (hts (.laysStatic Bundle.tN "UNASSIGNED_STACK" Bundle.steD) (by decide +kernel)) (hts (.initialized Bundle.tN) (by decide +kernel)) (hn (.isRef (.static Bundle.tN "UNASSIGNED_STACK" Bundle.steD)) (by decide +kernel)) (fun a ha => Nat.not_le.mpr ha)
  · exact vx_Zqof (hts (.laysStatic Bundle.tN "SUPPRESSED_SENTINEL" Bundle.listD) (by decide +kernel)) (hts (.initialized Bundle.tN) (by decide +kernel)) (hn (.isRef (.static Bundle.tN "SUPPRESSED_SENTINEL" Bundle.listD)) (by decide +kernel)) (fun a ha => Nat.not_le.mpr ha)
  · exact va_Nw.of rfl (hts (.castable xnI xnI) (by decide +kernel))
  · exact va_Nw.of rfl (hts (.castable xnA xnA) (by decide +kernel))
  · exact va_Nw.of rfl (hts (.castable xnS xnS) (by decide +kernel))
  · exact va_Nc.of (hn (.not (.castable xnS xnA)) (by decide +kernel))
set_option maxHeartbeats 4000000 in
set_option maxRecDepth 100000 in
theorem st_known {s : State} {b : Nat} (hts : ∀ w ∈ lw_tbl, w.before #[Value.ref b] s = true) : ∃ (D : va_G) (cZ cI cJ : ClassId), zKJ D cZ cI cJ s := by
  obtain ⟨c0, iS0, hK0⟩ := u_known (C := RX0) (T := TX0) (N := 9) (n := 9) hts inX0 (hts (.instantiable RX0 9) (by decide +kernel))
  obtain ⟨c1, iS1, hK1⟩ := u_known (C := RX1) (T := TX1) (N := 4) (n := 4) hts inX1 (hts (.instantiable RX1 4) (by decide +kernel))
  obtain ⟨c2, iS2, hK2⟩ := u_known (C := RX2) (T := TX2) (N := 9) (n := 9) hts inX2 (hts (.instantiable RX2 9) (by decide +kernel))
  obtain ⟨c3, iS3, hK3⟩ := u_known (C := RX3) (T := TX3) (N := 20) (n := 20) hts inX3 (hts (.instantiable RX3 20) (by decide +kernel))
  obtain ⟨cZ, hZ1, hZ2⟩ := kn_arr (hts (.arrayClass .boolean) (by decide +kernel))
  obtain ⟨cI, hI1, hI2⟩ := kn_arr (hts (.arrayClass .int) (by decide +kernel))
  obtain ⟨cJ, hJ1, hJ2⟩ := kn_arr (hts (.arrayClass .long) (by decide +kernel))
  refine ⟨(fun k => if k = 0 then c0 else if k = 1 then c1 else if k = 2 then c2 else c3, fun k => if k = 0 then iS0 else if k = 1 then iS1 else if k = 2 then iS2 else iS3), cZ, cI, cJ, ⟨?_, ?_⟩, va_Nw.of rfl (hts (.methodLinkNest RX0 41 yX2_bit RX2) (by decide +kernel)), va_Nw.of rfl (hts (.methodLinkNest RX0 45 yX2_holds RX2) (by decide +kernel)), va_Nw.of rfl (hts (.methodLinkNest RX1 28 yX2_holds RX2) (by decide +kernel)), va_Nw.of rfl (hts (.methodLinkNest RX1 50 yX2_bit RX2) (by decide +kernel)), va_Nw.of rfl (hts (.methodLinkNest RX1 73 yX2_isCatsPhase RX2) (by decide +kernel)), va_Nw.of rfl (hts (.methodLinkNest RX2 9 yX0_init RX2) (by decide +kernel)), va_Nw.of rfl (hts (.methodLinkNest RX2 18 yX1_init RX2) (by decide +kernel))⟩
  · intro k q hq
    match k, hq with
    | 0, hq => cases hq; exact hK0
    | 1, hq => cases hq; exact hK1
    | 2, hq => cases hq; exact hK2
    | 3, hq => cases hq; exact hK3
    | k + 4, hq => simp [vwCl] at hq
  · intro k q hq
    match k, hq with
    | 0, hq => cases hq; exact ⟨hZ1, hZ2⟩
    | 1, hq => cases hq; exact ⟨hI1, hI2⟩
    | 2, hq => cases hq; exact ⟨hJ1, hJ2⟩
    | k + 3, hq => simp at hq
theorem play9_f {x : Int32} (h : x < 1 ∨ ¬ x ≤ 60) : (decide (nI 1 ≤ x) && decide (x ≤ nI 60)) = false := by
  rcases h with h | h
  · exact isIn_f1 (show x < nI 1 from h)
  · rw [decide_eq_false (show ¬ x ≤ nI 60 from h), Bool.and_false]
theorem play9_t {x : Int32} (h : ¬ (x < 1 ∨ ¬ x ≤ 60)) : (decide (nI 1 ≤ x) && decide (x ≤ nI 60)) = true := by
  have h1 : ¬ x < nI 1 := fun q => h (Or.inl q)
  have h2 : x ≤ nI 60 := Decidable.byContradiction fun q => h (Or.inr q)
  rw [decide_eq_true (Int32.not_lt.mp h1), decide_eq_true h2]; rfl
set_option maxHeartbeats 4000000 in
set_option maxRecDepth 100000 in
theorem c_X3_thrown9 (l : Launch) (D : va_G) (cZ cI : ClassId) (b : Nat → Nat) (t0 ro : Nat) (g0 : Option Nat) (S : Nat → Bool) : Met l yX3_thrown wsX3_thrown ({ frames := 0, cells := 0, slots := 0, locals := 0 }) (RdP D cZ cI [.ref (b 0)] (pM cZ cI b t0 ro g0 S)) (vp_Si (fun r0 => r0 = nI t0)) 0 0 (fun _ => False) := by
  refine Met.ofW (cc := cX3_thrown) (maxL := 1) (ret := (some .int)) (by decide) rfl ?_
  intro p e s m args below meth c s₁ B hml hv
  obtain ⟨rfl, hP, hZ⟩ := hv
  have hx := B.exec
  have hb := B.bytes
  have hr := B.returns
  have hts := atoms_spec (ws := wsX3_thrown) B.pre
  have hown : s.vm.findClass RX3 = some m.cls := findClass_of_methodNamed B.named
  have hP : va_P D vwCl (pM cZ cI b t0 ro g0 S) s.heap := hP
  have hl := lv_entry ([.ref (b 0)]) (n := 1) (Nat.le_of_ble_eq_true rfl)
  rw [lg_entry_eq]
  generalize (lg_sl ([.ref (b 0)]) ++ List.replicate (1 - (lg_sl ([.ref (b 0)])).length) Slot.unset).toArray = ls at hl ⊢
  have hl : lv_has ls 1 [(0, .ref (b 0))] := hl
  have hin3 : ∀ w ∈ u_ws RX3 TX3 20, w ∈ wsX3_thrown := by decide +kernel
  have hf35 := hts (.fieldLink RX3 35 "DoorChaseModel" "thrown" "I") (by decide +kernel)
  refine lv_aload_n hx hb dX3_thrown_0 rfl (lv_at hl 0 rfl) ?_
  refine va_get (D := D) (ci := 3) (v := .int (nI t0)) (C := RX3) (T := TX3) (N := 20) hx hb hts hin3 hown hZ.1 hP 0 rfl rfl 0 (by decide) hf35 (fun _ h9 => h9) rfl dX3_thrown_1 ?_
  exact W.iret (v := nI t0) hx hb hr (fun t ht hW => ⟨_, rfl, rfl, ht⟩) (fun q h => absurd h List.not_mem_nil) dX3_thrown_4
theorem fl_trace {l : Launch} (h : l.flags = flags0) : l.stackTraces = false := by
  show (!l.flags.contains noTraceFlag) = false
  rw [h]
  decide +kernel
theorem sw_out : ∀ j, j < 64 → 36 ≤ j → (35 : Int) < (nI j).toInt := by decide +kernel
