/-! ===== what the start gives ===== -/
theorem vx_toMet {l : Launch} {y : MethodName} {ws : List Cond} {rm : Room} {Pc : Array Value → State → Prop} {Qc : Array Value → State → Outcome → State → Prop} {mc ms : Nat} {free : Addr → Prop} (h : vx_Met l y ws rm Pc Qc (fun _ _ _ => False) mc ms free) : Met l y ws rm Pc Qc mc ms free :=
  MetFree.mono h (fun _ _ h => h) (fun _ _ _ _ _ h => h) (fun a st o t _ hq => hq.elim id (fun ⟨_, _, _, _, _, hf, _⟩ => hf.elim))
theorem kn_arr {args : Array Value} {s : State} {ty : FieldType} (h : (Cond.arrayClass ty).before args s = true) : ∃ cA : ClassId, ArrOfT s cA ty ∧ s.vm.findClass ("[" ++ ty.toString) = some cA := by
  obtain ⟨cA, kA, comp, h1, h2, h3⟩ := Cond.arrayClass_spec h
  exact ⟨cA, fun n z => ⟨fun k h => (by cases h), kA, h2, comp, h3⟩, h1⟩
set_option maxHeartbeats 4000000 in
set_option maxRecDepth 100000 in
theorem st_known {s : State} {b : Nat} (hts : ∀ w ∈ lw_tbl, w.before #[Value.ref b] s = true) : ∃ (D : va_G) (cZ cI cJ : ClassId), zKJ D cZ cI cJ s := by
  obtain ⟨c0, iS0, hK0⟩ := u_known (C := RX0) (T := TX0) (N := 9) (n := 9) hts inX0 (hts (.instantiable RX0 9) (by decide +kernel))
  obtain ⟨c1, iS1, hK1⟩ := u_known (C := RX1) (T := TX1) (N := 4) (n := 4) hts inX1 (hts (.instantiable RX1 4) (by decide +kernel))
  obtain ⟨c2, iS2, hK2⟩ := u_known (C := RX2) (T := TX2) (N := 9) (n := 9) hts inX2 (hts (.instantiable RX2 9) (by decide +kernel))
  obtain ⟨c3, iS3, hK3⟩ := u_known (C := RX3) (T := TX3) (N := 20) (n := 20) hts inX3 (hts (.instantiable RX3 20) (by decide +kernel))
  obtain ⟨cZ, hZ1, hZ2⟩ := kn_arr (hts (.arrayClass .boolean) (by decide +kernel))
  obtain ⟨cI, hI1, hI2⟩ := kn_arr (hts (.arrayClass .int) (by decide +kernel))
  obtain ⟨cJ, hJ1, hJ2⟩ := kn_arr (hts (.arrayClass .long) (by decide +kernel))
  refine ⟨(fun k => if k = 0 then c0 else if k = 1 then c1 else if k = 2 then c2 else c3, fun k => if k = 0 then iS0 else if k = 1 then iS1 else if k = 2 then iS2 else iS3), cZ, cI, cJ, ⟨?_, ?_⟩, va_Nw.of rfl (hts (.methodLinkNest RX0 41 yX2_bit RX2) (by decide +kernel)), va_Nw.of rfl (hts (.methodLinkNest RX0 45 yX2_holds RX2) (by decide +kernel)), va_Nw.of rfl (hts (.methodLinkNest RX1 28 yX2_holds RX2) (by decide +kernel)), va_Nw.of rfl (hts (.methodLinkNest RX1 50 yX2_bit RX2) (by decide +kernel)), va_Nw.of rfl (hts (.methodLinkNest RX1 73 yX2_isCatsPhase RX2) (by decide +kernel)), va_Nw.of rfl (hts (.methodLinkNest RX2 9 yX0_init RX2) (by decide +kernel)), va_Nw.of rfl (hts (.methodLinkNest RX2 18 yX1_init RX2) (by decide +kernel))⟩
  · intro k q hq
    match k, hq with
    | 0, hq => cases hq; exact hK0
    | 1, hq => cases hq; exact hK1
    | 2, hq => cases hq; exact hK2
    | 3, hq => cases hq; exact hK3
    | k + 4, hq => simp [vwCl] at hq
  · intro k q hq
    match k, hq with
    | 0, hq => cases hq; exact ⟨hZ1, hZ2⟩
    | 1, hq => cases hq; exact ⟨hI1, hI2⟩
    | 2, hq => cases hq; exact ⟨hJ1, hJ2⟩
    | k + 3, hq => simp at hq
