theorem uniqZ {D : va_G} {cZ cI cA : ClassId} {s : State} (h : va_K D vwCl ([(cZ, .boolean), (cI, .int)] ++ [(cA, .boolean)]) s) : cZ = cA := Option.some.inj (((h.2 0 (cZ, .boolean) rfl).2 : s.vm.findClass _ = some cZ).symm.trans ((h.2 2 (cA, .boolean) rfl).2 : s.vm.findClass _ = some cA))
theorem uniqI {D : va_G} {cZ cI cA : ClassId} {s : State} (h : va_K D vwCl ([(cZ, .boolean), (cI, .int)] ++ [(cA, .int)]) s) : cI = cA := Option.some.inj (((h.2 1 (cI, .int) rfl).2 : s.vm.findClass _ = some cI).symm.trans ((h.2 2 (cA, .int) rfl).2 : s.vm.findClass _ = some cA))
theorem encW_0 : encW (fun _ _ _ => false) = fun _ => 0 := funext fun _ => sb_0
theorem encT_0 : encT (fun _ _ _ => some 0) = fun _ => 0 := rfl
def σ0 : HS := (0, 0, fun _ => false, fun _ => 0, fun _ => 0, fun _ => 0, fun _ => 0, fun _ => 0, fun _ => false)
def ωz : OS := (fun _ _ _ => false, fun _ _ _ => false, fun _ _ _ => false, fun _ _ _ => some 0)
def κ0 : CS := (0, false, false, none, none, 0)
abbrev pQ (cI : ClassId) (o : Nat → Nat) (ω : OS) : va_W := [(o 0, .inr (1, [.ref (o 1), .ref (o 2), .ref (o 3), .ref (o 4)])), (o 1, .inl (cI, 96, .inl (encW (oW ω)))), (o 2, .inl (cI, 96, .inl (encW (oU ω)))), (o 3, .inl (cI, 96, .inl (encW (oB ω)))), (o 4, .inl (cI, 768, .inl (encT (oT ω))))]
set_option maxHeartbeats 4000000 in
set_option maxRecDepth 100000 in
theorem c_X0_init (l : Launch) (D : va_G) (cZ cI : ClassId) (h0 : Nat) (sz : Nat) : Met l yX0_init wsX0_init ({ frames := 1, cells := 7, slots := 86, locals := 12 }) (WrP D cZ cI [.ref h0] ([(h0, .inr (0, [.int 0, .null, .null, .int 0, .null, .null, .null, .null, .null]))]) sz) (va_Qv (fun _ : Nat → Nat => True) (fun q t => q 0 = h0 ∧ va_P D vwCl (pH cZ cI q σ0) t.heap ∧ va_D (va_A ([(h0, .inr (0, [.int 0, .null, .null, .int 0, .null, .null, .null, .null, .null]))]) sz) (pH cZ cI q σ0)) (va_A ([(h0, .inr (0, [.int 0, .null, .null, .int 0, .null, .null, .null, .null, .null]))]) sz)) 7 86 (va_A ([(h0, .inr (0, [.int 0, .null, .null, .int 0, .null, .null, .null, .null, .null]))]) sz) := by
  refine Met.ofW (cc := cX0_init) (maxL := 1) (ret := none) (by decide) rfl ?_
  intro p e s m args below meth c s₁ B hml hv
  obtain ⟨rfl, hsz, hP, hZ, hD0⟩ := hv
  have hx := B.exec
  have hb := B.bytes
  have hr := B.returns
  have hts := atoms_spec (ws := wsX0_init) B.pre
  have hown : s.vm.findClass RX0 = some m.cls := findClass_of_methodNamed B.named
  have hlocks := B.notSynchronized
  have hin : meth.name = "<init>" := (name_of_methodNamed B.named B.method).1
  subst hsz
  have hD := hD0.self (sz := s.heap.size)
  generalize hAe : va_A ([(h0, .inr (0, [.int 0, .null, .null, .int 0, .null, .null, .null, .null, .null]))]) s.heap.size = A at hD ⊢
  have hA : ∀ q : Nat, s.heap.size ≤ q → A q := fun q h => by rw [← hAe]; exact Or.inr h
  have hS : va_S A s.heap s.heap [] := va_S.rf
  have hP : va_P D vwCl ([(h0, .inr (0, [.int 0, .null, .null, .int 0, .null, .null, .null, .null, .null]))]) s.heap := hP
  have hl := lv_entry ([.ref h0]) (n := 1) (Nat.le_of_ble_eq_true rfl)
  rw [lg_entry_eq]
  generalize (lg_sl ([.ref h0]) ++ List.replicate (1 - (lg_sl ([.ref h0])).length) Slot.unset).toArray = ls at hl ⊢
  have hl : lv_has ls 1 [(0, .ref h0)] := hl
  refine lv_aload_n hx hb dX0_init_0 rfl (lv_at hl 0 rfl) ?_
  refine W.objInit hx hb hown (hts (.methodLink RX0 3 objectInit) (by decide +kernel)) (hts (.instanceMethod objectInit) (by decide +kernel)) (hts (.code objectInit ⟨#[0xb1]⟩ 1 none) (by decide +kernel)) rfl (by rw [hml]; exact hl.1) rfl dX0_init_1 (Nat.le_of_ble_eq_true rfl) (Nat.le_of_ble_eq_true rfl) ?_
  refine W.eq (g2 := F0 m 4 ls []) rfl ?_
  refine lv_aload_n hx hb dX0_init_4 rfl (lv_at hl 0 rfl) ?_
  refine lv_bipush (v := nI 8) hx hb dX0_init_5 (by decide) ?_
  refine va_newa (atype := .boolean) hx hb (hts (.arrayClass .boolean) (by decide +kernel)) (ty := .boolean) rfl hZ.1 hP hD hS hA (N' := 8) (a0 := (8, .inl (encB (fun _ => false)))) (fun _ => rfl) (by decide) rfl (by decide) (Nat.le_of_ble_eq_true rfl) (Nat.le_of_ble_eq_true rfl) dX0_init_7 (fun a1 cA H hK1 hP hD hS => ?_)
  obtain rfl := uniqZ hK1
  refine W.widen (k := 1) (n := 8) (by omega) (by omega) ?_
  have hP : va_P D vwCl ([(h0, .inr (0, [.int 0, .null, .null, .int 0, .null, .null, .null, .null, .null])), (a1, .inl (cZ, 8, .inl (encB (fun _ => false))))]) H := hP
  have hD : va_D A ([(h0, .inr (0, [.int 0, .null, .null, .int 0, .null, .null, .null, .null, .null])), (a1, .inl (cZ, 8, .inl (encB (fun _ => false))))]) := hD
  refine va_putF (D := D) (ci := 0) (v := .ref a1) (ty := .array .boolean) (C := RX0) (T := TX0) (N := 9) hx hb hts (by decide +kernel) tyX0 tyX0_ok nmX0 hown hZ.1 hP hD hS 0 rfl rfl 1 (by decide) (hts (.fieldLink RX0 9 "DoorChase$House" "safe" "[Z") (by decide +kernel)) (fun _ h9 => h9) rfl hin rfl (by decide +kernel) rfl rfl (Nat.le_of_ble_eq_true rfl) dX0_init_9 (fun H locs hP hD hS => ?_)
  have hP : va_P D vwCl ([(h0, .inr (0, [.int 0, .ref a1, .null, .int 0, .null, .null, .null, .null, .null])), (a1, .inl (cZ, 8, .inl (encB (fun _ => false))))]) H := hP
  have hD : va_D A ([(h0, .inr (0, [.int 0, .ref a1, .null, .int 0, .null, .null, .null, .null, .null])), (a1, .inl (cZ, 8, .inl (encB (fun _ => false))))]) := hD
  refine lv_aload_n hx hb dX0_init_12 rfl (lv_at hl 0 rfl) ?_
  refine lv_bipush (v := nI 8) hx hb dX0_init_13 (by decide) ?_
  refine va_newa (atype := .int) hx hb (hts (.arrayClass .int) (by decide +kernel)) (ty := .int) rfl hZ.1 hP hD hS hA (N' := 8) (a0 := (8, .inl (encN (fun _ => 0)))) (fun _ => rfl) (by decide) rfl (by decide) (Nat.le_of_ble_eq_true rfl) (Nat.le_of_ble_eq_true rfl) dX0_init_15 (fun a2 cA H hK1 hP hD hS => ?_)
  obtain rfl := uniqI hK1
  refine W.widen (k := 2) (n := 16) (by omega) (by omega) ?_
  have hP : va_P D vwCl ([(h0, .inr (0, [.int 0, .ref a1, .null, .int 0, .null, .null, .null, .null, .null])), (a1, .inl (cZ, 8, .inl (encB (fun _ => false)))), (a2, .inl (cI, 8, .inl (encN (fun _ => 0))))]) H := hP
  have hD : va_D A ([(h0, .inr (0, [.int 0, .ref a1, .null, .int 0, .null, .null, .null, .null, .null])), (a1, .inl (cZ, 8, .inl (encB (fun _ => false)))), (a2, .inl (cI, 8, .inl (encN (fun _ => 0))))]) := hD
  refine va_putF (D := D) (ci := 0) (v := .ref a2) (ty := .array .int) (C := RX0) (T := TX0) (N := 9) hx hb hts (by decide +kernel) tyX0 tyX0_ok nmX0 hown hZ.1 hP hD hS 0 rfl rfl 2 (by decide) (hts (.fieldLink RX0 15 "DoorChase$House" "cheese" "[I") (by decide +kernel)) (fun _ h9 => h9) rfl hin rfl (by decide +kernel) rfl rfl (Nat.le_of_ble_eq_true rfl) dX0_init_17 (fun H locs hP hD hS => ?_)
  have hP : va_P D vwCl ([(h0, .inr (0, [.int 0, .ref a1, .ref a2, .int 0, .null, .null, .null, .null, .null])), (a1, .inl (cZ, 8, .inl (encB (fun _ => false)))), (a2, .inl (cI, 8, .inl (encN (fun _ => 0))))]) H := hP
  have hD : va_D A ([(h0, .inr (0, [.int 0, .ref a1, .ref a2, .int 0, .null, .null, .null, .null, .null])), (a1, .inl (cZ, 8, .inl (encB (fun _ => false)))), (a2, .inl (cI, 8, .inl (encN (fun _ => 0))))]) := hD
  refine lv_aload_n hx hb dX0_init_20 rfl (lv_at hl 0 rfl) ?_
  refine lv_bipush (v := nI 14) hx hb dX0_init_21 (by decide) ?_
  refine va_newa (atype := .int) hx hb (hts (.arrayClass .int) (by decide +kernel)) (ty := .int) rfl hZ.1 hP hD hS hA (N' := 14) (a0 := (14, .inl (encN (fun _ => 0)))) (fun _ => rfl) (by decide) rfl (by decide) (Nat.le_of_ble_eq_true rfl) (Nat.le_of_ble_eq_true rfl) dX0_init_23 (fun a3 cA H hK1 hP hD hS => ?_)
  obtain rfl := uniqI hK1
  refine W.widen (k := 3) (n := 30) (by omega) (by omega) ?_
  have hP : va_P D vwCl ([(h0, .inr (0, [.int 0, .ref a1, .ref a2, .int 0, .null, .null, .null, .null, .null])), (a1, .inl (cZ, 8, .inl (encB (fun _ => false)))), (a2, .inl (cI, 8, .inl (encN (fun _ => 0)))), (a3, .inl (cI, 14, .inl (encN (fun _ => 0))))]) H := hP
  have hD : va_D A ([(h0, .inr (0, [.int 0, .ref a1, .ref a2, .int 0, .null, .null, .null, .null, .null])), (a1, .inl (cZ, 8, .inl (encB (fun _ => false)))), (a2, .inl (cI, 8, .inl (encN (fun _ => 0)))), (a3, .inl (cI, 14, .inl (encN (fun _ => 0))))]) := hD
  refine va_putF (D := D) (ci := 0) (v := .ref a3) (ty := .array .int) (C := RX0) (T := TX0) (N := 9) hx hb hts (by decide +kernel) tyX0 tyX0_ok nmX0 hown hZ.1 hP hD hS 0 rfl rfl 4 (by decide) (hts (.fieldLink RX0 19 "DoorChase$House" "firstRoom" "[I") (by decide +kernel)) (fun _ h9 => h9) rfl hin rfl (by decide +kernel) rfl rfl (Nat.le_of_ble_eq_true rfl) dX0_init_25 (fun H locs hP hD hS => ?_)
  have hP : va_P D vwCl ([(h0, .inr (0, [.int 0, .ref a1, .ref a2, .int 0, .ref a3, .null, .null, .null, .null])), (a1, .inl (cZ, 8, .inl (encB (fun _ => false)))), (a2, .inl (cI, 8, .inl (encN (fun _ => 0)))), (a3, .inl (cI, 14, .inl (encN (fun _ => 0))))]) H := hP
  have hD : va_D A ([(h0, .inr (0, [.int 0, .ref a1, .ref a2, .int 0, .ref a3, .null, .null, .null, .null])), (a1, .inl (cZ, 8, .inl (encB (fun _ => false)))), (a2, .inl (cI, 8, .inl (encN (fun _ => 0)))), (a3, .inl (cI, 14, .inl (encN (fun _ => 0))))]) := hD
  refine lv_aload_n hx hb dX0_init_28 rfl (lv_at hl 0 rfl) ?_
  refine lv_bipush (v := nI 14) hx hb dX0_init_29 (by decide) ?_
  refine va_newa (atype := .int) hx hb (hts (.arrayClass .int) (by decide +kernel)) (ty := .int) rfl hZ.1 hP hD hS hA (N' := 14) (a0 := (14, .inl (encN (fun _ => 0)))) (fun _ => rfl) (by decide) rfl (by decide) (Nat.le_of_ble_eq_true rfl) (Nat.le_of_ble_eq_true rfl) dX0_init_31 (fun a4 cA H hK1 hP hD hS => ?_)
  obtain rfl := uniqI hK1
  refine W.widen (k := 4) (n := 44) (by omega) (by omega) ?_
  have hP : va_P D vwCl ([(h0, .inr (0, [.int 0, .ref a1, .ref a2, .int 0, .ref a3, .null, .null, .null, .null])), (a1, .inl (cZ, 8, .inl (encB (fun _ => false)))), (a2, .inl (cI, 8, .inl (encN (fun _ => 0)))), (a3, .inl (cI, 14, .inl (encN (fun _ => 0)))), (a4, .inl (cI, 14, .inl (encN (fun _ => 0))))]) H := hP
  have hD : va_D A ([(h0, .inr (0, [.int 0, .ref a1, .ref a2, .int 0, .ref a3, .null, .null, .null, .null])), (a1, .inl (cZ, 8, .inl (encB (fun _ => false)))), (a2, .inl (cI, 8, .inl (encN (fun _ => 0)))), (a3, .inl (cI, 14, .inl (encN (fun _ => 0)))), (a4, .inl (cI, 14, .inl (encN (fun _ => 0))))]) := hD
  refine va_putF (D := D) (ci := 0) (v := .ref a4) (ty := .array .int) (C := RX0) (T := TX0) (N := 9) hx hb hts (by decide +kernel) tyX0 tyX0_ok nmX0 hown hZ.1 hP hD hS 0 rfl rfl 5 (by decide) (hts (.fieldLink RX0 22 "DoorChase$House" "secondRoom" "[I") (by decide +kernel)) (fun _ h9 => h9) rfl hin rfl (by decide +kernel) rfl rfl (Nat.le_of_ble_eq_true rfl) dX0_init_33 (fun H locs hP hD hS => ?_)
  have hP : va_P D vwCl ([(h0, .inr (0, [.int 0, .ref a1, .ref a2, .int 0, .ref a3, .ref a4, .null, .null, .null])), (a1, .inl (cZ, 8, .inl (encB (fun _ => false)))), (a2, .inl (cI, 8, .inl (encN (fun _ => 0)))), (a3, .inl (cI, 14, .inl (encN (fun _ => 0)))), (a4, .inl (cI, 14, .inl (encN (fun _ => 0))))]) H := hP
  have hD : va_D A ([(h0, .inr (0, [.int 0, .ref a1, .ref a2, .int 0, .ref a3, .ref a4, .null, .null, .null])), (a1, .inl (cZ, 8, .inl (encB (fun _ => false)))), (a2, .inl (cI, 8, .inl (encN (fun _ => 0)))), (a3, .inl (cI, 14, .inl (encN (fun _ => 0)))), (a4, .inl (cI, 14, .inl (encN (fun _ => 0))))]) := hD
  refine lv_aload_n hx hb dX0_init_36 rfl (lv_at hl 0 rfl) ?_
  refine lv_bipush (v := nI 14) hx hb dX0_init_37 (by decide) ?_
  refine va_newa (atype := .int) hx hb (hts (.arrayClass .int) (by decide +kernel)) (ty := .int) rfl hZ.1 hP hD hS hA (N' := 14) (a0 := (14, .inl (encN (fun _ => 0)))) (fun _ => rfl) (by decide) rfl (by decide) (Nat.le_of_ble_eq_true rfl) (Nat.le_of_ble_eq_true rfl) dX0_init_39 (fun a5 cA H hK1 hP hD hS => ?_)
  obtain rfl := uniqI hK1
  refine W.widen (k := 5) (n := 58) (by omega) (by omega) ?_
  have hP : va_P D vwCl ([(h0, .inr (0, [.int 0, .ref a1, .ref a2, .int 0, .ref a3, .ref a4, .null, .null, .null])), (a1, .inl (cZ, 8, .inl (encB (fun _ => false)))), (a2, .inl (cI, 8, .inl (encN (fun _ => 0)))), (a3, .inl (cI, 14, .inl (encN (fun _ => 0)))), (a4, .inl (cI, 14, .inl (encN (fun _ => 0)))), (a5, .inl (cI, 14, .inl (encN (fun _ => 0))))]) H := hP
  have hD : va_D A ([(h0, .inr (0, [.int 0, .ref a1, .ref a2, .int 0, .ref a3, .ref a4, .null, .null, .null])), (a1, .inl (cZ, 8, .inl (encB (fun _ => false)))), (a2, .inl (cI, 8, .inl (encN (fun _ => 0)))), (a3, .inl (cI, 14, .inl (encN (fun _ => 0)))), (a4, .inl (cI, 14, .inl (encN (fun _ => 0)))), (a5, .inl (cI, 14, .inl (encN (fun _ => 0))))]) := hD
  refine va_putF (D := D) (ci := 0) (v := .ref a5) (ty := .array .int) (C := RX0) (T := TX0) (N := 9) hx hb hts (by decide +kernel) tyX0 tyX0_ok nmX0 hown hZ.1 hP hD hS 0 rfl rfl 6 (by decide) (hts (.fieldLink RX0 25 "DoorChase$House" "periods" "[I") (by decide +kernel)) (fun _ h9 => h9) rfl hin rfl (by decide +kernel) rfl rfl (Nat.le_of_ble_eq_true rfl) dX0_init_41 (fun H locs hP hD hS => ?_)
  have hP : va_P D vwCl ([(h0, .inr (0, [.int 0, .ref a1, .ref a2, .int 0, .ref a3, .ref a4, .ref a5, .null, .null])), (a1, .inl (cZ, 8, .inl (encB (fun _ => false)))), (a2, .inl (cI, 8, .inl (encN (fun _ => 0)))), (a3, .inl (cI, 14, .inl (encN (fun _ => 0)))), (a4, .inl (cI, 14, .inl (encN (fun _ => 0)))), (a5, .inl (cI, 14, .inl (encN (fun _ => 0))))]) H := hP
  have hD : va_D A ([(h0, .inr (0, [.int 0, .ref a1, .ref a2, .int 0, .ref a3, .ref a4, .ref a5, .null, .null])), (a1, .inl (cZ, 8, .inl (encB (fun _ => false)))), (a2, .inl (cI, 8, .inl (encN (fun _ => 0)))), (a3, .inl (cI, 14, .inl (encN (fun _ => 0)))), (a4, .inl (cI, 14, .inl (encN (fun _ => 0)))), (a5, .inl (cI, 14, .inl (encN (fun _ => 0))))]) := hD
  refine lv_aload_n hx hb dX0_init_44 rfl (lv_at hl 0 rfl) ?_
  refine lv_bipush (v := nI 14) hx hb dX0_init_45 (by decide) ?_
  refine va_newa (atype := .int) hx hb (hts (.arrayClass .int) (by decide +kernel)) (ty := .int) rfl hZ.1 hP hD hS hA (N' := 14) (a0 := (14, .inl (encN (fun _ => 0)))) (fun _ => rfl) (by decide) rfl (by decide) (Nat.le_of_ble_eq_true rfl) (Nat.le_of_ble_eq_true rfl) dX0_init_47 (fun a6 cA H hK1 hP hD hS => ?_)
  obtain rfl := uniqI hK1
  refine W.widen (k := 6) (n := 72) (by omega) (by omega) ?_
  have hP : va_P D vwCl ([(h0, .inr (0, [.int 0, .ref a1, .ref a2, .int 0, .ref a3, .ref a4, .ref a5, .null, .null])), (a1, .inl (cZ, 8, .inl (encB (fun _ => false)))), (a2, .inl (cI, 8, .inl (encN (fun _ => 0)))), (a3, .inl (cI, 14, .inl (encN (fun _ => 0)))), (a4, .inl (cI, 14, .inl (encN (fun _ => 0)))), (a5, .inl (cI, 14, .inl (encN (fun _ => 0)))), (a6, .inl (cI, 14, .inl (encN (fun _ => 0))))]) H := hP
  have hD : va_D A ([(h0, .inr (0, [.int 0, .ref a1, .ref a2, .int 0, .ref a3, .ref a4, .ref a5, .null, .null])), (a1, .inl (cZ, 8, .inl (encB (fun _ => false)))), (a2, .inl (cI, 8, .inl (encN (fun _ => 0)))), (a3, .inl (cI, 14, .inl (encN (fun _ => 0)))), (a4, .inl (cI, 14, .inl (encN (fun _ => 0)))), (a5, .inl (cI, 14, .inl (encN (fun _ => 0)))), (a6, .inl (cI, 14, .inl (encN (fun _ => 0))))]) := hD
  refine va_putF (D := D) (ci := 0) (v := .ref a6) (ty := .array .int) (C := RX0) (T := TX0) (N := 9) hx hb hts (by decide +kernel) tyX0 tyX0_ok nmX0 hown hZ.1 hP hD hS 0 rfl rfl 7 (by decide) (hts (.fieldLink RX0 28 "DoorChase$House" "rests" "[I") (by decide +kernel)) (fun _ h9 => h9) rfl hin rfl (by decide +kernel) rfl rfl (Nat.le_of_ble_eq_true rfl) dX0_init_49 (fun H locs hP hD hS => ?_)
  have hP : va_P D vwCl ([(h0, .inr (0, [.int 0, .ref a1, .ref a2, .int 0, .ref a3, .ref a4, .ref a5, .ref a6, .null])), (a1, .inl (cZ, 8, .inl (encB (fun _ => false)))), (a2, .inl (cI, 8, .inl (encN (fun _ => 0)))), (a3, .inl (cI, 14, .inl (encN (fun _ => 0)))), (a4, .inl (cI, 14, .inl (encN (fun _ => 0)))), (a5, .inl (cI, 14, .inl (encN (fun _ => 0)))), (a6, .inl (cI, 14, .inl (encN (fun _ => 0))))]) H := hP
  have hD : va_D A ([(h0, .inr (0, [.int 0, .ref a1, .ref a2, .int 0, .ref a3, .ref a4, .ref a5, .ref a6, .null])), (a1, .inl (cZ, 8, .inl (encB (fun _ => false)))), (a2, .inl (cI, 8, .inl (encN (fun _ => 0)))), (a3, .inl (cI, 14, .inl (encN (fun _ => 0)))), (a4, .inl (cI, 14, .inl (encN (fun _ => 0)))), (a5, .inl (cI, 14, .inl (encN (fun _ => 0)))), (a6, .inl (cI, 14, .inl (encN (fun _ => 0))))]) := hD
  refine lv_aload_n hx hb dX0_init_52 rfl (lv_at hl 0 rfl) ?_
  refine lv_bipush (v := nI 14) hx hb dX0_init_53 (by decide) ?_
  refine va_newa (atype := .boolean) hx hb (hts (.arrayClass .boolean) (by decide +kernel)) (ty := .boolean) rfl hZ.1 hP hD hS hA (N' := 14) (a0 := (14, .inl (encB (fun _ => false)))) (fun _ => rfl) (by decide) rfl (by decide) (Nat.le_of_ble_eq_true rfl) (Nat.le_of_ble_eq_true rfl) dX0_init_55 (fun a7 cA H hK1 hP hD hS => ?_)
  obtain rfl := uniqZ hK1
  refine W.widen (k := 7) (n := 86) (by omega) (by omega) ?_
  have hP : va_P D vwCl ([(h0, .inr (0, [.int 0, .ref a1, .ref a2, .int 0, .ref a3, .ref a4, .ref a5, .ref a6, .null])), (a1, .inl (cZ, 8, .inl (encB (fun _ => false)))), (a2, .inl (cI, 8, .inl (encN (fun _ => 0)))), (a3, .inl (cI, 14, .inl (encN (fun _ => 0)))), (a4, .inl (cI, 14, .inl (encN (fun _ => 0)))), (a5, .inl (cI, 14, .inl (encN (fun _ => 0)))), (a6, .inl (cI, 14, .inl (encN (fun _ => 0)))), (a7, .inl (cZ, 14, .inl (encB (fun _ => false))))]) H := hP
  have hD : va_D A ([(h0, .inr (0, [.int 0, .ref a1, .ref a2, .int 0, .ref a3, .ref a4, .ref a5, .ref a6, .null])), (a1, .inl (cZ, 8, .inl (encB (fun _ => false)))), (a2, .inl (cI, 8, .inl (encN (fun _ => 0)))), (a3, .inl (cI, 14, .inl (encN (fun _ => 0)))), (a4, .inl (cI, 14, .inl (encN (fun _ => 0)))), (a5, .inl (cI, 14, .inl (encN (fun _ => 0)))), (a6, .inl (cI, 14, .inl (encN (fun _ => 0)))), (a7, .inl (cZ, 14, .inl (encB (fun _ => false))))]) := hD
  refine va_putF (D := D) (ci := 0) (v := .ref a7) (ty := .array .boolean) (C := RX0) (T := TX0) (N := 9) hx hb hts (by decide +kernel) tyX0 tyX0_ok nmX0 hown hZ.1 hP hD hS 0 rfl rfl 8 (by decide) (hts (.fieldLink RX0 31 "DoorChase$House" "locked" "[Z") (by decide +kernel)) (fun _ h9 => h9) rfl hin rfl (by decide +kernel) rfl rfl (Nat.le_of_ble_eq_true rfl) dX0_init_57 (fun H locs hP hD hS => ?_)
  have hP : va_P D vwCl ([(h0, .inr (0, [.int 0, .ref a1, .ref a2, .int 0, .ref a3, .ref a4, .ref a5, .ref a6, .ref a7])), (a1, .inl (cZ, 8, .inl (encB (fun _ => false)))), (a2, .inl (cI, 8, .inl (encN (fun _ => 0)))), (a3, .inl (cI, 14, .inl (encN (fun _ => 0)))), (a4, .inl (cI, 14, .inl (encN (fun _ => 0)))), (a5, .inl (cI, 14, .inl (encN (fun _ => 0)))), (a6, .inl (cI, 14, .inl (encN (fun _ => 0)))), (a7, .inl (cZ, 14, .inl (encB (fun _ => false))))]) H := hP
  have hD : va_D A ([(h0, .inr (0, [.int 0, .ref a1, .ref a2, .int 0, .ref a3, .ref a4, .ref a5, .ref a6, .ref a7])), (a1, .inl (cZ, 8, .inl (encB (fun _ => false)))), (a2, .inl (cI, 8, .inl (encN (fun _ => 0)))), (a3, .inl (cI, 14, .inl (encN (fun _ => 0)))), (a4, .inl (cI, 14, .inl (encN (fun _ => 0)))), (a5, .inl (cI, 14, .inl (encN (fun _ => 0)))), (a6, .inl (cI, 14, .inl (encN (fun _ => 0)))), (a7, .inl (cZ, 14, .inl (encB (fun _ => false))))]) := hD
  obtain ⟨qf, hqf⟩ : ∃ qf : Nat → Nat, qf = fun i => match i with | 0 => h0 | 1 => a1 | 2 => a2 | 3 => a3 | 4 => a4 | 5 => a5 | 6 => a6 | _ => a7 := ⟨_, rfl⟩
  have hP9 : va_P D vwCl (pH cZ cI qf σ0) H := by rw [hqf]; exact hP.sub [0, 1, 2, 3, 4, 5, 6, 7] rfl
  have hD9 : va_D A (pH cZ cI qf σ0) := by rw [hqf]; exact hD.sub [0, 1, 2, 3, 4, 5, 6, 7] (by decide) rfl
  exact W.vret hx hb hr (fun t ht hW => ⟨⟨qf, rfl, trivial, by subst hqf; rfl, by rw [ht]; exact hP9, hD9⟩, hS.F ht⟩) hS.2.2 dX0_init_60
set_option maxHeartbeats 4000000 in
set_option maxRecDepth 100000 in
theorem c_X1_init (l : Launch) (D : va_G) (cZ cI : ClassId) (h0 : Nat) (sz : Nat) : Met l yX1_init wsX1_init ({ frames := 1, cells := 4, slots := 1056, locals := 12 }) (WrP D cZ cI [.ref h0] ([(h0, .inr (1, [.null, .null, .null, .null]))]) sz) (va_Qv (fun _ : Nat → Nat => True) (fun q t => q 0 = h0 ∧ va_P D vwCl (pQ cI q ωz) t.heap ∧ va_D (va_A ([(h0, .inr (1, [.null, .null, .null, .null]))]) sz) (pQ cI q ωz)) (va_A ([(h0, .inr (1, [.null, .null, .null, .null]))]) sz)) 4 1056 (va_A ([(h0, .inr (1, [.null, .null, .null, .null]))]) sz) := by
  refine Met.ofW (cc := cX1_init) (maxL := 1) (ret := none) (by decide) rfl ?_
  intro p e s m args below meth c s₁ B hml hv
  obtain ⟨rfl, hsz, hP, hZ, hD0⟩ := hv
  have hx := B.exec
  have hb := B.bytes
  have hr := B.returns
  have hts := atoms_spec (ws := wsX1_init) B.pre
  have hown : s.vm.findClass RX1 = some m.cls := findClass_of_methodNamed B.named
  have hlocks := B.notSynchronized
  have hin : meth.name = "<init>" := (name_of_methodNamed B.named B.method).1
  subst hsz
  have hD := hD0.self (sz := s.heap.size)
  generalize hAe : va_A ([(h0, .inr (1, [.null, .null, .null, .null]))]) s.heap.size = A at hD ⊢
  have hA : ∀ q : Nat, s.heap.size ≤ q → A q := fun q h => by rw [← hAe]; exact Or.inr h
  have hS : va_S A s.heap s.heap [] := va_S.rf
  have hP : va_P D vwCl ([(h0, .inr (1, [.null, .null, .null, .null]))]) s.heap := hP
  have hl := lv_entry ([.ref h0]) (n := 1) (Nat.le_of_ble_eq_true rfl)
  rw [lg_entry_eq]
  generalize (lg_sl ([.ref h0]) ++ List.replicate (1 - (lg_sl ([.ref h0])).length) Slot.unset).toArray = ls at hl ⊢
  have hl : lv_has ls 1 [(0, .ref h0)] := hl
  refine lv_aload_n hx hb dX1_init_0 rfl (lv_at hl 0 rfl) ?_
  refine W.objInit hx hb hown (hts (.methodLink RX1 5 objectInit) (by decide +kernel)) (hts (.instanceMethod objectInit) (by decide +kernel)) (hts (.code objectInit ⟨#[0xb1]⟩ 1 none) (by decide +kernel)) rfl (by rw [hml]; exact hl.1) rfl dX1_init_1 (Nat.le_of_ble_eq_true rfl) (Nat.le_of_ble_eq_true rfl) ?_
  refine W.eq (g2 := F0 m 4 ls []) rfl ?_
  refine lv_aload_n hx hb dX1_init_4 rfl (lv_at hl 0 rfl) ?_
  refine lv_bipush (v := nI 96) hx hb dX1_init_5 (by decide) ?_
  refine va_newa (atype := .int) hx hb (hts (.arrayClass .int) (by decide +kernel)) (ty := .int) rfl hZ.1 hP hD hS hA (N' := 96) (a0 := (96, .inl (encW (fun _ _ _ => false)))) (fun cA => by rw [encW_0]; rfl) (by decide) rfl (by decide) (Nat.le_of_ble_eq_true rfl) (Nat.le_of_ble_eq_true rfl) dX1_init_7 (fun a1 cA H hK1 hP hD hS => ?_)
  obtain rfl := uniqI hK1
  refine W.widen (k := 1) (n := 96) (by omega) (by omega) ?_
  have hP : va_P D vwCl ([(h0, .inr (1, [.null, .null, .null, .null])), (a1, .inl (cI, 96, .inl (encW (fun _ _ _ => false))))]) H := hP
  have hD : va_D A ([(h0, .inr (1, [.null, .null, .null, .null])), (a1, .inl (cI, 96, .inl (encW (fun _ _ _ => false))))]) := hD
  refine va_putF (D := D) (ci := 1) (v := .ref a1) (ty := .array .int) (C := RX1) (T := TX1) (N := 4) hx hb hts (by decide +kernel) tyX1 tyX1_ok nmX1 hown hZ.1 hP hD hS 0 rfl rfl 0 (by decide) (hts (.fieldLink RX1 11 "DoorChase$Outlook" "ways" "[I") (by decide +kernel)) (fun _ h9 => h9) rfl hin rfl (by decide +kernel) rfl rfl (Nat.le_of_ble_eq_true rfl) dX1_init_9 (fun H locs hP hD hS => ?_)
  have hP : va_P D vwCl ([(h0, .inr (1, [.ref a1, .null, .null, .null])), (a1, .inl (cI, 96, .inl (encW (fun _ _ _ => false))))]) H := hP
  have hD : va_D A ([(h0, .inr (1, [.ref a1, .null, .null, .null])), (a1, .inl (cI, 96, .inl (encW (fun _ _ _ => false))))]) := hD
  refine lv_aload_n hx hb dX1_init_12 rfl (lv_at hl 0 rfl) ?_
  refine lv_bipush (v := nI 96) hx hb dX1_init_13 (by decide) ?_
  refine va_newa (atype := .int) hx hb (hts (.arrayClass .int) (by decide +kernel)) (ty := .int) rfl hZ.1 hP hD hS hA (N' := 96) (a0 := (96, .inl (encW (fun _ _ _ => false)))) (fun cA => by rw [encW_0]; rfl) (by decide) rfl (by decide) (Nat.le_of_ble_eq_true rfl) (Nat.le_of_ble_eq_true rfl) dX1_init_15 (fun a2 cA H hK1 hP hD hS => ?_)
  obtain rfl := uniqI hK1
  refine W.widen (k := 2) (n := 192) (by omega) (by omega) ?_
  have hP : va_P D vwCl ([(h0, .inr (1, [.ref a1, .null, .null, .null])), (a1, .inl (cI, 96, .inl (encW (fun _ _ _ => false)))), (a2, .inl (cI, 96, .inl (encW (fun _ _ _ => false))))]) H := hP
  have hD : va_D A ([(h0, .inr (1, [.ref a1, .null, .null, .null])), (a1, .inl (cI, 96, .inl (encW (fun _ _ _ => false)))), (a2, .inl (cI, 96, .inl (encW (fun _ _ _ => false))))]) := hD
  refine va_putF (D := D) (ci := 1) (v := .ref a2) (ty := .array .int) (C := RX1) (T := TX1) (N := 4) hx hb hts (by decide +kernel) tyX1 tyX1_ok nmX1 hown hZ.1 hP hD hS 0 rfl rfl 1 (by decide) (hts (.fieldLink RX1 15 "DoorChase$Outlook" "sure" "[I") (by decide +kernel)) (fun _ h9 => h9) rfl hin rfl (by decide +kernel) rfl rfl (Nat.le_of_ble_eq_true rfl) dX1_init_17 (fun H locs hP hD hS => ?_)
  have hP : va_P D vwCl ([(h0, .inr (1, [.ref a1, .ref a2, .null, .null])), (a1, .inl (cI, 96, .inl (encW (fun _ _ _ => false)))), (a2, .inl (cI, 96, .inl (encW (fun _ _ _ => false))))]) H := hP
  have hD : va_D A ([(h0, .inr (1, [.ref a1, .ref a2, .null, .null])), (a1, .inl (cI, 96, .inl (encW (fun _ _ _ => false)))), (a2, .inl (cI, 96, .inl (encW (fun _ _ _ => false))))]) := hD
  refine lv_aload_n hx hb dX1_init_20 rfl (lv_at hl 0 rfl) ?_
  refine lv_bipush (v := nI 96) hx hb dX1_init_21 (by decide) ?_
  refine va_newa (atype := .int) hx hb (hts (.arrayClass .int) (by decide +kernel)) (ty := .int) rfl hZ.1 hP hD hS hA (N' := 96) (a0 := (96, .inl (encW (fun _ _ _ => false)))) (fun cA => by rw [encW_0]; rfl) (by decide) rfl (by decide) (Nat.le_of_ble_eq_true rfl) (Nat.le_of_ble_eq_true rfl) dX1_init_23 (fun a3 cA H hK1 hP hD hS => ?_)
  obtain rfl := uniqI hK1
  refine W.widen (k := 3) (n := 288) (by omega) (by omega) ?_
  have hP : va_P D vwCl ([(h0, .inr (1, [.ref a1, .ref a2, .null, .null])), (a1, .inl (cI, 96, .inl (encW (fun _ _ _ => false)))), (a2, .inl (cI, 96, .inl (encW (fun _ _ _ => false)))), (a3, .inl (cI, 96, .inl (encW (fun _ _ _ => false))))]) H := hP
  have hD : va_D A ([(h0, .inr (1, [.ref a1, .ref a2, .null, .null])), (a1, .inl (cI, 96, .inl (encW (fun _ _ _ => false)))), (a2, .inl (cI, 96, .inl (encW (fun _ _ _ => false)))), (a3, .inl (cI, 96, .inl (encW (fun _ _ _ => false))))]) := hD
  refine va_putF (D := D) (ci := 1) (v := .ref a3) (ty := .array .int) (C := RX1) (T := TX1) (N := 4) hx hb hts (by decide +kernel) tyX1 tyX1_ok nmX1 hown hZ.1 hP hD hS 0 rfl rfl 2 (by decide) (hts (.fieldLink RX1 18 "DoorChase$Outlook" "sureBefore" "[I") (by decide +kernel)) (fun _ h9 => h9) rfl hin rfl (by decide +kernel) rfl rfl (Nat.le_of_ble_eq_true rfl) dX1_init_25 (fun H locs hP hD hS => ?_)
  have hP : va_P D vwCl ([(h0, .inr (1, [.ref a1, .ref a2, .ref a3, .null])), (a1, .inl (cI, 96, .inl (encW (fun _ _ _ => false)))), (a2, .inl (cI, 96, .inl (encW (fun _ _ _ => false)))), (a3, .inl (cI, 96, .inl (encW (fun _ _ _ => false))))]) H := hP
  have hD : va_D A ([(h0, .inr (1, [.ref a1, .ref a2, .ref a3, .null])), (a1, .inl (cI, 96, .inl (encW (fun _ _ _ => false)))), (a2, .inl (cI, 96, .inl (encW (fun _ _ _ => false)))), (a3, .inl (cI, 96, .inl (encW (fun _ _ _ => false))))]) := hD
  refine lv_aload_n hx hb dX1_init_28 rfl (lv_at hl 0 rfl) ?_
  refine lv_sipush (v := nI 768) hx hb dX1_init_29 (by decide) ?_
  refine va_newa (atype := .int) hx hb (hts (.arrayClass .int) (by decide +kernel)) (ty := .int) rfl hZ.1 hP hD hS hA (N' := 768) (a0 := (768, .inl (encT (fun _ _ _ => some 0)))) (fun cA => by rw [encT_0]; rfl) (by decide) rfl (by decide) (Nat.le_of_ble_eq_true rfl) (Nat.le_of_ble_eq_true rfl) dX1_init_32 (fun a4 cA H hK1 hP hD hS => ?_)
  obtain rfl := uniqI hK1
  refine W.widen (k := 4) (n := 1056) (by omega) (by omega) ?_
  have hP : va_P D vwCl ([(h0, .inr (1, [.ref a1, .ref a2, .ref a3, .null])), (a1, .inl (cI, 96, .inl (encW (fun _ _ _ => false)))), (a2, .inl (cI, 96, .inl (encW (fun _ _ _ => false)))), (a3, .inl (cI, 96, .inl (encW (fun _ _ _ => false)))), (a4, .inl (cI, 768, .inl (encT (fun _ _ _ => some 0))))]) H := hP
  have hD : va_D A ([(h0, .inr (1, [.ref a1, .ref a2, .ref a3, .null])), (a1, .inl (cI, 96, .inl (encW (fun _ _ _ => false)))), (a2, .inl (cI, 96, .inl (encW (fun _ _ _ => false)))), (a3, .inl (cI, 96, .inl (encW (fun _ _ _ => false)))), (a4, .inl (cI, 768, .inl (encT (fun _ _ _ => some 0))))]) := hD
  refine va_putF (D := D) (ci := 1) (v := .ref a4) (ty := .array .int) (C := RX1) (T := TX1) (N := 4) hx hb hts (by decide +kernel) tyX1 tyX1_ok nmX1 hown hZ.1 hP hD hS 0 rfl rfl 3 (by decide) (hts (.fieldLink RX1 21 "DoorChase$Outlook" "turnsOfState" "[I") (by decide +kernel)) (fun _ h9 => h9) rfl hin rfl (by decide +kernel) rfl rfl (Nat.le_of_ble_eq_true rfl) dX1_init_34 (fun H locs hP hD hS => ?_)
  have hP : va_P D vwCl ([(h0, .inr (1, [.ref a1, .ref a2, .ref a3, .ref a4])), (a1, .inl (cI, 96, .inl (encW (fun _ _ _ => false)))), (a2, .inl (cI, 96, .inl (encW (fun _ _ _ => false)))), (a3, .inl (cI, 96, .inl (encW (fun _ _ _ => false)))), (a4, .inl (cI, 768, .inl (encT (fun _ _ _ => some 0))))]) H := hP
  have hD : va_D A ([(h0, .inr (1, [.ref a1, .ref a2, .ref a3, .ref a4])), (a1, .inl (cI, 96, .inl (encW (fun _ _ _ => false)))), (a2, .inl (cI, 96, .inl (encW (fun _ _ _ => false)))), (a3, .inl (cI, 96, .inl (encW (fun _ _ _ => false)))), (a4, .inl (cI, 768, .inl (encT (fun _ _ _ => some 0))))]) := hD
  obtain ⟨qf, hqf⟩ : ∃ qf : Nat → Nat, qf = fun i => match i with | 0 => h0 | 1 => a1 | 2 => a2 | 3 => a3 | _ => a4 := ⟨_, rfl⟩
  have hP9 : va_P D vwCl (pQ cI qf ωz) H := by rw [hqf]; exact hP.sub [0, 1, 2, 3, 4] rfl
  have hD9 : va_D A (pQ cI qf ωz) := by rw [hqf]; exact hD.sub [0, 1, 2, 3, 4] (by decide) rfl
  exact W.vret hx hb hr (fun t ht hW => ⟨⟨qf, rfl, trivial, by subst hqf; rfl, by rw [ht]; exact hP9, hD9⟩, hS.F ht⟩) hS.2.2 dX1_init_37
set_option maxHeartbeats 4000000 in
set_option maxRecDepth 100000 in
theorem c_X2_init (l : Launch) (D : va_G) (cZ cI : ClassId) (a : Nat) (sz : Nat) : Met l yX2_init wsX2_init ({ frames := 2, cells := 18, slots := 2215, locals := 32 }) (WrP D cZ cI [.ref a] ([(a, .inr (2, [.null, .null, .null, .int 0, .int 0, .int 0, .int 0, .int 0, .int 0]))]) sz) (va_Qv (fun _ : (Nat → Nat) × (Nat → Nat) × (Nat → Nat) => True) (fun u t => va_P D vwCl (pD cZ cI a u.2.1 u.2.2 u.1 κ0 ωz ωz σ0) t.heap ∧ va_D (va_A ([(a, .inr (2, [.null, .null, .null, .int 0, .int 0, .int 0, .int 0, .int 0, .int 0]))]) sz) (pD cZ cI a u.2.1 u.2.2 u.1 κ0 ωz ωz σ0)) (va_A ([(a, .inr (2, [.null, .null, .null, .int 0, .int 0, .int 0, .int 0, .int 0, .int 0]))]) sz)) 18 2215 (va_A ([(a, .inr (2, [.null, .null, .null, .int 0, .int 0, .int 0, .int 0, .int 0, .int 0]))]) sz) := by
  refine Met.ofW (cc := cX2_init) (maxL := 1) (ret := none) (by decide) rfl ?_
  intro p e s m args below meth c s₁ B hml hv
  obtain ⟨rfl, hsz, hP, hZ, hD0⟩ := hv
  have hx := B.exec
  have hb := B.bytes
  have hr := B.returns
  have hts := atoms_spec (ws := wsX2_init) B.pre
  have hown : s.vm.findClass RX2 = some m.cls := findClass_of_methodNamed B.named
  have hlocks := B.notSynchronized
  have hin : meth.name = "<init>" := (name_of_methodNamed B.named B.method).1
  subst hsz
  have hD := hD0.self (sz := s.heap.size)
  generalize hAe : va_A ([(a, .inr (2, [.null, .null, .null, .int 0, .int 0, .int 0, .int 0, .int 0, .int 0]))]) s.heap.size = A at hD ⊢
  have hA : ∀ q : Nat, s.heap.size ≤ q → A q := fun q h => by rw [← hAe]; exact Or.inr h
  have hS : va_S A s.heap s.heap [] := va_S.rf
  have hP : va_P D vwCl ([(a, .inr (2, [.null, .null, .null, .int 0, .int 0, .int 0, .int 0, .int 0, .int 0]))]) s.heap := hP
  have hl := lv_entry ([.ref a]) (n := 1) (Nat.le_of_ble_eq_true rfl)
  rw [lg_entry_eq]
  generalize (lg_sl ([.ref a]) ++ List.replicate (1 - (lg_sl ([.ref a])).length) Slot.unset).toArray = ls at hl ⊢
  have hl : lv_has ls 1 [(0, .ref a)] := hl
  refine lv_aload_n hx hb dX2_init_0 rfl (lv_at hl 0 rfl) ?_
  refine W.objInit hx hb hown (hts (.methodLink RX2 1 objectInit) (by decide +kernel)) (hts (.instanceMethod objectInit) (by decide +kernel)) (hts (.code objectInit ⟨#[0xb1]⟩ 1 none) (by decide +kernel)) rfl (by rw [hml]; exact hl.1) rfl dX2_init_1 (Nat.le_of_ble_eq_true rfl) (Nat.le_of_ble_eq_true rfl) ?_
  refine W.eq (g2 := F0 m 4 ls []) rfl ?_
  refine lv_aload_n hx hb dX2_init_4 rfl (lv_at hl 0 rfl) ?_
  refine va_new (ci := 0) (fs := [.int 0, .null, .null, .int 0, .null, .null, .null, .null, .null]) (C := RX0) (T := TX0) (N := 9) hx hb hts (by decide +kernel) tyX0 tyX0_ok hown (hts (.classLink RX2 7 RX0) (by decide +kernel)) (hts (.instantiable RX0 9) (by decide +kernel)) (hts (.initialized RX0) (by decide +kernel)) hZ.1 hP hD hS hA rfl (fun j hj => by rcases (show j = 0 ∨ j = 1 ∨ j = 2 ∨ j = 3 ∨ j = 4 ∨ j = 5 ∨ j = 6 ∨ j = 7 ∨ j = 8 by omega) with rfl | rfl | rfl | rfl | rfl | rfl | rfl | rfl | rfl <;> rfl) (Nat.le_of_ble_eq_true rfl) (Nat.le_of_ble_eq_true rfl) dX2_init_5 (fun vq H hP hD hS => ?_)
  refine W.widen (k := 1) (n := 9) (by omega) (by omega) ?_
  refine lv_dup hx hb dX2_init_8 rfl ?_
  have hPc := hP.sub (ws' := [(vq, .inr (0, [.int 0, .null, .null, .int 0, .null, .null, .null, .null, .null]))]) [1] rfl
  have hDc := hD.sub (ws' := [(vq, .inr (0, [.int 0, .null, .null, .int 0, .null, .null, .null, .null, .null]))]) [1] (by decide) rfl
  have hFc := va_free (wc := [(vq, .inr (0, [.int 0, .null, .null, .int 0, .null, .null, .null, .null, .null]))]) hD hS hA [1] rfl
  refine va_callv (va_runIN (As := []) (rest := [.ref vq, .ref a]) ⟨hx, hb, hml, hown, hts⟩ (c_X0_init l D cZ cI vq H.size) ⟨va_cnB 0 hts gX2_init_X0_init_n9 rfl rfl rfl hZ.2.2.2.2.2.2.1 (hts (.initialized RX0) (by decide +kernel)) (by decide +kernel) ⟨Nat.le_of_ble_eq_true rfl, Nat.le_of_ble_eq_true rfl⟩, rfl, hts (.instanceMethod yX0_init) (by decide +kernel)⟩ ⟨WrP_blind, WrP_start hPc hDc hZ⟩ rfl rfl hl.1 rfl (lv_room (Nat.le_of_ble_eq_true rfl)) dX2_init_9 ⟨Nat.le_of_ble_eq_true rfl, Nat.le_of_ble_eq_true rfl⟩) hS (fun q _ h => hFc q h) hFc (fun q t H1 locs ht hvm hw hB hz1 hk1 hS => ?_)
  obtain ⟨e0, hP1, hD1⟩ := hB
  subst e0
  rw [ht] at hP1
  obtain ⟨hP, hD⟩ := va_join (wr := [(a, .inr (2, [.null, .null, .null, .int 0, .int 0, .int 0, .int 0, .int 0, .int 0]))]) (w1 := pH cZ cI q σ0) hP hD [1] [0] rfl rfl (by decide) (by decide) hk1 hFc hP1 hD1
  generalize H1 = H at hP hS ⊢
  refine W.widen (k := 8) (n := 95) (by omega) (by omega) ?_
  refine va_putF (D := D) (ci := 2) (v := .ref (q 0)) (ty := .object "DoorChase$House") (C := RX2) (T := TX2) (N := 9) hx hb hts (by decide +kernel) tyX2 tyX2_ok nmX2 hown hZ.1 hP hD hS 0 rfl rfl 0 (by decide) (hts (.fieldLink RX2 10 "DoorChase" "house" "LDoorChase$House;") (by decide +kernel)) (fun _ h9 => h9) rfl hin rfl (by decide +kernel) rfl rfl (Nat.le_of_ble_eq_true rfl) dX2_init_12 (fun H locs hP hD hS => ?_)
  have hP : va_P D vwCl ([(a, .inr (2, [.ref (q 0), .null, .null, .int 0, .int 0, .int 0, .int 0, .int 0, .int 0]))] ++ (pH cZ cI q σ0)) H := hP
  have hD : va_D A ([(a, .inr (2, [.ref (q 0), .null, .null, .int 0, .int 0, .int 0, .int 0, .int 0, .int 0]))] ++ (pH cZ cI q σ0)) := hD
  refine lv_aload_n hx hb dX2_init_15 rfl (lv_at hl 0 rfl) ?_
  refine va_new (ci := 1) (fs := [.null, .null, .null, .null]) (C := RX1) (T := TX1) (N := 4) hx hb hts (by decide +kernel) tyX1 tyX1_ok hown (hts (.classLink RX2 16 RX1) (by decide +kernel)) (hts (.instantiable RX1 4) (by decide +kernel)) (hts (.initialized RX1) (by decide +kernel)) hZ.1 hP hD hS hA rfl (fun j hj => by rcases (show j = 0 ∨ j = 1 ∨ j = 2 ∨ j = 3 by omega) with rfl | rfl | rfl | rfl <;> rfl) (Nat.le_of_ble_eq_true rfl) (Nat.le_of_ble_eq_true rfl) dX2_init_16 (fun vo H hP hD hS => ?_)
  refine W.widen (k := 9) (n := 99) (by omega) (by omega) ?_
  refine lv_dup hx hb dX2_init_19 rfl ?_
  have hPc := hP.sub (ws' := [(vo, .inr (1, [.null, .null, .null, .null]))]) [9] rfl
  have hDc := hD.sub (ws' := [(vo, .inr (1, [.null, .null, .null, .null]))]) [9] (by decide) rfl
  have hFc := va_free (wc := [(vo, .inr (1, [.null, .null, .null, .null]))]) hD hS hA [9] rfl
  refine va_callv (va_runIN (As := []) (rest := [.ref vo, .ref a]) ⟨hx, hb, hml, hown, hts⟩ (c_X1_init l D cZ cI vo H.size) ⟨va_cnB 0 hts gX2_init_X1_init_n18 rfl rfl rfl hZ.2.2.2.2.2.2.2 (hts (.initialized RX1) (by decide +kernel)) (by decide +kernel) ⟨Nat.le_of_ble_eq_true rfl, Nat.le_of_ble_eq_true rfl⟩, rfl, hts (.instanceMethod yX1_init) (by decide +kernel)⟩ ⟨WrP_blind, WrP_start hPc hDc hZ⟩ rfl rfl hl.1 rfl (lv_room (Nat.le_of_ble_eq_true rfl)) dX2_init_20 ⟨Nat.le_of_ble_eq_true rfl, Nat.le_of_ble_eq_true rfl⟩) hS (fun q _ h => hFc q h) hFc (fun o t H1 locs ht hvm hw hB hz1 hk1 hS => ?_)
  obtain ⟨e0, hP1, hD1⟩ := hB
  subst e0
  rw [ht] at hP1
  obtain ⟨hP, hD⟩ := va_join (wr := [(a, .inr (2, [.ref (q 0), .null, .null, .int 0, .int 0, .int 0, .int 0, .int 0, .int 0]))] ++ (pH cZ cI q σ0)) (w1 := pQ cI o ωz) hP hD [9] [0, 1, 2, 3, 4, 5, 6, 7, 8] rfl rfl (by decide) (by decide) hk1 hFc hP1 hD1
  generalize H1 = H at hP hS ⊢
  refine W.widen (k := 13) (n := 1155) (by omega) (by omega) ?_
  refine va_putF (D := D) (ci := 2) (v := .ref (o 0)) (ty := .object "DoorChase$Outlook") (C := RX2) (T := TX2) (N := 9) hx hb hts (by decide +kernel) tyX2 tyX2_ok nmX2 hown hZ.1 hP hD hS 0 rfl rfl 1 (by decide) (hts (.fieldLink RX2 19 "DoorChase" "outlook" "LDoorChase$Outlook;") (by decide +kernel)) (fun _ h9 => h9) rfl hin rfl (by decide +kernel) rfl rfl (Nat.le_of_ble_eq_true rfl) dX2_init_23 (fun H locs hP hD hS => ?_)
  have hP : va_P D vwCl ([(a, .inr (2, [.ref (q 0), .ref (o 0), .null, .int 0, .int 0, .int 0, .int 0, .int 0, .int 0]))] ++ (pH cZ cI q σ0) ++ (pQ cI o ωz)) H := hP
  have hD : va_D A ([(a, .inr (2, [.ref (q 0), .ref (o 0), .null, .int 0, .int 0, .int 0, .int 0, .int 0, .int 0]))] ++ (pH cZ cI q σ0) ++ (pQ cI o ωz)) := hD
  refine lv_aload_n hx hb dX2_init_26 rfl (lv_at hl 0 rfl) ?_
  refine va_new (ci := 1) (fs := [.null, .null, .null, .null]) (C := RX1) (T := TX1) (N := 4) hx hb hts (by decide +kernel) tyX1 tyX1_ok hown (hts (.classLink RX2 16 RX1) (by decide +kernel)) (hts (.instantiable RX1 4) (by decide +kernel)) (hts (.initialized RX1) (by decide +kernel)) hZ.1 hP hD hS hA rfl (fun j hj => by rcases (show j = 0 ∨ j = 1 ∨ j = 2 ∨ j = 3 by omega) with rfl | rfl | rfl | rfl <;> rfl) (Nat.le_of_ble_eq_true rfl) (Nat.le_of_ble_eq_true rfl) dX2_init_27 (fun vo2 H hP hD hS => ?_)
  refine W.widen (k := 14) (n := 1159) (by omega) (by omega) ?_
  refine lv_dup hx hb dX2_init_30 rfl ?_
  have hPc := hP.sub (ws' := [(vo2, .inr (1, [.null, .null, .null, .null]))]) [14] rfl
  have hDc := hD.sub (ws' := [(vo2, .inr (1, [.null, .null, .null, .null]))]) [14] (by decide) rfl
  have hFc := va_free (wc := [(vo2, .inr (1, [.null, .null, .null, .null]))]) hD hS hA [14] rfl
  refine va_callv (va_runIN (As := []) (rest := [.ref vo2, .ref a]) ⟨hx, hb, hml, hown, hts⟩ (c_X1_init l D cZ cI vo2 H.size) ⟨va_cnB 0 hts gX2_init_X1_init_n18 rfl rfl rfl hZ.2.2.2.2.2.2.2 (hts (.initialized RX1) (by decide +kernel)) (by decide +kernel) ⟨Nat.le_of_ble_eq_true rfl, Nat.le_of_ble_eq_true rfl⟩, rfl, hts (.instanceMethod yX1_init) (by decide +kernel)⟩ ⟨WrP_blind, WrP_start hPc hDc hZ⟩ rfl rfl hl.1 rfl (lv_room (Nat.le_of_ble_eq_true rfl)) dX2_init_31 ⟨Nat.le_of_ble_eq_true rfl, Nat.le_of_ble_eq_true rfl⟩) hS (fun q _ h => hFc q h) hFc (fun o' t H1 locs ht hvm hw hB hz1 hk1 hS => ?_)
  obtain ⟨e0, hP1, hD1⟩ := hB
  subst e0
  rw [ht] at hP1
  obtain ⟨hP, hD⟩ := va_join (wr := [(a, .inr (2, [.ref (q 0), .ref (o 0), .null, .int 0, .int 0, .int 0, .int 0, .int 0, .int 0]))] ++ (pH cZ cI q σ0) ++ (pQ cI o ωz)) (w1 := pQ cI o' ωz) hP hD [14] [0, 1, 2, 3, 4, 5, 6, 7, 8, 9, 10, 11, 12, 13] rfl rfl (by decide) (by decide) hk1 hFc hP1 hD1
  generalize H1 = H at hP hS ⊢
  refine W.widen (k := 18) (n := 2215) (by omega) (by omega) ?_
  refine va_putF (D := D) (ci := 2) (v := .ref (o' 0)) (ty := .object "DoorChase$Outlook") (C := RX2) (T := TX2) (N := 9) hx hb hts (by decide +kernel) tyX2 tyX2_ok nmX2 hown hZ.1 hP hD hS 0 rfl rfl 2 (by decide) (hts (.fieldLink RX2 23 "DoorChase" "outlookIfLocked" "LDoorChase$Outlook;") (by decide +kernel)) (fun _ h9 => h9) rfl hin rfl (by decide +kernel) rfl rfl (Nat.le_of_ble_eq_true rfl) dX2_init_34 (fun H locs hP hD hS => ?_)
  have hP : va_P D vwCl ([(a, .inr (2, [.ref (q 0), .ref (o 0), .ref (o' 0), .int 0, .int 0, .int 0, .int 0, .int 0, .int 0]))] ++ (pH cZ cI q σ0) ++ (pQ cI o ωz) ++ (pQ cI o' ωz)) H := hP
  have hD : va_D A ([(a, .inr (2, [.ref (q 0), .ref (o 0), .ref (o' 0), .int 0, .int 0, .int 0, .int 0, .int 0, .int 0]))] ++ (pH cZ cI q σ0) ++ (pQ cI o ωz) ++ (pQ cI o' ωz)) := hD
  refine lv_aload_n hx hb dX2_init_37 rfl (lv_at hl 0 rfl) ?_
  refine lv_iconst (v := -1) hx hb dX2_init_38 (by decide) ?_
  refine va_put (D := D) (ci := 2) (v := .int (-1)) (ty := .int) (C := RX2) (T := TX2) (N := 9) hx hb hts (by decide +kernel) tyX2 tyX2_ok nmX2 hown hZ.1 hP hD hS 0 rfl rfl 6 (by decide) (hts (.fieldLink RX2 26 "DoorChase" "cat" "I") (by decide +kernel)) (fun _ h9 => h9) rfl (by decide +kernel) rfl rfl (Nat.le_of_ble_eq_true rfl) dX2_init_39 (fun H locs hP hD hS => ?_)
  have hP : va_P D vwCl ([(a, .inr (2, [.ref (q 0), .ref (o 0), .ref (o' 0), .int 0, .int 0, .int 0, .int (-1), .int 0, .int 0]))] ++ (pH cZ cI q σ0) ++ (pQ cI o ωz) ++ (pQ cI o' ωz)) H := hP
  have hD : va_D A ([(a, .inr (2, [.ref (q 0), .ref (o 0), .ref (o' 0), .int 0, .int 0, .int 0, .int (-1), .int 0, .int 0]))] ++ (pH cZ cI q σ0) ++ (pQ cI o ωz) ++ (pQ cI o' ωz)) := hD
  refine lv_aload_n hx hb dX2_init_42 rfl (lv_at hl 0 rfl) ?_
  refine lv_iconst (v := -1) hx hb dX2_init_43 (by decide) ?_
  refine va_put (D := D) (ci := 2) (v := .int (-1)) (ty := .int) (C := RX2) (T := TX2) (N := 9) hx hb hts (by decide +kernel) tyX2 tyX2_ok nmX2 hown hZ.1 hP hD hS 0 rfl rfl 7 (by decide) (hts (.fieldLink RX2 30 "DoorChase" "mouse" "I") (by decide +kernel)) (fun _ h9 => h9) rfl (by decide +kernel) rfl rfl (Nat.le_of_ble_eq_true rfl) dX2_init_44 (fun H locs hP hD hS => ?_)
  have hP : va_P D vwCl ([(a, .inr (2, [.ref (q 0), .ref (o 0), .ref (o' 0), .int 0, .int 0, .int 0, .int (-1), .int (-1), .int 0]))] ++ (pH cZ cI q σ0) ++ (pQ cI o ωz) ++ (pQ cI o' ωz)) H := hP
  have hD : va_D A ([(a, .inr (2, [.ref (q 0), .ref (o 0), .ref (o' 0), .int 0, .int 0, .int 0, .int (-1), .int (-1), .int 0]))] ++ (pH cZ cI q σ0) ++ (pQ cI o ωz) ++ (pQ cI o' ωz)) := hD
  have hP9 : va_P D vwCl (pD cZ cI a o o' q κ0 ωz ωz σ0) H := hP.sub [0, 9, 10, 11, 12, 13, 14, 15, 16, 17, 18, 1, 2, 3, 4, 5, 6, 7, 8] rfl
  have hD9 : va_D A (pD cZ cI a o o' q κ0 ωz ωz σ0) := hD.sub [0, 9, 10, 11, 12, 13, 14, 15, 16, 17, 18, 1, 2, 3, 4, 5, 6, 7, 8] (by decide) rfl
  exact W.vret hx hb hr (fun t ht hW => ⟨⟨(q, o, o'), rfl, trivial, by rw [ht]; exact hP9, hD9⟩, hS.F ht⟩) hS.2.2 dX2_init_47

