/-! ===== exceptions: what a launch without stack traces needs, and methods that always throw ===== -/
abbrev xnI : String := "java/lang/IndexOutOfBoundsException"
abbrev xnA : String := "java/lang/IllegalArgumentException"
abbrev xnS : String := "java/lang/IllegalStateException"
abbrev xch : List String := ["java/lang/RuntimeException", "java/lang/Exception"]
/-- the words of a throw that the methods' own lists don't hold -/
def exL : List Cond := (vx_atS RX2 266 xnI xch ++ (vx_atS RX2 59 xnA xch ++ vx_atS RX2 40 xnS xch)).filter (fun w => !goodWord w)
theorem exL_ok : exL.all (fun w => w.onTables && w.keepsFace) = true := by decide +kernel
theorem nw_warm {s U : State} (hW : s.WarmedH U.vm) {w : Cond} (hc : (w.onTables && w.keepsFace) = true) (h : va_Nw w s) : va_Nw w U := by
  rw [Bool.and_eq_true] at hc
  have h1 : w.before #[] (s.setVm U.vm) = true := Cond.before_shiftedFace (State.Shifted.of_warmed hW) w hc.2 h
  exact va_tabs hc.1 (rfl : (s.setVm U.vm).vm = U.vm) h1
def exS (U : State) (H : Heap) : Prop := vx_Zq Bundle.tN "UNASSIGNED_STACK" Bundle.steD (fun q => H.size ≤ q) U H ∧ vx_Zq Bundle.tN "SUPPRESSED_SENTINEL" Bundle.listD (fun q => H.size ≤ q) U H
def exT (U : State) : Prop := (∀ w ∈ exL, va_Nw w U) ∧ (∃ sa, vk_R RX2 264 "no such room" sa U) ∧ (∃ sa, vk_R RX2 267 "no such door" sa U) ∧ (∃ sa, vk_R RX2 133 "most is 1 to 60" sa U) ∧ ∃ sa, vk_R RX2 271 "no chase is on" sa U
theorem exT.warm {s U : State} (hW : s.WarmedH U.vm) (h : exT s) : exT U := by
  obtain ⟨h1, ⟨a, h2⟩, ⟨b, h3⟩, ⟨c, h4⟩, ⟨d, h5⟩⟩ := h
  exact ⟨fun w hw => nw_warm hW (List.all_eq_true.mp exL_ok w hw) (h1 w hw), ⟨a, h2.warm hW⟩, ⟨b, h3.warm hW⟩, ⟨c, h4.warm hW⟩, ⟨d, h5.warm hW⟩⟩
theorem exT.same {s U : State} (hv : U.vm = s.vm) (h : exT s) : exT U := by
  obtain ⟨h1, ⟨a, h2⟩, ⟨b, h3⟩, ⟨c, h4⟩, ⟨d, h5⟩⟩ := h
  exact ⟨fun w hw => va_Nw.same (by have := List.all_eq_true.mp exL_ok w hw; rw [Bool.and_eq_true] at this; exact this.1) hv.symm (h1 w hw), ⟨a, h2.same hv⟩, ⟨b, h3.same hv⟩, ⟨c, h4.same hv⟩, ⟨d, h5.same hv⟩⟩
theorem exS.warm {s U : State} {H : Heap} (hW : s.WarmedH U.vm) (h : exS s H) : exS U H := ⟨vx_Zq.moved hW.alike h.1, vx_Zq.moved hW.alike h.2⟩
theorem exS.call {U : State} {H : Heap} {g : JFrame} {mk : MethodId} {a : Array Value} (h : exS U H) : exS (U.calling g mk a) H := ⟨vx_Zq.moved (u := U) (U := U.calling g mk a) (Vm.Alike.refl U.vm) h.1, vx_Zq.moved (u := U) (U := U.calling g mk a) (Vm.Alike.refl U.vm) h.2⟩
theorem exS.grow {U : State} {H H1 : Heap} (h : exS U H) (hz : H.size ≤ H1.size) (hk : ∀ q : Nat, q < H.size → H1[q]? = H[q]?) : exS U H1 :=
  ⟨vx_Zq.narrow (vx_Zq.kept h.1 (fun a ha _ => hk a ha)) (fun q hq => Nat.le_trans hz hq), vx_Zq.narrow (vx_Zq.kept h.2 (fun a ha _ => hk a ha)) (fun q hq => Nat.le_trans hz hq)⟩
/-- a start of a method that throws -/
def XrP (D : va_G) (cZ cI : ClassId) (av : List Value) (ws : va_W) : Array Value → State → Prop := va_Pc av (fun U => va_P D vwCl ws U.heap ∧ zK D cZ cI U ∧ exT U ∧ exS U U.heap)
theorem XrP_blind {D : va_G} {cZ cI : ClassId} {av : List Value} {ws : va_W} : FrameBlind (XrP D cZ cI av ws) := by
  intro a U g mk h
  obtain ⟨h1, h2, h3, h4, h5⟩ := h
  exact ⟨h1, h2, h3.call, exT.same (s := U) (U := U.calling g mk a) rfl h4, h5.call⟩
theorem XrP_start {D : va_G} {cZ cI : ClassId} {av : List Value} {ws : va_W} {s : State} {H : Heap} (hP : va_P D vwCl ws H) (hZ : zK D cZ cI s) (hT : exT s) (hE : exS s H) : ∀ U : State, U.heap = H → s.WarmedH U.vm → XrP D cZ cI av ws av.toArray U := by
  intro U hU hW
  exact ⟨rfl, by rw [hU]; exact hP, hZ.warm hW, hT.warm hW, by rw [hU]; exact hE.warm hW⟩
/-- it throws E, and what lay there stays -/
def xX (E : String) : String → State → State → Prop := fun E' st t => E' = E ∧ st.heap.size ≤ t.heap.size ∧ ∀ q : Nat, q < st.heap.size → t.heap[q]? = st.heap[q]?
abbrev xQ : Array Value → State → Outcome → State → Prop := fun _ _ _ _ => False
abbrev xM (l : Launch) (y : MethodName) (ws : List Cond) (rm : Room) (Pc : Array Value → State → Prop) (E : String) : Prop := vx_Met l y ws rm Pc xQ (xX E) 1 6 (fun _ => False)
section XR
variable {p : Program} {l : Launch} {e : Env} {R : Room} {s : State} {m : MethodId} {args : Array Value} {below : List Frame} {meth : Method} {c : Code} {H : Heap} {locs : List Loc} {cells slots : Nat} {Q : State → Prop} {mc ms : Nat} {ls : Array Slot} {st0 rest : List Value} {pc : Nat}
/-- behind a call that always throws -/
theorem xr_call {E : String} {a : Array Value} (hr : vx_Run p l e R s m args below meth c H locs cells slots mc ms (F0 m pc ls st0) rest (xQ a) (xX E) (fun _ => False))
    (kx : ∀ (ce : Cell) (q9 : Addr) (H1 : Heap), H.size ≤ H1.size → (∀ q : Nat, q < H.size → H1[q]? = H[q]?) → H1[q9]? = some ce → ce.vm = .none → s.vm.findClass E = some ce.cls → vx_W p l e R s m args below meth c H1 locs (cells + mc) (slots + ms) Q (F0 m pc ls rest) q9) : W p l e R s m args below meth c H locs cells slots Q (F0 m pc ls st0) := by
  intro T hT X
  rcases hr T hT X with ⟨v, st₀, t, T', L, h0, X', hL, e1, e2, hf, st⟩ | ⟨q, st₀, t, T', L, E', ce, h0, X', hL, e1, e2, ⟨rfl, hz, hk⟩, hce, hcv, hcl, st⟩
  · exact hf.elim
  · rw [h0] at hz hk
    obtain ⟨t2, a1, b1⟩ := kx ce q T'.heap (by rw [e1]; exact hz) (fun q hq => by rw [e1]; exact hk q hq) (by rw [e1]; exact hce) hcv hcl T' rfl (Stand.forget X' (fun z h => (hL z h).elim))
    exact ⟨t2, st.trans a1, b1⟩
/-- it goes on to the caller -/
theorem xr_out {E : String} {ce : Cell} {q9 : Addr} {H1 : Heap} (htab : ∀ x ∈ c.exceptionTable.toList, False) (hlocks : meth.locks = false) (hz : s.heap.size ≤ H1.size) (hk : ∀ q : Nat, q < s.heap.size → H1[q]? = s.heap[q]?) (hce : H1[q9]? = some ce) (hcv : ce.vm = .none) (hcl : s.vm.findClass E = some ce.cls) (hc : cells ≤ 1) (hs : slots ≤ 6) :
    vx_W p l e R s m args below meth c H1 [] cells slots (vx_MQ below xQ (xX E) args s 1 6 (fun _ => False)) (F0 m pc ls rest) q9 :=
  vx_out (fun x hx => (htab x hx).elim) hlocks hce hcv hcl (fun t ht _ => ⟨rfl, by rw [ht]; exact hz, fun q hq => by rw [ht]; exact hk q hq⟩) (fun z h => by cases h) hc hs
end XR
theorem ex_hat {L : List Cond} {args : Array Value} {s : State} (h1 : ∀ w ∈ L.filter goodWord, w.before args s = true) (h2 : ∀ w ∈ L.filter (fun w => !goodWord w), w ∈ exL) (hT : exT s) : ∀ w ∈ L, w.before args s = true :=
  vx_hat h1 h2 (fun w hw => (hT.1 w hw).use (by have := List.all_eq_true.mp exL_ok w hw; rw [Bool.and_eq_true] at this; exact this.1))
theorem sub_app {α : Type} {f : α → Bool} {a b : List α} : ∀ w ∈ a.filter f, w ∈ (a ++ b).filter f := fun w h => by rw [List.filter_append]; exact List.mem_append_left _ h
theorem sub_appr {α : Type} {f : α → Bool} {a b : List α} : ∀ w ∈ b.filter f, w ∈ (a ++ b).filter f := fun w h => by rw [List.filter_append]; exact List.mem_append_right _ h
theorem exI : ∀ w ∈ (vx_atS RX2 266 xnI xch).filter (fun w => !goodWord w), w ∈ exL := sub_app
theorem exA : ∀ w ∈ (vx_atS RX2 59 xnA xch).filter (fun w => !goodWord w), w ∈ exL := fun w h => sub_appr w (sub_app w h)
theorem exSS : ∀ w ∈ (vx_atS RX2 40 xnS xch).filter (fun w => !goodWord w), w ∈ exL := fun w h => sub_appr w (sub_appr w h)
theorem exIo : ∀ w ∈ Cond.classLink RX2 262 xnI :: Cond.initialized xnI :: vx_atS RX2 266 xnI xch, vx_ot w = true := List.all_eq_true.mp (by decide +kernel)
theorem exAo : ∀ w ∈ Cond.classLink RX2 55 xnA :: Cond.initialized xnA :: vx_atS RX2 59 xnA xch, vx_ot w = true := List.all_eq_true.mp (by decide +kernel)
theorem exSo : ∀ w ∈ Cond.classLink RX2 36 xnS :: Cond.initialized xnS :: vx_atS RX2 40 xnS xch, vx_ot w = true := List.all_eq_true.mp (by decide +kernel)
set_option maxHeartbeats 4000000 in
set_option maxRecDepth 100000 in
theorem x_X2_requireRoom (l : Launch) (hl9 : l.stackTraces = false) (D : va_G) (cZ cI : ClassId) (a : Nat) (o : Nat → Nat) (o' : Nat → Nat) (q : Nat → Nat) (κ : CS) (ω : OS) (ω' : OS) (σ : HS) (x : Int32) (hz : zN σ = 0) : xM l yX2_requireRoom wsX2_requireRoom ({ frames := 6, cells := 1, slots := 6, locals := 100 }) (XrP D cZ cI [.ref a, .int x] (pD cZ cI a o o' q κ ω ω' σ)) xnI := by
  refine vx_ofW (cc := cX2_requireRoom) (maxL := 2) (ret := none) (by decide) rfl ?_
  intro p e s m args below meth c s₁ B hml htab hv
  obtain ⟨rfl, hP, hZ, hTx, hE⟩ := hv
  have hx := B.exec
  have hb := B.bytes
  have hr := B.returns
  have hts := atoms_spec (ws := wsX2_requireRoom) B.pre
  have hown : s.vm.findClass RX2 = some m.cls := findClass_of_methodNamed B.named
  have hlocks := B.notSynchronized
  have hP : va_P D vwCl (pD cZ cI a o o' q κ ω ω' σ) s.heap := hP
  have hl := lv_entry ([.ref a, .int x]) (n := 2) (Nat.le_of_ble_eq_true rfl)
  rw [lg_entry_eq]
  generalize (lg_sl ([.ref a, .int x]) ++ List.replicate (2 - (lg_sl ([.ref a, .int x])).length) Slot.unset).toArray = ls at hl ⊢
  have hl : lv_has ls 2 [(0, .ref a), (1, .int x)] := hl
  have hin2 : ∀ w ∈ u_ws RX2 TX2 9, w ∈ wsX2_requireRoom := by decide +kernel
  have hin0 : ∀ w ∈ u_ws RX0 TX0 9, w ∈ wsX2_requireRoom := by decide +kernel
  have fin : W p l e (headSpec wsX2_requireRoom ({ frames := 6, cells := 1, slots := 6, locals := 100 })).room s m ([.ref a, .int x] : List Value).toArray below meth c s.heap [] 0 0 (vx_MQ below xQ (xX xnI) ([.ref a, .int x] : List Value).toArray s 1 6 (fun _ => False)) (F0 m 15 ls []) := by
    obtain ⟨sa, hsa⟩ := hTx.2.1
    exact vx_throwSW (A := fun q => s.heap.size ≤ q) hx hb hl9 hown (cls := xnI) (names := xch) (by decide +kernel) (by decide +kernel) (hts (.classLink RX2 262 xnI) (by decide +kernel)) (hts (.initialized xnI) (by decide +kernel)) hsa (ex_hat (fun w hw => hts w (List.mem_cons_of_mem _ (List.mem_append_right _ hw))) exI hTx) exIo hE.1 hE.2 va_S.rf (hl.1.trans hml.symm) dX2_requireRoom_15 dX2_requireRoom_18 dX2_requireRoom_19 dX2_requireRoom_22 dX2_requireRoom_25 (fun x hx9 => (htab x hx9).elim) (Nat.le_of_ble_eq_true rfl) (Nat.le_of_ble_eq_true rfl) (Nat.le_of_ble_eq_true rfl) (Nat.le_of_ble_eq_true rfl) hlocks (fun t _ h1 h2 => ⟨rfl, h1, h2⟩) (fun z h => by cases h) (Nat.le_refl _) (Nat.le_refl _)
  refine lv_iload_n hx hb dX2_requireRoom_0 rfl (lv_at hl 1 rfl) ?_
  refine lv_if_lt (tgt := 15) hx hb dX2_requireRoom_1 (by decide) (fun _ => fin) (fun c1 => ?_)
  refine lv_iload_n hx hb dX2_requireRoom_4 rfl (lv_at hl 1 rfl) ?_
  refine lv_aload_n hx hb dX2_requireRoom_5 rfl (lv_at hl 0 rfl) ?_
  refine va_get (D := D) (ci := 2) (v := .ref (q 0)) (C := RX2) (T := TX2) (N := 9) hx hb hts hin2 hown hZ.1 hP 0 rfl rfl 0 (by decide) (hts (.fieldLink RX2 10 "DoorChase" "house" "LDoorChase$House;") (by decide +kernel)) (fun _ h9 => h9) rfl dX2_requireRoom_6 ?_
  refine va_get (D := D) (ci := 0) (v := .int (nI (zN σ))) (C := RX0) (T := TX0) (N := 9) hx hb hts hin0 hown hZ.1 hP 11 rfl rfl 0 (by decide) (hts (.fieldLink RX2 33 "DoorChase$House" "roomCount" "I") (by decide +kernel)) (fun _ h9 => h9) rfl dX2_requireRoom_9 ?_
  refine lv_icmp_lt (tgt := 26) hx hb dX2_requireRoom_12 (by decide) (fun c2 => absurd (by rw [hz] at c2; exact c2) c1) (fun _ => fin)
set_option maxHeartbeats 4000000 in
set_option maxRecDepth 100000 in
theorem x_X2_requireDoor (l : Launch) (hl9 : l.stackTraces = false) (D : va_G) (cZ cI : ClassId) (a : Nat) (o : Nat → Nat) (o' : Nat → Nat) (q : Nat → Nat) (κ : CS) (ω : OS) (ω' : OS) (σ : HS) (x : Int32) (hz : zM σ = 0) : xM l yX2_requireDoor wsX2_requireDoor ({ frames := 6, cells := 1, slots := 6, locals := 100 }) (XrP D cZ cI [.ref a, .int x] (pD cZ cI a o o' q κ ω ω' σ)) xnI := by
  refine vx_ofW (cc := cX2_requireDoor) (maxL := 2) (ret := none) (by decide) rfl ?_
  intro p e s m args below meth c s₁ B hml htab hv
  obtain ⟨rfl, hP, hZ, hTx, hE⟩ := hv
  have hx := B.exec
  have hb := B.bytes
  have hr := B.returns
  have hts := atoms_spec (ws := wsX2_requireDoor) B.pre
  have hown : s.vm.findClass RX2 = some m.cls := findClass_of_methodNamed B.named
  have hlocks := B.notSynchronized
  have hP : va_P D vwCl (pD cZ cI a o o' q κ ω ω' σ) s.heap := hP
  have hl := lv_entry ([.ref a, .int x]) (n := 2) (Nat.le_of_ble_eq_true rfl)
  rw [lg_entry_eq]
  generalize (lg_sl ([.ref a, .int x]) ++ List.replicate (2 - (lg_sl ([.ref a, .int x])).length) Slot.unset).toArray = ls at hl ⊢
  have hl : lv_has ls 2 [(0, .ref a), (1, .int x)] := hl
  have hin2 : ∀ w ∈ u_ws RX2 TX2 9, w ∈ wsX2_requireDoor := by decide +kernel
  have hin0 : ∀ w ∈ u_ws RX0 TX0 9, w ∈ wsX2_requireDoor := by decide +kernel
  have fin : W p l e (headSpec wsX2_requireDoor ({ frames := 6, cells := 1, slots := 6, locals := 100 })).room s m ([.ref a, .int x] : List Value).toArray below meth c s.heap [] 0 0 (vx_MQ below xQ (xX xnI) ([.ref a, .int x] : List Value).toArray s 1 6 (fun _ => False)) (F0 m 15 ls []) := by
    obtain ⟨sa, hsa⟩ := hTx.2.2.1
    exact vx_throwSW (A := fun q => s.heap.size ≤ q) hx hb hl9 hown (cls := xnI) (names := xch) (by decide +kernel) (by decide +kernel) (hts (.classLink RX2 262 xnI) (by decide +kernel)) (hts (.initialized xnI) (by decide +kernel)) hsa (ex_hat (fun w hw => hts w (List.mem_cons_of_mem _ (List.mem_append_right _ hw))) exI hTx) exIo hE.1 hE.2 va_S.rf (hl.1.trans hml.symm) dX2_requireDoor_15 dX2_requireDoor_18 dX2_requireDoor_19 dX2_requireDoor_22 dX2_requireDoor_25 (fun x hx9 => (htab x hx9).elim) (Nat.le_of_ble_eq_true rfl) (Nat.le_of_ble_eq_true rfl) (Nat.le_of_ble_eq_true rfl) (Nat.le_of_ble_eq_true rfl) hlocks (fun t _ h1 h2 => ⟨rfl, h1, h2⟩) (fun z h => by cases h) (Nat.le_refl _) (Nat.le_refl _)
  refine lv_iload_n hx hb dX2_requireDoor_0 rfl (lv_at hl 1 rfl) ?_
  refine lv_if_lt (tgt := 15) hx hb dX2_requireDoor_1 (by decide) (fun _ => fin) (fun c1 => ?_)
  refine lv_iload_n hx hb dX2_requireDoor_4 rfl (lv_at hl 1 rfl) ?_
  refine lv_aload_n hx hb dX2_requireDoor_5 rfl (lv_at hl 0 rfl) ?_
  refine va_get (D := D) (ci := 2) (v := .ref (q 0)) (C := RX2) (T := TX2) (N := 9) hx hb hts hin2 hown hZ.1 hP 0 rfl rfl 0 (by decide) (hts (.fieldLink RX2 10 "DoorChase" "house" "LDoorChase$House;") (by decide +kernel)) (fun _ h9 => h9) rfl dX2_requireDoor_6 ?_
  refine va_get (D := D) (ci := 0) (v := .int (nI (zM σ))) (C := RX0) (T := TX0) (N := 9) hx hb hts hin0 hown hZ.1 hP 11 rfl rfl 3 (by decide) (hts (.fieldLink RX2 62 "DoorChase$House" "doorCount" "I") (by decide +kernel)) (fun _ h9 => h9) rfl dX2_requireDoor_9 ?_
  refine lv_icmp_lt (tgt := 26) hx hb dX2_requireDoor_12 (by decide) (fun c2 => absurd (by rw [hz] at c2; exact c2) c1) (fun _ => fin)
set_option maxHeartbeats 4000000 in
set_option maxRecDepth 100000 in
theorem x_X2_requireChase (l : Launch) (hl9 : l.stackTraces = false) (D : va_G) (cZ cI : ClassId) (a : Nat) (o : Nat → Nat) (o' : Nat → Nat) (q : Nat → Nat) (κ : CS) (ω : OS) (ω' : OS) (σ : HS)  (ho : ko κ = false) : xM l yX2_requireChase wsX2_requireChase ({ frames := 6, cells := 1, slots := 6, locals := 100 }) (XrP D cZ cI [.ref a] (pD cZ cI a o o' q κ ω ω' σ)) xnS := by
  refine vx_ofW (cc := cX2_requireChase) (maxL := 1) (ret := none) (by decide) rfl ?_
  intro p e s m args below meth c s₁ B hml htab hv
  obtain ⟨rfl, hP, hZ, hTx, hE⟩ := hv
  have hx := B.exec
  have hb := B.bytes
  have hr := B.returns
  have hts := atoms_spec (ws := wsX2_requireChase) B.pre
  have hown : s.vm.findClass RX2 = some m.cls := findClass_of_methodNamed B.named
  have hlocks := B.notSynchronized
  have hP : va_P D vwCl (pD cZ cI a o o' q κ ω ω' σ) s.heap := hP
  have hl := lv_entry ([.ref a]) (n := 1) (Nat.le_of_ble_eq_true rfl)
  rw [lg_entry_eq]
  generalize (lg_sl ([.ref a]) ++ List.replicate (1 - (lg_sl ([.ref a])).length) Slot.unset).toArray = ls at hl ⊢
  have hl : lv_has ls 1 [(0, .ref a)] := hl
  have hin2 : ∀ w ∈ u_ws RX2 TX2 9, w ∈ wsX2_requireChase := by decide +kernel
  refine lv_aload_n hx hb dX2_requireChase_0 rfl (lv_at hl 0 rfl) ?_
  refine va_get (D := D) (ci := 2) (v := .int (bI (ko κ))) (C := RX2) (T := TX2) (N := 9) hx hb hts hin2 hown hZ.1 hP 0 rfl rfl 4 (by decide) (hts (.fieldLink RX2 107 "DoorChase" "isGoingOn" "Z") (by decide +kernel)) (fun _ h9 => h9) rfl dX2_requireChase_1 ?_
  refine rv_ifneB (tgt := 18) hx hb dX2_requireChase_4 (by decide) (fun c1 => Bool.noConfusion (ho.symm.trans c1)) (fun _ => ?_)
  obtain ⟨sa, hsa⟩ := hTx.2.2.2.2
  exact vx_throwSW (A := fun q => s.heap.size ≤ q) hx hb hl9 hown (cls := xnS) (names := xch) (by decide +kernel) (by decide +kernel) (hts (.classLink RX2 36 xnS) (by decide +kernel)) (hts (.initialized xnS) (by decide +kernel)) hsa (ex_hat (fun w hw => hts w (List.mem_cons_of_mem _ (List.mem_append_right _ hw))) exSS hTx) exSo hE.1 hE.2 va_S.rf (hl.1.trans hml.symm) dX2_requireChase_7 dX2_requireChase_10 dX2_requireChase_11 dX2_requireChase_14 dX2_requireChase_17 (fun x hx9 => (htab x hx9).elim) (Nat.le_of_ble_eq_true rfl) (Nat.le_of_ble_eq_true rfl) (Nat.le_of_ble_eq_true rfl) (Nat.le_of_ble_eq_true rfl) hlocks (fun t _ h1 h2 => ⟨rfl, h1, h2⟩) (fun z h => by cases h) (Nat.le_refl _) (Nat.le_refl _)
set_option maxHeartbeats 4000000 in
set_option maxRecDepth 100000 in
theorem x_X2_addDoor (l : Launch) (hl9 : l.stackTraces = false) (D : va_G) (cZ cI : ClassId) (a : Nat) (o : Nat → Nat) (o' : Nat → Nat) (q : Nat → Nat) (κ : CS) (ω : OS) (ω' : OS) (σ : HS) (x y z v : Int32) (hz : zN σ = 0) : xM l yX2_addDoor wsX2_addDoor ({ frames := 7, cells := 1, slots := 6, locals := 121 }) (XrP D cZ cI [.ref a, .int x, .int y, .int z, .int v] (pD cZ cI a o o' q κ ω ω' σ)) xnI := by
  refine vx_ofW (cc := cX2_addDoor) (maxL := 6) (ret := (some .int)) (by decide) rfl ?_
  intro p e s m args below meth c s₁ B hml htab hv
  obtain ⟨rfl, hP, hZ, hTx, hE⟩ := hv
  have hx := B.exec
  have hb := B.bytes
  have hr := B.returns
  have hts := atoms_spec (ws := wsX2_addDoor) B.pre
  have hown : s.vm.findClass RX2 = some m.cls := findClass_of_methodNamed B.named
  have hlocks := B.notSynchronized
  have hP : va_P D vwCl (pD cZ cI a o o' q κ ω ω' σ) s.heap := hP
  have hl := lv_entry ([.ref a, .int x, .int y, .int z, .int v]) (n := 6) (Nat.le_of_ble_eq_true rfl)
  rw [lg_entry_eq]
  generalize (lg_sl ([.ref a, .int x, .int y, .int z, .int v]) ++ List.replicate (6 - (lg_sl ([.ref a, .int x, .int y, .int z, .int v])).length) Slot.unset).toArray = ls at hl ⊢
  have hl : lv_has ls 6 [(0, .ref a), (1, .int x), (2, .int y), (3, .int z), (4, .int v)] := hl
  refine lv_aload_n hx hb dX2_addDoor_0 rfl (lv_at hl 0 rfl) ?_
  refine lv_iload_n hx hb dX2_addDoor_1 rfl (lv_at hl 1 rfl) ?_
  refine xr_call (vx_runV (As := [.int x]) (rest := []) ⟨hx, hb, hml, hown, hts⟩ (x_X2_requireRoom l hl9 D cZ cI a o o' q κ ω ω' σ x hz) (cwV 1 hts gX2_addDoor_X2_requireRoom rfl rfl rfl (by decide +kernel) ⟨Nat.le_of_ble_eq_true rfl, Nat.le_of_ble_eq_true rfl⟩) ⟨XrP_blind, va_recv hZ.1 hP (ci := 2) (q0 := 0) rfl rfl, XrP_start hP hZ hTx hE⟩ rfl rfl hl.1 rfl (lv_room (Nat.le_of_ble_eq_true rfl)) dX2_addDoor_2 ⟨Nat.le_of_ble_eq_true rfl, Nat.le_of_ble_eq_true rfl⟩) (fun ce q9 H1 hz1 hk1 hce hcv hcl => ?_)
  exact xr_out htab hlocks hz1 hk1 hce hcv hcl (Nat.le_of_ble_eq_true rfl) (Nat.le_of_ble_eq_true rfl)
set_option maxHeartbeats 4000000 in
set_option maxRecDepth 100000 in
theorem x_X2_turnLock (l : Launch) (hl9 : l.stackTraces = false) (D : va_G) (cZ cI : ClassId) (a : Nat) (o : Nat → Nat) (o' : Nat → Nat) (q : Nat → Nat) (κ : CS) (ω : OS) (ω' : OS) (σ : HS) (x : Int32) (hz : zM σ = 0) : xM l yX2_turnLock wsX2_turnLock ({ frames := 7, cells := 1, slots := 6, locals := 121 }) (XrP D cZ cI [.ref a, .int x] (pD cZ cI a o o' q κ ω ω' σ)) xnI := by
  refine vx_ofW (cc := cX2_turnLock) (maxL := 2) (ret := (some .boolean)) (by decide) rfl ?_
  intro p e s m args below meth c s₁ B hml htab hv
  obtain ⟨rfl, hP, hZ, hTx, hE⟩ := hv
  have hx := B.exec
  have hb := B.bytes
  have hr := B.returns
  have hts := atoms_spec (ws := wsX2_turnLock) B.pre
  have hown : s.vm.findClass RX2 = some m.cls := findClass_of_methodNamed B.named
  have hlocks := B.notSynchronized
  have hP : va_P D vwCl (pD cZ cI a o o' q κ ω ω' σ) s.heap := hP
  have hl := lv_entry ([.ref a, .int x]) (n := 2) (Nat.le_of_ble_eq_true rfl)
  rw [lg_entry_eq]
  generalize (lg_sl ([.ref a, .int x]) ++ List.replicate (2 - (lg_sl ([.ref a, .int x])).length) Slot.unset).toArray = ls at hl ⊢
  have hl : lv_has ls 2 [(0, .ref a), (1, .int x)] := hl
  refine lv_aload_n hx hb dX2_turnLock_0 rfl (lv_at hl 0 rfl) ?_
  refine lv_iload_n hx hb dX2_turnLock_1 rfl (lv_at hl 1 rfl) ?_
  refine xr_call (vx_runV (As := [.int x]) (rest := []) ⟨hx, hb, hml, hown, hts⟩ (x_X2_requireDoor l hl9 D cZ cI a o o' q κ ω ω' σ x hz) (cwV 1 hts gX2_turnLock_X2_requireDoor rfl rfl rfl (by decide +kernel) ⟨Nat.le_of_ble_eq_true rfl, Nat.le_of_ble_eq_true rfl⟩) ⟨XrP_blind, va_recv hZ.1 hP (ci := 2) (q0 := 0) rfl rfl, XrP_start hP hZ hTx hE⟩ rfl rfl hl.1 rfl (lv_room (Nat.le_of_ble_eq_true rfl)) dX2_turnLock_2 ⟨Nat.le_of_ble_eq_true rfl, Nat.le_of_ble_eq_true rfl⟩) (fun ce q9 H1 hz1 hk1 hce hcv hcl => ?_)
  exact xr_out htab hlocks hz1 hk1 hce hcv hcl (Nat.le_of_ble_eq_true rfl) (Nat.le_of_ble_eq_true rfl)
set_option maxHeartbeats 4000000 in
set_option maxRecDepth 100000 in
theorem x_X2_putCheese (l : Launch) (hl9 : l.stackTraces = false) (D : va_G) (cZ cI : ClassId) (a : Nat) (o : Nat → Nat) (o' : Nat → Nat) (q : Nat → Nat) (κ : CS) (ω : OS) (ω' : OS) (σ : HS) (x y : Int32) (hz : zN σ = 0) : xM l yX2_putCheese wsX2_putCheese ({ frames := 7, cells := 1, slots := 6, locals := 121 }) (XrP D cZ cI [.ref a, .int x, .int y] (pD cZ cI a o o' q κ ω ω' σ)) xnI := by
  refine vx_ofW (cc := cX2_putCheese) (maxL := 3) (ret := (some .int)) (by decide) rfl ?_
  intro p e s m args below meth c s₁ B hml htab hv
  obtain ⟨rfl, hP, hZ, hTx, hE⟩ := hv
  have hx := B.exec
  have hb := B.bytes
  have hr := B.returns
  have hts := atoms_spec (ws := wsX2_putCheese) B.pre
  have hown : s.vm.findClass RX2 = some m.cls := findClass_of_methodNamed B.named
  have hlocks := B.notSynchronized
  have hP : va_P D vwCl (pD cZ cI a o o' q κ ω ω' σ) s.heap := hP
  have hl := lv_entry ([.ref a, .int x, .int y]) (n := 3) (Nat.le_of_ble_eq_true rfl)
  rw [lg_entry_eq]
  generalize (lg_sl ([.ref a, .int x, .int y]) ++ List.replicate (3 - (lg_sl ([.ref a, .int x, .int y])).length) Slot.unset).toArray = ls at hl ⊢
  have hl : lv_has ls 3 [(0, .ref a), (1, .int x), (2, .int y)] := hl
  refine lv_aload_n hx hb dX2_putCheese_0 rfl (lv_at hl 0 rfl) ?_
  refine lv_iload_n hx hb dX2_putCheese_1 rfl (lv_at hl 1 rfl) ?_
  refine xr_call (vx_runV (As := [.int x]) (rest := []) ⟨hx, hb, hml, hown, hts⟩ (x_X2_requireRoom l hl9 D cZ cI a o o' q κ ω ω' σ x hz) (cwV 1 hts gX2_putCheese_X2_requireRoom rfl rfl rfl (by decide +kernel) ⟨Nat.le_of_ble_eq_true rfl, Nat.le_of_ble_eq_true rfl⟩) ⟨XrP_blind, va_recv hZ.1 hP (ci := 2) (q0 := 0) rfl rfl, XrP_start hP hZ hTx hE⟩ rfl rfl hl.1 rfl (lv_room (Nat.le_of_ble_eq_true rfl)) dX2_putCheese_2 ⟨Nat.le_of_ble_eq_true rfl, Nat.le_of_ble_eq_true rfl⟩) (fun ce q9 H1 hz1 hk1 hce hcv hcl => ?_)
  exact xr_out htab hlocks hz1 hk1 hce hcv hcl (Nat.le_of_ble_eq_true rfl) (Nat.le_of_ble_eq_true rfl)
set_option maxHeartbeats 4000000 in
set_option maxRecDepth 100000 in
theorem x_X2_begin (l : Launch) (hl9 : l.stackTraces = false) (D : va_G) (cZ cI : ClassId) (a : Nat) (o : Nat → Nat) (o' : Nat → Nat) (q : Nat → Nat) (κ : CS) (ω : OS) (ω' : OS) (σ : HS) (x y : Int32) (hz : zN σ = 0) : xM l yX2_begin wsX2_begin ({ frames := 7, cells := 1, slots := 6, locals := 121 }) (XrP D cZ cI [.ref a, .int x, .int y] (pD cZ cI a o o' q κ ω ω' σ)) xnI := by
  refine vx_ofW (cc := cX2_begin) (maxL := 3) (ret := (some .int)) (by decide) rfl ?_
  intro p e s m args below meth c s₁ B hml htab hv
  obtain ⟨rfl, hP, hZ, hTx, hE⟩ := hv
  have hx := B.exec
  have hb := B.bytes
  have hr := B.returns
  have hts := atoms_spec (ws := wsX2_begin) B.pre
  have hown : s.vm.findClass RX2 = some m.cls := findClass_of_methodNamed B.named
  have hlocks := B.notSynchronized
  have hP : va_P D vwCl (pD cZ cI a o o' q κ ω ω' σ) s.heap := hP
  have hl := lv_entry ([.ref a, .int x, .int y]) (n := 3) (Nat.le_of_ble_eq_true rfl)
  rw [lg_entry_eq]
  generalize (lg_sl ([.ref a, .int x, .int y]) ++ List.replicate (3 - (lg_sl ([.ref a, .int x, .int y])).length) Slot.unset).toArray = ls at hl ⊢
  have hl : lv_has ls 3 [(0, .ref a), (1, .int x), (2, .int y)] := hl
  refine lv_aload_n hx hb dX2_begin_0 rfl (lv_at hl 0 rfl) ?_
  refine lv_iload_n hx hb dX2_begin_1 rfl (lv_at hl 1 rfl) ?_
  refine xr_call (vx_runV (As := [.int x]) (rest := []) ⟨hx, hb, hml, hown, hts⟩ (x_X2_requireRoom l hl9 D cZ cI a o o' q κ ω ω' σ x hz) (cwV 1 hts gX2_begin_X2_requireRoom rfl rfl rfl (by decide +kernel) ⟨Nat.le_of_ble_eq_true rfl, Nat.le_of_ble_eq_true rfl⟩) ⟨XrP_blind, va_recv hZ.1 hP (ci := 2) (q0 := 0) rfl rfl, XrP_start hP hZ hTx hE⟩ rfl rfl hl.1 rfl (lv_room (Nat.le_of_ble_eq_true rfl)) dX2_begin_2 ⟨Nat.le_of_ble_eq_true rfl, Nat.le_of_ble_eq_true rfl⟩) (fun ce q9 H1 hz1 hk1 hce hcv hcl => ?_)
  exact xr_out htab hlocks hz1 hk1 hce hcv hcl (Nat.le_of_ble_eq_true rfl) (Nat.le_of_ble_eq_true rfl)
set_option maxHeartbeats 4000000 in
set_option maxRecDepth 100000 in
theorem x_X2_go (l : Launch) (hl9 : l.stackTraces = false) (D : va_G) (cZ cI : ClassId) (a : Nat) (o : Nat → Nat) (o' : Nat → Nat) (q : Nat → Nat) (κ : CS) (ω : OS) (ω' : OS) (σ : HS) (x : Int32) (hz : zN σ = 0) : xM l yX2_go wsX2_go ({ frames := 7, cells := 1, slots := 6, locals := 121 }) (XrP D cZ cI [.ref a, .int x] (pD cZ cI a o o' q κ ω ω' σ)) xnI := by
  refine vx_ofW (cc := cX2_go) (maxL := 2) (ret := (some .boolean)) (by decide) rfl ?_
  intro p e s m args below meth c s₁ B hml htab hv
  obtain ⟨rfl, hP, hZ, hTx, hE⟩ := hv
  have hx := B.exec
  have hb := B.bytes
  have hr := B.returns
  have hts := atoms_spec (ws := wsX2_go) B.pre
  have hown : s.vm.findClass RX2 = some m.cls := findClass_of_methodNamed B.named
  have hlocks := B.notSynchronized
  have hP : va_P D vwCl (pD cZ cI a o o' q κ ω ω' σ) s.heap := hP
  have hl := lv_entry ([.ref a, .int x]) (n := 2) (Nat.le_of_ble_eq_true rfl)
  rw [lg_entry_eq]
  generalize (lg_sl ([.ref a, .int x]) ++ List.replicate (2 - (lg_sl ([.ref a, .int x])).length) Slot.unset).toArray = ls at hl ⊢
  have hl : lv_has ls 2 [(0, .ref a), (1, .int x)] := hl
  refine lv_aload_n hx hb dX2_go_0 rfl (lv_at hl 0 rfl) ?_
  refine lv_iload_n hx hb dX2_go_1 rfl (lv_at hl 1 rfl) ?_
  refine xr_call (vx_runV (As := [.int x]) (rest := []) ⟨hx, hb, hml, hown, hts⟩ (x_X2_requireRoom l hl9 D cZ cI a o o' q κ ω ω' σ x hz) (cwV 1 hts gX2_go_X2_requireRoom rfl rfl rfl (by decide +kernel) ⟨Nat.le_of_ble_eq_true rfl, Nat.le_of_ble_eq_true rfl⟩) ⟨XrP_blind, va_recv hZ.1 hP (ci := 2) (q0 := 0) rfl rfl, XrP_start hP hZ hTx hE⟩ rfl rfl hl.1 rfl (lv_room (Nat.le_of_ble_eq_true rfl)) dX2_go_2 ⟨Nat.le_of_ble_eq_true rfl, Nat.le_of_ble_eq_true rfl⟩) (fun ce q9 H1 hz1 hk1 hce hcv hcl => ?_)
  exact xr_out htab hlocks hz1 hk1 hce hcv hcl (Nat.le_of_ble_eq_true rfl) (Nat.le_of_ble_eq_true rfl)
set_option maxHeartbeats 4000000 in
set_option maxRecDepth 100000 in
theorem x_X2_isSafe (l : Launch) (hl9 : l.stackTraces = false) (D : va_G) (cZ cI : ClassId) (a : Nat) (o : Nat → Nat) (o' : Nat → Nat) (q : Nat → Nat) (κ : CS) (ω : OS) (ω' : OS) (σ : HS) (x : Int32) (hz : zN σ = 0) : xM l yX2_isSafe wsX2_isSafe ({ frames := 7, cells := 1, slots := 6, locals := 121 }) (XrP D cZ cI [.ref a, .int x] (pD cZ cI a o o' q κ ω ω' σ)) xnI := by
  refine vx_ofW (cc := cX2_isSafe) (maxL := 2) (ret := (some .boolean)) (by decide) rfl ?_
  intro p e s m args below meth c s₁ B hml htab hv
  obtain ⟨rfl, hP, hZ, hTx, hE⟩ := hv
  have hx := B.exec
  have hb := B.bytes
  have hr := B.returns
  have hts := atoms_spec (ws := wsX2_isSafe) B.pre
  have hown : s.vm.findClass RX2 = some m.cls := findClass_of_methodNamed B.named
  have hlocks := B.notSynchronized
  have hP : va_P D vwCl (pD cZ cI a o o' q κ ω ω' σ) s.heap := hP
  have hl := lv_entry ([.ref a, .int x]) (n := 2) (Nat.le_of_ble_eq_true rfl)
  rw [lg_entry_eq]
  generalize (lg_sl ([.ref a, .int x]) ++ List.replicate (2 - (lg_sl ([.ref a, .int x])).length) Slot.unset).toArray = ls at hl ⊢
  have hl : lv_has ls 2 [(0, .ref a), (1, .int x)] := hl
  refine lv_aload_n hx hb dX2_isSafe_0 rfl (lv_at hl 0 rfl) ?_
  refine lv_iload_n hx hb dX2_isSafe_1 rfl (lv_at hl 1 rfl) ?_
  refine xr_call (vx_runV (As := [.int x]) (rest := []) ⟨hx, hb, hml, hown, hts⟩ (x_X2_requireRoom l hl9 D cZ cI a o o' q κ ω ω' σ x hz) (cwV 1 hts gX2_isSafe_X2_requireRoom rfl rfl rfl (by decide +kernel) ⟨Nat.le_of_ble_eq_true rfl, Nat.le_of_ble_eq_true rfl⟩) ⟨XrP_blind, va_recv hZ.1 hP (ci := 2) (q0 := 0) rfl rfl, XrP_start hP hZ hTx hE⟩ rfl rfl hl.1 rfl (lv_room (Nat.le_of_ble_eq_true rfl)) dX2_isSafe_2 ⟨Nat.le_of_ble_eq_true rfl, Nat.le_of_ble_eq_true rfl⟩) (fun ce q9 H1 hz1 hk1 hce hcv hcl => ?_)
  exact xr_out htab hlocks hz1 hk1 hce hcv hcl (Nat.le_of_ble_eq_true rfl) (Nat.le_of_ble_eq_true rfl)
set_option maxHeartbeats 4000000 in
set_option maxRecDepth 100000 in
theorem x_X2_cheeseIn (l : Launch) (hl9 : l.stackTraces = false) (D : va_G) (cZ cI : ClassId) (a : Nat) (o : Nat → Nat) (o' : Nat → Nat) (q : Nat → Nat) (κ : CS) (ω : OS) (ω' : OS) (σ : HS) (x : Int32) (hz : zN σ = 0) : xM l yX2_cheeseIn wsX2_cheeseIn ({ frames := 7, cells := 1, slots := 6, locals := 121 }) (XrP D cZ cI [.ref a, .int x] (pD cZ cI a o o' q κ ω ω' σ)) xnI := by
  refine vx_ofW (cc := cX2_cheeseIn) (maxL := 2) (ret := (some .int)) (by decide) rfl ?_
  intro p e s m args below meth c s₁ B hml htab hv
  obtain ⟨rfl, hP, hZ, hTx, hE⟩ := hv
  have hx := B.exec
  have hb := B.bytes
  have hr := B.returns
  have hts := atoms_spec (ws := wsX2_cheeseIn) B.pre
  have hown : s.vm.findClass RX2 = some m.cls := findClass_of_methodNamed B.named
  have hlocks := B.notSynchronized
  have hP : va_P D vwCl (pD cZ cI a o o' q κ ω ω' σ) s.heap := hP
  have hl := lv_entry ([.ref a, .int x]) (n := 2) (Nat.le_of_ble_eq_true rfl)
  rw [lg_entry_eq]
  generalize (lg_sl ([.ref a, .int x]) ++ List.replicate (2 - (lg_sl ([.ref a, .int x])).length) Slot.unset).toArray = ls at hl ⊢
  have hl : lv_has ls 2 [(0, .ref a), (1, .int x)] := hl
  refine lv_aload_n hx hb dX2_cheeseIn_0 rfl (lv_at hl 0 rfl) ?_
  refine lv_iload_n hx hb dX2_cheeseIn_1 rfl (lv_at hl 1 rfl) ?_
  refine xr_call (vx_runV (As := [.int x]) (rest := []) ⟨hx, hb, hml, hown, hts⟩ (x_X2_requireRoom l hl9 D cZ cI a o o' q κ ω ω' σ x hz) (cwV 1 hts gX2_cheeseIn_X2_requireRoom rfl rfl rfl (by decide +kernel) ⟨Nat.le_of_ble_eq_true rfl, Nat.le_of_ble_eq_true rfl⟩) ⟨XrP_blind, va_recv hZ.1 hP (ci := 2) (q0 := 0) rfl rfl, XrP_start hP hZ hTx hE⟩ rfl rfl hl.1 rfl (lv_room (Nat.le_of_ble_eq_true rfl)) dX2_cheeseIn_2 ⟨Nat.le_of_ble_eq_true rfl, Nat.le_of_ble_eq_true rfl⟩) (fun ce q9 H1 hz1 hk1 hce hcv hcl => ?_)
  exact xr_out htab hlocks hz1 hk1 hce hcv hcl (Nat.le_of_ble_eq_true rfl) (Nat.le_of_ble_eq_true rfl)
set_option maxHeartbeats 4000000 in
set_option maxRecDepth 100000 in
theorem x_X2_doorsOf (l : Launch) (hl9 : l.stackTraces = false) (D : va_G) (cZ cI : ClassId) (a : Nat) (o : Nat → Nat) (o' : Nat → Nat) (q : Nat → Nat) (κ : CS) (ω : OS) (ω' : OS) (σ : HS) (x : Int32) (hz : zN σ = 0) : xM l yX2_doorsOf wsX2_doorsOf ({ frames := 7, cells := 1, slots := 6, locals := 121 }) (XrP D cZ cI [.ref a, .int x] (pD cZ cI a o o' q κ ω ω' σ)) xnI := by
  refine vx_ofW (cc := cX2_doorsOf) (maxL := 2) (ret := (some .int)) (by decide) rfl ?_
  intro p e s m args below meth c s₁ B hml htab hv
  obtain ⟨rfl, hP, hZ, hTx, hE⟩ := hv
  have hx := B.exec
  have hb := B.bytes
  have hr := B.returns
  have hts := atoms_spec (ws := wsX2_doorsOf) B.pre
  have hown : s.vm.findClass RX2 = some m.cls := findClass_of_methodNamed B.named
  have hlocks := B.notSynchronized
  have hP : va_P D vwCl (pD cZ cI a o o' q κ ω ω' σ) s.heap := hP
  have hl := lv_entry ([.ref a, .int x]) (n := 2) (Nat.le_of_ble_eq_true rfl)
  rw [lg_entry_eq]
  generalize (lg_sl ([.ref a, .int x]) ++ List.replicate (2 - (lg_sl ([.ref a, .int x])).length) Slot.unset).toArray = ls at hl ⊢
  have hl : lv_has ls 2 [(0, .ref a), (1, .int x)] := hl
  refine lv_aload_n hx hb dX2_doorsOf_0 rfl (lv_at hl 0 rfl) ?_
  refine lv_iload_n hx hb dX2_doorsOf_1 rfl (lv_at hl 1 rfl) ?_
  refine xr_call (vx_runV (As := [.int x]) (rest := []) ⟨hx, hb, hml, hown, hts⟩ (x_X2_requireRoom l hl9 D cZ cI a o o' q κ ω ω' σ x hz) (cwV 1 hts gX2_doorsOf_X2_requireRoom rfl rfl rfl (by decide +kernel) ⟨Nat.le_of_ble_eq_true rfl, Nat.le_of_ble_eq_true rfl⟩) ⟨XrP_blind, va_recv hZ.1 hP (ci := 2) (q0 := 0) rfl rfl, XrP_start hP hZ hTx hE⟩ rfl rfl hl.1 rfl (lv_room (Nat.le_of_ble_eq_true rfl)) dX2_doorsOf_2 ⟨Nat.le_of_ble_eq_true rfl, Nat.le_of_ble_eq_true rfl⟩) (fun ce q9 H1 hz1 hk1 hce hcv hcl => ?_)
  exact xr_out htab hlocks hz1 hk1 hce hcv hcl (Nat.le_of_ble_eq_true rfl) (Nat.le_of_ble_eq_true rfl)
set_option maxHeartbeats 4000000 in
set_option maxRecDepth 100000 in
theorem x_X2_isLocked (l : Launch) (hl9 : l.stackTraces = false) (D : va_G) (cZ cI : ClassId) (a : Nat) (o : Nat → Nat) (o' : Nat → Nat) (q : Nat → Nat) (κ : CS) (ω : OS) (ω' : OS) (σ : HS) (x : Int32) (hz : zM σ = 0) : xM l yX2_isLocked wsX2_isLocked ({ frames := 7, cells := 1, slots := 6, locals := 121 }) (XrP D cZ cI [.ref a, .int x] (pD cZ cI a o o' q κ ω ω' σ)) xnI := by
  refine vx_ofW (cc := cX2_isLocked) (maxL := 2) (ret := (some .boolean)) (by decide) rfl ?_
  intro p e s m args below meth c s₁ B hml htab hv
  obtain ⟨rfl, hP, hZ, hTx, hE⟩ := hv
  have hx := B.exec
  have hb := B.bytes
  have hr := B.returns
  have hts := atoms_spec (ws := wsX2_isLocked) B.pre
  have hown : s.vm.findClass RX2 = some m.cls := findClass_of_methodNamed B.named
  have hlocks := B.notSynchronized
  have hP : va_P D vwCl (pD cZ cI a o o' q κ ω ω' σ) s.heap := hP
  have hl := lv_entry ([.ref a, .int x]) (n := 2) (Nat.le_of_ble_eq_true rfl)
  rw [lg_entry_eq]
  generalize (lg_sl ([.ref a, .int x]) ++ List.replicate (2 - (lg_sl ([.ref a, .int x])).length) Slot.unset).toArray = ls at hl ⊢
  have hl : lv_has ls 2 [(0, .ref a), (1, .int x)] := hl
  refine lv_aload_n hx hb dX2_isLocked_0 rfl (lv_at hl 0 rfl) ?_
  refine lv_iload_n hx hb dX2_isLocked_1 rfl (lv_at hl 1 rfl) ?_
  refine xr_call (vx_runV (As := [.int x]) (rest := []) ⟨hx, hb, hml, hown, hts⟩ (x_X2_requireDoor l hl9 D cZ cI a o o' q κ ω ω' σ x hz) (cwV 1 hts gX2_isLocked_X2_requireDoor rfl rfl rfl (by decide +kernel) ⟨Nat.le_of_ble_eq_true rfl, Nat.le_of_ble_eq_true rfl⟩) ⟨XrP_blind, va_recv hZ.1 hP (ci := 2) (q0 := 0) rfl rfl, XrP_start hP hZ hTx hE⟩ rfl rfl hl.1 rfl (lv_room (Nat.le_of_ble_eq_true rfl)) dX2_isLocked_2 ⟨Nat.le_of_ble_eq_true rfl, Nat.le_of_ble_eq_true rfl⟩) (fun ce q9 H1 hz1 hk1 hce hcv hcl => ?_)
  exact xr_out htab hlocks hz1 hk1 hce hcv hcl (Nat.le_of_ble_eq_true rfl) (Nat.le_of_ble_eq_true rfl)
set_option maxHeartbeats 4000000 in
set_option maxRecDepth 100000 in
theorem x_X2_isOpen (l : Launch) (hl9 : l.stackTraces = false) (D : va_G) (cZ cI : ClassId) (a : Nat) (o : Nat → Nat) (o' : Nat → Nat) (q : Nat → Nat) (κ : CS) (ω : OS) (ω' : OS) (σ : HS) (x : Int32) (hz : zM σ = 0) : xM l yX2_isOpen wsX2_isOpen ({ frames := 7, cells := 1, slots := 6, locals := 121 }) (XrP D cZ cI [.ref a, .int x] (pD cZ cI a o o' q κ ω ω' σ)) xnI := by
  refine vx_ofW (cc := cX2_isOpen) (maxL := 2) (ret := (some .boolean)) (by decide) rfl ?_
  intro p e s m args below meth c s₁ B hml htab hv
  obtain ⟨rfl, hP, hZ, hTx, hE⟩ := hv
  have hx := B.exec
  have hb := B.bytes
  have hr := B.returns
  have hts := atoms_spec (ws := wsX2_isOpen) B.pre
  have hown : s.vm.findClass RX2 = some m.cls := findClass_of_methodNamed B.named
  have hlocks := B.notSynchronized
  have hP : va_P D vwCl (pD cZ cI a o o' q κ ω ω' σ) s.heap := hP
  have hl := lv_entry ([.ref a, .int x]) (n := 2) (Nat.le_of_ble_eq_true rfl)
  rw [lg_entry_eq]
  generalize (lg_sl ([.ref a, .int x]) ++ List.replicate (2 - (lg_sl ([.ref a, .int x])).length) Slot.unset).toArray = ls at hl ⊢
  have hl : lv_has ls 2 [(0, .ref a), (1, .int x)] := hl
  refine lv_aload_n hx hb dX2_isOpen_0 rfl (lv_at hl 0 rfl) ?_
  refine lv_iload_n hx hb dX2_isOpen_1 rfl (lv_at hl 1 rfl) ?_
  refine xr_call (vx_runV (As := [.int x]) (rest := []) ⟨hx, hb, hml, hown, hts⟩ (x_X2_requireDoor l hl9 D cZ cI a o o' q κ ω ω' σ x hz) (cwV 1 hts gX2_isOpen_X2_requireDoor rfl rfl rfl (by decide +kernel) ⟨Nat.le_of_ble_eq_true rfl, Nat.le_of_ble_eq_true rfl⟩) ⟨XrP_blind, va_recv hZ.1 hP (ci := 2) (q0 := 0) rfl rfl, XrP_start hP hZ hTx hE⟩ rfl rfl hl.1 rfl (lv_room (Nat.le_of_ble_eq_true rfl)) dX2_isOpen_2 ⟨Nat.le_of_ble_eq_true rfl, Nat.le_of_ble_eq_true rfl⟩) (fun ce q9 H1 hz1 hk1 hce hcv hcl => ?_)
  exact xr_out htab hlocks hz1 hk1 hce hcv hcl (Nat.le_of_ble_eq_true rfl) (Nat.le_of_ble_eq_true rfl)
set_option maxHeartbeats 4000000 in
set_option maxRecDepth 100000 in
theorem x_X2_turnsUntilOpen (l : Launch) (hl9 : l.stackTraces = false) (D : va_G) (cZ cI : ClassId) (a : Nat) (o : Nat → Nat) (o' : Nat → Nat) (q : Nat → Nat) (κ : CS) (ω : OS) (ω' : OS) (σ : HS) (x : Int32) (hz : zM σ = 0) : xM l yX2_turnsUntilOpen wsX2_turnsUntilOpen ({ frames := 7, cells := 1, slots := 6, locals := 121 }) (XrP D cZ cI [.ref a, .int x] (pD cZ cI a o o' q κ ω ω' σ)) xnI := by
  refine vx_ofW (cc := cX2_turnsUntilOpen) (maxL := 3) (ret := (some .int)) (by decide) rfl ?_
  intro p e s m args below meth c s₁ B hml htab hv
  obtain ⟨rfl, hP, hZ, hTx, hE⟩ := hv
  have hx := B.exec
  have hb := B.bytes
  have hr := B.returns
  have hts := atoms_spec (ws := wsX2_turnsUntilOpen) B.pre
  have hown : s.vm.findClass RX2 = some m.cls := findClass_of_methodNamed B.named
  have hlocks := B.notSynchronized
  have hP : va_P D vwCl (pD cZ cI a o o' q κ ω ω' σ) s.heap := hP
  have hl := lv_entry ([.ref a, .int x]) (n := 3) (Nat.le_of_ble_eq_true rfl)
  rw [lg_entry_eq]
  generalize (lg_sl ([.ref a, .int x]) ++ List.replicate (3 - (lg_sl ([.ref a, .int x])).length) Slot.unset).toArray = ls at hl ⊢
  have hl : lv_has ls 3 [(0, .ref a), (1, .int x)] := hl
  refine lv_aload_n hx hb dX2_turnsUntilOpen_0 rfl (lv_at hl 0 rfl) ?_
  refine lv_iload_n hx hb dX2_turnsUntilOpen_1 rfl (lv_at hl 1 rfl) ?_
  refine xr_call (vx_runV (As := [.int x]) (rest := []) ⟨hx, hb, hml, hown, hts⟩ (x_X2_requireDoor l hl9 D cZ cI a o o' q κ ω ω' σ x hz) (cwV 1 hts gX2_turnsUntilOpen_X2_requireDoor rfl rfl rfl (by decide +kernel) ⟨Nat.le_of_ble_eq_true rfl, Nat.le_of_ble_eq_true rfl⟩) ⟨XrP_blind, va_recv hZ.1 hP (ci := 2) (q0 := 0) rfl rfl, XrP_start hP hZ hTx hE⟩ rfl rfl hl.1 rfl (lv_room (Nat.le_of_ble_eq_true rfl)) dX2_turnsUntilOpen_2 ⟨Nat.le_of_ble_eq_true rfl, Nat.le_of_ble_eq_true rfl⟩) (fun ce q9 H1 hz1 hk1 hce hcv hcl => ?_)
  exact xr_out htab hlocks hz1 hk1 hce hcv hcl (Nat.le_of_ble_eq_true rfl) (Nat.le_of_ble_eq_true rfl)
set_option maxHeartbeats 4000000 in
set_option maxRecDepth 100000 in
theorem x_X2_doorBetween (l : Launch) (hl9 : l.stackTraces = false) (D : va_G) (cZ cI : ClassId) (a : Nat) (o : Nat → Nat) (o' : Nat → Nat) (q : Nat → Nat) (κ : CS) (ω : OS) (ω' : OS) (σ : HS) (x y : Int32) (hz : zN σ = 0) : xM l yX2_doorBetween wsX2_doorBetween ({ frames := 7, cells := 1, slots := 6, locals := 121 }) (XrP D cZ cI [.ref a, .int x, .int y] (pD cZ cI a o o' q κ ω ω' σ)) xnI := by
  refine vx_ofW (cc := cX2_doorBetween) (maxL := 3) (ret := (some .int)) (by decide) rfl ?_
  intro p e s m args below meth c s₁ B hml htab hv
  obtain ⟨rfl, hP, hZ, hTx, hE⟩ := hv
  have hx := B.exec
  have hb := B.bytes
  have hr := B.returns
  have hts := atoms_spec (ws := wsX2_doorBetween) B.pre
  have hown : s.vm.findClass RX2 = some m.cls := findClass_of_methodNamed B.named
  have hlocks := B.notSynchronized
  have hP : va_P D vwCl (pD cZ cI a o o' q κ ω ω' σ) s.heap := hP
  have hl := lv_entry ([.ref a, .int x, .int y]) (n := 3) (Nat.le_of_ble_eq_true rfl)
  rw [lg_entry_eq]
  generalize (lg_sl ([.ref a, .int x, .int y]) ++ List.replicate (3 - (lg_sl ([.ref a, .int x, .int y])).length) Slot.unset).toArray = ls at hl ⊢
  have hl : lv_has ls 3 [(0, .ref a), (1, .int x), (2, .int y)] := hl
  refine lv_aload_n hx hb dX2_doorBetween_0 rfl (lv_at hl 0 rfl) ?_
  refine lv_iload_n hx hb dX2_doorBetween_1 rfl (lv_at hl 1 rfl) ?_
  refine xr_call (vx_runV (As := [.int x]) (rest := []) ⟨hx, hb, hml, hown, hts⟩ (x_X2_requireRoom l hl9 D cZ cI a o o' q κ ω ω' σ x hz) (cwV 1 hts gX2_doorBetween_X2_requireRoom rfl rfl rfl (by decide +kernel) ⟨Nat.le_of_ble_eq_true rfl, Nat.le_of_ble_eq_true rfl⟩) ⟨XrP_blind, va_recv hZ.1 hP (ci := 2) (q0 := 0) rfl rfl, XrP_start hP hZ hTx hE⟩ rfl rfl hl.1 rfl (lv_room (Nat.le_of_ble_eq_true rfl)) dX2_doorBetween_2 ⟨Nat.le_of_ble_eq_true rfl, Nat.le_of_ble_eq_true rfl⟩) (fun ce q9 H1 hz1 hk1 hce hcv hcl => ?_)
  exact xr_out htab hlocks hz1 hk1 hce hcv hcl (Nat.le_of_ble_eq_true rfl) (Nat.le_of_ble_eq_true rfl)
set_option maxHeartbeats 4000000 in
set_option maxRecDepth 100000 in
theorem x_X2_isWayOpen (l : Launch) (hl9 : l.stackTraces = false) (D : va_G) (cZ cI : ClassId) (a : Nat) (o : Nat → Nat) (o' : Nat → Nat) (q : Nat → Nat) (κ : CS) (ω : OS) (ω' : OS) (σ : HS) (x y : Int32) (hz : zN σ = 0) : xM l yX2_isWayOpen wsX2_isWayOpen ({ frames := 7, cells := 1, slots := 6, locals := 121 }) (XrP D cZ cI [.ref a, .int x, .int y] (pD cZ cI a o o' q κ ω ω' σ)) xnI := by
  refine vx_ofW (cc := cX2_isWayOpen) (maxL := 4) (ret := (some .boolean)) (by decide) rfl ?_
  intro p e s m args below meth c s₁ B hml htab hv
  obtain ⟨rfl, hP, hZ, hTx, hE⟩ := hv
  have hx := B.exec
  have hb := B.bytes
  have hr := B.returns
  have hts := atoms_spec (ws := wsX2_isWayOpen) B.pre
  have hown : s.vm.findClass RX2 = some m.cls := findClass_of_methodNamed B.named
  have hlocks := B.notSynchronized
  have hP : va_P D vwCl (pD cZ cI a o o' q κ ω ω' σ) s.heap := hP
  have hl := lv_entry ([.ref a, .int x, .int y]) (n := 4) (Nat.le_of_ble_eq_true rfl)
  rw [lg_entry_eq]
  generalize (lg_sl ([.ref a, .int x, .int y]) ++ List.replicate (4 - (lg_sl ([.ref a, .int x, .int y])).length) Slot.unset).toArray = ls at hl ⊢
  have hl : lv_has ls 4 [(0, .ref a), (1, .int x), (2, .int y)] := hl
  refine lv_aload_n hx hb dX2_isWayOpen_0 rfl (lv_at hl 0 rfl) ?_
  refine lv_iload_n hx hb dX2_isWayOpen_1 rfl (lv_at hl 1 rfl) ?_
  refine xr_call (vx_runV (As := [.int x]) (rest := []) ⟨hx, hb, hml, hown, hts⟩ (x_X2_requireRoom l hl9 D cZ cI a o o' q κ ω ω' σ x hz) (cwV 1 hts gX2_isWayOpen_X2_requireRoom rfl rfl rfl (by decide +kernel) ⟨Nat.le_of_ble_eq_true rfl, Nat.le_of_ble_eq_true rfl⟩) ⟨XrP_blind, va_recv hZ.1 hP (ci := 2) (q0 := 0) rfl rfl, XrP_start hP hZ hTx hE⟩ rfl rfl hl.1 rfl (lv_room (Nat.le_of_ble_eq_true rfl)) dX2_isWayOpen_2 ⟨Nat.le_of_ble_eq_true rfl, Nat.le_of_ble_eq_true rfl⟩) (fun ce q9 H1 hz1 hk1 hce hcv hcl => ?_)
  exact xr_out htab hlocks hz1 hk1 hce hcv hcl (Nat.le_of_ble_eq_true rfl) (Nat.le_of_ble_eq_true rfl)
set_option maxHeartbeats 4000000 in
set_option maxRecDepth 100000 in
theorem x_X2_distance (l : Launch) (hl9 : l.stackTraces = false) (D : va_G) (cZ cI : ClassId) (a : Nat) (o : Nat → Nat) (o' : Nat → Nat) (q : Nat → Nat) (κ : CS) (ω : OS) (ω' : OS) (σ : HS) (x y : Int32) (hz : zN σ = 0) : xM l yX2_distance wsX2_distance ({ frames := 7, cells := 1, slots := 6, locals := 121 }) (XrP D cZ cI [.ref a, .int x, .int y] (pD cZ cI a o o' q κ ω ω' σ)) xnI := by
  refine vx_ofW (cc := cX2_distance) (maxL := 3) (ret := (some .int)) (by decide) rfl ?_
  intro p e s m args below meth c s₁ B hml htab hv
  obtain ⟨rfl, hP, hZ, hTx, hE⟩ := hv
  have hx := B.exec
  have hb := B.bytes
  have hr := B.returns
  have hts := atoms_spec (ws := wsX2_distance) B.pre
  have hown : s.vm.findClass RX2 = some m.cls := findClass_of_methodNamed B.named
  have hlocks := B.notSynchronized
  have hP : va_P D vwCl (pD cZ cI a o o' q κ ω ω' σ) s.heap := hP
  have hl := lv_entry ([.ref a, .int x, .int y]) (n := 3) (Nat.le_of_ble_eq_true rfl)
  rw [lg_entry_eq]
  generalize (lg_sl ([.ref a, .int x, .int y]) ++ List.replicate (3 - (lg_sl ([.ref a, .int x, .int y])).length) Slot.unset).toArray = ls at hl ⊢
  have hl : lv_has ls 3 [(0, .ref a), (1, .int x), (2, .int y)] := hl
  refine lv_aload_n hx hb dX2_distance_0 rfl (lv_at hl 0 rfl) ?_
  refine lv_iload_n hx hb dX2_distance_1 rfl (lv_at hl 1 rfl) ?_
  refine xr_call (vx_runV (As := [.int x]) (rest := []) ⟨hx, hb, hml, hown, hts⟩ (x_X2_requireRoom l hl9 D cZ cI a o o' q κ ω ω' σ x hz) (cwV 1 hts gX2_distance_X2_requireRoom rfl rfl rfl (by decide +kernel) ⟨Nat.le_of_ble_eq_true rfl, Nat.le_of_ble_eq_true rfl⟩) ⟨XrP_blind, va_recv hZ.1 hP (ci := 2) (q0 := 0) rfl rfl, XrP_start hP hZ hTx hE⟩ rfl rfl hl.1 rfl (lv_room (Nat.le_of_ble_eq_true rfl)) dX2_distance_2 ⟨Nat.le_of_ble_eq_true rfl, Nat.le_of_ble_eq_true rfl⟩) (fun ce q9 H1 hz1 hk1 hce hcv hcl => ?_)
  exact xr_out htab hlocks hz1 hk1 hce hcv hcl (Nat.le_of_ble_eq_true rfl) (Nat.le_of_ble_eq_true rfl)
set_option maxHeartbeats 4000000 in
set_option maxRecDepth 100000 in
theorem x_X2_catArrives (l : Launch) (hl9 : l.stackTraces = false) (D : va_G) (cZ cI : ClassId) (a : Nat) (o : Nat → Nat) (o' : Nat → Nat) (q : Nat → Nat) (κ : CS) (ω : OS) (ω' : OS) (σ : HS) (x : Int32) (hz : zN σ = 0) : xM l yX2_catArrives wsX2_catArrives ({ frames := 7, cells := 1, slots := 6, locals := 121 }) (XrP D cZ cI [.ref a, .int x] (pD cZ cI a o o' q κ ω ω' σ)) xnI := by
  refine vx_ofW (cc := cX2_catArrives) (maxL := 2) (ret := (some .int)) (by decide) rfl ?_
  intro p e s m args below meth c s₁ B hml htab hv
  obtain ⟨rfl, hP, hZ, hTx, hE⟩ := hv
  have hx := B.exec
  have hb := B.bytes
  have hr := B.returns
  have hts := atoms_spec (ws := wsX2_catArrives) B.pre
  have hown : s.vm.findClass RX2 = some m.cls := findClass_of_methodNamed B.named
  have hlocks := B.notSynchronized
  have hP : va_P D vwCl (pD cZ cI a o o' q κ ω ω' σ) s.heap := hP
  have hl := lv_entry ([.ref a, .int x]) (n := 2) (Nat.le_of_ble_eq_true rfl)
  rw [lg_entry_eq]
  generalize (lg_sl ([.ref a, .int x]) ++ List.replicate (2 - (lg_sl ([.ref a, .int x])).length) Slot.unset).toArray = ls at hl ⊢
  have hl : lv_has ls 2 [(0, .ref a), (1, .int x)] := hl
  refine lv_aload_n hx hb dX2_catArrives_0 rfl (lv_at hl 0 rfl) ?_
  refine lv_iload_n hx hb dX2_catArrives_1 rfl (lv_at hl 1 rfl) ?_
  refine xr_call (vx_runV (As := [.int x]) (rest := []) ⟨hx, hb, hml, hown, hts⟩ (x_X2_requireRoom l hl9 D cZ cI a o o' q κ ω ω' σ x hz) (cwV 1 hts gX2_catArrives_X2_requireRoom rfl rfl rfl (by decide +kernel) ⟨Nat.le_of_ble_eq_true rfl, Nat.le_of_ble_eq_true rfl⟩) ⟨XrP_blind, va_recv hZ.1 hP (ci := 2) (q0 := 0) rfl rfl, XrP_start hP hZ hTx hE⟩ rfl rfl hl.1 rfl (lv_room (Nat.le_of_ble_eq_true rfl)) dX2_catArrives_2 ⟨Nat.le_of_ble_eq_true rfl, Nat.le_of_ble_eq_true rfl⟩) (fun ce q9 H1 hz1 hk1 hce hcv hcl => ?_)
  exact xr_out htab hlocks hz1 hk1 hce hcv hcl (Nat.le_of_ble_eq_true rfl) (Nat.le_of_ble_eq_true rfl)
set_option maxHeartbeats 4000000 in
set_option maxRecDepth 100000 in
theorem x_X2_mouseArrives (l : Launch) (hl9 : l.stackTraces = false) (D : va_G) (cZ cI : ClassId) (a : Nat) (o : Nat → Nat) (o' : Nat → Nat) (q : Nat → Nat) (κ : CS) (ω : OS) (ω' : OS) (σ : HS) (x : Int32) (hz : zN σ = 0) : xM l yX2_mouseArrives wsX2_mouseArrives ({ frames := 7, cells := 1, slots := 6, locals := 121 }) (XrP D cZ cI [.ref a, .int x] (pD cZ cI a o o' q κ ω ω' σ)) xnI := by
  refine vx_ofW (cc := cX2_mouseArrives) (maxL := 2) (ret := (some .int)) (by decide) rfl ?_
  intro p e s m args below meth c s₁ B hml htab hv
  obtain ⟨rfl, hP, hZ, hTx, hE⟩ := hv
  have hx := B.exec
  have hb := B.bytes
  have hr := B.returns
  have hts := atoms_spec (ws := wsX2_mouseArrives) B.pre
  have hown : s.vm.findClass RX2 = some m.cls := findClass_of_methodNamed B.named
  have hlocks := B.notSynchronized
  have hP : va_P D vwCl (pD cZ cI a o o' q κ ω ω' σ) s.heap := hP
  have hl := lv_entry ([.ref a, .int x]) (n := 2) (Nat.le_of_ble_eq_true rfl)
  rw [lg_entry_eq]
  generalize (lg_sl ([.ref a, .int x]) ++ List.replicate (2 - (lg_sl ([.ref a, .int x])).length) Slot.unset).toArray = ls at hl ⊢
  have hl : lv_has ls 2 [(0, .ref a), (1, .int x)] := hl
  refine lv_aload_n hx hb dX2_mouseArrives_0 rfl (lv_at hl 0 rfl) ?_
  refine lv_iload_n hx hb dX2_mouseArrives_1 rfl (lv_at hl 1 rfl) ?_
  refine xr_call (vx_runV (As := [.int x]) (rest := []) ⟨hx, hb, hml, hown, hts⟩ (x_X2_requireRoom l hl9 D cZ cI a o o' q κ ω ω' σ x hz) (cwV 1 hts gX2_mouseArrives_X2_requireRoom rfl rfl rfl (by decide +kernel) ⟨Nat.le_of_ble_eq_true rfl, Nat.le_of_ble_eq_true rfl⟩) ⟨XrP_blind, va_recv hZ.1 hP (ci := 2) (q0 := 0) rfl rfl, XrP_start hP hZ hTx hE⟩ rfl rfl hl.1 rfl (lv_room (Nat.le_of_ble_eq_true rfl)) dX2_mouseArrives_2 ⟨Nat.le_of_ble_eq_true rfl, Nat.le_of_ble_eq_true rfl⟩) (fun ce q9 H1 hz1 hk1 hce hcv hcl => ?_)
  exact xr_out htab hlocks hz1 hk1 hce hcv hcl (Nat.le_of_ble_eq_true rfl) (Nat.le_of_ble_eq_true rfl)
set_option maxHeartbeats 4000000 in
set_option maxRecDepth 100000 in
theorem x_X2_turnsFrom (l : Launch) (hl9 : l.stackTraces = false) (D : va_G) (cZ cI : ClassId) (a : Nat) (o : Nat → Nat) (o' : Nat → Nat) (q : Nat → Nat) (κ : CS) (ω : OS) (ω' : OS) (σ : HS) (x y : Int32) (hz : zN σ = 0) : xM l yX2_turnsFrom wsX2_turnsFrom ({ frames := 7, cells := 1, slots := 6, locals := 121 }) (XrP D cZ cI [.ref a, .int x, .int y] (pD cZ cI a o o' q κ ω ω' σ)) xnI := by
  refine vx_ofW (cc := cX2_turnsFrom) (maxL := 3) (ret := (some .int)) (by decide) rfl ?_
  intro p e s m args below meth c s₁ B hml htab hv
  obtain ⟨rfl, hP, hZ, hTx, hE⟩ := hv
  have hx := B.exec
  have hb := B.bytes
  have hr := B.returns
  have hts := atoms_spec (ws := wsX2_turnsFrom) B.pre
  have hown : s.vm.findClass RX2 = some m.cls := findClass_of_methodNamed B.named
  have hlocks := B.notSynchronized
  have hP : va_P D vwCl (pD cZ cI a o o' q κ ω ω' σ) s.heap := hP
  have hl := lv_entry ([.ref a, .int x, .int y]) (n := 3) (Nat.le_of_ble_eq_true rfl)
  rw [lg_entry_eq]
  generalize (lg_sl ([.ref a, .int x, .int y]) ++ List.replicate (3 - (lg_sl ([.ref a, .int x, .int y])).length) Slot.unset).toArray = ls at hl ⊢
  have hl : lv_has ls 3 [(0, .ref a), (1, .int x), (2, .int y)] := hl
  refine lv_aload_n hx hb dX2_turnsFrom_0 rfl (lv_at hl 0 rfl) ?_
  refine lv_iload_n hx hb dX2_turnsFrom_1 rfl (lv_at hl 1 rfl) ?_
  refine xr_call (vx_runV (As := [.int x]) (rest := []) ⟨hx, hb, hml, hown, hts⟩ (x_X2_requireRoom l hl9 D cZ cI a o o' q κ ω ω' σ x hz) (cwV 1 hts gX2_turnsFrom_X2_requireRoom rfl rfl rfl (by decide +kernel) ⟨Nat.le_of_ble_eq_true rfl, Nat.le_of_ble_eq_true rfl⟩) ⟨XrP_blind, va_recv hZ.1 hP (ci := 2) (q0 := 0) rfl rfl, XrP_start hP hZ hTx hE⟩ rfl rfl hl.1 rfl (lv_room (Nat.le_of_ble_eq_true rfl)) dX2_turnsFrom_2 ⟨Nat.le_of_ble_eq_true rfl, Nat.le_of_ble_eq_true rfl⟩) (fun ce q9 H1 hz1 hk1 hce hcv hcl => ?_)
  exact xr_out htab hlocks hz1 hk1 hce hcv hcl (Nat.le_of_ble_eq_true rfl) (Nat.le_of_ble_eq_true rfl)
set_option maxHeartbeats 4000000 in
set_option maxRecDepth 100000 in
theorem x_X2_play_a (l : Launch) (hl9 : l.stackTraces = false) (D : va_G) (cZ cI : ClassId) (a : Nat) (o : Nat → Nat) (o' : Nat → Nat) (q : Nat → Nat) (κ : CS) (ω : OS) (ω' : OS) (σ : HS) (x : Int32) (h : x < 1 ∨ ¬ x ≤ 60) : xM l yX2_play wsX2_play ({ frames := 7, cells := 1, slots := 6, locals := 120 }) (XrP D cZ cI [.ref a, .int x] (pD cZ cI a o o' q κ ω ω' σ)) xnA := by
  refine vx_ofW (cc := cX2_play) (maxL := 3) (ret := (some .int)) (by decide) rfl ?_
  intro p e s m args below meth c s₁ B hml htab hv
  obtain ⟨rfl, hP, hZ, hTx, hE⟩ := hv
  have hx := B.exec
  have hb := B.bytes
  have hr := B.returns
  have hts := atoms_spec (ws := wsX2_play) B.pre
  have hown : s.vm.findClass RX2 = some m.cls := findClass_of_methodNamed B.named
  have hlocks := B.notSynchronized
  have hP : va_P D vwCl (pD cZ cI a o o' q κ ω ω' σ) s.heap := hP
  have hl := lv_entry ([.ref a, .int x]) (n := 3) (Nat.le_of_ble_eq_true rfl)
  rw [lg_entry_eq]
  generalize (lg_sl ([.ref a, .int x]) ++ List.replicate (3 - (lg_sl ([.ref a, .int x])).length) Slot.unset).toArray = ls at hl ⊢
  have hl : lv_has ls 3 [(0, .ref a), (1, .int x)] := hl
  have fin : W p l e (headSpec wsX2_play ({ frames := 7, cells := 1, slots := 6, locals := 120 })).room s m ([.ref a, .int x] : List Value).toArray below meth c s.heap [] 0 0 (vx_MQ below xQ (xX xnA) ([.ref a, .int x] : List Value).toArray s 1 6 (fun _ => False)) (F0 m 11 ls []) := by
    obtain ⟨sa, hsa⟩ := hTx.2.2.2.1
    exact vx_throwS (A := fun q => s.heap.size ≤ q) hx hb hl9 hown (cls := xnA) (names := xch) (by decide +kernel) (by decide +kernel) (hts (.classLink RX2 55 xnA) (by decide +kernel)) (hts (.initialized xnA) (by decide +kernel)) hsa (ex_hat (fun w hw => hts w (List.mem_cons_of_mem _ (List.mem_append_left _ (List.mem_append_right _ hw)))) exA hTx) exAo hE.1 hE.2 va_S.rf (hl.1.trans hml.symm) dX2_play_11 dX2_play_14 dX2_play_15 dX2_play_17 dX2_play_20 (fun x hx9 => (htab x hx9).elim) (Nat.le_of_ble_eq_true rfl) (Nat.le_of_ble_eq_true rfl) (Nat.le_of_ble_eq_true rfl) (Nat.le_of_ble_eq_true rfl) hlocks (fun t _ h1 h2 => ⟨rfl, h1, h2⟩) (fun z h => by cases h) (Nat.le_refl _) (Nat.le_refl _)
  refine lv_iload_n hx hb dX2_play_0 rfl (lv_at hl 1 rfl) ?_
  refine lv_iconst (v := 1) hx hb dX2_play_1 (by decide) ?_
  refine lv_icmp_lt (tgt := 11) hx hb dX2_play_2 (by decide) (fun _ => fin) (fun c1 => ?_)
  refine lv_iload_n hx hb dX2_play_5 rfl (lv_at hl 1 rfl) ?_
  refine lv_bipush (v := 60) hx hb dX2_play_6 (by decide) ?_
  exact lv_icmp_le (tgt := 21) hx hb dX2_play_8 (by decide) (fun c2 => absurd h (fun h9 => h9.elim c1 (fun h8 => h8 c2))) (fun _ => fin)
set_option maxHeartbeats 4000000 in
set_option maxRecDepth 100000 in
theorem x_X2_play_s (l : Launch) (hl9 : l.stackTraces = false) (D : va_G) (cZ cI : ClassId) (a : Nat) (o : Nat → Nat) (o' : Nat → Nat) (q : Nat → Nat) (κ : CS) (ω : OS) (ω' : OS) (σ : HS) (x : Int32) (h : ¬ (x < 1 ∨ ¬ x ≤ 60)) (ho : ko κ = false) : xM l yX2_play wsX2_play ({ frames := 7, cells := 1, slots := 6, locals := 120 }) (XrP D cZ cI [.ref a, .int x] (pD cZ cI a o o' q κ ω ω' σ)) xnS := by
  refine vx_ofW (cc := cX2_play) (maxL := 3) (ret := (some .int)) (by decide) rfl ?_
  intro p e s m args below meth c s₁ B hml htab hv
  obtain ⟨rfl, hP, hZ, hTx, hE⟩ := hv
  have hx := B.exec
  have hb := B.bytes
  have hr := B.returns
  have hts := atoms_spec (ws := wsX2_play) B.pre
  have hown : s.vm.findClass RX2 = some m.cls := findClass_of_methodNamed B.named
  have hlocks := B.notSynchronized
  have hP : va_P D vwCl (pD cZ cI a o o' q κ ω ω' σ) s.heap := hP
  have hl := lv_entry ([.ref a, .int x]) (n := 3) (Nat.le_of_ble_eq_true rfl)
  rw [lg_entry_eq]
  generalize (lg_sl ([.ref a, .int x]) ++ List.replicate (3 - (lg_sl ([.ref a, .int x])).length) Slot.unset).toArray = ls at hl ⊢
  have hl : lv_has ls 3 [(0, .ref a), (1, .int x)] := hl
  refine lv_iload_n hx hb dX2_play_0 rfl (lv_at hl 1 rfl) ?_
  refine lv_iconst (v := 1) hx hb dX2_play_1 (by decide) ?_
  refine lv_icmp_lt (tgt := 11) hx hb dX2_play_2 (by decide) (fun c1 => absurd (Or.inl c1) h) (fun c1 => ?_)
  refine lv_iload_n hx hb dX2_play_5 rfl (lv_at hl 1 rfl) ?_
  refine lv_bipush (v := 60) hx hb dX2_play_6 (by decide) ?_
  refine lv_icmp_le (tgt := 21) hx hb dX2_play_8 (by decide) (fun c2 => ?_) (fun c2 => absurd (Or.inr c2) h)
  refine lv_aload_n hx hb dX2_play_21 rfl (lv_at hl 0 rfl) ?_
  refine xr_call (vx_runV (As := []) (rest := []) ⟨hx, hb, hml, hown, hts⟩ (x_X2_requireChase l hl9 D cZ cI a o o' q κ ω ω' σ  ho) (cwV 0 hts gX2_play_X2_requireChase rfl rfl rfl (by decide +kernel) ⟨Nat.le_of_ble_eq_true rfl, Nat.le_of_ble_eq_true rfl⟩) ⟨XrP_blind, va_recv hZ.1 hP (ci := 2) (q0 := 0) rfl rfl, XrP_start hP hZ hTx hE⟩ rfl rfl hl.1 rfl (lv_room (Nat.le_of_ble_eq_true rfl)) dX2_play_22 ⟨Nat.le_of_ble_eq_true rfl, Nat.le_of_ble_eq_true rfl⟩) (fun ce q9 H1 hz1 hk1 hce hcv hcl => ?_)
  exact xr_out htab hlocks hz1 hk1 hce hcv hcl (Nat.le_of_ble_eq_true rfl) (Nat.le_of_ble_eq_true rfl)
