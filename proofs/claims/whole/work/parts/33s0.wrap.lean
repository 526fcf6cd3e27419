theorem T_L {ω : OS} {p : Nat} (hL : LK (σd 2) ω) (hp : p < 12) : oT ω p 0 1 = none := (hL.2 p 0 1 hp (by decide) (by decide)).trans (vT_d (by decide) (by decide) (by decide))
/-! ===== the law asks the class: two rooms, begin, play ===== -/
set_option maxHeartbeats 4000000 in
set_option maxRecDepth 100000 in
theorem r_L_addRoom (l : Launch) (D : va_G) (cZ cI cJ : ClassId) (a : Nat) (o o' q : Nat → Nat) (κ : CS) (ω ω' : OS) (n n1 : Nat) (hn1 : n1 = n + 1) (hn : n < 8) (u sz : Nat) (f9 : Nat → Int64) : vx_Met l yL_addRoom wsL_addRoom ({ frames := 6, cells := 0, slots := 0, locals := 160 }) (WjP D cZ cI cJ [.ref a, .int (bI false), .ref u] (pD cZ cI a o o' q κ ω ω' (σd n) ++ [(u, .inl (cJ, 1, .inr (.inl f9)))]) sz) (WrI D (pD cZ cI a o o' q κ (ωd n1 ω) ω' (σd n1) ++ [(u, .inl (cJ, 1, .inr (.inl (vp_updL f9 (nI 0).toNatClampNeg (nI n).toInt64))))]) (va_A (pD cZ cI a o o' q κ ω ω' (σd n) ++ [(u, .inl (cJ, 1, .inr (.inl f9)))]) sz) (nI 0)) (fun _ _ _ => False) 0 0 (va_A (pD cZ cI a o o' q κ ω ω' (σd n) ++ [(u, .inl (cJ, 1, .inr (.inl f9)))]) sz) := by
  refine vx_ofWH (cc := cL_addRoom) (maxL := 4) (ret := (some .int)) (by decide) rfl ?_
  intro p e s m args below meth c s₁ B hml hv
  obtain ⟨rfl, hsz, hP, hZ, hD0⟩ := hv
  have hx := B.exec
  have hb := B.bytes
  have hr := B.returns
  have hts := atoms_spec (ws := wsL_addRoom) B.pre
  have hown : s.vm.findClass RL = some m.cls := findClass_of_methodNamed B.named
  subst hsz
  have hD := hD0.self (sz := s.heap.size)
  generalize hAe : va_A (pD cZ cI a o o' q κ ω ω' (σd n) ++ [(u, .inl (cJ, 1, .inr (.inl f9)))]) s.heap.size = A at hD ⊢
  have hA : ∀ q : Nat, s.heap.size ≤ q → A q := fun q h => by rw [← hAe]; exact Or.inr h
  have hS : va_S A s.heap s.heap [] := va_S.rf
  have hP : va_P D vwCl (pD cZ cI a o o' q κ ω ω' (σd n) ++ [(u, .inl (cJ, 1, .inr (.inl f9)))]) s.heap := hP
  have hl := lv_entry ([.ref a, .int (bI false), .ref u]) (n := 4) (Nat.le_of_ble_eq_true rfl)
  rw [lg_entry_eq]
  generalize (lg_sl ([.ref a, .int (bI false), .ref u]) ++ List.replicate (4 - (lg_sl ([.ref a, .int (bI false), .ref u])).length) Slot.unset).toArray = ls at hl ⊢
  have hl : lv_has ls 4 [(0, .ref a), (1, .int (bI false)), (2, .ref u)] := hl
  refine lv_aload_n hx hb dL_addRoom_0 rfl (lv_at hl 2 rfl) ?_
  refine lv_iconst (v := nI 0) hx hb dL_addRoom_1 (by decide) ?_
  refine lv_aload_n hx hb dL_addRoom_2 rfl (lv_at hl 0 rfl) ?_
  refine lv_iload_n hx hb dL_addRoom_3 rfl (lv_at hl 1 rfl) ?_
  have hPc := hP.sub (ws' := pD cZ cI a o o' q κ ω ω' (σd n)) [0, 1, 2, 3, 4, 5, 6, 7, 8, 9, 10, 11, 12, 13, 14, 15, 16, 17, 18] rfl
  have hDc := hD.sub (ws' := pD cZ cI a o o' q κ ω ω' (σd n)) [0, 1, 2, 3, 4, 5, 6, 7, 8, 9, 10, 11, 12, 13, 14, 15, 16, 17, 18] (by decide) rfl
  have hFc := va_free (wc := pD cZ cI a o o' q κ ω ω' (σd n)) hD hS hA [0, 1, 2, 3, 4, 5, 6, 7, 8, 9, 10, 11, 12, 13, 14, 15, 16, 17, 18] rfl
  refine va_calli (va_runV (As := [.int (bI false)]) (rest := [.int (nI 0), .ref u]) ⟨hx, hb, hml, hown, hts⟩ (c_X2_addRoom l D cZ cI a o o' q κ ω ω' (σd n) s.heap.size false (zOk_d (Nat.le_of_lt hn)) hn) (cwV 1 hts gL_addRoom_X2_addRoom rfl rfl rfl (by decide +kernel) ⟨Nat.le_of_ble_eq_true rfl, Nat.le_of_ble_eq_true rfl⟩) ⟨WrP_blind, va_recv hZ.1 hP (ci := 2) (q0 := 0) rfl rfl, WrP_start hPc hDc hZ.two⟩ rfl rfl hl.1 rfl (lv_room (Nat.le_of_ble_eq_true rfl)) dL_addRoom_4 ⟨Nat.le_of_ble_eq_true rfl, Nat.le_of_ble_eq_true rfl⟩) hS (fun q _ h => hFc q h) hFc (fun r9 un t H1 locs ht hvm hw hB hz1 hk1 hS => ?_)
  obtain ⟨hP1, hD1⟩ := hB
  rw [ht] at hP1
  rw [σd_up, ← hn1] at hP1 hD1
  have hP1 : va_P D vwCl (pD cZ cI a o o' q κ (ωd n1 ω) ω' (σd n1)) H1 := hP1
  have hD1 : va_D _ (pD cZ cI a o o' q κ (ωd n1 ω) ω' (σd n1)) := hD1
  obtain ⟨hP, hD⟩ := va_join (wr := [(u, .inl (cJ, 1, .inr (.inl f9)))]) (w1 := pD cZ cI a o o' q κ (ωd n1 ω) ω' (σd n1)) hP hD [0, 1, 2, 3, 4, 5, 6, 7, 8, 9, 10, 11, 12, 13, 14, 15, 16, 17, 18] [19] rfl rfl (by decide) (by decide) hk1 hFc hP1 hD1
  generalize H1 = H at hP hS ⊢
  obtain rfl : r9 = nI n := hw
  refine lv_i2l (v := (nI n).toInt64) hx hb dL_addRoom_7 rfl ?_
  refine va_last hx hb hZ.1 hP hD hS 0 2 rfl rfl (nI_in (by decide) (by decide)) dL_addRoom_8 (fun H locs hP hD hS => ?_)
  refine lv_goto (tgt := 15) hx hb dL_addRoom_9 (by decide) ?_
  refine lv_iconst (v := nI 0) hx hb dL_addRoom_15 (by decide) ?_
  have hP9 := hP.sub (ws' := pD cZ cI a o o' q κ (ωd n1 ω) ω' (σd n1) ++ [(u, .inl (cJ, 1, .inr (.inl (vp_updL f9 (nI 0).toNatClampNeg (nI n).toInt64))))]) [1, 2, 3, 4, 5, 6, 7, 8, 9, 10, 11, 12, 13, 14, 15, 16, 17, 18, 19, 0] rfl
  have hD9 := hD.sub (ws' := pD cZ cI a o o' q κ (ωd n1 ω) ω' (σd n1) ++ [(u, .inl (cJ, 1, .inr (.inl (vp_updL f9 (nI 0).toNatClampNeg (nI n).toInt64))))]) [1, 2, 3, 4, 5, 6, 7, 8, 9, 10, 11, 12, 13, 14, 15, 16, 17, 18, 19, 0] (by decide) rfl
  exact vx_ret (W.iret (v := nI 0) hx hb hr (fun t ht hW => ⟨⟨_, (), rfl, rfl, by rw [ht]; exact hP9, hD9⟩, hS.F ht⟩) hS.2.2 dL_addRoom_16)
