set_option maxHeartbeats 4000000 in
set_option maxRecDepth 100000 in
theorem c_X2_meanTurns (l : Launch) (D : va_G) (cZ cI : ClassId) (a : Nat) (o : Nat → Nat) (o' : Nat → Nat) (q : Nat → Nat) (κ : CS) (ω : OS) (ω' : OS) (σ : HS)   (hσ : zOk σ) (hnw : kn κ < 2 ^ 30) (hT : tOk ω) : Met l yX2_meanTurns wsX2_meanTurns ({ frames := 4, cells := 0, slots := 0, locals := 89 }) (RdP D cZ cI [.ref a] (pD cZ cI a o o' q κ ω ω' σ)) (vp_Sd (fun r0 => r0 = (if (mtL ω σ (kn κ) 64 0 0 0).1 = 0 then FP.dconst0 else FP.ddiv (FP.i2d (nI (mtL ω σ (kn κ) 64 0 0 0).2)) (FP.i2d (nI (mtL ω σ (kn κ) 64 0 0 0).1))))) 0 0 (fun _ => False) := by
  refine Met.ofW (cc := cX2_meanTurns) (maxL := 5) (ret := (some .double)) (by decide) rfl ?_
  intro p e s m args below meth c s₁ B hml hv
  obtain ⟨rfl, hP, hZ⟩ := hv
  have hx := B.exec
  have hb := B.bytes
  have hr := B.returns
  have hts := atoms_spec (ws := wsX2_meanTurns) B.pre
  have hown : s.vm.findClass RX2 = some m.cls := findClass_of_methodNamed B.named
  have hlocks := B.notSynchronized
  have hP : va_P D vwCl (pD cZ cI a o o' q κ ω ω' σ) s.heap := hP
  have hl := lv_entry ([.ref a]) (n := 5) (Nat.le_of_ble_eq_true rfl)
  rw [lg_entry_eq]
  generalize (lg_sl ([.ref a]) ++ List.replicate (5 - (lg_sl ([.ref a])).length) Slot.unset).toArray = ls at hl ⊢
  have hl : lv_has ls 5 [(0, .ref a)] := hl
  obtain ⟨hσ1, hσ2, hσ3, hσ4, hσ5, hσ6, hσ7⟩ := id hσ
  refine lv_iconst (v := nI 0) hx hb dX2_meanTurns_0 (by decide) ?_
  refine lv_istore_n (lv' := [(1, .int (nI 0)), (0, .ref a)]) hx hb dX2_meanTurns_1 rfl hl (by decide) rfl (fun ls hl => ?_)
  refine lv_iconst (v := nI 0) hx hb dX2_meanTurns_2 (by decide) ?_
  refine lv_istore_n (lv' := [(2, .int (nI 0)), (1, .int (nI 0)), (0, .ref a)]) hx hb dX2_meanTurns_3 rfl hl (by decide) rfl (fun ls hl => ?_)
  refine lv_iconst (v := nI 0) hx hb dX2_meanTurns_4 (by decide) ?_
  refine lv_istore_n (lv' := [(3, .int (nI 0)), (2, .int (nI 0)), (1, .int (nI 0)), (0, .ref a)]) hx hb dX2_meanTurns_5 rfl hl (by decide) rfl (fun ls hl => ?_)
  have loop6 : ∀ (n : Nat) (pr : Nat) (k : Nat) (sm : Nat), 64 + 1 ≤ pr + n → (pr ≤ 64) → (k ≤ pr) → (sm ≤ 768 * pr) → (mtL ω σ (kn κ) (64 - pr) pr k sm = mtL ω σ (kn κ) 64 0 0 0) → ∀ (ls : Array Slot), lv_has ls 5 [(0, .ref a), (1, .int (nI k)), (2, .int (nI sm)), (3, .int (nI pr))] → W p l e (headSpec wsX2_meanTurns ({ frames := 4, cells := 0, slots := 0, locals := 89 })).room s m ([.ref a] : List Value).toArray below meth c s.heap [] 0 0 (MQ below (vp_Sd (fun r0 => r0 = (if (mtL ω σ (kn κ) 64 0 0 0).1 = 0 then FP.dconst0 else FP.ddiv (FP.i2d (nI (mtL ω σ (kn κ) 64 0 0 0).2)) (FP.i2d (nI (mtL ω σ (kn κ) 64 0 0 0).1))))) ([.ref a] : List Value).toArray s 0 0 (fun _ => False)) (F0 m 6 ls []) := by
    intro n
    induction n with
    | zero =>
      intro pr k sm hmeas hpr hk hsm hE ls hl
      exact absurd hmeas (by omega)
    | succ n ih6 =>
      intro pr k sm hmeas hpr hk hsm hE ls hl
      refine lv_iload_n hx hb dX2_meanTurns_6 rfl (lv_at hl 3 rfl) ?_
      refine lv_bipush (v := nI 64) hx hb dX2_meanTurns_7 (by decide) ?_
      refine rv_ge (tgt := 39) hx hb (by omega) (by omega) dX2_meanTurns_9 (by decide) (fun c9_1 => ?_) (fun c9_1 => ?_)
      · skip
        refine lv_iload_n hx hb dX2_meanTurns_39 rfl (lv_at hl 1 rfl) ?_
        refine rv_ifneN (tgt := 47) hx hb (by omega) dX2_meanTurns_40 (by decide) (fun c40_2 => ?_) (fun c40_2 => ?_)
        · skip
          refine lv_iload_n hx hb dX2_meanTurns_47 rfl (lv_at hl 2 rfl) ?_
          refine lv_i2d hx hb dX2_meanTurns_48 ?_
          refine lv_iload_n hx hb dX2_meanTurns_49 rfl (lv_at hl 1 rfl) ?_
          refine lv_i2d hx hb dX2_meanTurns_50 ?_
          refine lv_ddiv hx hb dX2_meanTurns_51 (mean_nan (by omega) (by omega)) ?_
          exact W.dret (v := FP.ddiv (FP.i2d (nI sm)) (FP.i2d (nI k))) hx hb hr (fun t ht hW => ⟨_, rfl, (show FP.ddiv (FP.i2d (nI sm)) (FP.i2d (nI k)) = (if (mtL ω σ (kn κ) 64 0 0 0).1 = 0 then FP.dconst0 else FP.ddiv (FP.i2d (nI (mtL ω σ (kn κ) 64 0 0 0).2)) (FP.i2d (nI (mtL ω σ (kn κ) 64 0 0 0).1))) from by rw [show mtL ω σ (kn κ) 64 0 0 0 = (k, sm) from by rw [← hE, show 64 - pr = 0 by omega]; rfl]; exact (if_neg (by assumption)).symm), ht⟩) (fun q h => absurd h List.not_mem_nil) dX2_meanTurns_52
        · skip
          refine lv_dconst0 hx hb dX2_meanTurns_43 ?_
          refine lv_goto (tgt := 52) hx hb dX2_meanTurns_44 (by decide) ?_
          exact W.dret (v := FP.dconst0) hx hb hr (fun t ht hW => ⟨_, rfl, (show FP.dconst0 = (if (mtL ω σ (kn κ) 64 0 0 0).1 = 0 then FP.dconst0 else FP.ddiv (FP.i2d (nI (mtL ω σ (kn κ) 64 0 0 0).2)) (FP.i2d (nI (mtL ω σ (kn κ) 64 0 0 0).1))) from by rw [show mtL ω σ (kn κ) 64 0 0 0 = (k, sm) from by rw [← hE, show 64 - pr = 0 by omega]; rfl]; exact (if_pos (by assumption)).symm), ht⟩) (fun q h => absurd h List.not_mem_nil) dX2_meanTurns_52
      · skip
        refine lv_aload_n hx hb dX2_meanTurns_12 rfl (lv_at hl 0 rfl) ?_
        refine lv_iload_n hx hb dX2_meanTurns_13 rfl (lv_at hl 3 rfl) ?_
        refine vp_callSi (va_runV (As := [.int (nI pr)]) (rest := []) ⟨hx, hb, hml, hown, hts⟩ (c_X2_turnsOfPair l D cZ cI a o o' q κ ω ω' σ  pr (by first | assumption | omega) (by first | assumption | omega) (by first | assumption | omega)) (cwV 1 hts gX2_meanTurns_X2_turnsOfPair rfl rfl rfl (by decide +kernel) ⟨Nat.le_of_ble_eq_true rfl, Nat.le_of_ble_eq_true rfl⟩) ⟨RdP_blind, va_recv hZ.1 hP (ci := 2) (q0 := 0) rfl rfl, RdP_start (hP.sub (ws' := pD cZ cI a o o' q κ ω ω' σ) [0, 1, 2, 3, 4, 5, 6, 7, 8, 9, 10, 11, 12, 13, 14, 15, 16, 17, 18] rfl) hZ⟩ rfl rfl hl.1 rfl (lv_room (Nat.le_of_ble_eq_true rfl)) dX2_meanTurns_14 ⟨Nat.le_of_ble_eq_true rfl, Nat.le_of_ble_eq_true rfl⟩).run (fun r_3 hr_4 => ?_)
        subst hr_4
        refine rv_top (show _ = iO (tPair ω σ ((kn κ)) pr) from rfl) ?_
        refine lv_istore (lv' := [(4, .int (iO (tPair ω σ ((kn κ)) pr))), (0, .ref a), (1, .int (nI k)), (2, .int (nI sm)), (3, .int (nI pr))]) hx hb dX2_meanTurns_17 hl (by decide) rfl (fun ls hl => ?_)
        refine lv_iload hx hb dX2_meanTurns_19 (lv_at hl 0 rfl) ?_
        refine lv_iconst (v := (-1)) hx hb dX2_meanTurns_21 (by decide) ?_
        refine rv_eqO (tgt := 33) hx hb (fun n9 h9 => Nat.lt_of_le_of_lt (tPair_le hσ hT _ _ n9 h9) (by decide)) dX2_meanTurns_22 (by decide) (fun c22_5 => ?_) (fun c22_5 => ?_)
        · skip
          refine lv_iinc (v := nI (pr + 1)) (lv' := [(3, .int (nI (pr + 1))), (4, .int (iO (tPair ω σ ((kn κ)) pr))), (0, .ref a), (1, .int (nI k)), (2, .int (nI sm))]) hx hb dX2_meanTurns_33 hl (k := 4) rfl (nI_add pr 1) (by decide) rfl (fun ls hl => ?_)
          refine lv_goto (tgt := 6) hx hb dX2_meanTurns_36 (by decide) ?_
          exact ih6 (pr + 1) k sm (by omega) (by omega) (by omega) (by first | omega | (have := tPair_getD hσ hT (kn κ) pr; omega)) (by rw [← hE, show 64 - pr = (64 - (pr + 1)) + 1 by omega, mtL]; first | rw [if_pos (by assumption)] | rw [if_neg (by assumption)]) ls (lv_sub hl [2, 3, 4, 0] rfl)
        · skip
          refine lv_iinc (v := nI (k + 1)) (lv' := [(1, .int (nI (k + 1))), (4, .int (iO (tPair ω σ ((kn κ)) pr))), (0, .ref a), (2, .int (nI sm)), (3, .int (nI pr))]) hx hb dX2_meanTurns_25 hl (k := 2) rfl (nI_add k 1) (by decide) rfl (fun ls hl => ?_)
          refine lv_iload_n hx hb dX2_meanTurns_28 rfl (lv_at hl 3 rfl) ?_
          refine lv_iload hx hb dX2_meanTurns_29 (lv_at hl 1 rfl) ?_
          refine rv_top (show iO (tPair ω σ ((kn κ)) pr) = nI ((tPair ω σ ((kn κ)) pr).getD 0) from iO_getD 0 (by assumption)) ?_
          refine rv_add hx hb dX2_meanTurns_31 ?_
          refine lv_istore_n (lv' := [(2, .int (nI (sm + (tPair ω σ ((kn κ)) pr).getD 0))), (1, .int (nI (k + 1))), (4, .int (iO (tPair ω σ ((kn κ)) pr))), (0, .ref a), (3, .int (nI pr))]) hx hb dX2_meanTurns_32 rfl hl (by decide) rfl (fun ls hl => ?_)
          refine lv_iinc (v := nI (pr + 1)) (lv' := [(3, .int (nI (pr + 1))), (2, .int (nI (sm + (tPair ω σ ((kn κ)) pr).getD 0))), (1, .int (nI (k + 1))), (4, .int (iO (tPair ω σ ((kn κ)) pr))), (0, .ref a)]) hx hb dX2_meanTurns_33 hl (k := 4) rfl (nI_add pr 1) (by decide) rfl (fun ls hl => ?_)
          refine lv_goto (tgt := 6) hx hb dX2_meanTurns_36 (by decide) ?_
          exact ih6 (pr + 1) (k + 1) (sm + (tPair ω σ ((kn κ)) pr).getD 0) (by omega) (by omega) (by omega) (by first | omega | (have := tPair_getD hσ hT (kn κ) pr; omega)) (by rw [← hE, show 64 - pr = (64 - (pr + 1)) + 1 by omega, mtL]; first | rw [if_pos (by assumption)] | rw [if_neg (by assumption)]) ls (lv_sub hl [4, 2, 1, 0] rfl)
  exact loop6 (64 + 1) 0 0 0 (by omega) (by omega) (by omega) (by omega) rfl ls (lv_sub hl [3, 2, 1, 0] rfl)

set_option maxHeartbeats 4000000 in
set_option maxRecDepth 100000 in
theorem c_X2_go (l : Launch) (D : va_G) (cZ cI : ClassId) (a : Nat) (o : Nat → Nat) (o' : Nat → Nat) (q : Nat → Nat) (nw : Nat) (cg : Bool) (ct : Nat) (mo : Nat) (ea : Nat) (ω : OS) (ω' : OS) (σ : HS) (sz : Nat) (r : Nat) (hσ : zOk σ) (hr8 : r < zN σ) (hct : ct < zN σ) (hmo : mo < zN σ) (hnw : nw < 2 ^ 30) (hw : oW ω ((nw + 0) % 12) (whoF nw ct mo) r = true) : Met l yX2_go wsX2_go ({ frames := 3, cells := 0, slots := 0, locals := 62 }) (WrP D cZ cI [.ref a, .int (nI r)] (pD cZ cI a o o' q (nw, true, cg, some ct, some mo, ea) ω ω' σ) sz) (WrI D (pD cZ cI a o o' q (mvK σ nw cg ct mo ea r) ω ω' (zN σ, zM σ, zS σ, mvC σ nw ct mo r, zF σ, zG σ, zP σ, zT σ, zL σ)) (va_A (pD cZ cI a o o' q (nw, true, cg, some ct, some mo, ea) ω ω' σ) sz) (bI (!(ko (mvK σ nw cg ct mo ea r))))) 0 0 (va_A (pD cZ cI a o o' q (nw, true, cg, some ct, some mo, ea) ω ω' σ) sz) := by
  refine Met.ofW (cc := cX2_go) (maxL := 2) (ret := (some .boolean)) (by decide) rfl ?_
  intro p e s m args below meth c s₁ B hml hv
  obtain ⟨rfl, hsz, hP, hZ, hD0⟩ := hv
  have hx := B.exec
  have hb := B.bytes
  have hr := B.returns
  have hts := atoms_spec (ws := wsX2_go) B.pre
  have hown : s.vm.findClass RX2 = some m.cls := findClass_of_methodNamed B.named
  have hlocks := B.notSynchronized
  subst hsz
  have hD := hD0.self (sz := s.heap.size)
  generalize hAe : va_A (pD cZ cI a o o' q (nw, true, cg, some ct, some mo, ea) ω ω' σ) s.heap.size = A at hD ⊢
  have hA : ∀ q : Nat, s.heap.size ≤ q → A q := fun q h => by rw [← hAe]; exact Or.inr h
  have hS : va_S A s.heap s.heap [] := va_S.rf
  have hP : va_P D vwCl (pD cZ cI a o o' q (nw, true, cg, some ct, some mo, ea) ω ω' σ) s.heap := hP
  have hl := lv_entry ([.ref a, .int (nI r)]) (n := 2) (Nat.le_of_ble_eq_true rfl)
  rw [lg_entry_eq]
  generalize (lg_sl ([.ref a, .int (nI r)]) ++ List.replicate (2 - (lg_sl ([.ref a, .int (nI r)])).length) Slot.unset).toArray = ls at hl ⊢
  have hl : lv_has ls 2 [(0, .ref a), (1, .int (nI r))] := hl
  have hin2 : ∀ w ∈ u_ws RX2 TX2 9, w ∈ wsX2_go := by decide +kernel
  have hf19 := hts (.fieldLink RX2 19 "DoorChase" "outlook" "LDoorChase$Outlook;") (by decide +kernel)
  have hf107 := hts (.fieldLink RX2 107 "DoorChase" "isGoingOn" "Z") (by decide +kernel)
  obtain ⟨hσ1, hσ2, hσ3, hσ4, hσ5, hσ6, hσ7⟩ := id hσ
  refine lv_aload_n hx hb dX2_go_0 rfl (lv_at hl 0 rfl) ?_
  refine lv_iload_n hx hb dX2_go_1 rfl (lv_at hl 1 rfl) ?_
  refine va_csv (va_runV (As := [.int (nI r)]) (rest := []) ⟨hx, hb, hml, hown, hts⟩ (c_X2_requireRoom l D cZ cI a o o' q (nw, true, cg, some ct, some mo, ea) ω ω' σ  r (by first | assumption | omega) (by first | assumption | omega)) (cwV 1 hts gX2_go_X2_requireRoom rfl rfl rfl (by decide +kernel) ⟨Nat.le_of_ble_eq_true rfl, Nat.le_of_ble_eq_true rfl⟩) ⟨RdP_blind, va_recv hZ.1 hP (ci := 2) (q0 := 0) rfl rfl, RdP_start (hP.sub (ws' := pD cZ cI a o o' q (nw, true, cg, some ct, some mo, ea) ω ω' σ) [0, 1, 2, 3, 4, 5, 6, 7, 8, 9, 10, 11, 12, 13, 14, 15, 16, 17, 18] rfl) hZ⟩ rfl rfl hl.1 rfl (lv_room (Nat.le_of_ble_eq_true rfl)) dX2_go_2 ⟨Nat.le_of_ble_eq_true rfl, Nat.le_of_ble_eq_true rfl⟩).run (fun _ => ?_)
  refine lv_aload_n hx hb dX2_go_5 rfl (lv_at hl 0 rfl) ?_
  refine va_csv (va_runV (As := []) (rest := []) ⟨hx, hb, hml, hown, hts⟩ (c_X2_requireChase l D cZ cI a o o' q nw cg ct mo ea ω ω' σ   ) (cwV 0 hts gX2_go_X2_requireChase rfl rfl rfl (by decide +kernel) ⟨Nat.le_of_ble_eq_true rfl, Nat.le_of_ble_eq_true rfl⟩) ⟨RdP_blind, va_recv hZ.1 hP (ci := 2) (q0 := 0) rfl rfl, RdP_start (hP.sub (ws' := pD cZ cI a o o' q (nw, true, cg, some ct, some mo, ea) ω ω' σ) [0, 1, 2, 3, 4, 5, 6, 7, 8, 9, 10, 11, 12, 13, 14, 15, 16, 17, 18] rfl) hZ⟩ rfl rfl hl.1 rfl (lv_room (Nat.le_of_ble_eq_true rfl)) dX2_go_6 ⟨Nat.le_of_ble_eq_true rfl, Nat.le_of_ble_eq_true rfl⟩).run (fun _ => ?_)
  refine lv_aload_n hx hb dX2_go_9 rfl (lv_at hl 0 rfl) ?_
  refine va_get (D := D) (ci := 2) (v := .ref (o 0)) (C := RX2) (T := TX2) (N := 9) hx hb hts hin2 hown hZ.1 hP 0 rfl rfl 1 (by decide) hf19 (fun _ h9 => h9) rfl dX2_go_10 ?_
  refine lv_aload_n hx hb dX2_go_13 rfl (lv_at hl 0 rfl) ?_
  refine lv_iconst (v := nI 0) hx hb dX2_go_14 (by decide) ?_
  refine vp_callSi (va_runV (As := [.int (nI 0)]) (rest := [.ref (o 0)]) ⟨hx, hb, hml, hown, hts⟩ (c_X2_phaseAfter l D cZ cI a o o' q (nw, true, cg, some ct, some mo, ea) ω ω' σ  0 (by first | assumption | omega) (by first | assumption | omega)) (cwV 1 hts gX2_go_X2_phaseAfter rfl rfl rfl (by decide +kernel) ⟨Nat.le_of_ble_eq_true rfl, Nat.le_of_ble_eq_true rfl⟩) ⟨RdP_blind, va_recv hZ.1 hP (ci := 2) (q0 := 0) rfl rfl, RdP_start (hP.sub (ws' := pD cZ cI a o o' q (nw, true, cg, some ct, some mo, ea) ω ω' σ) [0, 1, 2, 3, 4, 5, 6, 7, 8, 9, 10, 11, 12, 13, 14, 15, 16, 17, 18] rfl) hZ⟩ rfl rfl hl.1 rfl (lv_room (Nat.le_of_ble_eq_true rfl)) dX2_go_15 ⟨Nat.le_of_ble_eq_true rfl, Nat.le_of_ble_eq_true rfl⟩).run (fun r_5 hr_6 => ?_)
  subst hr_6
  refine rv_top (show _ = nI ((nw + 0) % 12) from rfl) ?_
  refine lv_aload_n hx hb dX2_go_18 rfl (lv_at hl 0 rfl) ?_
  refine vp_callSi (va_runV (As := []) (rest := [.int (nI ((nw + 0) % 12)), .ref (o 0)]) ⟨hx, hb, hml, hown, hts⟩ (c_X2_whoGoesIn l D cZ cI a o o' q nw cg ct mo ea ω ω' σ   (by first | assumption | omega)) (cwV 0 hts gX2_go_X2_whoGoesIn rfl rfl rfl (by decide +kernel) ⟨Nat.le_of_ble_eq_true rfl, Nat.le_of_ble_eq_true rfl⟩) ⟨RdP_blind, va_recv hZ.1 hP (ci := 2) (q0 := 0) rfl rfl, RdP_start (hP.sub (ws' := pD cZ cI a o o' q (nw, true, cg, some ct, some mo, ea) ω ω' σ) [0, 1, 2, 3, 4, 5, 6, 7, 8, 9, 10, 11, 12, 13, 14, 15, 16, 17, 18] rfl) hZ⟩ rfl rfl hl.1 rfl (lv_room (Nat.le_of_ble_eq_true rfl)) dX2_go_19 ⟨Nat.le_of_ble_eq_true rfl, Nat.le_of_ble_eq_true rfl⟩).run (fun r_7 hr_8 => ?_)
  subst hr_8
  refine rv_top (show _ = nI (whoF nw ct mo) from rfl) ?_
  refine lv_iload_n hx hb dX2_go_22 rfl (lv_at hl 1 rfl) ?_
  refine vp_callSi (va_runV (As := [.int (nI ((nw + 0) % 12)), .int (nI (whoF nw ct mo)), .int (nI r)]) (rest := []) ⟨hx, hb, hml, hown, hts⟩ (c_X1_canGo l D cZ cI o q ω σ  ((nw + 0) % 12) (whoF nw ct mo) r (by first | assumption | omega) (whoF_lt (by omega) (by omega)) (by first | assumption | omega)) (cwV 3 hts gX2_go_X1_canGo rfl rfl rfl (by decide +kernel) ⟨Nat.le_of_ble_eq_true rfl, Nat.le_of_ble_eq_true rfl⟩) ⟨RdP_blind, va_recv hZ.1 hP (ci := 1) (q0 := 1) rfl rfl, RdP_start (hP.sub (ws' := pO cZ cI o q ω σ) [1, 2, 3, 4, 5, 11, 12, 13, 14, 15, 16, 17, 18] rfl) hZ⟩ rfl rfl hl.1 rfl (lv_room (Nat.le_of_ble_eq_true rfl)) dX2_go_23 ⟨Nat.le_of_ble_eq_true rfl, Nat.le_of_ble_eq_true rfl⟩).run (fun r_9 hr_10 => ?_)
  subst hr_10
  refine rv_top (show _ = bI ((oW ω) ((nw + 0) % 12) (whoF nw ct mo) r) from rfl) ?_
  refine rv_ifneB (tgt := 39) hx hb dX2_go_26 (by decide) (fun c26_11 => ?_) (fun c26_11 => ?_)
  · skip
    refine lv_aload_n hx hb dX2_go_39 rfl (lv_at hl 0 rfl) ?_
    refine lv_iload_n hx hb dX2_go_40 rfl (lv_at hl 1 rfl) ?_
    have hFc := va_free (wc := pD cZ cI a o o' q (nw, true, cg, some ct, some mo, ea) ω ω' σ) hD hS hA [0, 1, 2, 3, 4, 5, 6, 7, 8, 9, 10, 11, 12, 13, 14, 15, 16, 17, 18] rfl
    refine va_callv (va_runV (As := [.int (nI r)]) (rest := []) ⟨hx, hb, hml, hown, hts⟩ (c_X2_moveTo l D cZ cI a o o' q nw cg ct mo ea ω ω' σ s.heap.size r (by first | assumption | omega) (by first | assumption | omega) (by first | assumption | omega) (by first | assumption | omega) (by first | assumption | omega)) (cwV 1 hts gX2_go_X2_moveTo rfl rfl rfl (by decide +kernel) ⟨Nat.le_of_ble_eq_true rfl, Nat.le_of_ble_eq_true rfl⟩) ⟨WrP_blind, va_recv hZ.1 hP (ci := 2) (q0 := 0) rfl rfl, WrP_start hP hD hZ⟩ rfl rfl hl.1 rfl (lv_room (Nat.le_of_ble_eq_true rfl)) dX2_go_41 ⟨Nat.le_of_ble_eq_true rfl, Nat.le_of_ble_eq_true rfl⟩) hS (fun q _ h => hFc q h) hFc (fun u t H1 locs ht hvm hw hB hz1 hk1 hS => ?_)
    obtain ⟨hP, hD⟩ := hB
    rw [ht] at hP
    replace hD := hD.weaken (fun _ _ _ h => hFc _ h)
    generalize H1 = H at hP hS ⊢
    have hP : va_P D vwCl (pD cZ cI a o o' q (mvK σ nw cg ct mo ea r) ω ω' (zN σ, zM σ, zS σ, mvC σ nw ct mo r, zF σ, zG σ, zP σ, zT σ, zL σ)) H := hP
    have hD : va_D A (pD cZ cI a o o' q (mvK σ nw cg ct mo ea r) ω ω' (zN σ, zM σ, zS σ, mvC σ nw ct mo r, zF σ, zG σ, zP σ, zT σ, zL σ)) := hD
    refine lv_aload_n hx hb dX2_go_44 rfl (lv_at hl 0 rfl) ?_
    refine va_get (D := D) (ci := 2) (v := .int (bI (ko (mvK σ nw cg ct mo ea r)))) (C := RX2) (T := TX2) (N := 9) hx hb hts hin2 hown hZ.1 hP 0 rfl rfl 4 (by decide) hf107 (fun _ h9 => h9) rfl dX2_go_45 ?_
    refine rv_ifneB (tgt := 55) hx hb dX2_go_48 (by decide) (fun c48_12 => ?_) (fun c48_12 => ?_)
    · skip
      refine lv_iconst (v := nI 0) hx hb dX2_go_55 (by decide) ?_
      have hP9 : va_P D vwCl (pD cZ cI a o o' q (mvK σ nw cg ct mo ea r) ω ω' (zN σ, zM σ, zS σ, mvC σ nw ct mo r, zF σ, zG σ, zP σ, zT σ, zL σ)) H := by exact hP
      have hD9 : va_D A (pD cZ cI a o o' q (mvK σ nw cg ct mo ea r) ω ω' (zN σ, zM σ, zS σ, mvC σ nw ct mo r, zF σ, zG σ, zP σ, zT σ, zL σ)) := by exact hD
      exact W.zret (v := nI 0) hx hb hr rfl (fun t ht hW => ⟨⟨_, (), rfl, (show nI 0 = bI (!(ko (mvK σ nw cg ct mo ea r))) from by rw [show ko (mvK σ nw cg ct mo ea r) = true by assumption]; rfl), by rw [ht]; exact hP9, hD9⟩, hS.F ht⟩) hS.2.2 dX2_go_56
    · skip
      refine lv_iconst (v := nI 1) hx hb dX2_go_51 (by decide) ?_
      refine lv_goto (tgt := 56) hx hb dX2_go_52 (by decide) ?_
      have hP9 : va_P D vwCl (pD cZ cI a o o' q (mvK σ nw cg ct mo ea r) ω ω' (zN σ, zM σ, zS σ, mvC σ nw ct mo r, zF σ, zG σ, zP σ, zT σ, zL σ)) H := by exact hP
      have hD9 : va_D A (pD cZ cI a o o' q (mvK σ nw cg ct mo ea r) ω ω' (zN σ, zM σ, zS σ, mvC σ nw ct mo r, zF σ, zG σ, zP σ, zT σ, zL σ)) := by exact hD
      exact W.zret (v := nI 1) hx hb hr rfl (fun t ht hW => ⟨⟨_, (), rfl, (show nI 1 = bI (!(ko (mvK σ nw cg ct mo ea r))) from by rw [show ko (mvK σ nw cg ct mo ea r) = false by assumption]; rfl), by rw [ht]; exact hP9, hD9⟩, hS.F ht⟩) hS.2.2 dX2_go_56
  · skip
    exact Bool.noConfusion (hw.symm.trans c26_11)

set_option maxHeartbeats 4000000 in
set_option maxRecDepth 100000 in
theorem c_X2_play (l : Launch) (D : va_G) (cZ cI : ClassId) (a : Nat) (o : Nat → Nat) (o' : Nat → Nat) (q : Nat → Nat) (nw : Nat) (cg : Bool) (ct : Nat) (mo : Nat) (ea : Nat) (ω : OS) (ω' : OS) (σ : HS) (sz : Nat) (mst : Nat) (hσ : zOk σ) (hct : ct < zN σ) (hmo : mo < zN σ) (hnw : nw + 60 < 2 ^ 30) (hm1 : 1 ≤ mst) (hm60 : mst ≤ 60) (hT : tOk ω) : Met l yX2_play wsX2_play ({ frames := 5, cells := 0, slots := 0, locals := 114 }) (WrP D cZ cI [.ref a, .int (nI mst)] (pD cZ cI a o o' q (nw, true, cg, some ct, some mo, ea) ω ω' σ) sz) (WrI D (pD cZ cI a o o' q ((plL σ ω mst 0 (nw, true, cg, some ct, some mo, ea) (zC σ)).2.1) ω ω' (zN σ, zM σ, zS σ, (plL σ ω mst 0 (nw, true, cg, some ct, some mo, ea) (zC σ)).2.2, zF σ, zG σ, zP σ, zT σ, zL σ)) (va_A (pD cZ cI a o o' q (nw, true, cg, some ct, some mo, ea) ω ω' σ) sz) (nI ((plL σ ω mst 0 (nw, true, cg, some ct, some mo, ea) (zC σ)).1))) 0 0 (va_A (pD cZ cI a o o' q (nw, true, cg, some ct, some mo, ea) ω ω' σ) sz) := by
  refine Met.ofW (cc := cX2_play) (maxL := 3) (ret := (some .int)) (by decide) rfl ?_
  intro p e s m args below meth c s₁ B hml hv
  obtain ⟨rfl, hsz, hP, hZ, hD0⟩ := hv
  have hx := B.exec
  have hb := B.bytes
  have hr := B.returns
  have hts := atoms_spec (ws := wsX2_play) B.pre
  have hown : s.vm.findClass RX2 = some m.cls := findClass_of_methodNamed B.named
  have hlocks := B.notSynchronized
  subst hsz
  have hD := hD0.self (sz := s.heap.size)
  generalize hAe : va_A (pD cZ cI a o o' q (nw, true, cg, some ct, some mo, ea) ω ω' σ) s.heap.size = A at hD ⊢
  have hA : ∀ q : Nat, s.heap.size ≤ q → A q := fun q h => by rw [← hAe]; exact Or.inr h
  have hS : va_S A s.heap s.heap [] := va_S.rf
  have hP : va_P D vwCl (pD cZ cI a o o' q (nw, true, cg, some ct, some mo, ea) ω ω' σ) s.heap := hP
  have hl := lv_entry ([.ref a, .int (nI mst)]) (n := 3) (Nat.le_of_ble_eq_true rfl)
  rw [lg_entry_eq]
  generalize (lg_sl ([.ref a, .int (nI mst)]) ++ List.replicate (3 - (lg_sl ([.ref a, .int (nI mst)])).length) Slot.unset).toArray = ls at hl ⊢
  have hl : lv_has ls 3 [(0, .ref a), (1, .int (nI mst))] := hl
  have hin2 : ∀ w ∈ u_ws RX2 TX2 9, w ∈ wsX2_play := by decide +kernel
  have hf107 := hts (.fieldLink RX2 107 "DoorChase" "isGoingOn" "Z") (by decide +kernel)
  obtain ⟨hσ1, hσ2, hσ3, hσ4, hσ5, hσ6, hσ7⟩ := id hσ
  refine lv_iload_n hx hb dX2_play_0 rfl (lv_at hl 1 rfl) ?_
  refine lv_iconst (v := nI 1) hx hb dX2_play_1 (by decide) ?_
  refine rv_lt (tgt := 11) hx hb (by omega) (by omega) dX2_play_2 (by decide) (fun c2_1 => ?_) (fun c2_1 => ?_)
  · skip
    exfalso; omega
  · skip
    refine lv_iload_n hx hb dX2_play_5 rfl (lv_at hl 1 rfl) ?_
    refine lv_bipush (v := nI 60) hx hb dX2_play_6 (by decide) ?_
    refine rv_le (tgt := 21) hx hb (by omega) (by omega) dX2_play_8 (by decide) (fun c8_2 => ?_) (fun c8_2 => ?_)
    · skip
      refine lv_aload_n hx hb dX2_play_21 rfl (lv_at hl 0 rfl) ?_
      refine va_csv (va_runV (As := []) (rest := []) ⟨hx, hb, hml, hown, hts⟩ (c_X2_requireChase l D cZ cI a o o' q nw cg ct mo ea ω ω' σ   ) (cwV 0 hts gX2_play_X2_requireChase rfl rfl rfl (by decide +kernel) ⟨Nat.le_of_ble_eq_true rfl, Nat.le_of_ble_eq_true rfl⟩) ⟨RdP_blind, va_recv hZ.1 hP (ci := 2) (q0 := 0) rfl rfl, RdP_start (hP.sub (ws' := pD cZ cI a o o' q (nw, true, cg, some ct, some mo, ea) ω ω' σ) [0, 1, 2, 3, 4, 5, 6, 7, 8, 9, 10, 11, 12, 13, 14, 15, 16, 17, 18] rfl) hZ⟩ rfl rfl hl.1 rfl (lv_room (Nat.le_of_ble_eq_true rfl)) dX2_play_22 ⟨Nat.le_of_ble_eq_true rfl, Nat.le_of_ble_eq_true rfl⟩).run (fun _ => ?_)
      refine lv_iconst (v := nI 0) hx hb dX2_play_25 (by decide) ?_
      refine lv_istore_n (lv' := [(2, .int (nI 0)), (0, .ref a), (1, .int (nI mst))]) hx hb dX2_play_26 rfl hl (by decide) rfl (fun ls hl => ?_)
      have loop27 : ∀ (n : Nat) (k : Nat) (κ9 : CS) (C9 : Nat → Nat), mst + 1 ≤ k + n → (k ≤ mst) → (kOk σ κ9) → (∀ x, C9 x ≤ 9) → (kn κ9 + (mst - k) < 2 ^ 30) → (plL σ ω (mst - k) k κ9 C9 = plL σ ω mst 0 (nw, true, cg, some ct, some mo, ea) (zC σ)) → ∀ (H : Heap) (locs : List Loc), va_P D vwCl (pD cZ cI a o o' q κ9 ω ω' (zN σ, zM σ, zS σ, C9, zF σ, zG σ, zP σ, zT σ, zL σ)) H → va_D A (pD cZ cI a o o' q κ9 ω ω' (zN σ, zM σ, zS σ, C9, zF σ, zG σ, zP σ, zT σ, zL σ)) → va_S A s.heap H locs → ∀ (ls : Array Slot), lv_has ls 3 [(0, .ref a), (1, .int (nI mst)), (2, .int (nI k))] → W p l e (headSpec wsX2_play ({ frames := 5, cells := 0, slots := 0, locals := 114 })).room s m ([.ref a, .int (nI mst)] : List Value).toArray below meth c H locs 0 0 (MQ below (WrI D (pD cZ cI a o o' q ((plL σ ω mst 0 (nw, true, cg, some ct, some mo, ea) (zC σ)).2.1) ω ω' (zN σ, zM σ, zS σ, (plL σ ω mst 0 (nw, true, cg, some ct, some mo, ea) (zC σ)).2.2, zF σ, zG σ, zP σ, zT σ, zL σ)) A (nI ((plL σ ω mst 0 (nw, true, cg, some ct, some mo, ea) (zC σ)).1))) ([.ref a, .int (nI mst)] : List Value).toArray s 0 0 A) (F0 m 27 ls []) := by
        intro n
        induction n with
        | zero =>
          intro k κ9 C9 hmeas hk hok hC9 hn9 hE H locs hP hD hS ls hl
          exact absurd hmeas (by omega)
        | succ n ih27 =>
          intro k κ9 C9 hmeas hk hok hC9 hn9 hE H locs hP hD hS ls hl
          refine lv_iload_n hx hb dX2_play_27 rfl (lv_at hl 2 rfl) ?_
          refine lv_iload_n hx hb dX2_play_28 rfl (lv_at hl 1 rfl) ?_
          refine rv_ge (tgt := 53) hx hb (by omega) (by omega) dX2_play_29 (by decide) (fun c29_5 => ?_) (fun c29_5 => ?_)
          · skip
            refine lv_iload_n hx hb dX2_play_53 rfl (lv_at hl 2 rfl) ?_
            have hP9 : va_P D vwCl (pD cZ cI a o o' q ((plL σ ω mst 0 (nw, true, cg, some ct, some mo, ea) (zC σ)).2.1) ω ω' (zN σ, zM σ, zS σ, (plL σ ω mst 0 (nw, true, cg, some ct, some mo, ea) (zC σ)).2.2, zF σ, zG σ, zP σ, zT σ, zL σ)) H := by (rw [show plL σ ω mst 0 (nw, true, cg, some ct, some mo, ea) (zC σ) = (k, κ9, C9) from by rw [← hE]; first | (rw [show mst - k = 0 by omega]; rfl) | (rw [show mst - k = (mst - (k + 1)) + 1 by omega, plL, if_neg (nt (by assumption))])]; exact hP)
            have hD9 : va_D A (pD cZ cI a o o' q ((plL σ ω mst 0 (nw, true, cg, some ct, some mo, ea) (zC σ)).2.1) ω ω' (zN σ, zM σ, zS σ, (plL σ ω mst 0 (nw, true, cg, some ct, some mo, ea) (zC σ)).2.2, zF σ, zG σ, zP σ, zT σ, zL σ)) := by (rw [show plL σ ω mst 0 (nw, true, cg, some ct, some mo, ea) (zC σ) = (k, κ9, C9) from by rw [← hE]; first | (rw [show mst - k = 0 by omega]; rfl) | (rw [show mst - k = (mst - (k + 1)) + 1 by omega, plL, if_neg (nt (by assumption))])]; exact hD)
            exact W.iret (v := nI k) hx hb hr (fun t ht hW => ⟨⟨_, (), rfl, (show nI k = nI ((plL σ ω mst 0 (nw, true, cg, some ct, some mo, ea) (zC σ)).1) from by rw [show plL σ ω mst 0 (nw, true, cg, some ct, some mo, ea) (zC σ) = (k, κ9, C9) from by rw [← hE]; first | (rw [show mst - k = 0 by omega]; rfl) | (rw [show mst - k = (mst - (k + 1)) + 1 by omega, plL, if_neg (nt (by assumption))])]), by rw [ht]; exact hP9, hD9⟩, hS.F ht⟩) hS.2.2 dX2_play_54
          · skip
            refine lv_aload_n hx hb dX2_play_32 rfl (lv_at hl 0 rfl) ?_
            refine va_get (D := D) (ci := 2) (v := .int (bI (ko κ9))) (C := RX2) (T := TX2) (N := 9) hx hb hts hin2 hown hZ.1 hP 0 rfl rfl 4 (by decide) hf107 (fun _ h9 => h9) rfl dX2_play_33 ?_
            refine rv_ifeqB (tgt := 53) hx hb dX2_play_36 (by decide) (fun c36_6 => ?_) (fun c36_6 => ?_)
            · skip
              refine lv_iload_n hx hb dX2_play_53 rfl (lv_at hl 2 rfl) ?_
              have hP9 : va_P D vwCl (pD cZ cI a o o' q ((plL σ ω mst 0 (nw, true, cg, some ct, some mo, ea) (zC σ)).2.1) ω ω' (zN σ, zM σ, zS σ, (plL σ ω mst 0 (nw, true, cg, some ct, some mo, ea) (zC σ)).2.2, zF σ, zG σ, zP σ, zT σ, zL σ)) H := by (rw [show plL σ ω mst 0 (nw, true, cg, some ct, some mo, ea) (zC σ) = (k, κ9, C9) from by rw [← hE]; first | (rw [show mst - k = 0 by omega]; rfl) | (rw [show mst - k = (mst - (k + 1)) + 1 by omega, plL, if_neg (nt (by assumption))])]; exact hP)
              have hD9 : va_D A (pD cZ cI a o o' q ((plL σ ω mst 0 (nw, true, cg, some ct, some mo, ea) (zC σ)).2.1) ω ω' (zN σ, zM σ, zS σ, (plL σ ω mst 0 (nw, true, cg, some ct, some mo, ea) (zC σ)).2.2, zF σ, zG σ, zP σ, zT σ, zL σ)) := by (rw [show plL σ ω mst 0 (nw, true, cg, some ct, some mo, ea) (zC σ) = (k, κ9, C9) from by rw [← hE]; first | (rw [show mst - k = 0 by omega]; rfl) | (rw [show mst - k = (mst - (k + 1)) + 1 by omega, plL, if_neg (nt (by assumption))])]; exact hD)
              exact W.iret (v := nI k) hx hb hr (fun t ht hW => ⟨⟨_, (), rfl, (show nI k = nI ((plL σ ω mst 0 (nw, true, cg, some ct, some mo, ea) (zC σ)).1) from by rw [show plL σ ω mst 0 (nw, true, cg, some ct, some mo, ea) (zC σ) = (k, κ9, C9) from by rw [← hE]; first | (rw [show mst - k = 0 by omega]; rfl) | (rw [show mst - k = (mst - (k + 1)) + 1 by omega, plL, if_neg (nt (by assumption))])]), by rw [ht]; exact hP9, hD9⟩, hS.F ht⟩) hS.2.2 dX2_play_54
            · skip
              obtain ⟨nw1, cg1, ct1, mo1, ea1, rfl, hct1, hmo1⟩ := kOn_ex hok c36_6
              have hnw1 : nw1 + (mst - k) < 2 ^ 30 := hn9
              have hP : va_P D vwCl (pD cZ cI a o o' q (nw1, true, cg1, some ct1, some mo1, ea1) ω ω' (zN σ, zM σ, zS σ, C9, zF σ, zG σ, zP σ, zT σ, zL σ)) H := hP
              have hD : va_D A (pD cZ cI a o o' q (nw1, true, cg1, some ct1, some mo1, ea1) ω ω' (zN σ, zM σ, zS σ, C9, zF σ, zG σ, zP σ, zT σ, zL σ)) := hD
              refine lv_aload_n hx hb dX2_play_39 rfl (lv_at hl 0 rfl) ?_
              refine lv_aload_n hx hb dX2_play_40 rfl (lv_at hl 0 rfl) ?_
              refine vp_callSi (va_runV (As := []) (rest := [.ref a]) ⟨hx, hb, hml, hown, hts⟩ (c_X2_bestGo l D cZ cI a o o' q nw1 cg1 ct1 mo1 ea1 ω ω' (zN σ, zM σ, zS σ, C9, zF σ, zG σ, zP σ, zT σ, zL σ)   (zOk_C hσ hC9) hct1 hmo1 (by omega) hT) (cwV 0 hts gX2_play_X2_bestGo rfl rfl rfl (by decide +kernel) ⟨Nat.le_of_ble_eq_true rfl, Nat.le_of_ble_eq_true rfl⟩) ⟨RdP_blind, va_recv hZ.1 hP (ci := 2) (q0 := 0) rfl rfl, RdP_start (hP.sub (ws' := pD cZ cI a o o' q (nw1, true, cg1, some ct1, some mo1, ea1) ω ω' (zN σ, zM σ, zS σ, C9, zF σ, zG σ, zP σ, zT σ, zL σ)) [0, 1, 2, 3, 4, 5, 6, 7, 8, 9, 10, 11, 12, 13, 14, 15, 16, 17, 18] rfl) hZ⟩ rfl rfl hl.1 rfl (lv_room (Nat.le_of_ble_eq_true rfl)) dX2_play_41 ⟨Nat.le_of_ble_eq_true rfl, Nat.le_of_ble_eq_true rfl⟩).run (fun r_7 hr_8 => ?_)
              subst hr_8
              refine rv_top (show _ = nI (bestF ((oW ω)) ((oT ω)) (zN σ, zM σ, zS σ, C9, zF σ, zG σ, zP σ, zT σ, zL σ) nw1 ct1 mo1) from rfl) ?_
              have hFc := va_free (wc := pD cZ cI a o o' q (nw1, true, cg1, some ct1, some mo1, ea1) ω ω' (zN σ, zM σ, zS σ, C9, zF σ, zG σ, zP σ, zT σ, zL σ)) hD hS hA [0, 1, 2, 3, 4, 5, 6, 7, 8, 9, 10, 11, 12, 13, 14, 15, 16, 17, 18] rfl
              refine va_callv (va_runV (As := [.int (nI (bestF ((oW ω)) ((oT ω)) (zN σ, zM σ, zS σ, C9, zF σ, zG σ, zP σ, zT σ, zL σ) nw1 ct1 mo1))]) (rest := []) ⟨hx, hb, hml, hown, hts⟩ (c_X2_moveTo l D cZ cI a o o' q nw1 cg1 ct1 mo1 ea1 ω ω' (zN σ, zM σ, zS σ, C9, zF σ, zG σ, zP σ, zT σ, zL σ) H.size (bestF ((oW ω)) ((oT ω)) (zN σ, zM σ, zS σ, C9, zF σ, zG σ, zP σ, zT σ, zL σ) nw1 ct1 mo1) (zOk_C hσ hC9) (bestF_lt hct1 hmo1) hct1 hmo1 (by omega)) (cwV 1 hts gX2_play_X2_moveTo rfl rfl rfl (by decide +kernel) ⟨Nat.le_of_ble_eq_true rfl, Nat.le_of_ble_eq_true rfl⟩) ⟨WrP_blind, va_recv hZ.1 hP (ci := 2) (q0 := 0) rfl rfl, WrP_start hP hD hZ⟩ rfl rfl hl.1 rfl (lv_room (Nat.le_of_ble_eq_true rfl)) dX2_play_44 ⟨Nat.le_of_ble_eq_true rfl, Nat.le_of_ble_eq_true rfl⟩) hS (fun q _ h => hFc q h) hFc (fun u t H1 locs ht hvm hw hB hz1 hk1 hS => ?_)
              obtain ⟨hP, hD⟩ := hB
              rw [ht] at hP
              replace hD := hD.weaken (fun _ _ _ h => hFc _ h)
              generalize H1 = H at hP hS ⊢
              have hP : va_P D vwCl (pD cZ cI a o o' q (mvK (zN σ, zM σ, zS σ, C9, zF σ, zG σ, zP σ, zT σ, zL σ) nw1 cg1 ct1 mo1 ea1 (bestF ((oW ω)) ((oT ω)) (zN σ, zM σ, zS σ, C9, zF σ, zG σ, zP σ, zT σ, zL σ) nw1 ct1 mo1)) ω ω' (zN σ, zM σ, zS σ, mvC (zN σ, zM σ, zS σ, C9, zF σ, zG σ, zP σ, zT σ, zL σ) nw1 ct1 mo1 (bestF ((oW ω)) ((oT ω)) (zN σ, zM σ, zS σ, C9, zF σ, zG σ, zP σ, zT σ, zL σ) nw1 ct1 mo1), zF σ, zG σ, zP σ, zT σ, zL σ)) H := hP
              have hD : va_D A (pD cZ cI a o o' q (mvK (zN σ, zM σ, zS σ, C9, zF σ, zG σ, zP σ, zT σ, zL σ) nw1 cg1 ct1 mo1 ea1 (bestF ((oW ω)) ((oT ω)) (zN σ, zM σ, zS σ, C9, zF σ, zG σ, zP σ, zT σ, zL σ) nw1 ct1 mo1)) ω ω' (zN σ, zM σ, zS σ, mvC (zN σ, zM σ, zS σ, C9, zF σ, zG σ, zP σ, zT σ, zL σ) nw1 ct1 mo1 (bestF ((oW ω)) ((oT ω)) (zN σ, zM σ, zS σ, C9, zF σ, zG σ, zP σ, zT σ, zL σ) nw1 ct1 mo1), zF σ, zG σ, zP σ, zT σ, zL σ)) := hD
              refine lv_iinc (v := nI (k + 1)) (lv' := [(2, .int (nI (k + 1))), (0, .ref a), (1, .int (nI mst))]) hx hb dX2_play_47 hl (k := 2) rfl (nI_add k 1) (by decide) rfl (fun ls hl => ?_)
              refine lv_goto (tgt := 27) hx hb dX2_play_50 (by decide) ?_
              exact ih27 (k + 1) (mvK (zN σ, zM σ, zS σ, C9, zF σ, zG σ, zP σ, zT σ, zL σ) nw1 cg1 ct1 mo1 ea1 (bestF ((oW ω)) ((oT ω)) (zN σ, zM σ, zS σ, C9, zF σ, zG σ, zP σ, zT σ, zL σ) nw1 ct1 mo1)) (mvC (zN σ, zM σ, zS σ, C9, zF σ, zG σ, zP σ, zT σ, zL σ) nw1 ct1 mo1 (bestF ((oW ω)) ((oT ω)) (zN σ, zM σ, zS σ, C9, zF σ, zG σ, zP σ, zT σ, zL σ) nw1 ct1 mo1)) (by omega) (by omega) (mvK_ok hct1 hmo1 (bestF_lt hct1 hmo1)) (mvC_le hC9) (by rw [kn_mvK]; omega) (by rw [← hE, show mst - k = (mst - (k + 1)) + 1 by omega, plL, if_pos rfl]; rfl) _ _ hP hD hS ls (lv_sub hl [1, 2, 0] rfl)
      exact loop27 (mst + 1) 0 (nw, true, cg, some ct, some mo, ea) (zC σ) (by omega) (by omega) (fun _ => ⟨ct, mo, rfl, rfl, hct, hmo⟩) hσ7 (show nw + (mst - 0) < 2 ^ 30 by omega) rfl _ _ hP hD hS ls (lv_sub hl [1, 2, 0] rfl)
    · skip
      exfalso; omega

set_option maxHeartbeats 4000000 in
set_option maxRecDepth 100000 in
theorem c_X2_turnsToCatchIfLocked (l : Launch) (D : va_G) (cZ cI : ClassId) (a : Nat) (o : Nat → Nat) (o' : Nat → Nat) (q : Nat → Nat) (nw : Nat) (cg : Bool) (ct : Nat) (mo : Nat) (ea : Nat) (ω : OS) (ω' : OS) (σ : HS) (sz : Nat) (d : Nat) (hσ : zOk σ) (hct : ct < zN σ) (hmo : mo < zN σ) (hnw : nw < 2 ^ 30) (hd8 : d < zM σ) : Met l yX2_turnsToCatchIfLocked wsX2_turnsToCatchIfLocked ({ frames := 4, cells := 0, slots := 0, locals := 98 }) (WrP D cZ cI [.ref a, .int (nI d)] (pD cZ cI a o o' q (nw, true, cg, some ct, some mo, ea) ω ω' σ) sz) (va_Qi (fun r (_ : OS) => r = iO (lkT σ (some d) ((nw + 0) % 12) ct mo)) (fun (u9 : OS) t => va_P D vwCl (pD cZ cI a o o' q (nw, true, cg, some ct, some mo, ea) ω u9 σ) t.heap ∧ va_D (va_A (pD cZ cI a o o' q (nw, true, cg, some ct, some mo, ea) ω ω' σ) sz) (pD cZ cI a o o' q (nw, true, cg, some ct, some mo, ea) ω u9 σ)) (va_A (pD cZ cI a o o' q (nw, true, cg, some ct, some mo, ea) ω ω' σ) sz)) 0 0 (va_A (pD cZ cI a o o' q (nw, true, cg, some ct, some mo, ea) ω ω' σ) sz) := by
  refine Met.ofW (cc := cX2_turnsToCatchIfLocked) (maxL := 2) (ret := (some .int)) (by decide) rfl ?_
  intro p e s m args below meth c s₁ B hml hv
  obtain ⟨rfl, hsz, hP, hZ, hD0⟩ := hv
  have hx := B.exec
  have hb := B.bytes
  have hr := B.returns
  have hts := atoms_spec (ws := wsX2_turnsToCatchIfLocked) B.pre
  have hown : s.vm.findClass RX2 = some m.cls := findClass_of_methodNamed B.named
  have hlocks := B.notSynchronized
  subst hsz
  have hD := hD0.self (sz := s.heap.size)
  generalize hAe : va_A (pD cZ cI a o o' q (nw, true, cg, some ct, some mo, ea) ω ω' σ) s.heap.size = A at hD ⊢
  have hA : ∀ q : Nat, s.heap.size ≤ q → A q := fun q h => by rw [← hAe]; exact Or.inr h
  have hS : va_S A s.heap s.heap [] := va_S.rf
  have hP : va_P D vwCl (pD cZ cI a o o' q (nw, true, cg, some ct, some mo, ea) ω ω' σ) s.heap := hP
  have hl := lv_entry ([.ref a, .int (nI d)]) (n := 2) (Nat.le_of_ble_eq_true rfl)
  rw [lg_entry_eq]
  generalize (lg_sl ([.ref a, .int (nI d)]) ++ List.replicate (2 - (lg_sl ([.ref a, .int (nI d)])).length) Slot.unset).toArray = ls at hl ⊢
  have hl : lv_has ls 2 [(0, .ref a), (1, .int (nI d))] := hl
  have hin2 : ∀ w ∈ u_ws RX2 TX2 9, w ∈ wsX2_turnsToCatchIfLocked := by decide +kernel
  have hf10 := hts (.fieldLink RX2 10 "DoorChase" "house" "LDoorChase$House;") (by decide +kernel)
  have hf23 := hts (.fieldLink RX2 23 "DoorChase" "outlookIfLocked" "LDoorChase$Outlook;") (by decide +kernel)
  have hf26 := hts (.fieldLink RX2 26 "DoorChase" "cat" "I") (by decide +kernel)
  have hf30 := hts (.fieldLink RX2 30 "DoorChase" "mouse" "I") (by decide +kernel)
  obtain ⟨hσ1, hσ2, hσ3, hσ4, hσ5, hσ6, hσ7⟩ := id hσ
  refine lv_aload_n hx hb dX2_turnsToCatchIfLocked_0 rfl (lv_at hl 0 rfl) ?_
  refine va_get (D := D) (ci := 2) (v := .ref (o' 0)) (C := RX2) (T := TX2) (N := 9) hx hb hts hin2 hown hZ.1 hP 0 rfl rfl 2 (by decide) hf23 (fun _ h9 => h9) rfl dX2_turnsToCatchIfLocked_1 ?_
  refine lv_aload_n hx hb dX2_turnsToCatchIfLocked_4 rfl (lv_at hl 0 rfl) ?_
  refine va_get (D := D) (ci := 2) (v := .ref (q 0)) (C := RX2) (T := TX2) (N := 9) hx hb hts hin2 hown hZ.1 hP 0 rfl rfl 0 (by decide) hf10 (fun _ h9 => h9) rfl dX2_turnsToCatchIfLocked_5 ?_
  refine lv_iload_n hx hb dX2_turnsToCatchIfLocked_8 rfl (lv_at hl 1 rfl) ?_
  refine rv_top (show nI d = iO (some d) from rfl) ?_
  have hPc := hP.sub (ws' := pO cZ cI o' q ω' σ) [6, 7, 8, 9, 10, 11, 12, 13, 14, 15, 16, 17, 18] rfl
  have hDc := hD.sub (ws' := pO cZ cI o' q ω' σ) [6, 7, 8, 9, 10, 11, 12, 13, 14, 15, 16, 17, 18] (by decide) rfl
  have hFc := va_free (wc := pO cZ cI o' q ω' σ) hD hS hA [6, 7, 8, 9, 10, 11, 12, 13, 14, 15, 16, 17, 18] rfl
  refine va_callv (va_runV (As := [.ref (q 0), .int (iO (some d))]) (rest := []) ⟨hx, hb, hml, hown, hts⟩ (c_X1_lookOut l D cZ cI o' q ω' σ s.heap.size (some d) (by first | assumption | omega) (fun n9 h9 => by cases h9; omega)) (cwV 2 hts gX2_turnsToCatchIfLocked_X1_lookOut rfl rfl rfl (by decide +kernel) ⟨Nat.le_of_ble_eq_true rfl, Nat.le_of_ble_eq_true rfl⟩) ⟨WrP_blind, va_recv hZ.1 hP (ci := 1) (q0 := 6) rfl rfl, WrP_start hPc hDc hZ⟩ rfl rfl hl.1 rfl (lv_room (Nat.le_of_ble_eq_true rfl)) dX2_turnsToCatchIfLocked_9 ⟨Nat.le_of_ble_eq_true rfl, Nat.le_of_ble_eq_true rfl⟩) hS (fun q _ h => hFc q h) hFc (fun u t H1 locs ht hvm hw hB hz1 hk1 hS => ?_)
  obtain ⟨hP1, hD1⟩ := hB
  rw [ht] at hP1
  obtain ⟨hP, hD⟩ := va_join (wr := ([0, 1, 2, 3, 4, 5] : List Nat).filterMap (fun i => (pD cZ cI a o o' q (nw, true, cg, some ct, some mo, ea) ω ω' σ)[i]?)) (w1 := pO cZ cI o' q (lookW σ (some d) ω', (lookR σ (some d) ω').1, (lookR σ (some d) ω').2.1, (lookR σ (some d) ω').2.2.1) σ) hP hD [6, 7, 8, 9, 10, 11, 12, 13, 14, 15, 16, 17, 18] [0, 1, 2, 3, 4, 5] rfl rfl (by decide) (by decide) hk1 hFc hP1 hD1
  replace hP := hP.sub (ws' := pD cZ cI a o o' q (nw, true, cg, some ct, some mo, ea) ω (lookW σ (some d) ω', (lookR σ (some d) ω').1, (lookR σ (some d) ω').2.1, (lookR σ (some d) ω').2.2.1) σ) [0, 1, 2, 3, 4, 5, 6, 7, 8, 9, 10, 11, 12, 13, 14, 15, 16, 17, 18] rfl
  replace hD := hD.sub (ws' := pD cZ cI a o o' q (nw, true, cg, some ct, some mo, ea) ω (lookW σ (some d) ω', (lookR σ (some d) ω').1, (lookR σ (some d) ω').2.1, (lookR σ (some d) ω').2.2.1) σ) [0, 1, 2, 3, 4, 5, 6, 7, 8, 9, 10, 11, 12, 13, 14, 15, 16, 17, 18] (by decide) rfl
  generalize H1 = H at hP hS ⊢
  have hP : va_P D vwCl (pD cZ cI a o o' q (nw, true, cg, some ct, some mo, ea) ω (lookW σ (some d) ω', (lookR σ (some d) ω').1, (lookR σ (some d) ω').2.1, (lookR σ (some d) ω').2.2.1) σ) H := hP
  have hD : va_D A (pD cZ cI a o o' q (nw, true, cg, some ct, some mo, ea) ω (lookW σ (some d) ω', (lookR σ (some d) ω').1, (lookR σ (some d) ω').2.1, (lookR σ (some d) ω').2.2.1) σ) := hD
  refine lv_aload_n hx hb dX2_turnsToCatchIfLocked_12 rfl (lv_at hl 0 rfl) ?_
  refine va_get (D := D) (ci := 2) (v := .ref (o' 0)) (C := RX2) (T := TX2) (N := 9) hx hb hts hin2 hown hZ.1 hP 0 rfl rfl 2 (by decide) hf23 (fun _ h9 => h9) rfl dX2_turnsToCatchIfLocked_13 ?_
  refine lv_aload_n hx hb dX2_turnsToCatchIfLocked_16 rfl (lv_at hl 0 rfl) ?_
  refine lv_iconst (v := nI 0) hx hb dX2_turnsToCatchIfLocked_17 (by decide) ?_
  refine vp_callSi (va_runV (As := [.int (nI 0)]) (rest := [.ref (o' 0)]) ⟨hx, hb, hml, hown, hts⟩ (c_X2_phaseAfter l D cZ cI a o o' q (nw, true, cg, some ct, some mo, ea) ω (lookW σ (some d) ω', (lookR σ (some d) ω').1, (lookR σ (some d) ω').2.1, (lookR σ (some d) ω').2.2.1) σ  0 (by first | assumption | omega) (by first | assumption | omega)) (cwV 1 hts gX2_turnsToCatchIfLocked_X2_phaseAfter rfl rfl rfl (by decide +kernel) ⟨Nat.le_of_ble_eq_true rfl, Nat.le_of_ble_eq_true rfl⟩) ⟨RdP_blind, va_recv hZ.1 hP (ci := 2) (q0 := 0) rfl rfl, RdP_start (hP.sub (ws' := pD cZ cI a o o' q (nw, true, cg, some ct, some mo, ea) ω (lookW σ (some d) ω', (lookR σ (some d) ω').1, (lookR σ (some d) ω').2.1, (lookR σ (some d) ω').2.2.1) σ) [0, 1, 2, 3, 4, 5, 6, 7, 8, 9, 10, 11, 12, 13, 14, 15, 16, 17, 18] rfl) hZ⟩ rfl rfl hl.1 rfl (lv_room (Nat.le_of_ble_eq_true rfl)) dX2_turnsToCatchIfLocked_18 ⟨Nat.le_of_ble_eq_true rfl, Nat.le_of_ble_eq_true rfl⟩).run (fun r_1 hr_2 => ?_)
  subst hr_2
  refine rv_top (show _ = nI ((nw + 0) % 12) from rfl) ?_
  refine lv_aload_n hx hb dX2_turnsToCatchIfLocked_21 rfl (lv_at hl 0 rfl) ?_
  refine va_get (D := D) (ci := 2) (v := .int (nI ct)) (C := RX2) (T := TX2) (N := 9) hx hb hts hin2 hown hZ.1 hP 0 rfl rfl 6 (by decide) hf26 (fun _ h9 => h9) rfl dX2_turnsToCatchIfLocked_22 ?_
  refine lv_aload_n hx hb dX2_turnsToCatchIfLocked_25 rfl (lv_at hl 0 rfl) ?_
  refine va_get (D := D) (ci := 2) (v := .int (nI mo)) (C := RX2) (T := TX2) (N := 9) hx hb hts hin2 hown hZ.1 hP 0 rfl rfl 7 (by decide) hf30 (fun _ h9 => h9) rfl dX2_turnsToCatchIfLocked_26 ?_
  refine vp_callSi (va_runV (As := [.int (nI ((nw + 0) % 12)), .int (nI ct), .int (nI mo)]) (rest := []) ⟨hx, hb, hml, hown, hts⟩ (c_X1_turnsToCatchFrom l D cZ cI o' q (lookW σ (some d) ω', (lookR σ (some d) ω').1, (lookR σ (some d) ω').2.1, (lookR σ (some d) ω').2.2.1) σ  ((nw + 0) % 12) ct mo (by first | assumption | omega) (by first | assumption | omega) (by first | assumption | omega)) (cwV 3 hts gX2_turnsToCatchIfLocked_X1_turnsToCatchFrom rfl rfl rfl (by decide +kernel) ⟨Nat.le_of_ble_eq_true rfl, Nat.le_of_ble_eq_true rfl⟩) ⟨RdP_blind, va_recv hZ.1 hP (ci := 1) (q0 := 6) rfl rfl, RdP_start (hP.sub (ws' := pO cZ cI o' q (lookW σ (some d) ω', (lookR σ (some d) ω').1, (lookR σ (some d) ω').2.1, (lookR σ (some d) ω').2.2.1) σ) [6, 7, 8, 9, 10, 11, 12, 13, 14, 15, 16, 17, 18] rfl) hZ⟩ rfl rfl hl.1 rfl (lv_room (Nat.le_of_ble_eq_true rfl)) dX2_turnsToCatchIfLocked_29 ⟨Nat.le_of_ble_eq_true rfl, Nat.le_of_ble_eq_true rfl⟩).run (fun r_3 hr_4 => ?_)
  subst hr_4
  refine rv_top (show _ = iO (((lookR σ (some d) ω').2.2.1) ((nw + 0) % 12) ct mo) from rfl) ?_
  have hP9 : va_P D vwCl (pD cZ cI a o o' q (nw, true, cg, some ct, some mo, ea) ω (lookW σ (some d) ω', (lookR σ (some d) ω').1, (lookR σ (some d) ω').2.1, (lookR σ (some d) ω').2.2.1) σ) H := by exact hP
  have hD9 : va_D A (pD cZ cI a o o' q (nw, true, cg, some ct, some mo, ea) ω (lookW σ (some d) ω', (lookR σ (some d) ω').1, (lookR σ (some d) ω').2.1, (lookR σ (some d) ω').2.2.1) σ) := by exact hD
  exact W.iret (v := iO (((lookR σ (some d) ω').2.2.1) ((nw + 0) % 12) ct mo)) hx hb hr (fun t ht hW => ⟨⟨_, (lookW σ (some d) ω', (lookR σ (some d) ω').1, (lookR σ (some d) ω').2.1, (lookR σ (some d) ω').2.2.1), rfl, (congrArg iO (lookR_T hσ _ _ (by omega) (by omega) (by omega))), by rw [ht]; exact hP9, hD9⟩, hS.F ht⟩) hS.2.2 dX2_turnsToCatchIfLocked_32

set_option maxHeartbeats 4000000 in
set_option maxRecDepth 100000 in
theorem c_X2_bestDoorToLock (l : Launch) (D : va_G) (cZ cI : ClassId) (a : Nat) (o : Nat → Nat) (o' : Nat → Nat) (q : Nat → Nat) (nw : Nat) (cg : Bool) (ct : Nat) (mo : Nat) (ea : Nat) (ω : OS) (ω' : OS) (σ : HS) (sz : Nat)  (hσ : zOk σ) (hct : ct < zN σ) (hmo : mo < zN σ) (hnw : nw < 2 ^ 30) (hT : tOk ω) : Met l yX2_bestDoorToLock wsX2_bestDoorToLock ({ frames := 5, cells := 0, slots := 0, locals := 119 }) (WrP D cZ cI [.ref a] (pD cZ cI a o o' q (nw, true, cg, some ct, some mo, ea) ω ω' σ) sz) (va_Qi (fun r (_ : OS) => r = iO (bdL σ nw ct mo (zM σ) 0 (oT ω ((nw + 0) % 12) ct mo) none)) (fun (u9 : OS) t => va_P D vwCl (pD cZ cI a o o' q (nw, true, cg, some ct, some mo, ea) ω u9 σ) t.heap ∧ va_D (va_A (pD cZ cI a o o' q (nw, true, cg, some ct, some mo, ea) ω ω' σ) sz) (pD cZ cI a o o' q (nw, true, cg, some ct, some mo, ea) ω u9 σ)) (va_A (pD cZ cI a o o' q (nw, true, cg, some ct, some mo, ea) ω ω' σ) sz)) 0 0 (va_A (pD cZ cI a o o' q (nw, true, cg, some ct, some mo, ea) ω ω' σ) sz) := by
  refine Met.ofW (cc := cX2_bestDoorToLock) (maxL := 5) (ret := (some .int)) (by decide) rfl ?_
  intro p e s m args below meth c s₁ B hml hv
  obtain ⟨rfl, hsz, hP, hZ, hD0⟩ := hv
  have hx := B.exec
  have hb := B.bytes
  have hr := B.returns
  have hts := atoms_spec (ws := wsX2_bestDoorToLock) B.pre
  have hown : s.vm.findClass RX2 = some m.cls := findClass_of_methodNamed B.named
  have hlocks := B.notSynchronized
  subst hsz
  have hD := hD0.self (sz := s.heap.size)
  generalize hAe : va_A (pD cZ cI a o o' q (nw, true, cg, some ct, some mo, ea) ω ω' σ) s.heap.size = A at hD ⊢
  have hA : ∀ q : Nat, s.heap.size ≤ q → A q := fun q h => by rw [← hAe]; exact Or.inr h
  have hS : va_S A s.heap s.heap [] := va_S.rf
  have hP : va_P D vwCl (pD cZ cI a o o' q (nw, true, cg, some ct, some mo, ea) ω ω' σ) s.heap := hP
  have hl := lv_entry ([.ref a]) (n := 5) (Nat.le_of_ble_eq_true rfl)
  rw [lg_entry_eq]
  generalize (lg_sl ([.ref a]) ++ List.replicate (5 - (lg_sl ([.ref a])).length) Slot.unset).toArray = ls at hl ⊢
  have hl : lv_has ls 5 [(0, .ref a)] := hl
  have hin2 : ∀ w ∈ u_ws RX2 TX2 9, w ∈ wsX2_bestDoorToLock := by decide +kernel
  have hin0 : ∀ w ∈ u_ws RX0 TX0 9, w ∈ wsX2_bestDoorToLock := by decide +kernel
  have hf10 := hts (.fieldLink RX2 10 "DoorChase" "house" "LDoorChase$House;") (by decide +kernel)
  have hf62 := hts (.fieldLink RX2 62 "DoorChase$House" "doorCount" "I") (by decide +kernel)
  have hf80 := hts (.fieldLink RX2 80 "DoorChase$House" "locked" "[Z") (by decide +kernel)
  obtain ⟨hσ1, hσ2, hσ3, hσ4, hσ5, hσ6, hσ7⟩ := id hσ
  refine lv_aload_n hx hb dX2_bestDoorToLock_0 rfl (lv_at hl 0 rfl) ?_
  refine vp_callSi (va_runV (As := []) (rest := []) ⟨hx, hb, hml, hown, hts⟩ (c_X2_turnsToCatch l D cZ cI a o o' q nw cg ct mo ea ω ω' σ   (by first | assumption | omega) (by first | assumption | omega) (by first | assumption | omega) (by first | assumption | omega)) (cwV 0 hts gX2_bestDoorToLock_X2_turnsToCatch rfl rfl rfl (by decide +kernel) ⟨Nat.le_of_ble_eq_true rfl, Nat.le_of_ble_eq_true rfl⟩) ⟨RdP_blind, va_recv hZ.1 hP (ci := 2) (q0 := 0) rfl rfl, RdP_start (hP.sub (ws' := pD cZ cI a o o' q (nw, true, cg, some ct, some mo, ea) ω ω' σ) [0, 1, 2, 3, 4, 5, 6, 7, 8, 9, 10, 11, 12, 13, 14, 15, 16, 17, 18] rfl) hZ⟩ rfl rfl hl.1 rfl (lv_room (Nat.le_of_ble_eq_true rfl)) dX2_bestDoorToLock_1 ⟨Nat.le_of_ble_eq_true rfl, Nat.le_of_ble_eq_true rfl⟩).run (fun r_1 hr_2 => ?_)
  subst hr_2
  refine rv_top (show _ = iO ((oT ω) ((nw + 0) % 12) ct mo) from rfl) ?_
  refine lv_istore_n (lv' := [(1, .int (iO ((oT ω) ((nw + 0) % 12) ct mo))), (0, .ref a)]) hx hb dX2_bestDoorToLock_4 rfl hl (by decide) rfl (fun ls hl => ?_)
  refine lv_iconst (v := (-1)) hx hb dX2_bestDoorToLock_5 (by decide) ?_
  refine rv_top (show (-1) = iO none from rfl) ?_
  refine lv_istore_n (lv' := [(2, .int (iO none)), (1, .int (iO ((oT ω) ((nw + 0) % 12) ct mo))), (0, .ref a)]) hx hb dX2_bestDoorToLock_6 rfl hl (by decide) rfl (fun ls hl => ?_)
  refine lv_iconst (v := nI 0) hx hb dX2_bestDoorToLock_7 (by decide) ?_
  refine lv_istore_n (lv' := [(3, .int (nI 0)), (2, .int (iO none)), (1, .int (iO ((oT ω) ((nw + 0) % 12) ct mo))), (0, .ref a)]) hx hb dX2_bestDoorToLock_8 rfl hl (by decide) rfl (fun ls hl => ?_)
  have loop9 : ∀ (n : Nat) (d : Nat) (o9 : Option Nat) (b9 : Option Nat) (w9 : OS), zM σ + 1 ≤ d + n → (d ≤ zM σ) → (∀ n, o9 = some n → n ≤ 768) → (bdL σ nw ct mo (zM σ - d) d o9 b9 = bdL σ nw ct mo (zM σ) 0 (oT ω ((nw + 0) % 12) ct mo) none) → ∀ (H : Heap) (locs : List Loc), va_P D vwCl (pD cZ cI a o o' q (nw, true, cg, some ct, some mo, ea) ω w9 σ) H → va_D A (pD cZ cI a o o' q (nw, true, cg, some ct, some mo, ea) ω w9 σ) → va_S A s.heap H locs → ∀ (ls : Array Slot), lv_has ls 5 [(0, .ref a), (1, .int (iO o9)), (2, .int (iO b9)), (3, .int (nI d))] → W p l e (headSpec wsX2_bestDoorToLock ({ frames := 5, cells := 0, slots := 0, locals := 119 })).room s m ([.ref a] : List Value).toArray below meth c H locs 0 0 (MQ below (va_Qi (fun r (_ : OS) => r = iO (bdL σ nw ct mo (zM σ) 0 (oT ω ((nw + 0) % 12) ct mo) none)) (fun (u9 : OS) t => va_P D vwCl (pD cZ cI a o o' q (nw, true, cg, some ct, some mo, ea) ω u9 σ) t.heap ∧ va_D A (pD cZ cI a o o' q (nw, true, cg, some ct, some mo, ea) ω u9 σ)) A) ([.ref a] : List Value).toArray s 0 0 A) (F0 m 9 ls []) := by
    intro n
    induction n with
    | zero =>
      intro d o9 b9 w9 hmeas hd ho9 hE H locs hP hD hS ls hl
      exact absurd hmeas (by omega)
    | succ n ih9 =>
      intro d o9 b9 w9 hmeas hd ho9 hE H locs hP hD hS ls hl
      refine lv_iload_n hx hb dX2_bestDoorToLock_9 rfl (lv_at hl 1 rfl) ?_
      refine lv_iconst (v := (-1)) hx hb dX2_bestDoorToLock_10 (by decide) ?_
      refine rv_eqO (tgt := 67) hx hb (fun n9 h9 => Nat.lt_of_le_of_lt (ho9 n9 h9) (by decide)) dX2_bestDoorToLock_11 (by decide) (fun c11_3 => ?_) (fun c11_3 => ?_)
      · skip
        refine lv_iload_n hx hb dX2_bestDoorToLock_67 rfl (lv_at hl 2 rfl) ?_
        have hP9 : va_P D vwCl (pD cZ cI a o o' q (nw, true, cg, some ct, some mo, ea) ω w9 σ) H := by exact hP
        have hD9 : va_D A (pD cZ cI a o o' q (nw, true, cg, some ct, some mo, ea) ω w9 σ) := by exact hD
        exact W.iret (v := iO b9) hx hb hr (fun t ht hW => ⟨⟨_, w9, rfl, (show iO b9 = iO (bdL σ nw ct mo (zM σ) 0 (oT ω ((nw + 0) % 12) ct mo) none) from by rw [← hE]; first | (rw [show zM σ - d = 0 by omega]; rfl) | (rw [show o9 = none by assumption, bdL_none])), by rw [ht]; exact hP9, hD9⟩, hS.F ht⟩) hS.2.2 dX2_bestDoorToLock_68
      · skip
        refine lv_iload_n hx hb dX2_bestDoorToLock_14 rfl (lv_at hl 3 rfl) ?_
        refine lv_aload_n hx hb dX2_bestDoorToLock_15 rfl (lv_at hl 0 rfl) ?_
        refine va_get (D := D) (ci := 2) (v := .ref (q 0)) (C := RX2) (T := TX2) (N := 9) hx hb hts hin2 hown hZ.1 hP 0 rfl rfl 0 (by decide) hf10 (fun _ h9 => h9) rfl dX2_bestDoorToLock_16 ?_
        refine va_get (D := D) (ci := 0) (v := .int (nI (zM σ))) (C := RX0) (T := TX0) (N := 9) hx hb hts hin0 hown hZ.1 hP 11 rfl rfl 3 (by decide) hf62 (fun _ h9 => h9) rfl dX2_bestDoorToLock_19 ?_
        refine rv_ge (tgt := 67) hx hb (by omega) (by omega) dX2_bestDoorToLock_22 (by decide) (fun c22_4 => ?_) (fun c22_4 => ?_)
        · skip
          refine lv_iload_n hx hb dX2_bestDoorToLock_67 rfl (lv_at hl 2 rfl) ?_
          have hP9 : va_P D vwCl (pD cZ cI a o o' q (nw, true, cg, some ct, some mo, ea) ω w9 σ) H := by exact hP
          have hD9 : va_D A (pD cZ cI a o o' q (nw, true, cg, some ct, some mo, ea) ω w9 σ) := by exact hD
          exact W.iret (v := iO b9) hx hb hr (fun t ht hW => ⟨⟨_, w9, rfl, (show iO b9 = iO (bdL σ nw ct mo (zM σ) 0 (oT ω ((nw + 0) % 12) ct mo) none) from by rw [← hE]; first | (rw [show zM σ - d = 0 by omega]; rfl) | (rw [show o9 = none by assumption, bdL_none])), by rw [ht]; exact hP9, hD9⟩, hS.F ht⟩) hS.2.2 dX2_bestDoorToLock_68
        · skip
          refine lv_aload_n hx hb dX2_bestDoorToLock_25 rfl (lv_at hl 0 rfl) ?_
          refine va_get (D := D) (ci := 2) (v := .ref (q 0)) (C := RX2) (T := TX2) (N := 9) hx hb hts hin2 hown hZ.1 hP 0 rfl rfl 0 (by decide) hf10 (fun _ h9 => h9) rfl dX2_bestDoorToLock_26 ?_
          refine va_get (D := D) (ci := 0) (v := .ref (q 7)) (C := RX0) (T := TX0) (N := 9) hx hb hts hin0 hown hZ.1 hP 11 rfl rfl 8 (by decide) hf80 (fun _ h9 => h9) rfl dX2_bestDoorToLock_29 ?_
          refine lv_iload_n hx hb dX2_bestDoorToLock_32 rfl (lv_at hl 3 rfl) ?_
          refine rv_zald hx hb hZ.1 hP 18 0 rfl rfl (r := d) (by omega) (by decide) (v := bI ((zL σ) d)) rfl dX2_bestDoorToLock_33 ?_
          refine rv_ifneB (tgt := 61) hx hb dX2_bestDoorToLock_34 (by decide) (fun c34_5 => ?_) (fun c34_5 => ?_)
          · skip
            refine lv_iinc (v := nI (d + 1)) (lv' := [(3, .int (nI (d + 1))), (0, .ref a), (1, .int (iO o9)), (2, .int (iO b9))]) hx hb dX2_bestDoorToLock_61 hl (k := 3) rfl (nI_add d 1) (by decide) rfl (fun ls hl => ?_)
            refine lv_goto (tgt := 9) hx hb dX2_bestDoorToLock_64 (by decide) ?_
            exact ih9 (d + 1) o9 b9 w9 (by omega) (by omega) (by first | exact ho9 | exact (fun n9 h9 => lkT_le hσ (by omega) (by omega) (by omega) h9)) (by rw [← hE, show zM σ - d = (zM σ - (d + 1)) + 1 by omega, bdL, if_neg (by assumption)]; first | rw [if_pos (by assumption)] | rw [if_neg (nt (by assumption)), if_pos (by assumption)] | rw [if_neg (nt (by assumption)), if_neg (by assumption), if_pos (by assumption)] | rw [if_neg (nt (by assumption)), if_neg (by assumption), if_neg (by assumption)]) _ _ hP hD hS ls (lv_sub hl [1, 2, 3, 0] rfl)
          · skip
            refine lv_aload_n hx hb dX2_bestDoorToLock_37 rfl (lv_at hl 0 rfl) ?_
            refine lv_iload_n hx hb dX2_bestDoorToLock_38 rfl (lv_at hl 3 rfl) ?_
            have hFc := va_free (wc := pD cZ cI a o o' q (nw, true, cg, some ct, some mo, ea) ω w9 σ) hD hS hA [0, 1, 2, 3, 4, 5, 6, 7, 8, 9, 10, 11, 12, 13, 14, 15, 16, 17, 18] rfl
            refine va_calli (va_runV (As := [.int (nI d)]) (rest := []) ⟨hx, hb, hml, hown, hts⟩ (c_X2_turnsToCatchIfLocked l D cZ cI a o o' q nw cg ct mo ea ω w9 σ H.size d (by first | assumption | omega) (by first | assumption | omega) (by first | assumption | omega) (by first | assumption | omega) (by first | assumption | omega)) (cwV 1 hts gX2_bestDoorToLock_X2_turnsToCatchIfLocked rfl rfl rfl (by decide +kernel) ⟨Nat.le_of_ble_eq_true rfl, Nat.le_of_ble_eq_true rfl⟩) ⟨WrP_blind, va_recv hZ.1 hP (ci := 2) (q0 := 0) rfl rfl, WrP_start hP hD hZ⟩ rfl rfl hl.1 rfl (lv_room (Nat.le_of_ble_eq_true rfl)) dX2_bestDoorToLock_39 ⟨Nat.le_of_ble_eq_true rfl, Nat.le_of_ble_eq_true rfl⟩) hS (fun q _ h => hFc q h) hFc (fun r9 u_6 t H1 locs ht hvm hw hB hz1 hk1 hS => ?_)
            obtain ⟨hP, hD⟩ := hB
            rw [ht] at hP
            replace hD := hD.weaken (fun _ _ _ h => hFc _ h)
            generalize H1 = H at hP hS ⊢
            have hP : va_P D vwCl (pD cZ cI a o o' q (nw, true, cg, some ct, some mo, ea) ω u_6 σ) H := hP
            have hD : va_D A (pD cZ cI a o o' q (nw, true, cg, some ct, some mo, ea) ω u_6 σ) := hD
            subst hw
            refine rv_top (show _ = iO (lkT σ (some d) ((nw + 0) % 12) ct mo) from rfl) ?_
            refine lv_istore (lv' := [(4, .int (iO (lkT σ (some d) ((nw + 0) % 12) ct mo))), (0, .ref a), (1, .int (iO o9)), (2, .int (iO b9)), (3, .int (nI d))]) hx hb dX2_bestDoorToLock_42 hl (by decide) rfl (fun ls hl => ?_)
            refine lv_iload hx hb dX2_bestDoorToLock_44 (lv_at hl 0 rfl) ?_
            refine lv_iconst (v := (-1)) hx hb dX2_bestDoorToLock_46 (by decide) ?_
            refine rv_eqO (tgt := 56) hx hb (fun n9 h9 => Nat.lt_of_le_of_lt (lkT_le hσ (by omega) (by omega) (by omega) h9) (by decide)) dX2_bestDoorToLock_47 (by decide) (fun c47_7 => ?_) (fun c47_7 => ?_)
            · skip
              refine lv_iload hx hb dX2_bestDoorToLock_56 (lv_at hl 0 rfl) ?_
              refine lv_istore_n (lv' := [(1, .int (iO (lkT σ (some d) ((nw + 0) % 12) ct mo))), (4, .int (iO (lkT σ (some d) ((nw + 0) % 12) ct mo))), (0, .ref a), (2, .int (iO b9)), (3, .int (nI d))]) hx hb dX2_bestDoorToLock_58 rfl hl (by decide) rfl (fun ls hl => ?_)
              refine lv_iload_n hx hb dX2_bestDoorToLock_59 rfl (lv_at hl 4 rfl) ?_
              refine lv_istore_n (lv' := [(2, .int (nI d)), (1, .int (iO (lkT σ (some d) ((nw + 0) % 12) ct mo))), (4, .int (iO (lkT σ (some d) ((nw + 0) % 12) ct mo))), (0, .ref a), (3, .int (nI d))]) hx hb dX2_bestDoorToLock_60 rfl hl (by decide) rfl (fun ls hl => ?_)
              refine lv_iinc (v := nI (d + 1)) (lv' := [(3, .int (nI (d + 1))), (2, .int (nI d)), (1, .int (iO (lkT σ (some d) ((nw + 0) % 12) ct mo))), (4, .int (iO (lkT σ (some d) ((nw + 0) % 12) ct mo))), (0, .ref a)]) hx hb dX2_bestDoorToLock_61 hl (k := 4) rfl (nI_add d 1) (by decide) rfl (fun ls hl => ?_)
              refine lv_goto (tgt := 9) hx hb dX2_bestDoorToLock_64 (by decide) ?_
              exact ih9 (d + 1) (lkT σ (some d) ((nw + 0) % 12) ct mo) (some d) u_6 (by omega) (by omega) (by first | exact ho9 | exact (fun n9 h9 => lkT_le hσ (by omega) (by omega) (by omega) h9)) (by rw [← hE, show zM σ - d = (zM σ - (d + 1)) + 1 by omega, bdL, if_neg (by assumption)]; first | rw [if_pos (by assumption)] | rw [if_neg (nt (by assumption)), if_pos (by assumption)] | rw [if_neg (nt (by assumption)), if_neg (by assumption), if_pos (by assumption)] | rw [if_neg (nt (by assumption)), if_neg (by assumption), if_neg (by assumption)]) _ _ hP hD hS ls (lv_sub hl [4, 2, 1, 0] rfl)
            · skip
              refine lv_iload hx hb dX2_bestDoorToLock_50 (lv_at hl 0 rfl) ?_
              refine lv_iload_n hx hb dX2_bestDoorToLock_52 rfl (lv_at hl 2 rfl) ?_
              refine rv_leOO (tgt := 61) hx hb (fun n9 h9 => Nat.lt_of_le_of_lt (lkT_le hσ (by omega) (by omega) (by omega) h9) (by decide)) (fun n9 h9 => Nat.lt_of_le_of_lt (ho9 n9 h9) (by decide)) dX2_bestDoorToLock_53 (by decide) (fun c53_8 => ?_) (fun c53_8 => ?_)
              · skip
                refine lv_iinc (v := nI (d + 1)) (lv' := [(3, .int (nI (d + 1))), (4, .int (iO (lkT σ (some d) ((nw + 0) % 12) ct mo))), (0, .ref a), (1, .int (iO o9)), (2, .int (iO b9))]) hx hb dX2_bestDoorToLock_61 hl (k := 4) rfl (nI_add d 1) (by decide) rfl (fun ls hl => ?_)
                refine lv_goto (tgt := 9) hx hb dX2_bestDoorToLock_64 (by decide) ?_
                exact ih9 (d + 1) o9 b9 u_6 (by omega) (by omega) (by first | exact ho9 | exact (fun n9 h9 => lkT_le hσ (by omega) (by omega) (by omega) h9)) (by rw [← hE, show zM σ - d = (zM σ - (d + 1)) + 1 by omega, bdL, if_neg (by assumption)]; first | rw [if_pos (by assumption)] | rw [if_neg (nt (by assumption)), if_pos (by assumption)] | rw [if_neg (nt (by assumption)), if_neg (by assumption), if_pos (by assumption)] | rw [if_neg (nt (by assumption)), if_neg (by assumption), if_neg (by assumption)]) _ _ hP hD hS ls (lv_sub hl [2, 3, 4, 0] rfl)
              · skip
                refine lv_iload hx hb dX2_bestDoorToLock_56 (lv_at hl 0 rfl) ?_
                refine lv_istore_n (lv' := [(1, .int (iO (lkT σ (some d) ((nw + 0) % 12) ct mo))), (4, .int (iO (lkT σ (some d) ((nw + 0) % 12) ct mo))), (0, .ref a), (2, .int (iO b9)), (3, .int (nI d))]) hx hb dX2_bestDoorToLock_58 rfl hl (by decide) rfl (fun ls hl => ?_)
                refine lv_iload_n hx hb dX2_bestDoorToLock_59 rfl (lv_at hl 4 rfl) ?_
                refine lv_istore_n (lv' := [(2, .int (nI d)), (1, .int (iO (lkT σ (some d) ((nw + 0) % 12) ct mo))), (4, .int (iO (lkT σ (some d) ((nw + 0) % 12) ct mo))), (0, .ref a), (3, .int (nI d))]) hx hb dX2_bestDoorToLock_60 rfl hl (by decide) rfl (fun ls hl => ?_)
                refine lv_iinc (v := nI (d + 1)) (lv' := [(3, .int (nI (d + 1))), (2, .int (nI d)), (1, .int (iO (lkT σ (some d) ((nw + 0) % 12) ct mo))), (4, .int (iO (lkT σ (some d) ((nw + 0) % 12) ct mo))), (0, .ref a)]) hx hb dX2_bestDoorToLock_61 hl (k := 4) rfl (nI_add d 1) (by decide) rfl (fun ls hl => ?_)
                refine lv_goto (tgt := 9) hx hb dX2_bestDoorToLock_64 (by decide) ?_
                exact ih9 (d + 1) (lkT σ (some d) ((nw + 0) % 12) ct mo) (some d) u_6 (by omega) (by omega) (by first | exact ho9 | exact (fun n9 h9 => lkT_le hσ (by omega) (by omega) (by omega) h9)) (by rw [← hE, show zM σ - d = (zM σ - (d + 1)) + 1 by omega, bdL, if_neg (by assumption)]; first | rw [if_pos (by assumption)] | rw [if_neg (nt (by assumption)), if_pos (by assumption)] | rw [if_neg (nt (by assumption)), if_neg (by assumption), if_pos (by assumption)] | rw [if_neg (nt (by assumption)), if_neg (by assumption), if_neg (by assumption)]) _ _ hP hD hS ls (lv_sub hl [4, 2, 1, 0] rfl)
  exact loop9 (zM σ + 1) 0 (oT ω ((nw + 0) % 12) ct mo) none ω' (by omega) (by omega) (fun n9 h9 => hT _ _ _ n9 (by omega) (by omega) (by omega) h9) rfl _ _ hP hD hS ls (lv_sub hl [3, 2, 1, 0] rfl)

set_option maxHeartbeats 4000000 in
set_option maxRecDepth 100000 in
theorem c_X2_digest (l : Launch) (D : va_G) (cZ cI : ClassId) (a : Nat) (o : Nat → Nat) (o' : Nat → Nat) (q : Nat → Nat) (nw : Nat) (cg : Bool) (ct : Nat) (mo : Nat) (ea : Nat) (ω : OS) (ω' : OS) (σ : HS) (sz : Nat)  (hσ : zOk σ) (hct : ct < zN σ) (hmo : mo < zN σ) (hnw : nw < 2 ^ 30) (hT : tOk ω) : Met l yX2_digest wsX2_digest ({ frames := 6, cells := 0, slots := 0, locals := 143 }) (WrP D cZ cI [.ref a] (pD cZ cI a o o' q (nw, true, cg, some ct, some mo, ea) ω ω' σ) sz) (va_Ql (fun r (_ : OS) => r = jdL σ (nw) ((zM σ)) 0 (jrL σ ((zN σ)) 0 ((((((((((((((2371 * 31 + ((nI nw).toInt64)) * 31 + ((nI (zN σ)).toInt64)) * 31 + ((nI (zM σ)).toInt64)) * 31 + (aN true)) * 31 + (aN cg)) * 31 + (oN (some ct))) * 31 + (oN (some mo))) * 31 + ((nI ea).toInt64)) * 31 + (oN ((oT ω) ((nw + 0) % 12) ct mo))) * 31 + ((nI (snL ω nw ct ((zN σ)) 0 0)).toInt64)) * 31 + ((nI (bestF ((oW ω)) ((oT ω)) σ nw ct mo)).toInt64)) * 31 + ((nI (pcL ω σ (nw) 64 0 0)).toInt64)) * 31 + (oN (lcL ω σ (nw) 64 0 none))) * 31 + (oN (bdL σ nw ct mo ((zM σ)) 0 ((oT ω) ((nw + 0) % 12) ct mo) none))))) (fun (u9 : OS) t => va_P D vwCl (pD cZ cI a o o' q (nw, true, cg, some ct, some mo, ea) ω u9 σ) t.heap ∧ va_D (va_A (pD cZ cI a o o' q (nw, true, cg, some ct, some mo, ea) ω ω' σ) sz) (pD cZ cI a o o' q (nw, true, cg, some ct, some mo, ea) ω u9 σ)) (va_A (pD cZ cI a o o' q (nw, true, cg, some ct, some mo, ea) ω ω' σ) sz)) 0 0 (va_A (pD cZ cI a o o' q (nw, true, cg, some ct, some mo, ea) ω ω' σ) sz) := by
  refine Met.ofW (cc := cX2_digest) (maxL := 3) (ret := (some .long)) (by decide) rfl ?_
  intro p e s m args below meth c s₁ B hml hv
  obtain ⟨rfl, hsz, hP, hZ, hD0⟩ := hv
  have hx := B.exec
  have hb := B.bytes
  have hr := B.returns
  have hts := atoms_spec (ws := wsX2_digest) B.pre
  have hown : s.vm.findClass RX2 = some m.cls := findClass_of_methodNamed B.named
  have hlocks := B.notSynchronized
  subst hsz
  have hD := hD0.self (sz := s.heap.size)
  generalize hAe : va_A (pD cZ cI a o o' q (nw, true, cg, some ct, some mo, ea) ω ω' σ) s.heap.size = A at hD ⊢
  have hA : ∀ q : Nat, s.heap.size ≤ q → A q := fun q h => by rw [← hAe]; exact Or.inr h
  have hS : va_S A s.heap s.heap [] := va_S.rf
  have hP : va_P D vwCl (pD cZ cI a o o' q (nw, true, cg, some ct, some mo, ea) ω ω' σ) s.heap := hP
  have hl := lv_entry ([.ref a]) (n := 3) (Nat.le_of_ble_eq_true rfl)
  rw [lg_entry_eq]
  generalize (lg_sl ([.ref a]) ++ List.replicate (3 - (lg_sl ([.ref a])).length) Slot.unset).toArray = ls at hl ⊢
  have hl : lv_has ls 3 [(0, .ref a)] := hl
  obtain ⟨hσ1, hσ2, hσ3, hσ4, hσ5, hσ6, hσ7⟩ := id hσ
  have hN0 : 0 < zN σ := Nat.lt_of_le_of_lt (Nat.zero_le _) hct
  refine lv_ldc2 (v := 2371) hx hb hown (hts (.constantLong RX2 186 2371) (by decide +kernel)) dX2_digest_0 ?_
  refine lv_lstore_n (lv' := [(1, .long 2371), (0, .ref a)]) hx hb dX2_digest_3 rfl hl (by decide) rfl (fun ls hl => ?_)
  refine lv_lload_n hx hb dX2_digest_4 rfl (lv_at hl 0 rfl) ?_
  refine lv_aload_n hx hb dX2_digest_5 rfl (lv_at hl 1 rfl) ?_
  refine vp_callSi (va_runV (As := []) (rest := [.long 2371]) ⟨hx, hb, hml, hown, hts⟩ (c_X2_turn l D cZ cI a o o' q (nw, true, cg, some ct, some mo, ea) ω ω' σ   ) (cwV 0 hts gX2_digest_X2_turn rfl rfl rfl (by decide +kernel) ⟨Nat.le_of_ble_eq_true rfl, Nat.le_of_ble_eq_true rfl⟩) ⟨RdP_blind, va_recv hZ.1 hP (ci := 2) (q0 := 0) rfl rfl, RdP_start (hP.sub (ws' := pD cZ cI a o o' q (nw, true, cg, some ct, some mo, ea) ω ω' σ) [0, 1, 2, 3, 4, 5, 6, 7, 8, 9, 10, 11, 12, 13, 14, 15, 16, 17, 18] rfl) hZ⟩ rfl rfl hl.1 rfl (lv_room (Nat.le_of_ble_eq_true rfl)) dX2_digest_6 ⟨Nat.le_of_ble_eq_true rfl, Nat.le_of_ble_eq_true rfl⟩).run (fun r_1 hr_2 => ?_)
  subst hr_2
  refine rv_top (show _ = nI nw from rfl) ?_
  refine lv_i2l (v := (nI nw).toInt64) hx hb dX2_digest_9 rfl ?_
  refine vp_callSl (va_runS (As := [.long 2371, .long ((nI nw).toInt64)]) (rest := []) ⟨hx, hb, hml, hown, hts⟩ (c_X2_joined l D cZ cI   2371 ((nI nw).toInt64) ) (va_cwS 2 hts gX2_digest_X2_joined rfl rfl rfl (by decide +kernel) ⟨Nat.le_of_ble_eq_true rfl, Nat.le_of_ble_eq_true rfl⟩) ⟨RdP_blind, RdP_start (hP.sub (ws' := []) [] rfl) hZ⟩ rfl rfl hl.1 rfl (lv_room (Nat.le_of_ble_eq_true rfl)) dX2_digest_10 ⟨Nat.le_of_ble_eq_true rfl, Nat.le_of_ble_eq_true rfl⟩).run (fun r_3 hr_4 => ?_)
  subst hr_4
  refine lv_lstore_n (lv' := [(1, .long (2371 * 31 + ((nI nw).toInt64))), (0, .ref a)]) hx hb dX2_digest_13 rfl hl (by decide) rfl (fun ls hl => ?_)
  refine lv_lload_n hx hb dX2_digest_14 rfl (lv_at hl 0 rfl) ?_
  refine lv_aload_n hx hb dX2_digest_15 rfl (lv_at hl 1 rfl) ?_
  refine vp_callSi (va_runV (As := []) (rest := [.long (2371 * 31 + ((nI nw).toInt64))]) ⟨hx, hb, hml, hown, hts⟩ (c_X2_rooms l D cZ cI a o o' q (nw, true, cg, some ct, some mo, ea) ω ω' σ   ) (cwV 0 hts gX2_digest_X2_rooms rfl rfl rfl (by decide +kernel) ⟨Nat.le_of_ble_eq_true rfl, Nat.le_of_ble_eq_true rfl⟩) ⟨RdP_blind, va_recv hZ.1 hP (ci := 2) (q0 := 0) rfl rfl, RdP_start (hP.sub (ws' := pD cZ cI a o o' q (nw, true, cg, some ct, some mo, ea) ω ω' σ) [0, 1, 2, 3, 4, 5, 6, 7, 8, 9, 10, 11, 12, 13, 14, 15, 16, 17, 18] rfl) hZ⟩ rfl rfl hl.1 rfl (lv_room (Nat.le_of_ble_eq_true rfl)) dX2_digest_16 ⟨Nat.le_of_ble_eq_true rfl, Nat.le_of_ble_eq_true rfl⟩).run (fun r_5 hr_6 => ?_)
  subst hr_6
  refine rv_top (show _ = nI (zN σ) from rfl) ?_
  refine lv_i2l (v := (nI (zN σ)).toInt64) hx hb dX2_digest_19 rfl ?_
  refine vp_callSl (va_runS (As := [.long (2371 * 31 + ((nI nw).toInt64)), .long ((nI (zN σ)).toInt64)]) (rest := []) ⟨hx, hb, hml, hown, hts⟩ (c_X2_joined l D cZ cI   (2371 * 31 + ((nI nw).toInt64)) ((nI (zN σ)).toInt64) ) (va_cwS 2 hts gX2_digest_X2_joined rfl rfl rfl (by decide +kernel) ⟨Nat.le_of_ble_eq_true rfl, Nat.le_of_ble_eq_true rfl⟩) ⟨RdP_blind, RdP_start (hP.sub (ws' := []) [] rfl) hZ⟩ rfl rfl hl.1 rfl (lv_room (Nat.le_of_ble_eq_true rfl)) dX2_digest_20 ⟨Nat.le_of_ble_eq_true rfl, Nat.le_of_ble_eq_true rfl⟩).run (fun r_7 hr_8 => ?_)
  subst hr_8
  refine lv_lstore_n (lv' := [(1, .long ((2371 * 31 + ((nI nw).toInt64)) * 31 + ((nI (zN σ)).toInt64))), (0, .ref a)]) hx hb dX2_digest_23 rfl hl (by decide) rfl (fun ls hl => ?_)
  refine lv_lload_n hx hb dX2_digest_24 rfl (lv_at hl 0 rfl) ?_
  refine lv_aload_n hx hb dX2_digest_25 rfl (lv_at hl 1 rfl) ?_
  refine vp_callSi (va_runV (As := []) (rest := [.long ((2371 * 31 + ((nI nw).toInt64)) * 31 + ((nI (zN σ)).toInt64))]) ⟨hx, hb, hml, hown, hts⟩ (c_X2_doors l D cZ cI a o o' q (nw, true, cg, some ct, some mo, ea) ω ω' σ   ) (cwV 0 hts gX2_digest_X2_doors rfl rfl rfl (by decide +kernel) ⟨Nat.le_of_ble_eq_true rfl, Nat.le_of_ble_eq_true rfl⟩) ⟨RdP_blind, va_recv hZ.1 hP (ci := 2) (q0 := 0) rfl rfl, RdP_start (hP.sub (ws' := pD cZ cI a o o' q (nw, true, cg, some ct, some mo, ea) ω ω' σ) [0, 1, 2, 3, 4, 5, 6, 7, 8, 9, 10, 11, 12, 13, 14, 15, 16, 17, 18] rfl) hZ⟩ rfl rfl hl.1 rfl (lv_room (Nat.le_of_ble_eq_true rfl)) dX2_digest_26 ⟨Nat.le_of_ble_eq_true rfl, Nat.le_of_ble_eq_true rfl⟩).run (fun r_9 hr_10 => ?_)
  subst hr_10
  refine rv_top (show _ = nI (zM σ) from rfl) ?_
  refine lv_i2l (v := (nI (zM σ)).toInt64) hx hb dX2_digest_29 rfl ?_
  refine vp_callSl (va_runS (As := [.long ((2371 * 31 + ((nI nw).toInt64)) * 31 + ((nI (zN σ)).toInt64)), .long ((nI (zM σ)).toInt64)]) (rest := []) ⟨hx, hb, hml, hown, hts⟩ (c_X2_joined l D cZ cI   ((2371 * 31 + ((nI nw).toInt64)) * 31 + ((nI (zN σ)).toInt64)) ((nI (zM σ)).toInt64) ) (va_cwS 2 hts gX2_digest_X2_joined rfl rfl rfl (by decide +kernel) ⟨Nat.le_of_ble_eq_true rfl, Nat.le_of_ble_eq_true rfl⟩) ⟨RdP_blind, RdP_start (hP.sub (ws' := []) [] rfl) hZ⟩ rfl rfl hl.1 rfl (lv_room (Nat.le_of_ble_eq_true rfl)) dX2_digest_30 ⟨Nat.le_of_ble_eq_true rfl, Nat.le_of_ble_eq_true rfl⟩).run (fun r_11 hr_12 => ?_)
  subst hr_12
  refine lv_lstore_n (lv' := [(1, .long (((2371 * 31 + ((nI nw).toInt64)) * 31 + ((nI (zN σ)).toInt64)) * 31 + ((nI (zM σ)).toInt64))), (0, .ref a)]) hx hb dX2_digest_33 rfl hl (by decide) rfl (fun ls hl => ?_)
  refine lv_lload_n hx hb dX2_digest_34 rfl (lv_at hl 0 rfl) ?_
  refine lv_aload_n hx hb dX2_digest_35 rfl (lv_at hl 1 rfl) ?_
  refine vp_callSi (va_runV (As := []) (rest := [.long (((2371 * 31 + ((nI nw).toInt64)) * 31 + ((nI (zN σ)).toInt64)) * 31 + ((nI (zM σ)).toInt64))]) ⟨hx, hb, hml, hown, hts⟩ (c_X2_isOn l D cZ cI a o o' q (nw, true, cg, some ct, some mo, ea) ω ω' σ   ) (cwV 0 hts gX2_digest_X2_isOn rfl rfl rfl (by decide +kernel) ⟨Nat.le_of_ble_eq_true rfl, Nat.le_of_ble_eq_true rfl⟩) ⟨RdP_blind, va_recv hZ.1 hP (ci := 2) (q0 := 0) rfl rfl, RdP_start (hP.sub (ws' := pD cZ cI a o o' q (nw, true, cg, some ct, some mo, ea) ω ω' σ) [0, 1, 2, 3, 4, 5, 6, 7, 8, 9, 10, 11, 12, 13, 14, 15, 16, 17, 18] rfl) hZ⟩ rfl rfl hl.1 rfl (lv_room (Nat.le_of_ble_eq_true rfl)) dX2_digest_36 ⟨Nat.le_of_ble_eq_true rfl, Nat.le_of_ble_eq_true rfl⟩).run (fun r_13 hr_14 => ?_)
  subst hr_14
  refine rv_top (show _ = bI true from rfl) ?_
  refine vp_callSl (va_runS (As := [.int (bI true)]) (rest := [.long (((2371 * 31 + ((nI nw).toInt64)) * 31 + ((nI (zN σ)).toInt64)) * 31 + ((nI (zM σ)).toInt64))]) ⟨hx, hb, hml, hown, hts⟩ (c_X2_asNumber l D cZ cI   true ) (va_cwS 1 hts gX2_digest_X2_asNumber rfl rfl rfl (by decide +kernel) ⟨Nat.le_of_ble_eq_true rfl, Nat.le_of_ble_eq_true rfl⟩) ⟨RdP_blind, RdP_start (hP.sub (ws' := []) [] rfl) hZ⟩ rfl rfl hl.1 rfl (lv_room (Nat.le_of_ble_eq_true rfl)) dX2_digest_39 ⟨Nat.le_of_ble_eq_true rfl, Nat.le_of_ble_eq_true rfl⟩).run (fun r_15 hr_16 => ?_)
  subst hr_16
  refine vp_callSl (va_runS (As := [.long (((2371 * 31 + ((nI nw).toInt64)) * 31 + ((nI (zN σ)).toInt64)) * 31 + ((nI (zM σ)).toInt64)), .long (aN true)]) (rest := []) ⟨hx, hb, hml, hown, hts⟩ (c_X2_joined l D cZ cI   (((2371 * 31 + ((nI nw).toInt64)) * 31 + ((nI (zN σ)).toInt64)) * 31 + ((nI (zM σ)).toInt64)) (aN true) ) (va_cwS 2 hts gX2_digest_X2_joined rfl rfl rfl (by decide +kernel) ⟨Nat.le_of_ble_eq_true rfl, Nat.le_of_ble_eq_true rfl⟩) ⟨RdP_blind, RdP_start (hP.sub (ws' := []) [] rfl) hZ⟩ rfl rfl hl.1 rfl (lv_room (Nat.le_of_ble_eq_true rfl)) dX2_digest_42 ⟨Nat.le_of_ble_eq_true rfl, Nat.le_of_ble_eq_true rfl⟩).run (fun r_17 hr_18 => ?_)
  subst hr_18
  refine lv_lstore_n (lv' := [(1, .long ((((2371 * 31 + ((nI nw).toInt64)) * 31 + ((nI (zN σ)).toInt64)) * 31 + ((nI (zM σ)).toInt64)) * 31 + (aN true))), (0, .ref a)]) hx hb dX2_digest_45 rfl hl (by decide) rfl (fun ls hl => ?_)
  refine lv_lload_n hx hb dX2_digest_46 rfl (lv_at hl 0 rfl) ?_
  refine lv_aload_n hx hb dX2_digest_47 rfl (lv_at hl 1 rfl) ?_
  refine vp_callSi (va_runV (As := []) (rest := [.long ((((2371 * 31 + ((nI nw).toInt64)) * 31 + ((nI (zN σ)).toInt64)) * 31 + ((nI (zM σ)).toInt64)) * 31 + (aN true))]) ⟨hx, hb, hml, hown, hts⟩ (c_X2_isCaught l D cZ cI a o o' q (nw, true, cg, some ct, some mo, ea) ω ω' σ   ) (cwV 0 hts gX2_digest_X2_isCaught rfl rfl rfl (by decide +kernel) ⟨Nat.le_of_ble_eq_true rfl, Nat.le_of_ble_eq_true rfl⟩) ⟨RdP_blind, va_recv hZ.1 hP (ci := 2) (q0 := 0) rfl rfl, RdP_start (hP.sub (ws' := pD cZ cI a o o' q (nw, true, cg, some ct, some mo, ea) ω ω' σ) [0, 1, 2, 3, 4, 5, 6, 7, 8, 9, 10, 11, 12, 13, 14, 15, 16, 17, 18] rfl) hZ⟩ rfl rfl hl.1 rfl (lv_room (Nat.le_of_ble_eq_true rfl)) dX2_digest_48 ⟨Nat.le_of_ble_eq_true rfl, Nat.le_of_ble_eq_true rfl⟩).run (fun r_19 hr_20 => ?_)
  subst hr_20
  refine rv_top (show _ = bI cg from rfl) ?_
  refine vp_callSl (va_runS (As := [.int (bI cg)]) (rest := [.long ((((2371 * 31 + ((nI nw).toInt64)) * 31 + ((nI (zN σ)).toInt64)) * 31 + ((nI (zM σ)).toInt64)) * 31 + (aN true))]) ⟨hx, hb, hml, hown, hts⟩ (c_X2_asNumber l D cZ cI   cg ) (va_cwS 1 hts gX2_digest_X2_asNumber rfl rfl rfl (by decide +kernel) ⟨Nat.le_of_ble_eq_true rfl, Nat.le_of_ble_eq_true rfl⟩) ⟨RdP_blind, RdP_start (hP.sub (ws' := []) [] rfl) hZ⟩ rfl rfl hl.1 rfl (lv_room (Nat.le_of_ble_eq_true rfl)) dX2_digest_51 ⟨Nat.le_of_ble_eq_true rfl, Nat.le_of_ble_eq_true rfl⟩).run (fun r_21 hr_22 => ?_)
  subst hr_22
  refine vp_callSl (va_runS (As := [.long ((((2371 * 31 + ((nI nw).toInt64)) * 31 + ((nI (zN σ)).toInt64)) * 31 + ((nI (zM σ)).toInt64)) * 31 + (aN true)), .long (aN cg)]) (rest := []) ⟨hx, hb, hml, hown, hts⟩ (c_X2_joined l D cZ cI   ((((2371 * 31 + ((nI nw).toInt64)) * 31 + ((nI (zN σ)).toInt64)) * 31 + ((nI (zM σ)).toInt64)) * 31 + (aN true)) (aN cg) ) (va_cwS 2 hts gX2_digest_X2_joined rfl rfl rfl (by decide +kernel) ⟨Nat.le_of_ble_eq_true rfl, Nat.le_of_ble_eq_true rfl⟩) ⟨RdP_blind, RdP_start (hP.sub (ws' := []) [] rfl) hZ⟩ rfl rfl hl.1 rfl (lv_room (Nat.le_of_ble_eq_true rfl)) dX2_digest_54 ⟨Nat.le_of_ble_eq_true rfl, Nat.le_of_ble_eq_true rfl⟩).run (fun r_23 hr_24 => ?_)
  subst hr_24
  refine lv_lstore_n (lv' := [(1, .long (((((2371 * 31 + ((nI nw).toInt64)) * 31 + ((nI (zN σ)).toInt64)) * 31 + ((nI (zM σ)).toInt64)) * 31 + (aN true)) * 31 + (aN cg))), (0, .ref a)]) hx hb dX2_digest_57 rfl hl (by decide) rfl (fun ls hl => ?_)
  refine lv_lload_n hx hb dX2_digest_58 rfl (lv_at hl 0 rfl) ?_
  refine lv_aload_n hx hb dX2_digest_59 rfl (lv_at hl 1 rfl) ?_
  refine vp_callSi (va_runV (As := []) (rest := [.long (((((2371 * 31 + ((nI nw).toInt64)) * 31 + ((nI (zN σ)).toInt64)) * 31 + ((nI (zM σ)).toInt64)) * 31 + (aN true)) * 31 + (aN cg))]) ⟨hx, hb, hml, hown, hts⟩ (c_X2_catIn l D cZ cI a o o' q (nw, true, cg, some ct, some mo, ea) ω ω' σ   ) (cwV 0 hts gX2_digest_X2_catIn rfl rfl rfl (by decide +kernel) ⟨Nat.le_of_ble_eq_true rfl, Nat.le_of_ble_eq_true rfl⟩) ⟨RdP_blind, va_recv hZ.1 hP (ci := 2) (q0 := 0) rfl rfl, RdP_start (hP.sub (ws' := pD cZ cI a o o' q (nw, true, cg, some ct, some mo, ea) ω ω' σ) [0, 1, 2, 3, 4, 5, 6, 7, 8, 9, 10, 11, 12, 13, 14, 15, 16, 17, 18] rfl) hZ⟩ rfl rfl hl.1 rfl (lv_room (Nat.le_of_ble_eq_true rfl)) dX2_digest_60 ⟨Nat.le_of_ble_eq_true rfl, Nat.le_of_ble_eq_true rfl⟩).run (fun r_25 hr_26 => ?_)
  subst hr_26
  refine rv_top (show _ = iO (some ct) from rfl) ?_
  refine lv_i2l (v := oN (some ct)) hx hb dX2_digest_63 rfl ?_
  refine vp_callSl (va_runS (As := [.long (((((2371 * 31 + ((nI nw).toInt64)) * 31 + ((nI (zN σ)).toInt64)) * 31 + ((nI (zM σ)).toInt64)) * 31 + (aN true)) * 31 + (aN cg)), .long (oN (some ct))]) (rest := []) ⟨hx, hb, hml, hown, hts⟩ (c_X2_joined l D cZ cI   (((((2371 * 31 + ((nI nw).toInt64)) * 31 + ((nI (zN σ)).toInt64)) * 31 + ((nI (zM σ)).toInt64)) * 31 + (aN true)) * 31 + (aN cg)) (oN (some ct)) ) (va_cwS 2 hts gX2_digest_X2_joined rfl rfl rfl (by decide +kernel) ⟨Nat.le_of_ble_eq_true rfl, Nat.le_of_ble_eq_true rfl⟩) ⟨RdP_blind, RdP_start (hP.sub (ws' := []) [] rfl) hZ⟩ rfl rfl hl.1 rfl (lv_room (Nat.le_of_ble_eq_true rfl)) dX2_digest_64 ⟨Nat.le_of_ble_eq_true rfl, Nat.le_of_ble_eq_true rfl⟩).run (fun r_27 hr_28 => ?_)
  subst hr_28
  refine lv_lstore_n (lv' := [(1, .long ((((((2371 * 31 + ((nI nw).toInt64)) * 31 + ((nI (zN σ)).toInt64)) * 31 + ((nI (zM σ)).toInt64)) * 31 + (aN true)) * 31 + (aN cg)) * 31 + (oN (some ct)))), (0, .ref a)]) hx hb dX2_digest_67 rfl hl (by decide) rfl (fun ls hl => ?_)
  refine lv_lload_n hx hb dX2_digest_68 rfl (lv_at hl 0 rfl) ?_
  refine lv_aload_n hx hb dX2_digest_69 rfl (lv_at hl 1 rfl) ?_
  refine vp_callSi (va_runV (As := []) (rest := [.long ((((((2371 * 31 + ((nI nw).toInt64)) * 31 + ((nI (zN σ)).toInt64)) * 31 + ((nI (zM σ)).toInt64)) * 31 + (aN true)) * 31 + (aN cg)) * 31 + (oN (some ct)))]) ⟨hx, hb, hml, hown, hts⟩ (c_X2_mouseIn l D cZ cI a o o' q (nw, true, cg, some ct, some mo, ea) ω ω' σ   ) (cwV 0 hts gX2_digest_X2_mouseIn rfl rfl rfl (by decide +kernel) ⟨Nat.le_of_ble_eq_true rfl, Nat.le_of_ble_eq_true rfl⟩) ⟨RdP_blind, va_recv hZ.1 hP (ci := 2) (q0 := 0) rfl rfl, RdP_start (hP.sub (ws' := pD cZ cI a o o' q (nw, true, cg, some ct, some mo, ea) ω ω' σ) [0, 1, 2, 3, 4, 5, 6, 7, 8, 9, 10, 11, 12, 13, 14, 15, 16, 17, 18] rfl) hZ⟩ rfl rfl hl.1 rfl (lv_room (Nat.le_of_ble_eq_true rfl)) dX2_digest_70 ⟨Nat.le_of_ble_eq_true rfl, Nat.le_of_ble_eq_true rfl⟩).run (fun r_29 hr_30 => ?_)
  subst hr_30
  refine rv_top (show _ = iO (some mo) from rfl) ?_
  refine lv_i2l (v := oN (some mo)) hx hb dX2_digest_73 rfl ?_
  refine vp_callSl (va_runS (As := [.long ((((((2371 * 31 + ((nI nw).toInt64)) * 31 + ((nI (zN σ)).toInt64)) * 31 + ((nI (zM σ)).toInt64)) * 31 + (aN true)) * 31 + (aN cg)) * 31 + (oN (some ct))), .long (oN (some mo))]) (rest := []) ⟨hx, hb, hml, hown, hts⟩ (c_X2_joined l D cZ cI   ((((((2371 * 31 + ((nI nw).toInt64)) * 31 + ((nI (zN σ)).toInt64)) * 31 + ((nI (zM σ)).toInt64)) * 31 + (aN true)) * 31 + (aN cg)) * 31 + (oN (some ct))) (oN (some mo)) ) (va_cwS 2 hts gX2_digest_X2_joined rfl rfl rfl (by decide +kernel) ⟨Nat.le_of_ble_eq_true rfl, Nat.le_of_ble_eq_true rfl⟩) ⟨RdP_blind, RdP_start (hP.sub (ws' := []) [] rfl) hZ⟩ rfl rfl hl.1 rfl (lv_room (Nat.le_of_ble_eq_true rfl)) dX2_digest_74 ⟨Nat.le_of_ble_eq_true rfl, Nat.le_of_ble_eq_true rfl⟩).run (fun r_31 hr_32 => ?_)
  subst hr_32
  refine lv_lstore_n (lv' := [(1, .long (((((((2371 * 31 + ((nI nw).toInt64)) * 31 + ((nI (zN σ)).toInt64)) * 31 + ((nI (zM σ)).toInt64)) * 31 + (aN true)) * 31 + (aN cg)) * 31 + (oN (some ct))) * 31 + (oN (some mo)))), (0, .ref a)]) hx hb dX2_digest_77 rfl hl (by decide) rfl (fun ls hl => ?_)
  refine lv_lload_n hx hb dX2_digest_78 rfl (lv_at hl 0 rfl) ?_
  refine lv_aload_n hx hb dX2_digest_79 rfl (lv_at hl 1 rfl) ?_
  refine vp_callSi (va_runV (As := []) (rest := [.long (((((((2371 * 31 + ((nI nw).toInt64)) * 31 + ((nI (zN σ)).toInt64)) * 31 + ((nI (zM σ)).toInt64)) * 31 + (aN true)) * 31 + (aN cg)) * 31 + (oN (some ct))) * 31 + (oN (some mo)))]) ⟨hx, hb, hml, hown, hts⟩ (c_X2_eaten l D cZ cI a o o' q (nw, true, cg, some ct, some mo, ea) ω ω' σ   ) (cwV 0 hts gX2_digest_X2_eaten rfl rfl rfl (by decide +kernel) ⟨Nat.le_of_ble_eq_true rfl, Nat.le_of_ble_eq_true rfl⟩) ⟨RdP_blind, va_recv hZ.1 hP (ci := 2) (q0 := 0) rfl rfl, RdP_start (hP.sub (ws' := pD cZ cI a o o' q (nw, true, cg, some ct, some mo, ea) ω ω' σ) [0, 1, 2, 3, 4, 5, 6, 7, 8, 9, 10, 11, 12, 13, 14, 15, 16, 17, 18] rfl) hZ⟩ rfl rfl hl.1 rfl (lv_room (Nat.le_of_ble_eq_true rfl)) dX2_digest_80 ⟨Nat.le_of_ble_eq_true rfl, Nat.le_of_ble_eq_true rfl⟩).run (fun r_33 hr_34 => ?_)
  subst hr_34
  refine rv_top (show _ = nI ea from rfl) ?_
  refine lv_i2l (v := (nI ea).toInt64) hx hb dX2_digest_83 rfl ?_
  refine vp_callSl (va_runS (As := [.long (((((((2371 * 31 + ((nI nw).toInt64)) * 31 + ((nI (zN σ)).toInt64)) * 31 + ((nI (zM σ)).toInt64)) * 31 + (aN true)) * 31 + (aN cg)) * 31 + (oN (some ct))) * 31 + (oN (some mo))), .long ((nI ea).toInt64)]) (rest := []) ⟨hx, hb, hml, hown, hts⟩ (c_X2_joined l D cZ cI   (((((((2371 * 31 + ((nI nw).toInt64)) * 31 + ((nI (zN σ)).toInt64)) * 31 + ((nI (zM σ)).toInt64)) * 31 + (aN true)) * 31 + (aN cg)) * 31 + (oN (some ct))) * 31 + (oN (some mo))) ((nI ea).toInt64) ) (va_cwS 2 hts gX2_digest_X2_joined rfl rfl rfl (by decide +kernel) ⟨Nat.le_of_ble_eq_true rfl, Nat.le_of_ble_eq_true rfl⟩) ⟨RdP_blind, RdP_start (hP.sub (ws' := []) [] rfl) hZ⟩ rfl rfl hl.1 rfl (lv_room (Nat.le_of_ble_eq_true rfl)) dX2_digest_84 ⟨Nat.le_of_ble_eq_true rfl, Nat.le_of_ble_eq_true rfl⟩).run (fun r_35 hr_36 => ?_)
  subst hr_36
  refine lv_lstore_n (lv' := [(1, .long ((((((((2371 * 31 + ((nI nw).toInt64)) * 31 + ((nI (zN σ)).toInt64)) * 31 + ((nI (zM σ)).toInt64)) * 31 + (aN true)) * 31 + (aN cg)) * 31 + (oN (some ct))) * 31 + (oN (some mo))) * 31 + ((nI ea).toInt64))), (0, .ref a)]) hx hb dX2_digest_87 rfl hl (by decide) rfl (fun ls hl => ?_)
  refine lv_lload_n hx hb dX2_digest_88 rfl (lv_at hl 0 rfl) ?_
  refine lv_aload_n hx hb dX2_digest_89 rfl (lv_at hl 1 rfl) ?_
  refine vp_callSi (va_runV (As := []) (rest := [.long ((((((((2371 * 31 + ((nI nw).toInt64)) * 31 + ((nI (zN σ)).toInt64)) * 31 + ((nI (zM σ)).toInt64)) * 31 + (aN true)) * 31 + (aN cg)) * 31 + (oN (some ct))) * 31 + (oN (some mo))) * 31 + ((nI ea).toInt64))]) ⟨hx, hb, hml, hown, hts⟩ (c_X2_turnsToCatch l D cZ cI a o o' q nw cg ct mo ea ω ω' σ   (by first | assumption | omega) (by first | assumption | omega) (by first | assumption | omega) (by first | assumption | omega)) (cwV 0 hts gX2_digest_X2_turnsToCatch rfl rfl rfl (by decide +kernel) ⟨Nat.le_of_ble_eq_true rfl, Nat.le_of_ble_eq_true rfl⟩) ⟨RdP_blind, va_recv hZ.1 hP (ci := 2) (q0 := 0) rfl rfl, RdP_start (hP.sub (ws' := pD cZ cI a o o' q (nw, true, cg, some ct, some mo, ea) ω ω' σ) [0, 1, 2, 3, 4, 5, 6, 7, 8, 9, 10, 11, 12, 13, 14, 15, 16, 17, 18] rfl) hZ⟩ rfl rfl hl.1 rfl (lv_room (Nat.le_of_ble_eq_true rfl)) dX2_digest_90 ⟨Nat.le_of_ble_eq_true rfl, Nat.le_of_ble_eq_true rfl⟩).run (fun r_37 hr_38 => ?_)
  subst hr_38
  refine rv_top (show _ = iO ((oT ω) ((nw + 0) % 12) ct mo) from rfl) ?_
  refine lv_i2l (v := oN ((oT ω) ((nw + 0) % 12) ct mo)) hx hb dX2_digest_93 rfl ?_
  refine vp_callSl (va_runS (As := [.long ((((((((2371 * 31 + ((nI nw).toInt64)) * 31 + ((nI (zN σ)).toInt64)) * 31 + ((nI (zM σ)).toInt64)) * 31 + (aN true)) * 31 + (aN cg)) * 31 + (oN (some ct))) * 31 + (oN (some mo))) * 31 + ((nI ea).toInt64)), .long (oN ((oT ω) ((nw + 0) % 12) ct mo))]) (rest := []) ⟨hx, hb, hml, hown, hts⟩ (c_X2_joined l D cZ cI   ((((((((2371 * 31 + ((nI nw).toInt64)) * 31 + ((nI (zN σ)).toInt64)) * 31 + ((nI (zM σ)).toInt64)) * 31 + (aN true)) * 31 + (aN cg)) * 31 + (oN (some ct))) * 31 + (oN (some mo))) * 31 + ((nI ea).toInt64)) (oN ((oT ω) ((nw + 0) % 12) ct mo)) ) (va_cwS 2 hts gX2_digest_X2_joined rfl rfl rfl (by decide +kernel) ⟨Nat.le_of_ble_eq_true rfl, Nat.le_of_ble_eq_true rfl⟩) ⟨RdP_blind, RdP_start (hP.sub (ws' := []) [] rfl) hZ⟩ rfl rfl hl.1 rfl (lv_room (Nat.le_of_ble_eq_true rfl)) dX2_digest_94 ⟨Nat.le_of_ble_eq_true rfl, Nat.le_of_ble_eq_true rfl⟩).run (fun r_39 hr_40 => ?_)
  subst hr_40
  refine lv_lstore_n (lv' := [(1, .long (((((((((2371 * 31 + ((nI nw).toInt64)) * 31 + ((nI (zN σ)).toInt64)) * 31 + ((nI (zM σ)).toInt64)) * 31 + (aN true)) * 31 + (aN cg)) * 31 + (oN (some ct))) * 31 + (oN (some mo))) * 31 + ((nI ea).toInt64)) * 31 + (oN ((oT ω) ((nw + 0) % 12) ct mo)))), (0, .ref a)]) hx hb dX2_digest_97 rfl hl (by decide) rfl (fun ls hl => ?_)
  refine lv_lload_n hx hb dX2_digest_98 rfl (lv_at hl 0 rfl) ?_
  refine lv_aload_n hx hb dX2_digest_99 rfl (lv_at hl 1 rfl) ?_
  refine vp_callSi (va_runV (As := []) (rest := [.long (((((((((2371 * 31 + ((nI nw).toInt64)) * 31 + ((nI (zN σ)).toInt64)) * 31 + ((nI (zM σ)).toInt64)) * 31 + (aN true)) * 31 + (aN cg)) * 31 + (oN (some ct))) * 31 + (oN (some mo))) * 31 + ((nI ea).toInt64)) * 31 + (oN ((oT ω) ((nw + 0) % 12) ct mo)))]) ⟨hx, hb, hml, hown, hts⟩ (c_X2_safeNow l D cZ cI a o o' q nw cg ct mo ea ω ω' σ   (by first | assumption | omega) (by first | assumption | omega) (by first | assumption | omega) (by first | assumption | omega) (by first | assumption | omega)) (cwV 0 hts gX2_digest_X2_safeNow rfl rfl rfl (by decide +kernel) ⟨Nat.le_of_ble_eq_true rfl, Nat.le_of_ble_eq_true rfl⟩) ⟨RdP_blind, va_recv hZ.1 hP (ci := 2) (q0 := 0) rfl rfl, RdP_start (hP.sub (ws' := pD cZ cI a o o' q (nw, true, cg, some ct, some mo, ea) ω ω' σ) [0, 1, 2, 3, 4, 5, 6, 7, 8, 9, 10, 11, 12, 13, 14, 15, 16, 17, 18] rfl) hZ⟩ rfl rfl hl.1 rfl (lv_room (Nat.le_of_ble_eq_true rfl)) dX2_digest_100 ⟨Nat.le_of_ble_eq_true rfl, Nat.le_of_ble_eq_true rfl⟩).run (fun r_41 hr_42 => ?_)
  subst hr_42
  refine rv_top (show _ = nI (snL ω nw ct ((zN σ)) 0 0) from rfl) ?_
  refine lv_i2l (v := (nI (snL ω nw ct ((zN σ)) 0 0)).toInt64) hx hb dX2_digest_103 rfl ?_
  refine vp_callSl (va_runS (As := [.long (((((((((2371 * 31 + ((nI nw).toInt64)) * 31 + ((nI (zN σ)).toInt64)) * 31 + ((nI (zM σ)).toInt64)) * 31 + (aN true)) * 31 + (aN cg)) * 31 + (oN (some ct))) * 31 + (oN (some mo))) * 31 + ((nI ea).toInt64)) * 31 + (oN ((oT ω) ((nw + 0) % 12) ct mo))), .long ((nI (snL ω nw ct ((zN σ)) 0 0)).toInt64)]) (rest := []) ⟨hx, hb, hml, hown, hts⟩ (c_X2_joined l D cZ cI   (((((((((2371 * 31 + ((nI nw).toInt64)) * 31 + ((nI (zN σ)).toInt64)) * 31 + ((nI (zM σ)).toInt64)) * 31 + (aN true)) * 31 + (aN cg)) * 31 + (oN (some ct))) * 31 + (oN (some mo))) * 31 + ((nI ea).toInt64)) * 31 + (oN ((oT ω) ((nw + 0) % 12) ct mo))) ((nI (snL ω nw ct ((zN σ)) 0 0)).toInt64) ) (va_cwS 2 hts gX2_digest_X2_joined rfl rfl rfl (by decide +kernel) ⟨Nat.le_of_ble_eq_true rfl, Nat.le_of_ble_eq_true rfl⟩) ⟨RdP_blind, RdP_start (hP.sub (ws' := []) [] rfl) hZ⟩ rfl rfl hl.1 rfl (lv_room (Nat.le_of_ble_eq_true rfl)) dX2_digest_104 ⟨Nat.le_of_ble_eq_true rfl, Nat.le_of_ble_eq_true rfl⟩).run (fun r_43 hr_44 => ?_)
  subst hr_44
  refine lv_lstore_n (lv' := [(1, .long ((((((((((2371 * 31 + ((nI nw).toInt64)) * 31 + ((nI (zN σ)).toInt64)) * 31 + ((nI (zM σ)).toInt64)) * 31 + (aN true)) * 31 + (aN cg)) * 31 + (oN (some ct))) * 31 + (oN (some mo))) * 31 + ((nI ea).toInt64)) * 31 + (oN ((oT ω) ((nw + 0) % 12) ct mo))) * 31 + ((nI (snL ω nw ct ((zN σ)) 0 0)).toInt64))), (0, .ref a)]) hx hb dX2_digest_107 rfl hl (by decide) rfl (fun ls hl => ?_)
  refine lv_lload_n hx hb dX2_digest_108 rfl (lv_at hl 0 rfl) ?_
  refine lv_aload_n hx hb dX2_digest_109 rfl (lv_at hl 1 rfl) ?_
  refine vp_callSi (va_runV (As := []) (rest := [.long ((((((((((2371 * 31 + ((nI nw).toInt64)) * 31 + ((nI (zN σ)).toInt64)) * 31 + ((nI (zM σ)).toInt64)) * 31 + (aN true)) * 31 + (aN cg)) * 31 + (oN (some ct))) * 31 + (oN (some mo))) * 31 + ((nI ea).toInt64)) * 31 + (oN ((oT ω) ((nw + 0) % 12) ct mo))) * 31 + ((nI (snL ω nw ct ((zN σ)) 0 0)).toInt64))]) ⟨hx, hb, hml, hown, hts⟩ (c_X2_bestGo l D cZ cI a o o' q nw cg ct mo ea ω ω' σ   (by first | assumption | omega) (by first | assumption | omega) (by first | assumption | omega) (by first | assumption | omega) (by first | assumption | omega)) (cwV 0 hts gX2_digest_X2_bestGo rfl rfl rfl (by decide +kernel) ⟨Nat.le_of_ble_eq_true rfl, Nat.le_of_ble_eq_true rfl⟩) ⟨RdP_blind, va_recv hZ.1 hP (ci := 2) (q0 := 0) rfl rfl, RdP_start (hP.sub (ws' := pD cZ cI a o o' q (nw, true, cg, some ct, some mo, ea) ω ω' σ) [0, 1, 2, 3, 4, 5, 6, 7, 8, 9, 10, 11, 12, 13, 14, 15, 16, 17, 18] rfl) hZ⟩ rfl rfl hl.1 rfl (lv_room (Nat.le_of_ble_eq_true rfl)) dX2_digest_110 ⟨Nat.le_of_ble_eq_true rfl, Nat.le_of_ble_eq_true rfl⟩).run (fun r_45 hr_46 => ?_)
  subst hr_46
  refine rv_top (show _ = nI (bestF ((oW ω)) ((oT ω)) σ nw ct mo) from rfl) ?_
  refine lv_i2l (v := (nI (bestF ((oW ω)) ((oT ω)) σ nw ct mo)).toInt64) hx hb dX2_digest_113 rfl ?_
  refine vp_callSl (va_runS (As := [.long ((((((((((2371 * 31 + ((nI nw).toInt64)) * 31 + ((nI (zN σ)).toInt64)) * 31 + ((nI (zM σ)).toInt64)) * 31 + (aN true)) * 31 + (aN cg)) * 31 + (oN (some ct))) * 31 + (oN (some mo))) * 31 + ((nI ea).toInt64)) * 31 + (oN ((oT ω) ((nw + 0) % 12) ct mo))) * 31 + ((nI (snL ω nw ct ((zN σ)) 0 0)).toInt64)), .long ((nI (bestF ((oW ω)) ((oT ω)) σ nw ct mo)).toInt64)]) (rest := []) ⟨hx, hb, hml, hown, hts⟩ (c_X2_joined l D cZ cI   ((((((((((2371 * 31 + ((nI nw).toInt64)) * 31 + ((nI (zN σ)).toInt64)) * 31 + ((nI (zM σ)).toInt64)) * 31 + (aN true)) * 31 + (aN cg)) * 31 + (oN (some ct))) * 31 + (oN (some mo))) * 31 + ((nI ea).toInt64)) * 31 + (oN ((oT ω) ((nw + 0) % 12) ct mo))) * 31 + ((nI (snL ω nw ct ((zN σ)) 0 0)).toInt64)) ((nI (bestF ((oW ω)) ((oT ω)) σ nw ct mo)).toInt64) ) (va_cwS 2 hts gX2_digest_X2_joined rfl rfl rfl (by decide +kernel) ⟨Nat.le_of_ble_eq_true rfl, Nat.le_of_ble_eq_true rfl⟩) ⟨RdP_blind, RdP_start (hP.sub (ws' := []) [] rfl) hZ⟩ rfl rfl hl.1 rfl (lv_room (Nat.le_of_ble_eq_true rfl)) dX2_digest_114 ⟨Nat.le_of_ble_eq_true rfl, Nat.le_of_ble_eq_true rfl⟩).run (fun r_47 hr_48 => ?_)
  subst hr_48
  refine lv_lstore_n (lv' := [(1, .long (((((((((((2371 * 31 + ((nI nw).toInt64)) * 31 + ((nI (zN σ)).toInt64)) * 31 + ((nI (zM σ)).toInt64)) * 31 + (aN true)) * 31 + (aN cg)) * 31 + (oN (some ct))) * 31 + (oN (some mo))) * 31 + ((nI ea).toInt64)) * 31 + (oN ((oT ω) ((nw + 0) % 12) ct mo))) * 31 + ((nI (snL ω nw ct ((zN σ)) 0 0)).toInt64)) * 31 + ((nI (bestF ((oW ω)) ((oT ω)) σ nw ct mo)).toInt64))), (0, .ref a)]) hx hb dX2_digest_117 rfl hl (by decide) rfl (fun ls hl => ?_)
  refine lv_lload_n hx hb dX2_digest_118 rfl (lv_at hl 0 rfl) ?_
  refine lv_aload_n hx hb dX2_digest_119 rfl (lv_at hl 1 rfl) ?_
  refine vp_callSi (va_runV (As := []) (rest := [.long (((((((((((2371 * 31 + ((nI nw).toInt64)) * 31 + ((nI (zN σ)).toInt64)) * 31 + ((nI (zM σ)).toInt64)) * 31 + (aN true)) * 31 + (aN cg)) * 31 + (oN (some ct))) * 31 + (oN (some mo))) * 31 + ((nI ea).toInt64)) * 31 + (oN ((oT ω) ((nw + 0) % 12) ct mo))) * 31 + ((nI (snL ω nw ct ((zN σ)) 0 0)).toInt64)) * 31 + ((nI (bestF ((oW ω)) ((oT ω)) σ nw ct mo)).toInt64))]) ⟨hx, hb, hml, hown, hts⟩ (c_X2_pairsCaught l D cZ cI a o o' q (nw, true, cg, some ct, some mo, ea) ω ω' σ   (by first | assumption | omega) (by first | assumption | omega) (by first | assumption | omega)) (cwV 0 hts gX2_digest_X2_pairsCaught rfl rfl rfl (by decide +kernel) ⟨Nat.le_of_ble_eq_true rfl, Nat.le_of_ble_eq_true rfl⟩) ⟨RdP_blind, va_recv hZ.1 hP (ci := 2) (q0 := 0) rfl rfl, RdP_start (hP.sub (ws' := pD cZ cI a o o' q (nw, true, cg, some ct, some mo, ea) ω ω' σ) [0, 1, 2, 3, 4, 5, 6, 7, 8, 9, 10, 11, 12, 13, 14, 15, 16, 17, 18] rfl) hZ⟩ rfl rfl hl.1 rfl (lv_room (Nat.le_of_ble_eq_true rfl)) dX2_digest_120 ⟨Nat.le_of_ble_eq_true rfl, Nat.le_of_ble_eq_true rfl⟩).run (fun r_49 hr_50 => ?_)
  subst hr_50
  refine rv_top (show _ = nI (pcL ω σ (nw) 64 0 0) from rfl) ?_
  refine lv_i2l (v := (nI (pcL ω σ (nw) 64 0 0)).toInt64) hx hb dX2_digest_123 rfl ?_
  refine vp_callSl (va_runS (As := [.long (((((((((((2371 * 31 + ((nI nw).toInt64)) * 31 + ((nI (zN σ)).toInt64)) * 31 + ((nI (zM σ)).toInt64)) * 31 + (aN true)) * 31 + (aN cg)) * 31 + (oN (some ct))) * 31 + (oN (some mo))) * 31 + ((nI ea).toInt64)) * 31 + (oN ((oT ω) ((nw + 0) % 12) ct mo))) * 31 + ((nI (snL ω nw ct ((zN σ)) 0 0)).toInt64)) * 31 + ((nI (bestF ((oW ω)) ((oT ω)) σ nw ct mo)).toInt64)), .long ((nI (pcL ω σ (nw) 64 0 0)).toInt64)]) (rest := []) ⟨hx, hb, hml, hown, hts⟩ (c_X2_joined l D cZ cI   (((((((((((2371 * 31 + ((nI nw).toInt64)) * 31 + ((nI (zN σ)).toInt64)) * 31 + ((nI (zM σ)).toInt64)) * 31 + (aN true)) * 31 + (aN cg)) * 31 + (oN (some ct))) * 31 + (oN (some mo))) * 31 + ((nI ea).toInt64)) * 31 + (oN ((oT ω) ((nw + 0) % 12) ct mo))) * 31 + ((nI (snL ω nw ct ((zN σ)) 0 0)).toInt64)) * 31 + ((nI (bestF ((oW ω)) ((oT ω)) σ nw ct mo)).toInt64)) ((nI (pcL ω σ (nw) 64 0 0)).toInt64) ) (va_cwS 2 hts gX2_digest_X2_joined rfl rfl rfl (by decide +kernel) ⟨Nat.le_of_ble_eq_true rfl, Nat.le_of_ble_eq_true rfl⟩) ⟨RdP_blind, RdP_start (hP.sub (ws' := []) [] rfl) hZ⟩ rfl rfl hl.1 rfl (lv_room (Nat.le_of_ble_eq_true rfl)) dX2_digest_124 ⟨Nat.le_of_ble_eq_true rfl, Nat.le_of_ble_eq_true rfl⟩).run (fun r_51 hr_52 => ?_)
  subst hr_52
  refine lv_lstore_n (lv' := [(1, .long ((((((((((((2371 * 31 + ((nI nw).toInt64)) * 31 + ((nI (zN σ)).toInt64)) * 31 + ((nI (zM σ)).toInt64)) * 31 + (aN true)) * 31 + (aN cg)) * 31 + (oN (some ct))) * 31 + (oN (some mo))) * 31 + ((nI ea).toInt64)) * 31 + (oN ((oT ω) ((nw + 0) % 12) ct mo))) * 31 + ((nI (snL ω nw ct ((zN σ)) 0 0)).toInt64)) * 31 + ((nI (bestF ((oW ω)) ((oT ω)) σ nw ct mo)).toInt64)) * 31 + ((nI (pcL ω σ (nw) 64 0 0)).toInt64))), (0, .ref a)]) hx hb dX2_digest_127 rfl hl (by decide) rfl (fun ls hl => ?_)
  refine lv_lload_n hx hb dX2_digest_128 rfl (lv_at hl 0 rfl) ?_
  refine lv_aload_n hx hb dX2_digest_129 rfl (lv_at hl 1 rfl) ?_
  refine vp_callSi (va_runV (As := []) (rest := [.long ((((((((((((2371 * 31 + ((nI nw).toInt64)) * 31 + ((nI (zN σ)).toInt64)) * 31 + ((nI (zM σ)).toInt64)) * 31 + (aN true)) * 31 + (aN cg)) * 31 + (oN (some ct))) * 31 + (oN (some mo))) * 31 + ((nI ea).toInt64)) * 31 + (oN ((oT ω) ((nw + 0) % 12) ct mo))) * 31 + ((nI (snL ω nw ct ((zN σ)) 0 0)).toInt64)) * 31 + ((nI (bestF ((oW ω)) ((oT ω)) σ nw ct mo)).toInt64)) * 31 + ((nI (pcL ω σ (nw) 64 0 0)).toInt64))]) ⟨hx, hb, hml, hown, hts⟩ (c_X2_longestChase l D cZ cI a o o' q (nw, true, cg, some ct, some mo, ea) ω ω' σ   (by first | assumption | omega) (by first | assumption | omega) (by first | assumption | omega)) (cwV 0 hts gX2_digest_X2_longestChase rfl rfl rfl (by decide +kernel) ⟨Nat.le_of_ble_eq_true rfl, Nat.le_of_ble_eq_true rfl⟩) ⟨RdP_blind, va_recv hZ.1 hP (ci := 2) (q0 := 0) rfl rfl, RdP_start (hP.sub (ws' := pD cZ cI a o o' q (nw, true, cg, some ct, some mo, ea) ω ω' σ) [0, 1, 2, 3, 4, 5, 6, 7, 8, 9, 10, 11, 12, 13, 14, 15, 16, 17, 18] rfl) hZ⟩ rfl rfl hl.1 rfl (lv_room (Nat.le_of_ble_eq_true rfl)) dX2_digest_130 ⟨Nat.le_of_ble_eq_true rfl, Nat.le_of_ble_eq_true rfl⟩).run (fun r_53 hr_54 => ?_)
  subst hr_54
  refine rv_top (show _ = iO (lcL ω σ (nw) 64 0 none) from rfl) ?_
  refine lv_i2l (v := oN (lcL ω σ (nw) 64 0 none)) hx hb dX2_digest_133 rfl ?_
  refine vp_callSl (va_runS (As := [.long ((((((((((((2371 * 31 + ((nI nw).toInt64)) * 31 + ((nI (zN σ)).toInt64)) * 31 + ((nI (zM σ)).toInt64)) * 31 + (aN true)) * 31 + (aN cg)) * 31 + (oN (some ct))) * 31 + (oN (some mo))) * 31 + ((nI ea).toInt64)) * 31 + (oN ((oT ω) ((nw + 0) % 12) ct mo))) * 31 + ((nI (snL ω nw ct ((zN σ)) 0 0)).toInt64)) * 31 + ((nI (bestF ((oW ω)) ((oT ω)) σ nw ct mo)).toInt64)) * 31 + ((nI (pcL ω σ (nw) 64 0 0)).toInt64)), .long (oN (lcL ω σ (nw) 64 0 none))]) (rest := []) ⟨hx, hb, hml, hown, hts⟩ (c_X2_joined l D cZ cI   ((((((((((((2371 * 31 + ((nI nw).toInt64)) * 31 + ((nI (zN σ)).toInt64)) * 31 + ((nI (zM σ)).toInt64)) * 31 + (aN true)) * 31 + (aN cg)) * 31 + (oN (some ct))) * 31 + (oN (some mo))) * 31 + ((nI ea).toInt64)) * 31 + (oN ((oT ω) ((nw + 0) % 12) ct mo))) * 31 + ((nI (snL ω nw ct ((zN σ)) 0 0)).toInt64)) * 31 + ((nI (bestF ((oW ω)) ((oT ω)) σ nw ct mo)).toInt64)) * 31 + ((nI (pcL ω σ (nw) 64 0 0)).toInt64)) (oN (lcL ω σ (nw) 64 0 none)) ) (va_cwS 2 hts gX2_digest_X2_joined rfl rfl rfl (by decide +kernel) ⟨Nat.le_of_ble_eq_true rfl, Nat.le_of_ble_eq_true rfl⟩) ⟨RdP_blind, RdP_start (hP.sub (ws' := []) [] rfl) hZ⟩ rfl rfl hl.1 rfl (lv_room (Nat.le_of_ble_eq_true rfl)) dX2_digest_134 ⟨Nat.le_of_ble_eq_true rfl, Nat.le_of_ble_eq_true rfl⟩).run (fun r_55 hr_56 => ?_)
  subst hr_56
  refine lv_lstore_n (lv' := [(1, .long (((((((((((((2371 * 31 + ((nI nw).toInt64)) * 31 + ((nI (zN σ)).toInt64)) * 31 + ((nI (zM σ)).toInt64)) * 31 + (aN true)) * 31 + (aN cg)) * 31 + (oN (some ct))) * 31 + (oN (some mo))) * 31 + ((nI ea).toInt64)) * 31 + (oN ((oT ω) ((nw + 0) % 12) ct mo))) * 31 + ((nI (snL ω nw ct ((zN σ)) 0 0)).toInt64)) * 31 + ((nI (bestF ((oW ω)) ((oT ω)) σ nw ct mo)).toInt64)) * 31 + ((nI (pcL ω σ (nw) 64 0 0)).toInt64)) * 31 + (oN (lcL ω σ (nw) 64 0 none)))), (0, .ref a)]) hx hb dX2_digest_137 rfl hl (by decide) rfl (fun ls hl => ?_)
  refine lv_lload_n hx hb dX2_digest_138 rfl (lv_at hl 0 rfl) ?_
  refine lv_aload_n hx hb dX2_digest_139 rfl (lv_at hl 1 rfl) ?_
  have hFc := va_free (wc := pD cZ cI a o o' q (nw, true, cg, some ct, some mo, ea) ω ω' σ) hD hS hA [0, 1, 2, 3, 4, 5, 6, 7, 8, 9, 10, 11, 12, 13, 14, 15, 16, 17, 18] rfl
  refine va_calli (va_runV (As := []) (rest := [.long (((((((((((((2371 * 31 + ((nI nw).toInt64)) * 31 + ((nI (zN σ)).toInt64)) * 31 + ((nI (zM σ)).toInt64)) * 31 + (aN true)) * 31 + (aN cg)) * 31 + (oN (some ct))) * 31 + (oN (some mo))) * 31 + ((nI ea).toInt64)) * 31 + (oN ((oT ω) ((nw + 0) % 12) ct mo))) * 31 + ((nI (snL ω nw ct ((zN σ)) 0 0)).toInt64)) * 31 + ((nI (bestF ((oW ω)) ((oT ω)) σ nw ct mo)).toInt64)) * 31 + ((nI (pcL ω σ (nw) 64 0 0)).toInt64)) * 31 + (oN (lcL ω σ (nw) 64 0 none)))]) ⟨hx, hb, hml, hown, hts⟩ (c_X2_bestDoorToLock l D cZ cI a o o' q nw cg ct mo ea ω ω' σ s.heap.size  (by first | assumption | omega) (by first | assumption | omega) (by first | assumption | omega) (by first | assumption | omega) (by first | assumption | omega)) (cwV 0 hts gX2_digest_X2_bestDoorToLock rfl rfl rfl (by decide +kernel) ⟨Nat.le_of_ble_eq_true rfl, Nat.le_of_ble_eq_true rfl⟩) ⟨WrP_blind, va_recv hZ.1 hP (ci := 2) (q0 := 0) rfl rfl, WrP_start hP hD hZ⟩ rfl rfl hl.1 rfl (lv_room (Nat.le_of_ble_eq_true rfl)) dX2_digest_140 ⟨Nat.le_of_ble_eq_true rfl, Nat.le_of_ble_eq_true rfl⟩) hS (fun q _ h => hFc q h) hFc (fun r9 u_57 t H1 locs ht hvm hw hB hz1 hk1 hS => ?_)
  obtain ⟨hP, hD⟩ := hB
  rw [ht] at hP
  replace hD := hD.weaken (fun _ _ _ h => hFc _ h)
  generalize H1 = H at hP hS ⊢
  have hP : va_P D vwCl (pD cZ cI a o o' q (nw, true, cg, some ct, some mo, ea) ω u_57 σ) H := hP
  have hD : va_D A (pD cZ cI a o o' q (nw, true, cg, some ct, some mo, ea) ω u_57 σ) := hD
  subst hw
  refine rv_top (show _ = iO (bdL σ nw ct mo ((zM σ)) 0 ((oT ω) ((nw + 0) % 12) ct mo) none) from rfl) ?_
  refine lv_i2l (v := oN (bdL σ nw ct mo ((zM σ)) 0 ((oT ω) ((nw + 0) % 12) ct mo) none)) hx hb dX2_digest_143 rfl ?_
  refine vp_callSl (va_runS (As := [.long (((((((((((((2371 * 31 + ((nI nw).toInt64)) * 31 + ((nI (zN σ)).toInt64)) * 31 + ((nI (zM σ)).toInt64)) * 31 + (aN true)) * 31 + (aN cg)) * 31 + (oN (some ct))) * 31 + (oN (some mo))) * 31 + ((nI ea).toInt64)) * 31 + (oN ((oT ω) ((nw + 0) % 12) ct mo))) * 31 + ((nI (snL ω nw ct ((zN σ)) 0 0)).toInt64)) * 31 + ((nI (bestF ((oW ω)) ((oT ω)) σ nw ct mo)).toInt64)) * 31 + ((nI (pcL ω σ (nw) 64 0 0)).toInt64)) * 31 + (oN (lcL ω σ (nw) 64 0 none))), .long (oN (bdL σ nw ct mo ((zM σ)) 0 ((oT ω) ((nw + 0) % 12) ct mo) none))]) (rest := []) ⟨hx, hb, hml, hown, hts⟩ (c_X2_joined l D cZ cI   (((((((((((((2371 * 31 + ((nI nw).toInt64)) * 31 + ((nI (zN σ)).toInt64)) * 31 + ((nI (zM σ)).toInt64)) * 31 + (aN true)) * 31 + (aN cg)) * 31 + (oN (some ct))) * 31 + (oN (some mo))) * 31 + ((nI ea).toInt64)) * 31 + (oN ((oT ω) ((nw + 0) % 12) ct mo))) * 31 + ((nI (snL ω nw ct ((zN σ)) 0 0)).toInt64)) * 31 + ((nI (bestF ((oW ω)) ((oT ω)) σ nw ct mo)).toInt64)) * 31 + ((nI (pcL ω σ (nw) 64 0 0)).toInt64)) * 31 + (oN (lcL ω σ (nw) 64 0 none))) (oN (bdL σ nw ct mo ((zM σ)) 0 ((oT ω) ((nw + 0) % 12) ct mo) none)) ) (va_cwS 2 hts gX2_digest_X2_joined rfl rfl rfl (by decide +kernel) ⟨Nat.le_of_ble_eq_true rfl, Nat.le_of_ble_eq_true rfl⟩) ⟨RdP_blind, RdP_start (hP.sub (ws' := []) [] rfl) hZ⟩ rfl rfl hl.1 rfl (lv_room (Nat.le_of_ble_eq_true rfl)) dX2_digest_144 ⟨Nat.le_of_ble_eq_true rfl, Nat.le_of_ble_eq_true rfl⟩).run (fun r_58 hr_59 => ?_)
  subst hr_59
  refine lv_lstore_n (lv' := [(1, .long ((((((((((((((2371 * 31 + ((nI nw).toInt64)) * 31 + ((nI (zN σ)).toInt64)) * 31 + ((nI (zM σ)).toInt64)) * 31 + (aN true)) * 31 + (aN cg)) * 31 + (oN (some ct))) * 31 + (oN (some mo))) * 31 + ((nI ea).toInt64)) * 31 + (oN ((oT ω) ((nw + 0) % 12) ct mo))) * 31 + ((nI (snL ω nw ct ((zN σ)) 0 0)).toInt64)) * 31 + ((nI (bestF ((oW ω)) ((oT ω)) σ nw ct mo)).toInt64)) * 31 + ((nI (pcL ω σ (nw) 64 0 0)).toInt64)) * 31 + (oN (lcL ω σ (nw) 64 0 none))) * 31 + (oN (bdL σ nw ct mo ((zM σ)) 0 ((oT ω) ((nw + 0) % 12) ct mo) none)))), (0, .ref a)]) hx hb dX2_digest_147 rfl hl (by decide) rfl (fun ls hl => ?_)
  refine lv_aload_n hx hb dX2_digest_148 rfl (lv_at hl 1 rfl) ?_
  refine lv_lload_n hx hb dX2_digest_149 rfl (lv_at hl 0 rfl) ?_
  refine vp_callSl (va_runV (As := [.long ((((((((((((((2371 * 31 + ((nI nw).toInt64)) * 31 + ((nI (zN σ)).toInt64)) * 31 + ((nI (zM σ)).toInt64)) * 31 + (aN true)) * 31 + (aN cg)) * 31 + (oN (some ct))) * 31 + (oN (some mo))) * 31 + ((nI ea).toInt64)) * 31 + (oN ((oT ω) ((nw + 0) % 12) ct mo))) * 31 + ((nI (snL ω nw ct ((zN σ)) 0 0)).toInt64)) * 31 + ((nI (bestF ((oW ω)) ((oT ω)) σ nw ct mo)).toInt64)) * 31 + ((nI (pcL ω σ (nw) 64 0 0)).toInt64)) * 31 + (oN (lcL ω σ (nw) 64 0 none))) * 31 + (oN (bdL σ nw ct mo ((zM σ)) 0 ((oT ω) ((nw + 0) % 12) ct mo) none)))]) (rest := []) ⟨hx, hb, hml, hown, hts⟩ (c_X2_joinedRooms l D cZ cI a o o' q (nw, true, cg, some ct, some mo, ea) ω u_57 σ  ((((((((((((((2371 * 31 + ((nI nw).toInt64)) * 31 + ((nI (zN σ)).toInt64)) * 31 + ((nI (zM σ)).toInt64)) * 31 + (aN true)) * 31 + (aN cg)) * 31 + (oN (some ct))) * 31 + (oN (some mo))) * 31 + ((nI ea).toInt64)) * 31 + (oN ((oT ω) ((nw + 0) % 12) ct mo))) * 31 + ((nI (snL ω nw ct ((zN σ)) 0 0)).toInt64)) * 31 + ((nI (bestF ((oW ω)) ((oT ω)) σ nw ct mo)).toInt64)) * 31 + ((nI (pcL ω σ (nw) 64 0 0)).toInt64)) * 31 + (oN (lcL ω σ (nw) 64 0 none))) * 31 + (oN (bdL σ nw ct mo ((zM σ)) 0 ((oT ω) ((nw + 0) % 12) ct mo) none))) (by first | assumption | omega)) (cwV 1 hts gX2_digest_X2_joinedRooms rfl rfl rfl (by decide +kernel) ⟨Nat.le_of_ble_eq_true rfl, Nat.le_of_ble_eq_true rfl⟩) ⟨RdP_blind, va_recv hZ.1 hP (ci := 2) (q0 := 0) rfl rfl, RdP_start (hP.sub (ws' := pD cZ cI a o o' q (nw, true, cg, some ct, some mo, ea) ω u_57 σ) [0, 1, 2, 3, 4, 5, 6, 7, 8, 9, 10, 11, 12, 13, 14, 15, 16, 17, 18] rfl) hZ⟩ rfl rfl hl.1 rfl (lv_room (Nat.le_of_ble_eq_true rfl)) dX2_digest_150 ⟨Nat.le_of_ble_eq_true rfl, Nat.le_of_ble_eq_true rfl⟩).run (fun r_60 hr_61 => ?_)
  subst hr_61
  refine lv_lstore_n (lv' := [(1, .long (jrL σ ((zN σ)) 0 ((((((((((((((2371 * 31 + ((nI nw).toInt64)) * 31 + ((nI (zN σ)).toInt64)) * 31 + ((nI (zM σ)).toInt64)) * 31 + (aN true)) * 31 + (aN cg)) * 31 + (oN (some ct))) * 31 + (oN (some mo))) * 31 + ((nI ea).toInt64)) * 31 + (oN ((oT ω) ((nw + 0) % 12) ct mo))) * 31 + ((nI (snL ω nw ct ((zN σ)) 0 0)).toInt64)) * 31 + ((nI (bestF ((oW ω)) ((oT ω)) σ nw ct mo)).toInt64)) * 31 + ((nI (pcL ω σ (nw) 64 0 0)).toInt64)) * 31 + (oN (lcL ω σ (nw) 64 0 none))) * 31 + (oN (bdL σ nw ct mo ((zM σ)) 0 ((oT ω) ((nw + 0) % 12) ct mo) none))))), (0, .ref a)]) hx hb dX2_digest_153 rfl hl (by decide) rfl (fun ls hl => ?_)
  refine lv_aload_n hx hb dX2_digest_154 rfl (lv_at hl 1 rfl) ?_
  refine lv_lload_n hx hb dX2_digest_155 rfl (lv_at hl 0 rfl) ?_
  refine vp_callSl (va_runV (As := [.long (jrL σ ((zN σ)) 0 ((((((((((((((2371 * 31 + ((nI nw).toInt64)) * 31 + ((nI (zN σ)).toInt64)) * 31 + ((nI (zM σ)).toInt64)) * 31 + (aN true)) * 31 + (aN cg)) * 31 + (oN (some ct))) * 31 + (oN (some mo))) * 31 + ((nI ea).toInt64)) * 31 + (oN ((oT ω) ((nw + 0) % 12) ct mo))) * 31 + ((nI (snL ω nw ct ((zN σ)) 0 0)).toInt64)) * 31 + ((nI (bestF ((oW ω)) ((oT ω)) σ nw ct mo)).toInt64)) * 31 + ((nI (pcL ω σ (nw) 64 0 0)).toInt64)) * 31 + (oN (lcL ω σ (nw) 64 0 none))) * 31 + (oN (bdL σ nw ct mo ((zM σ)) 0 ((oT ω) ((nw + 0) % 12) ct mo) none))))]) (rest := []) ⟨hx, hb, hml, hown, hts⟩ (c_X2_joinedDoors l D cZ cI a o o' q (nw, true, cg, some ct, some mo, ea) ω u_57 σ  (jrL σ ((zN σ)) 0 ((((((((((((((2371 * 31 + ((nI nw).toInt64)) * 31 + ((nI (zN σ)).toInt64)) * 31 + ((nI (zM σ)).toInt64)) * 31 + (aN true)) * 31 + (aN cg)) * 31 + (oN (some ct))) * 31 + (oN (some mo))) * 31 + ((nI ea).toInt64)) * 31 + (oN ((oT ω) ((nw + 0) % 12) ct mo))) * 31 + ((nI (snL ω nw ct ((zN σ)) 0 0)).toInt64)) * 31 + ((nI (bestF ((oW ω)) ((oT ω)) σ nw ct mo)).toInt64)) * 31 + ((nI (pcL ω σ (nw) 64 0 0)).toInt64)) * 31 + (oN (lcL ω σ (nw) 64 0 none))) * 31 + (oN (bdL σ nw ct mo ((zM σ)) 0 ((oT ω) ((nw + 0) % 12) ct mo) none)))) (by first | assumption | omega) (by first | assumption | omega)) (cwV 1 hts gX2_digest_X2_joinedDoors rfl rfl rfl (by decide +kernel) ⟨Nat.le_of_ble_eq_true rfl, Nat.le_of_ble_eq_true rfl⟩) ⟨RdP_blind, va_recv hZ.1 hP (ci := 2) (q0 := 0) rfl rfl, RdP_start (hP.sub (ws' := pD cZ cI a o o' q (nw, true, cg, some ct, some mo, ea) ω u_57 σ) [0, 1, 2, 3, 4, 5, 6, 7, 8, 9, 10, 11, 12, 13, 14, 15, 16, 17, 18] rfl) hZ⟩ rfl rfl hl.1 rfl (lv_room (Nat.le_of_ble_eq_true rfl)) dX2_digest_156 ⟨Nat.le_of_ble_eq_true rfl, Nat.le_of_ble_eq_true rfl⟩).run (fun r_62 hr_63 => ?_)
  subst hr_63
  have hP9 : va_P D vwCl (pD cZ cI a o o' q (nw, true, cg, some ct, some mo, ea) ω u_57 σ) H := by exact hP
  have hD9 : va_D A (pD cZ cI a o o' q (nw, true, cg, some ct, some mo, ea) ω u_57 σ) := by exact hD
  exact W.lret (v := jdL σ (nw) ((zM σ)) 0 (jrL σ ((zN σ)) 0 ((((((((((((((2371 * 31 + ((nI nw).toInt64)) * 31 + ((nI (zN σ)).toInt64)) * 31 + ((nI (zM σ)).toInt64)) * 31 + (aN true)) * 31 + (aN cg)) * 31 + (oN (some ct))) * 31 + (oN (some mo))) * 31 + ((nI ea).toInt64)) * 31 + (oN ((oT ω) ((nw + 0) % 12) ct mo))) * 31 + ((nI (snL ω nw ct ((zN σ)) 0 0)).toInt64)) * 31 + ((nI (bestF ((oW ω)) ((oT ω)) σ nw ct mo)).toInt64)) * 31 + ((nI (pcL ω σ (nw) 64 0 0)).toInt64)) * 31 + (oN (lcL ω σ (nw) 64 0 none))) * 31 + (oN (bdL σ nw ct mo ((zM σ)) 0 ((oT ω) ((nw + 0) % 12) ct mo) none))))) hx hb hr (fun t ht hW => ⟨⟨_, u_57, rfl, rfl, by rw [ht]; exact hP9, hD9⟩, hS.F ht⟩) hS.2.2 dX2_digest_159


