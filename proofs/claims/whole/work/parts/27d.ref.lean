set_option maxHeartbeats 4000000 in
set_option maxRecDepth 100000 in
theorem r_X3_best0 (l : Launch) (D : va_G) (cZ cI : ClassId) (b : Nat → Nat) (th : Nat) (tn : Nat) (cg : Bool) (ea : Nat) (T : Nat → Nat → Nat → Option Nat) (sz : Nat)  (htn : tn < 2 ^ 30) (hpar : tn % 2 = 0) : Met l yX3_best wsX3_best ({ frames := 3, cells := 1, slots := 768, locals := 76 }) (WrP D cZ cI [.ref (b 0)] (pR cZ cI b th 2 tn true cg 0 1 ea (fun _ => false) T) sz) (va_Qi (fun r (u : RU) => r = nI 1 ∧ sOk1 u.2.2) (fun (u : RU) t => va_P D vwCl (pR cZ cI b th 2 tn true cg 0 1 ea (fun _ => false) u.2.2 ++ [(u.1, .inl (cZ, 768, .inl (u.2.1)))]) t.heap ∧ va_D (va_A (pR cZ cI b th 2 tn true cg 0 1 ea (fun _ => false) T) sz) (pR cZ cI b th 2 tn true cg 0 1 ea (fun _ => false) u.2.2 ++ [(u.1, .inl (cZ, 768, .inl (u.2.1)))])) (va_A (pR cZ cI b th 2 tn true cg 0 1 ea (fun _ => false) T) sz)) 1 768 (va_A (pR cZ cI b th 2 tn true cg 0 1 ea (fun _ => false) T) sz) := by
  refine Met.ofW (cc := cX3_best) (maxL := 7) (ret := (some .int)) (by decide) rfl ?_
  intro p e s m args below meth c s₁ B hml hv
  obtain ⟨rfl, hsz, hP, hZ, hD0⟩ := hv
  have hx := B.exec
  have hb := B.bytes
  have hr := B.returns
  have hts := atoms_spec (ws := wsX3_best) B.pre
  have hown : s.vm.findClass RX3 = some m.cls := findClass_of_methodNamed B.named
  have hlocks := B.notSynchronized
  subst hsz
  have hD := hD0.self (sz := s.heap.size)
  generalize hAe : va_A (pR cZ cI b th 2 tn true cg 0 1 ea (fun _ => false) T) s.heap.size = A at hD ⊢
  have hA : ∀ q : Nat, s.heap.size ≤ q → A q := fun q h => by rw [← hAe]; exact Or.inr h
  have hS : va_S A s.heap s.heap [] := va_S.rf
  have hP : va_P D vwCl (pR cZ cI b th 2 tn true cg 0 1 ea (fun _ => false) T) s.heap := hP
  have hl := lv_entry ([.ref (b 0)]) (n := 7) (Nat.le_of_ble_eq_true rfl)
  rw [lg_entry_eq]
  generalize (lg_sl ([.ref (b 0)]) ++ List.replicate (7 - (lg_sl ([.ref (b 0)])).length) Slot.unset).toArray = ls at hl ⊢
  have hl : lv_has ls 7 [(0, .ref (b 0))] := hl
  have hin3 : ∀ w ∈ u_ws RX3 TX3 20, w ∈ wsX3_best := by decide +kernel
  have hf9 := hts (.fieldLink RX3 9 "DoorChaseModel" "safe" "[Z") (by decide +kernel)
  have hf32 := hts (.fieldLink RX3 32 "DoorChaseModel" "sure" "[I") (by decide +kernel)
  have hf43 := hts (.fieldLink RX3 43 "DoorChaseModel" "rooms" "I") (by decide +kernel)
  have hf85 := hts (.fieldLink RX3 85 "DoorChaseModel" "isOn" "Z") (by decide +kernel)
  have hf92 := hts (.fieldLink RX3 92 "DoorChaseModel" "turn" "I") (by decide +kernel)
  have hf95 := hts (.fieldLink RX3 95 "DoorChaseModel" "cat" "I") (by decide +kernel)
  have hf98 := hts (.fieldLink RX3 98 "DoorChaseModel" "mouse" "I") (by decide +kernel)
  refine lv_aload_n hx hb dX3_best_0 rfl (lv_at hl 0 rfl) ?_
  refine va_get (D := D) (ci := 3) (v := .int (bI true)) (C := RX3) (T := TX3) (N := 20) hx hb hts hin3 hown hZ.1 hP 0 rfl rfl 11 (by decide) hf85 (fun _ h9 => h9) rfl dX3_best_1 ?_
  refine rv_ifneB (tgt := 9) hx hb dX3_best_4 (by decide) (fun c4_1 => ?_) (fun c4_1 => ?_)
  · skip
    refine lv_aload_n hx hb dX3_best_9 rfl (lv_at hl 0 rfl) ?_
    have hFc := va_free (wc := pR cZ cI b th 2 tn true cg 0 1 ea (fun _ => false) T) hD hS hA [0, 1, 2, 3, 4, 5, 6, 7, 8] rfl
    refine va_callv (va_runV (As := []) (rest := []) ⟨hx, hb, hml, hown, hts⟩ (r_X3_reckon l D cZ cI b th tn true cg 0 1 ea T s.heap.size  ) (cwV 0 hts gX3_best_X3_reckon rfl rfl rfl (by decide +kernel) ⟨Nat.le_of_ble_eq_true rfl, Nat.le_of_ble_eq_true rfl⟩) ⟨WrP_blind, va_recv hZ.1 hP (ci := 3) (q0 := 0) rfl rfl, WrP_start hP hD hZ⟩ rfl rfl hl.1 rfl (lv_room (Nat.le_of_ble_eq_true rfl)) dX3_best_10 ⟨Nat.le_of_ble_eq_true rfl, Nat.le_of_ble_eq_true rfl⟩) hS (fun q _ h => hFc q h) hFc (fun u_2 t H1 locs ht hvm hw hB hz1 hk1 hS => ?_)
    obtain ⟨nn_3, gg_4, T_5⟩ := u_2
    obtain ⟨hP, hD⟩ := hB
    rw [ht] at hP
    replace hD := hD.weaken (fun _ _ _ h => hFc _ h)
    generalize H1 = H at hP hS ⊢
    refine W.widen (k := 1) (n := 768) (by omega) (by omega) ?_
    have hP : va_P D vwCl (pR cZ cI b th 2 tn true cg 0 1 ea (fun _ => false) T_5 ++ [(nn_3, .inl (cZ, 768, .inl (gg_4)))]) H := hP
    have hD : va_D A (pR cZ cI b th 2 tn true cg 0 1 ea (fun _ => false) T_5 ++ [(nn_3, .inl (cZ, 768, .inl (gg_4)))]) := hD
    have hsT_5 : sOk1 T_5 := hw
    refine lv_iconst (v := (-1)) hx hb dX3_best_13 (by decide) ?_
    refine lv_istore_n (lv' := [(1, .int ((-1))), (0, .ref (b 0))]) hx hb dX3_best_14 rfl hl (by decide) rfl (fun ls hl => ?_)
    refine lv_ldc (v := 2147483647) hx hb hown (hts (.constant RX3 103 (2147483647)) (by decide +kernel)) dX3_best_15 ?_
    refine lv_istore_n (lv' := [(2, .int (2147483647)), (1, .int ((-1))), (0, .ref (b 0))]) hx hb dX3_best_17 rfl hl (by decide) rfl (fun ls hl => ?_)
    refine lv_iconst (v := nI 0) hx hb dX3_best_18 (by decide) ?_
    refine lv_istore_n (lv' := [(3, .int (nI 0)), (2, .int (2147483647)), (1, .int ((-1))), (0, .ref (b 0))]) hx hb dX3_best_19 rfl hl (by decide) rfl (fun ls hl => ?_)
    refine lv_iload_n hx hb dX3_best_20 rfl (lv_at hl 0 rfl) ?_
    refine lv_aload_n hx hb dX3_best_21 rfl (lv_at hl 3 rfl) ?_
    refine va_get (D := D) (ci := 3) (v := .int (nI 2)) (C := RX3) (T := TX3) (N := 20) hx hb hts hin3 hown hZ.1 hP 0 rfl rfl 1 (by decide) hf43 (fun _ h9 => h9) rfl dX3_best_22 ?_
    refine rv_ge (tgt := 224) hx hb (by omega) (by omega) dX3_best_25 (by decide) (fun c25_6 => ?_) (fun c25_6 => ?_)
    · skip
      exfalso; omega
    · skip
      refine lv_aload_n hx hb dX3_best_28 rfl (lv_at hl 3 rfl) ?_
      refine va_get (D := D) (ci := 3) (v := .int (nI tn)) (C := RX3) (T := TX3) (N := 20) hx hb hts hin3 hown hZ.1 hP 0 rfl rfl 10 (by decide) hf92 (fun _ h9 => h9) rfl dX3_best_29 ?_
      refine lv_iconst (v := nI 2) hx hb dX3_best_32 (by decide) ?_
      refine rv_rem hx hb (by omega) (by omega) (by omega) dX3_best_33 ?_
      refine lv_iconst (v := nI 1) hx hb dX3_best_34 (by decide) ?_
      refine rv_ne (tgt := 42) hx hb (by omega) (by omega) dX3_best_35 (by decide) (fun c35_7 => ?_) (fun c35_7 => ?_)
      · skip
        refine lv_iconst (v := nI 0) hx hb dX3_best_42 (by decide) ?_
        refine rv_top (show nI 0 = bI false from rfl) ?_
        refine lv_istore (lv' := [(4, .int (bI false)), (3, .int (nI 0)), (2, .int (2147483647)), (1, .int ((-1))), (0, .ref (b 0))]) hx hb dX3_best_43 hl (by decide) rfl (fun ls hl => ?_)
        refine lv_aload_n hx hb dX3_best_45 rfl (lv_at hl 4 rfl) ?_
        refine lv_iload hx hb dX3_best_46 (lv_at hl 0 rfl) ?_
        refine rv_ifeqB (tgt := 58) hx hb dX3_best_48 (by decide) (fun c48_8 => ?_) (fun c48_8 => ?_)
        · skip
          refine lv_aload_n hx hb dX3_best_58 rfl (lv_at hl 4 rfl) ?_
          refine va_get (D := D) (ci := 3) (v := .int (nI 1)) (C := RX3) (T := TX3) (N := 20) hx hb hts hin3 hown hZ.1 hP 0 rfl rfl 14 (by decide) hf98 (fun _ h9 => h9) rfl dX3_best_59 ?_
          refine lv_iload_n hx hb dX3_best_62 rfl (lv_at hl 1 rfl) ?_
          refine lv_aload_n hx hb dX3_best_63 rfl (lv_at hl 4 rfl) ?_
          refine va_get (D := D) (ci := 3) (v := .int (nI tn)) (C := RX3) (T := TX3) (N := 20) hx hb hts hin3 hown hZ.1 hP 0 rfl rfl 10 (by decide) hf92 (fun _ h9 => h9) rfl dX3_best_64 ?_
          refine vp_callSi (va_runV (As := [.int (nI 1), .int (nI 0), .int (nI tn)]) (rest := []) ⟨hx, hb, hml, hown, hts⟩ (r_X3_isWay l D cZ cI b th 2 tn true cg 0 1 ea T_5  1 0 tn (by first | assumption | omega) (by first | assumption | omega)) (cwV 3 hts gX3_best_X3_isWay rfl rfl rfl (by decide +kernel) ⟨Nat.le_of_ble_eq_true rfl, Nat.le_of_ble_eq_true rfl⟩) ⟨RdP_blind, va_recv hZ.1 hP (ci := 3) (q0 := 0) rfl rfl, RdP_start (hP.sub (ws' := pR cZ cI b th 2 tn true cg 0 1 ea (fun _ => false) T_5) [0, 1, 2, 3, 4, 5, 6, 7, 8] rfl) hZ⟩ rfl rfl hl.1 rfl (lv_room (Nat.le_of_ble_eq_true rfl)) dX3_best_67 ⟨Nat.le_of_ble_eq_true rfl, Nat.le_of_ble_eq_true rfl⟩).run (fun r_9 hr_10 => ?_)
          subst hr_10
          refine rv_top (show _ = bI (decide (1 = 0)) from rfl) ?_
          refine rv_top (show bI (decide (1 = 0)) = bI false from rfl) ?_
          refine rv_ifeqB (tgt := 218) hx hb dX3_best_70 (by decide) (fun c70_11 => ?_) (fun c70_11 => ?_)
          · skip
            refine lv_iinc (v := nI 1) (lv' := [(3, .int (nI 1)), (4, .int (bI false)), (2, .int (2147483647)), (1, .int ((-1))), (0, .ref (b 0))]) hx hb dX3_best_218 hl (k := 1) rfl (nI_add 0 1) (by decide) rfl (fun ls hl => ?_)
            refine lv_goto (tgt := 20) hx hb dX3_best_221 (by decide) ?_
            refine lv_iload_n hx hb dX3_best_20 rfl (lv_at hl 0 rfl) ?_
            refine lv_aload_n hx hb dX3_best_21 rfl (lv_at hl 4 rfl) ?_
            refine va_get (D := D) (ci := 3) (v := .int (nI 2)) (C := RX3) (T := TX3) (N := 20) hx hb hts hin3 hown hZ.1 hP 0 rfl rfl 1 (by decide) hf43 (fun _ h9 => h9) rfl dX3_best_22 ?_
            refine rv_ge (tgt := 224) hx hb (by omega) (by omega) dX3_best_25 (by decide) (fun c25_12 => ?_) (fun c25_12 => ?_)
            · skip
              exfalso; omega
            · skip
              refine lv_aload_n hx hb dX3_best_28 rfl (lv_at hl 4 rfl) ?_
              refine va_get (D := D) (ci := 3) (v := .int (nI tn)) (C := RX3) (T := TX3) (N := 20) hx hb hts hin3 hown hZ.1 hP 0 rfl rfl 10 (by decide) hf92 (fun _ h9 => h9) rfl dX3_best_29 ?_
              refine lv_iconst (v := nI 2) hx hb dX3_best_32 (by decide) ?_
              refine rv_rem hx hb (by omega) (by omega) (by omega) dX3_best_33 ?_
              refine lv_iconst (v := nI 1) hx hb dX3_best_34 (by decide) ?_
              refine rv_ne (tgt := 42) hx hb (by omega) (by omega) dX3_best_35 (by decide) (fun c35_13 => ?_) (fun c35_13 => ?_)
              · skip
                refine lv_iconst (v := nI 0) hx hb dX3_best_42 (by decide) ?_
                refine rv_top (show nI 0 = bI false from rfl) ?_
                refine lv_istore (lv' := [(4, .int (bI false)), (3, .int (nI 1)), (2, .int (2147483647)), (1, .int ((-1))), (0, .ref (b 0))]) hx hb dX3_best_43 hl (by decide) rfl (fun ls hl => ?_)
                refine lv_aload_n hx hb dX3_best_45 rfl (lv_at hl 4 rfl) ?_
                refine lv_iload hx hb dX3_best_46 (lv_at hl 0 rfl) ?_
                refine rv_ifeqB (tgt := 58) hx hb dX3_best_48 (by decide) (fun c48_14 => ?_) (fun c48_14 => ?_)
                · skip
                  refine lv_aload_n hx hb dX3_best_58 rfl (lv_at hl 4 rfl) ?_
                  refine va_get (D := D) (ci := 3) (v := .int (nI 1)) (C := RX3) (T := TX3) (N := 20) hx hb hts hin3 hown hZ.1 hP 0 rfl rfl 14 (by decide) hf98 (fun _ h9 => h9) rfl dX3_best_59 ?_
                  refine lv_iload_n hx hb dX3_best_62 rfl (lv_at hl 1 rfl) ?_
                  refine lv_aload_n hx hb dX3_best_63 rfl (lv_at hl 4 rfl) ?_
                  refine va_get (D := D) (ci := 3) (v := .int (nI tn)) (C := RX3) (T := TX3) (N := 20) hx hb hts hin3 hown hZ.1 hP 0 rfl rfl 10 (by decide) hf92 (fun _ h9 => h9) rfl dX3_best_64 ?_
                  refine vp_callSi (va_runV (As := [.int (nI 1), .int (nI 1), .int (nI tn)]) (rest := []) ⟨hx, hb, hml, hown, hts⟩ (r_X3_isWay l D cZ cI b th 2 tn true cg 0 1 ea T_5  1 1 tn (by first | assumption | omega) (by first | assumption | omega)) (cwV 3 hts gX3_best_X3_isWay rfl rfl rfl (by decide +kernel) ⟨Nat.le_of_ble_eq_true rfl, Nat.le_of_ble_eq_true rfl⟩) ⟨RdP_blind, va_recv hZ.1 hP (ci := 3) (q0 := 0) rfl rfl, RdP_start (hP.sub (ws' := pR cZ cI b th 2 tn true cg 0 1 ea (fun _ => false) T_5) [0, 1, 2, 3, 4, 5, 6, 7, 8] rfl) hZ⟩ rfl rfl hl.1 rfl (lv_room (Nat.le_of_ble_eq_true rfl)) dX3_best_67 ⟨Nat.le_of_ble_eq_true rfl, Nat.le_of_ble_eq_true rfl⟩).run (fun r_15 hr_16 => ?_)
                  subst hr_16
                  refine rv_top (show _ = bI (decide (1 = 1)) from rfl) ?_
                  refine rv_top (show bI (decide (1 = 1)) = bI true from rfl) ?_
                  refine rv_ifeqB (tgt := 218) hx hb dX3_best_70 (by decide) (fun c70_17 => ?_) (fun c70_17 => ?_)
                  · skip
                    exact Bool.noConfusion c70_17
                  · skip
                    refine lv_iload hx hb dX3_best_73 (lv_at hl 0 rfl) ?_
                    refine rv_ifeqB (tgt := 90) hx hb dX3_best_75 (by decide) (fun c75_18 => ?_) (fun c75_18 => ?_)
                    · skip
                      refine lv_iload hx hb dX3_best_90 (lv_at hl 0 rfl) ?_
                      refine rv_ifeqB (tgt := 117) hx hb dX3_best_92 (by decide) (fun c92_19 => ?_) (fun c92_19 => ?_)
                      · skip
                        refine lv_aload_n hx hb dX3_best_117 rfl (lv_at hl 4 rfl) ?_
                        refine va_get (D := D) (ci := 3) (v := .ref (b 8)) (C := RX3) (T := TX3) (N := 20) hx hb hts hin3 hown hZ.1 hP 0 rfl rfl 16 (by decide) hf32 (fun _ h9 => h9) rfl dX3_best_118 ?_
                        refine lv_aload_n hx hb dX3_best_121 rfl (lv_at hl 4 rfl) ?_
                        refine va_get (D := D) (ci := 3) (v := .int (nI tn)) (C := RX3) (T := TX3) (N := 20) hx hb hts hin3 hown hZ.1 hP 0 rfl rfl 10 (by decide) hf92 (fun _ h9 => h9) rfl dX3_best_122 ?_
                        refine lv_iconst (v := nI 1) hx hb dX3_best_125 (by decide) ?_
                        refine rv_add hx hb dX3_best_126 ?_
                        refine lv_aload_n hx hb dX3_best_127 rfl (lv_at hl 4 rfl) ?_
                        refine va_get (D := D) (ci := 3) (v := .int (nI 0)) (C := RX3) (T := TX3) (N := 20) hx hb hts hin3 hown hZ.1 hP 0 rfl rfl 13 (by decide) hf95 (fun _ h9 => h9) rfl dX3_best_128 ?_
                        refine lv_iload_n hx hb dX3_best_131 rfl (lv_at hl 1 rfl) ?_
                        refine vp_callSi (va_runS (As := [.int (nI (tn + 1)), .int (nI 0), .int (nI 1)]) (rest := [.ref (b 8)]) ⟨hx, hb, hml, hown, hts⟩ (r_X3_place l D cZ cI   (tn + 1) 0 1 (by first | assumption | omega)) (va_cwS 3 hts gX3_best_X3_place rfl rfl rfl (by decide +kernel) ⟨Nat.le_of_ble_eq_true rfl, Nat.le_of_ble_eq_true rfl⟩) ⟨RdP_blind, RdP_start (hP.sub (ws' := []) [] rfl) hZ⟩ rfl rfl hl.1 rfl (lv_room (Nat.le_of_ble_eq_true rfl)) dX3_best_132 ⟨Nat.le_of_ble_eq_true rfl, Nat.le_of_ble_eq_true rfl⟩).run (fun r_20 hr_21 => ?_)
                        subst hr_21
                        refine rv_top (show _ = nI (((tn + 1) % 12 * 8 + 0) * 8 + 1) from rfl) ?_
                        refine rv_iald hx hb hZ.1 hP 8 1 rfl rfl (r := ((tn + 1) % 12 * 8 + 0) * 8 + 1) (by have := Nat.mod_lt (tn + 1) (show 0 < 12 by decide); omega) (by decide) (v := iO (T_5 ((tn + 1) % 12) 0 1)) (encT_at _ ((tn + 1) % 12) (by omega) (by omega)) dX3_best_135 ?_
                        refine rv_top (show iO (T_5 ((tn + 1) % 12) 0 1) = (-1) from by rw [show T_5 ((tn + 1) % 12) 0 1 = none from (hsT_5 ((tn + 1) % 12) 0 1 (Nat.mod_lt _ (by decide)) (by decide) (by decide)).trans (if_neg (by decide))]; rfl) ?_
                        refine lv_istore (lv' := [(5, .int ((-1))), (4, .int (bI false)), (3, .int (nI 1)), (2, .int (2147483647)), (1, .int ((-1))), (0, .ref (b 0))]) hx hb dX3_best_136 hl (by decide) rfl (fun ls hl => ?_)
                        refine lv_iload hx hb dX3_best_138 (lv_at hl 1 rfl) ?_
                        refine rv_ifeqB (tgt := 188) hx hb dX3_best_140 (by decide) (fun c140_22 => ?_) (fun c140_22 => ?_)
                        · skip
                          refine lv_iload hx hb dX3_best_188 (lv_at hl 0 rfl) ?_
                          refine lv_if_ge (tgt := 199) hx hb dX3_best_190 (by decide) (fun c190_23 => ?_) (fun c190_23 => ?_)
                          · skip
                            exact absurd c190_23 (by decide)
                          · skip
                            refine lv_sipush (v := (-1000)) hx hb dX3_best_193 (by decide) ?_
                            refine lv_goto (tgt := 202) hx hb dX3_best_196 (by decide) ?_
                            refine lv_istore (lv' := [(6, .int ((-1000))), (5, .int ((-1))), (4, .int (bI false)), (3, .int (nI 1)), (2, .int (2147483647)), (1, .int ((-1))), (0, .ref (b 0))]) hx hb dX3_best_202 hl (by decide) rfl (fun ls hl => ?_)
                            refine lv_iload hx hb dX3_best_204 (lv_at hl 0 rfl) ?_
                            refine lv_iload_n hx hb dX3_best_206 rfl (lv_at hl 4 rfl) ?_
                            refine lv_icmp_lt (tgt := 213) hx hb dX3_best_207 (by decide) (fun c207_24 => ?_) (fun c207_24 => ?_)
                            · skip
                              refine lv_iload hx hb dX3_best_213 (lv_at hl 0 rfl) ?_
                              refine lv_istore_n (lv' := [(2, .int ((-1000))), (6, .int ((-1000))), (5, .int ((-1))), (4, .int (bI false)), (3, .int (nI 1)), (1, .int ((-1))), (0, .ref (b 0))]) hx hb dX3_best_215 rfl hl (by decide) rfl (fun ls hl => ?_)
                              refine lv_iload_n hx hb dX3_best_216 rfl (lv_at hl 4 rfl) ?_
                              refine lv_istore_n (lv' := [(1, .int (nI 1)), (2, .int ((-1000))), (6, .int ((-1000))), (5, .int ((-1))), (4, .int (bI false)), (3, .int (nI 1)), (0, .ref (b 0))]) hx hb dX3_best_217 rfl hl (by decide) rfl (fun ls hl => ?_)
                              refine lv_iinc (v := nI 2) (lv' := [(3, .int (nI 2)), (1, .int (nI 1)), (2, .int ((-1000))), (6, .int ((-1000))), (5, .int ((-1))), (4, .int (bI false)), (0, .ref (b 0))]) hx hb dX3_best_218 hl (k := 5) rfl (nI_add 1 1) (by decide) rfl (fun ls hl => ?_)
                              refine lv_goto (tgt := 20) hx hb dX3_best_221 (by decide) ?_
                              refine lv_iload_n hx hb dX3_best_20 rfl (lv_at hl 0 rfl) ?_
                              refine lv_aload_n hx hb dX3_best_21 rfl (lv_at hl 6 rfl) ?_
                              refine va_get (D := D) (ci := 3) (v := .int (nI 2)) (C := RX3) (T := TX3) (N := 20) hx hb hts hin3 hown hZ.1 hP 0 rfl rfl 1 (by decide) hf43 (fun _ h9 => h9) rfl dX3_best_22 ?_
                              refine rv_ge (tgt := 224) hx hb (by omega) (by omega) dX3_best_25 (by decide) (fun c25_25 => ?_) (fun c25_25 => ?_)
                              · skip
                                refine lv_iload_n hx hb dX3_best_224 rfl (lv_at hl 1 rfl) ?_
                                have hP9 : va_P D vwCl (pR cZ cI b th 2 tn true cg 0 1 ea (fun _ => false) T_5 ++ [(nn_3, .inl (cZ, 768, .inl (gg_4)))]) H := by exact hP
                                have hD9 : va_D A (pR cZ cI b th 2 tn true cg 0 1 ea (fun _ => false) T_5 ++ [(nn_3, .inl (cZ, 768, .inl (gg_4)))]) := by exact hD
                                exact W.iret (v := nI 1) hx hb hr (fun t ht hW => ⟨⟨_, (nn_3, gg_4, T_5), rfl, ⟨rfl, hsT_5⟩, by rw [ht]; exact hP9, hD9⟩, hS.F ht⟩) hS.2.2 dX3_best_225
                              · skip
                                exfalso; omega
                            · skip
                              exact absurd c207_24 (by decide)
                        · skip
                          exact Bool.noConfusion c140_22
                      · skip
                        exact Bool.noConfusion c92_19
                    · skip
                      exact Bool.noConfusion c75_18
                · skip
                  exact Bool.noConfusion c48_14
              · skip
                exfalso; omega
          · skip
            exact Bool.noConfusion c70_11
        · skip
          exact Bool.noConfusion c48_8
      · skip
        exfalso; omega
  · skip
    exact Bool.noConfusion c4_1

set_option maxHeartbeats 4000000 in
set_option maxRecDepth 100000 in
theorem r_X3_goTo0 (l : Launch) (D : va_G) (cZ cI : ClassId) (b : Nat → Nat) (th : Nat) (tn : Nat) (cg : Bool) (ea : Nat) (T : Nat → Nat → Nat → Option Nat) (sz : Nat)  (htn : tn < 2 ^ 30) (hpar : tn % 2 = 0) : Met l yX3_goTo wsX3_goTo ({ frames := 0, cells := 0, slots := 0, locals := 0 }) (WrP D cZ cI [.ref (b 0), .int (nI 1)] (pR cZ cI b th 2 tn true cg 0 1 ea (fun _ => false) T) sz) (WrV D (pR cZ cI b th 2 (tn + 1) true cg 0 1 ea (fun _ => false) T) (va_A (pR cZ cI b th 2 tn true cg 0 1 ea (fun _ => false) T) sz)) 0 0 (va_A (pR cZ cI b th 2 tn true cg 0 1 ea (fun _ => false) T) sz) := by
  refine Met.ofW (cc := cX3_goTo) (maxL := 3) (ret := none) (by decide) rfl ?_
  intro p e s m args below meth c s₁ B hml hv
  obtain ⟨rfl, hsz, hP, hZ, hD0⟩ := hv
  have hx := B.exec
  have hb := B.bytes
  have hr := B.returns
  have hts := atoms_spec (ws := wsX3_goTo) B.pre
  have hown : s.vm.findClass RX3 = some m.cls := findClass_of_methodNamed B.named
  have hlocks := B.notSynchronized
  subst hsz
  have hD := hD0.self (sz := s.heap.size)
  generalize hAe : va_A (pR cZ cI b th 2 tn true cg 0 1 ea (fun _ => false) T) s.heap.size = A at hD ⊢
  have hA : ∀ q : Nat, s.heap.size ≤ q → A q := fun q h => by rw [← hAe]; exact Or.inr h
  have hS : va_S A s.heap s.heap [] := va_S.rf
  have hP : va_P D vwCl (pR cZ cI b th 2 tn true cg 0 1 ea (fun _ => false) T) s.heap := hP
  have hl := lv_entry ([.ref (b 0), .int (nI 1)]) (n := 3) (Nat.le_of_ble_eq_true rfl)
  rw [lg_entry_eq]
  generalize (lg_sl ([.ref (b 0), .int (nI 1)]) ++ List.replicate (3 - (lg_sl ([.ref (b 0), .int (nI 1)])).length) Slot.unset).toArray = ls at hl ⊢
  have hl : lv_has ls 3 [(0, .ref (b 0)), (1, .int (nI 1))] := hl
  have hin3 : ∀ w ∈ u_ws RX3 TX3 20, w ∈ wsX3_goTo := by decide +kernel
  have hf13 := hts (.fieldLink RX3 13 "DoorChaseModel" "cheese" "[I") (by decide +kernel)
  have hf85 := hts (.fieldLink RX3 85 "DoorChaseModel" "isOn" "Z") (by decide +kernel)
  have hf92 := hts (.fieldLink RX3 92 "DoorChaseModel" "turn" "I") (by decide +kernel)
  have hf95 := hts (.fieldLink RX3 95 "DoorChaseModel" "cat" "I") (by decide +kernel)
  have hf98 := hts (.fieldLink RX3 98 "DoorChaseModel" "mouse" "I") (by decide +kernel)
  have hf107 := hts (.fieldLink RX3 107 "DoorChaseModel" "isCaught" "Z") (by decide +kernel)
  have hf110 := hts (.fieldLink RX3 110 "DoorChaseModel" "eaten" "I") (by decide +kernel)
  refine lv_aload_n hx hb dX3_goTo_0 rfl (lv_at hl 0 rfl) ?_
  refine va_get (D := D) (ci := 3) (v := .int (nI tn)) (C := RX3) (T := TX3) (N := 20) hx hb hts hin3 hown hZ.1 hP 0 rfl rfl 10 (by decide) hf92 (fun _ h9 => h9) rfl dX3_goTo_1 ?_
  refine lv_iconst (v := nI 2) hx hb dX3_goTo_4 (by decide) ?_
  refine rv_rem hx hb (by omega) (by omega) (by omega) dX3_goTo_5 ?_
  refine lv_iconst (v := nI 1) hx hb dX3_goTo_6 (by decide) ?_
  refine rv_ne (tgt := 14) hx hb (by omega) (by omega) dX3_goTo_7 (by decide) (fun c7_1 => ?_) (fun c7_1 => ?_)
  · skip
    refine lv_iconst (v := nI 0) hx hb dX3_goTo_14 (by decide) ?_
    refine rv_top (show nI 0 = bI false from rfl) ?_
    refine lv_istore_n (lv' := [(2, .int (bI false)), (0, .ref (b 0)), (1, .int (nI 1))]) hx hb dX3_goTo_15 rfl hl (by decide) rfl (fun ls hl => ?_)
    refine lv_iload_n hx hb dX3_goTo_16 rfl (lv_at hl 0 rfl) ?_
    refine rv_ifeqB (tgt := 28) hx hb dX3_goTo_17 (by decide) (fun c17_2 => ?_) (fun c17_2 => ?_)
    · skip
      refine lv_aload_n hx hb dX3_goTo_28 rfl (lv_at hl 1 rfl) ?_
      refine lv_iload_n hx hb dX3_goTo_29 rfl (lv_at hl 2 rfl) ?_
      refine va_put (D := D) (ci := 3) (v := .int (nI 1)) (ty := .int) (C := RX3) (T := TX3) (N := 20) hx hb hts hin3 tyX3 tyX3_ok nmX3 hown hZ.1 hP hD hS 0 rfl rfl 14 (by decide) hf98 (fun _ h9 => h9) rfl (by decide +kernel) rfl rfl (Nat.le_of_ble_eq_true rfl) dX3_goTo_30 (fun H locs hP hD hS => ?_)
      have hP : va_P D vwCl (pR cZ cI b th 2 tn true cg 0 1 ea (fun _ => false) T) H := hP
      have hD : va_D A (pR cZ cI b th 2 tn true cg 0 1 ea (fun _ => false) T) := hD
      refine lv_aload_n hx hb dX3_goTo_33 rfl (lv_at hl 1 rfl) ?_
      refine lv_dup hx hb dX3_goTo_34 rfl ?_
      refine va_get (D := D) (ci := 3) (v := .int (nI tn)) (C := RX3) (T := TX3) (N := 20) hx hb hts hin3 hown hZ.1 hP 0 rfl rfl 10 (by decide) hf92 (fun _ h9 => h9) rfl dX3_goTo_35 ?_
      refine lv_iconst (v := nI 1) hx hb dX3_goTo_38 (by decide) ?_
      refine rv_add hx hb dX3_goTo_39 ?_
      refine va_put (D := D) (ci := 3) (v := .int (nI (tn + 1))) (ty := .int) (C := RX3) (T := TX3) (N := 20) hx hb hts hin3 tyX3 tyX3_ok nmX3 hown hZ.1 hP hD hS 0 rfl rfl 10 (by decide) hf92 (fun _ h9 => h9) rfl (by decide +kernel) rfl rfl (Nat.le_of_ble_eq_true rfl) dX3_goTo_40 (fun H locs hP hD hS => ?_)
      have hP : va_P D vwCl (pR cZ cI b th 2 (tn + 1) true cg 0 1 ea (fun _ => false) T) H := hP
      have hD : va_D A (pR cZ cI b th 2 (tn + 1) true cg 0 1 ea (fun _ => false) T) := hD
      refine lv_aload_n hx hb dX3_goTo_43 rfl (lv_at hl 1 rfl) ?_
      refine va_get (D := D) (ci := 3) (v := .int (nI 0)) (C := RX3) (T := TX3) (N := 20) hx hb hts hin3 hown hZ.1 hP 0 rfl rfl 13 (by decide) hf95 (fun _ h9 => h9) rfl dX3_goTo_44 ?_
      refine lv_aload_n hx hb dX3_goTo_47 rfl (lv_at hl 1 rfl) ?_
      refine va_get (D := D) (ci := 3) (v := .int (nI 1)) (C := RX3) (T := TX3) (N := 20) hx hb hts hin3 hown hZ.1 hP 0 rfl rfl 14 (by decide) hf98 (fun _ h9 => h9) rfl dX3_goTo_48 ?_
      refine rv_ne (tgt := 67) hx hb (by omega) (by omega) dX3_goTo_51 (by decide) (fun c51_3 => ?_) (fun c51_3 => ?_)
      · skip
        refine lv_iload_n hx hb dX3_goTo_67 rfl (lv_at hl 0 rfl) ?_
        refine rv_ifneB (tgt := 106) hx hb dX3_goTo_68 (by decide) (fun c68_4 => ?_) (fun c68_4 => ?_)
        · skip
          exact Bool.noConfusion c68_4
        · skip
          refine lv_aload_n hx hb dX3_goTo_71 rfl (lv_at hl 1 rfl) ?_
          refine va_get (D := D) (ci := 3) (v := .ref (b 2)) (C := RX3) (T := TX3) (N := 20) hx hb hts hin3 hown hZ.1 hP 0 rfl rfl 4 (by decide) hf13 (fun _ h9 => h9) rfl dX3_goTo_72 ?_
          refine lv_aload_n hx hb dX3_goTo_75 rfl (lv_at hl 1 rfl) ?_
          refine va_get (D := D) (ci := 3) (v := .int (nI 1)) (C := RX3) (T := TX3) (N := 20) hx hb hts hin3 hown hZ.1 hP 0 rfl rfl 14 (by decide) hf98 (fun _ h9 => h9) rfl dX3_goTo_76 ?_
          refine rv_iald hx hb hZ.1 hP 2 1 rfl rfl (r := 1) (by omega) (by decide) (v := nI ((fun _ => 0) 1)) rfl dX3_goTo_79 ?_
          refine rv_top (show nI ((fun _ => 0) 1) = nI 0 from rfl) ?_
          refine rv_ifleN (tgt := 106) hx hb (by omega) dX3_goTo_80 (by decide) (fun c80_5 => ?_) (fun c80_5 => ?_)
          · skip
            have hP9 : va_P D vwCl (pR cZ cI b th 2 (tn + 1) true cg 0 1 ea (fun _ => false) T) H := by exact hP
            have hD9 : va_D A (pR cZ cI b th 2 (tn + 1) true cg 0 1 ea (fun _ => false) T) := by exact hD
            exact W.vret hx hb hr (fun t ht hW => ⟨⟨(), rfl, trivial, by rw [ht]; exact hP9, hD9⟩, hS.F ht⟩) hS.2.2 dX3_goTo_106
          · skip
            first | (exfalso; omega) | exact absurd rfl c80_5
      · skip
        exfalso; omega
    · skip
      exact Bool.noConfusion c17_2
  · skip
    exfalso; omega

set_option maxHeartbeats 4000000 in
set_option maxRecDepth 100000 in
theorem r_X3_goTo1 (l : Launch) (D : va_G) (cZ cI : ClassId) (b : Nat → Nat) (th : Nat) (tn : Nat) (cg : Bool) (ea : Nat) (T : Nat → Nat → Nat → Option Nat) (sz : Nat)  (htn : tn < 2 ^ 30) (hpar : tn % 2 = 1) : Met l yX3_goTo wsX3_goTo ({ frames := 0, cells := 0, slots := 0, locals := 0 }) (WrP D cZ cI [.ref (b 0), .int (nI 0)] (pR cZ cI b th 2 tn true cg 0 1 ea (fun _ => false) T) sz) (WrV D (pR cZ cI b th 2 (tn + 1) true cg 0 1 ea (fun _ => false) T) (va_A (pR cZ cI b th 2 tn true cg 0 1 ea (fun _ => false) T) sz)) 0 0 (va_A (pR cZ cI b th 2 tn true cg 0 1 ea (fun _ => false) T) sz) := by
  refine Met.ofW (cc := cX3_goTo) (maxL := 3) (ret := none) (by decide) rfl ?_
  intro p e s m args below meth c s₁ B hml hv
  obtain ⟨rfl, hsz, hP, hZ, hD0⟩ := hv
  have hx := B.exec
  have hb := B.bytes
  have hr := B.returns
  have hts := atoms_spec (ws := wsX3_goTo) B.pre
  have hown : s.vm.findClass RX3 = some m.cls := findClass_of_methodNamed B.named
  have hlocks := B.notSynchronized
  subst hsz
  have hD := hD0.self (sz := s.heap.size)
  generalize hAe : va_A (pR cZ cI b th 2 tn true cg 0 1 ea (fun _ => false) T) s.heap.size = A at hD ⊢
  have hA : ∀ q : Nat, s.heap.size ≤ q → A q := fun q h => by rw [← hAe]; exact Or.inr h
  have hS : va_S A s.heap s.heap [] := va_S.rf
  have hP : va_P D vwCl (pR cZ cI b th 2 tn true cg 0 1 ea (fun _ => false) T) s.heap := hP
  have hl := lv_entry ([.ref (b 0), .int (nI 0)]) (n := 3) (Nat.le_of_ble_eq_true rfl)
  rw [lg_entry_eq]
  generalize (lg_sl ([.ref (b 0), .int (nI 0)]) ++ List.replicate (3 - (lg_sl ([.ref (b 0), .int (nI 0)])).length) Slot.unset).toArray = ls at hl ⊢
  have hl : lv_has ls 3 [(0, .ref (b 0)), (1, .int (nI 0))] := hl
  have hin3 : ∀ w ∈ u_ws RX3 TX3 20, w ∈ wsX3_goTo := by decide +kernel
  have hf13 := hts (.fieldLink RX3 13 "DoorChaseModel" "cheese" "[I") (by decide +kernel)
  have hf85 := hts (.fieldLink RX3 85 "DoorChaseModel" "isOn" "Z") (by decide +kernel)
  have hf92 := hts (.fieldLink RX3 92 "DoorChaseModel" "turn" "I") (by decide +kernel)
  have hf95 := hts (.fieldLink RX3 95 "DoorChaseModel" "cat" "I") (by decide +kernel)
  have hf98 := hts (.fieldLink RX3 98 "DoorChaseModel" "mouse" "I") (by decide +kernel)
  have hf107 := hts (.fieldLink RX3 107 "DoorChaseModel" "isCaught" "Z") (by decide +kernel)
  have hf110 := hts (.fieldLink RX3 110 "DoorChaseModel" "eaten" "I") (by decide +kernel)
  refine lv_aload_n hx hb dX3_goTo_0 rfl (lv_at hl 0 rfl) ?_
  refine va_get (D := D) (ci := 3) (v := .int (nI tn)) (C := RX3) (T := TX3) (N := 20) hx hb hts hin3 hown hZ.1 hP 0 rfl rfl 10 (by decide) hf92 (fun _ h9 => h9) rfl dX3_goTo_1 ?_
  refine lv_iconst (v := nI 2) hx hb dX3_goTo_4 (by decide) ?_
  refine rv_rem hx hb (by omega) (by omega) (by omega) dX3_goTo_5 ?_
  refine lv_iconst (v := nI 1) hx hb dX3_goTo_6 (by decide) ?_
  refine rv_ne (tgt := 14) hx hb (by omega) (by omega) dX3_goTo_7 (by decide) (fun c7_1 => ?_) (fun c7_1 => ?_)
  · skip
    exfalso; omega
  · skip
    refine lv_iconst (v := nI 1) hx hb dX3_goTo_10 (by decide) ?_
    refine rv_top (show nI 1 = bI true from rfl) ?_
    refine lv_goto (tgt := 15) hx hb dX3_goTo_11 (by decide) ?_
    refine lv_istore_n (lv' := [(2, .int (bI true)), (0, .ref (b 0)), (1, .int (nI 0))]) hx hb dX3_goTo_15 rfl hl (by decide) rfl (fun ls hl => ?_)
    refine lv_iload_n hx hb dX3_goTo_16 rfl (lv_at hl 0 rfl) ?_
    refine rv_ifeqB (tgt := 28) hx hb dX3_goTo_17 (by decide) (fun c17_2 => ?_) (fun c17_2 => ?_)
    · skip
      exact Bool.noConfusion c17_2
    · skip
      refine lv_aload_n hx hb dX3_goTo_20 rfl (lv_at hl 1 rfl) ?_
      refine lv_iload_n hx hb dX3_goTo_21 rfl (lv_at hl 2 rfl) ?_
      refine va_put (D := D) (ci := 3) (v := .int (nI 0)) (ty := .int) (C := RX3) (T := TX3) (N := 20) hx hb hts hin3 tyX3 tyX3_ok nmX3 hown hZ.1 hP hD hS 0 rfl rfl 13 (by decide) hf95 (fun _ h9 => h9) rfl (by decide +kernel) rfl rfl (Nat.le_of_ble_eq_true rfl) dX3_goTo_22 (fun H locs hP hD hS => ?_)
      have hP : va_P D vwCl (pR cZ cI b th 2 tn true cg 0 1 ea (fun _ => false) T) H := hP
      have hD : va_D A (pR cZ cI b th 2 tn true cg 0 1 ea (fun _ => false) T) := hD
      refine lv_goto (tgt := 33) hx hb dX3_goTo_25 (by decide) ?_
      refine lv_aload_n hx hb dX3_goTo_33 rfl (lv_at hl 1 rfl) ?_
      refine lv_dup hx hb dX3_goTo_34 rfl ?_
      refine va_get (D := D) (ci := 3) (v := .int (nI tn)) (C := RX3) (T := TX3) (N := 20) hx hb hts hin3 hown hZ.1 hP 0 rfl rfl 10 (by decide) hf92 (fun _ h9 => h9) rfl dX3_goTo_35 ?_
      refine lv_iconst (v := nI 1) hx hb dX3_goTo_38 (by decide) ?_
      refine rv_add hx hb dX3_goTo_39 ?_
      refine va_put (D := D) (ci := 3) (v := .int (nI (tn + 1))) (ty := .int) (C := RX3) (T := TX3) (N := 20) hx hb hts hin3 tyX3 tyX3_ok nmX3 hown hZ.1 hP hD hS 0 rfl rfl 10 (by decide) hf92 (fun _ h9 => h9) rfl (by decide +kernel) rfl rfl (Nat.le_of_ble_eq_true rfl) dX3_goTo_40 (fun H locs hP hD hS => ?_)
      have hP : va_P D vwCl (pR cZ cI b th 2 (tn + 1) true cg 0 1 ea (fun _ => false) T) H := hP
      have hD : va_D A (pR cZ cI b th 2 (tn + 1) true cg 0 1 ea (fun _ => false) T) := hD
      refine lv_aload_n hx hb dX3_goTo_43 rfl (lv_at hl 1 rfl) ?_
      refine va_get (D := D) (ci := 3) (v := .int (nI 0)) (C := RX3) (T := TX3) (N := 20) hx hb hts hin3 hown hZ.1 hP 0 rfl rfl 13 (by decide) hf95 (fun _ h9 => h9) rfl dX3_goTo_44 ?_
      refine lv_aload_n hx hb dX3_goTo_47 rfl (lv_at hl 1 rfl) ?_
      refine va_get (D := D) (ci := 3) (v := .int (nI 1)) (C := RX3) (T := TX3) (N := 20) hx hb hts hin3 hown hZ.1 hP 0 rfl rfl 14 (by decide) hf98 (fun _ h9 => h9) rfl dX3_goTo_48 ?_
      refine rv_ne (tgt := 67) hx hb (by omega) (by omega) dX3_goTo_51 (by decide) (fun c51_3 => ?_) (fun c51_3 => ?_)
      · skip
        refine lv_iload_n hx hb dX3_goTo_67 rfl (lv_at hl 0 rfl) ?_
        refine rv_ifneB (tgt := 106) hx hb dX3_goTo_68 (by decide) (fun c68_4 => ?_) (fun c68_4 => ?_)
        · skip
          have hP9 : va_P D vwCl (pR cZ cI b th 2 (tn + 1) true cg 0 1 ea (fun _ => false) T) H := by exact hP
          have hD9 : va_D A (pR cZ cI b th 2 (tn + 1) true cg 0 1 ea (fun _ => false) T) := by exact hD
          exact W.vret hx hb hr (fun t ht hW => ⟨⟨(), rfl, trivial, by rw [ht]; exact hP9, hD9⟩, hS.F ht⟩) hS.2.2 dX3_goTo_106
        · skip
          exact Bool.noConfusion c68_4
      · skip
        exfalso; omega

set_option maxHeartbeats 4000000 in
set_option maxRecDepth 100000 in
theorem r_X3_begin (l : Launch) (D : va_G) (cZ cI : ClassId) (b : Nat → Nat) (th : Nat) (tn : Nat) (on : Bool) (cg : Bool) (ct : Nat) (mo : Nat) (ea : Nat) (T : Nat → Nat → Nat → Option Nat) (sz : Nat)   : Met l yX3_begin wsX3_begin ({ frames := 4, cells := 1, slots := 768, locals := 96 }) (WrP D cZ cI [.ref (b 0), .int (nI 0), .int (nI 1)] (pR cZ cI b th 2 tn on cg ct mo ea (fun _ => false) T) sz) (va_Qi (fun r (u : RU) => r = (-1) ∧ sOk1 u.2.2) (fun (u : RU) t => va_P D vwCl (pR cZ cI b 0 2 0 true false 0 1 0 (fun _ => false) u.2.2 ++ [(u.1, .inl (cZ, 768, .inl (u.2.1)))]) t.heap ∧ va_D (va_A (pR cZ cI b th 2 tn on cg ct mo ea (fun _ => false) T) sz) (pR cZ cI b 0 2 0 true false 0 1 0 (fun _ => false) u.2.2 ++ [(u.1, .inl (cZ, 768, .inl (u.2.1)))])) (va_A (pR cZ cI b th 2 tn on cg ct mo ea (fun _ => false) T) sz)) 1 768 (va_A (pR cZ cI b th 2 tn on cg ct mo ea (fun _ => false) T) sz) := by
  refine Met.ofW (cc := cX3_begin) (maxL := 3) (ret := (some .int)) (by decide) rfl ?_
  intro p e s m args below meth c s₁ B hml hv
  obtain ⟨rfl, hsz, hP, hZ, hD0⟩ := hv
  have hx := B.exec
  have hb := B.bytes
  have hr := B.returns
  have hts := atoms_spec (ws := wsX3_begin) B.pre
  have hown : s.vm.findClass RX3 = some m.cls := findClass_of_methodNamed B.named
  have hlocks := B.notSynchronized
  subst hsz
  have hD := hD0.self (sz := s.heap.size)
  generalize hAe : va_A (pR cZ cI b th 2 tn on cg ct mo ea (fun _ => false) T) s.heap.size = A at hD ⊢
  have hA : ∀ q : Nat, s.heap.size ≤ q → A q := fun q h => by rw [← hAe]; exact Or.inr h
  have hS : va_S A s.heap s.heap [] := va_S.rf
  have hP : va_P D vwCl (pR cZ cI b th 2 tn on cg ct mo ea (fun _ => false) T) s.heap := hP
  have hl := lv_entry ([.ref (b 0), .int (nI 0), .int (nI 1)]) (n := 3) (Nat.le_of_ble_eq_true rfl)
  rw [lg_entry_eq]
  generalize (lg_sl ([.ref (b 0), .int (nI 0), .int (nI 1)]) ++ List.replicate (3 - (lg_sl ([.ref (b 0), .int (nI 0), .int (nI 1)])).length) Slot.unset).toArray = ls at hl ⊢
  have hl : lv_has ls 3 [(0, .ref (b 0)), (1, .int (nI 0)), (2, .int (nI 1))] := hl
  have hin3 : ∀ w ∈ u_ws RX3 TX3 20, w ∈ wsX3_begin := by decide +kernel
  have hf9 := hts (.fieldLink RX3 9 "DoorChaseModel" "safe" "[Z") (by decide +kernel)
  have hf85 := hts (.fieldLink RX3 85 "DoorChaseModel" "isOn" "Z") (by decide +kernel)
  have hf92 := hts (.fieldLink RX3 92 "DoorChaseModel" "turn" "I") (by decide +kernel)
  have hf95 := hts (.fieldLink RX3 95 "DoorChaseModel" "cat" "I") (by decide +kernel)
  have hf98 := hts (.fieldLink RX3 98 "DoorChaseModel" "mouse" "I") (by decide +kernel)
  have hf107 := hts (.fieldLink RX3 107 "DoorChaseModel" "isCaught" "Z") (by decide +kernel)
  have hf110 := hts (.fieldLink RX3 110 "DoorChaseModel" "eaten" "I") (by decide +kernel)
  refine lv_aload_n hx hb dX3_begin_0 rfl (lv_at hl 0 rfl) ?_
  refine lv_iload_n hx hb dX3_begin_1 rfl (lv_at hl 1 rfl) ?_
  refine lv_iload_n hx hb dX3_begin_2 rfl (lv_at hl 2 rfl) ?_
  have hFc := va_free (wc := pR cZ cI b th 2 tn on cg ct mo ea (fun _ => false) T) hD hS hA [0, 1, 2, 3, 4, 5, 6, 7, 8] rfl
  refine va_calli (va_runV (As := [.int (nI 0), .int (nI 1)]) (rest := []) ⟨hx, hb, hml, hown, hts⟩ (r_X3_areNoRooms l D cZ cI b th 2 tn on cg ct mo ea T s.heap.size 0 1 (by first | assumption | omega) (by first | assumption | omega) (by first | assumption | omega)) (cwV 2 hts gX3_begin_X3_areNoRooms rfl rfl rfl (by decide +kernel) ⟨Nat.le_of_ble_eq_true rfl, Nat.le_of_ble_eq_true rfl⟩) ⟨WrP_blind, va_recv hZ.1 hP (ci := 3) (q0 := 0) rfl rfl, WrP_start hP hD hZ⟩ rfl rfl hl.1 rfl (lv_room (Nat.le_of_ble_eq_true rfl)) dX3_begin_3 ⟨Nat.le_of_ble_eq_true rfl, Nat.le_of_ble_eq_true rfl⟩) hS (fun q _ h => hFc q h) hFc (fun r9 u t H1 locs ht hvm hw hB hz1 hk1 hS => ?_)
  obtain ⟨hP, hD⟩ := hB
  rw [ht] at hP
  replace hD := hD.weaken (fun _ _ _ h => hFc _ h)
  generalize H1 = H at hP hS ⊢
  have hP : va_P D vwCl (pR cZ cI b 0 2 tn on cg ct mo ea (fun _ => false) T) H := hP
  have hD : va_D A (pR cZ cI b 0 2 tn on cg ct mo ea (fun _ => false) T) := hD
  subst hw
  refine rv_top (show _ = bI false from rfl) ?_
  refine rv_ifneB (tgt := 36) hx hb dX3_begin_6 (by decide) (fun c6_1 => ?_) (fun c6_1 => ?_)
  · skip
    exact Bool.noConfusion c6_1
  · skip
    refine lv_aload_n hx hb dX3_begin_9 rfl (lv_at hl 0 rfl) ?_
    refine lv_iload_n hx hb dX3_begin_10 rfl (lv_at hl 1 rfl) ?_
    refine lv_iload_n hx hb dX3_begin_11 rfl (lv_at hl 2 rfl) ?_
    refine rv_eq (tgt := 24) hx hb (by omega) (by omega) dX3_begin_12 (by decide) (fun c12_2 => ?_) (fun c12_2 => ?_)
    · skip
      exfalso; omega
    · skip
      refine lv_aload_n hx hb dX3_begin_15 rfl (lv_at hl 0 rfl) ?_
      refine va_get (D := D) (ci := 3) (v := .ref (b 1)) (C := RX3) (T := TX3) (N := 20) hx hb hts hin3 hown hZ.1 hP 0 rfl rfl 3 (by decide) hf9 (fun _ h9 => h9) rfl dX3_begin_16 ?_
      refine lv_iload_n hx hb dX3_begin_19 rfl (lv_at hl 1 rfl) ?_
      refine rv_zald hx hb hZ.1 hP 1 0 rfl rfl (r := 0) (by omega) (by decide) (v := bI ((fun _ => false) 0)) rfl dX3_begin_20 ?_
      refine rv_top (show bI ((fun _ => false) 0) = bI false from rfl) ?_
      refine rv_ifeqB (tgt := 28) hx hb dX3_begin_21 (by decide) (fun c21_3 => ?_) (fun c21_3 => ?_)
      · skip
        refine lv_iconst (v := nI 0) hx hb dX3_begin_28 (by decide) ?_
        refine rv_top (show nI 0 = bI false from rfl) ?_
        refine lv_iconst (v := nI 2) hx hb dX3_begin_29 (by decide) ?_
        have hFc := va_free (wc := pR cZ cI b 0 2 tn on cg ct mo ea (fun _ => false) T) hD hS hA [0, 1, 2, 3, 4, 5, 6, 7, 8] rfl
        refine va_calli (va_runV (As := [.int (bI false), .int (nI 2)]) (rest := []) ⟨hx, hb, hml, hown, hts⟩ (r_X3_refuse l D cZ cI b 2 tn on cg ct mo ea T H.size 2 ) (cwV 2 hts gX3_begin_X3_refuse rfl rfl rfl (by decide +kernel) ⟨Nat.le_of_ble_eq_true rfl, Nat.le_of_ble_eq_true rfl⟩) ⟨WrP_blind, va_recv hZ.1 hP (ci := 3) (q0 := 0) rfl rfl, WrP_start hP hD hZ⟩ rfl rfl hl.1 rfl (lv_room (Nat.le_of_ble_eq_true rfl)) dX3_begin_30 ⟨Nat.le_of_ble_eq_true rfl, Nat.le_of_ble_eq_true rfl⟩) hS (fun q _ h => hFc q h) hFc (fun r9 u t H1 locs ht hvm hw hB hz1 hk1 hS => ?_)
        obtain ⟨hP, hD⟩ := hB
        rw [ht] at hP
        replace hD := hD.weaken (fun _ _ _ h => hFc _ h)
        generalize H1 = H at hP hS ⊢
        have hP : va_P D vwCl (pR cZ cI b 0 2 tn on cg ct mo ea (fun _ => false) T) H := hP
        have hD : va_D A (pR cZ cI b 0 2 tn on cg ct mo ea (fun _ => false) T) := hD
        subst hw
        refine rv_top (show _ = bI false from rfl) ?_
        refine rv_ifeqB (tgt := 38) hx hb dX3_begin_33 (by decide) (fun c33_4 => ?_) (fun c33_4 => ?_)
        · skip
          refine lv_aload_n hx hb dX3_begin_38 rfl (lv_at hl 0 rfl) ?_
          refine lv_iconst (v := nI 0) hx hb dX3_begin_39 (by decide) ?_
          refine va_put (D := D) (ci := 3) (v := .int (nI 0)) (ty := .int) (C := RX3) (T := TX3) (N := 20) hx hb hts hin3 tyX3 tyX3_ok nmX3 hown hZ.1 hP hD hS 0 rfl rfl 10 (by decide) hf92 (fun _ h9 => h9) rfl (by decide +kernel) rfl rfl (Nat.le_of_ble_eq_true rfl) dX3_begin_40 (fun H locs hP hD hS => ?_)
          have hP : va_P D vwCl (pR cZ cI b 0 2 0 on cg ct mo ea (fun _ => false) T) H := hP
          have hD : va_D A (pR cZ cI b 0 2 0 on cg ct mo ea (fun _ => false) T) := hD
          refine lv_aload_n hx hb dX3_begin_43 rfl (lv_at hl 0 rfl) ?_
          refine lv_iconst (v := nI 1) hx hb dX3_begin_44 (by decide) ?_
          refine rv_top (show nI 1 = bI true from rfl) ?_
          refine va_put (D := D) (ci := 3) (v := .int (bI true)) (ty := .boolean) (C := RX3) (T := TX3) (N := 20) hx hb hts hin3 tyX3 tyX3_ok nmX3 hown hZ.1 hP hD hS 0 rfl rfl 11 (by decide) hf85 (fun _ h9 => h9) rfl (by decide +kernel) (nr_bI _) rfl (Nat.le_of_ble_eq_true rfl) dX3_begin_45 (fun H locs hP hD hS => ?_)
          have hP : va_P D vwCl (pR cZ cI b 0 2 0 true cg ct mo ea (fun _ => false) T) H := hP
          have hD : va_D A (pR cZ cI b 0 2 0 true cg ct mo ea (fun _ => false) T) := hD
          refine lv_aload_n hx hb dX3_begin_48 rfl (lv_at hl 0 rfl) ?_
          refine lv_iconst (v := nI 0) hx hb dX3_begin_49 (by decide) ?_
          refine rv_top (show nI 0 = bI false from rfl) ?_
          refine va_put (D := D) (ci := 3) (v := .int (bI false)) (ty := .boolean) (C := RX3) (T := TX3) (N := 20) hx hb hts hin3 tyX3 tyX3_ok nmX3 hown hZ.1 hP hD hS 0 rfl rfl 12 (by decide) hf107 (fun _ h9 => h9) rfl (by decide +kernel) (nr_bI _) rfl (Nat.le_of_ble_eq_true rfl) dX3_begin_50 (fun H locs hP hD hS => ?_)
          have hP : va_P D vwCl (pR cZ cI b 0 2 0 true false ct mo ea (fun _ => false) T) H := hP
          have hD : va_D A (pR cZ cI b 0 2 0 true false ct mo ea (fun _ => false) T) := hD
          refine lv_aload_n hx hb dX3_begin_53 rfl (lv_at hl 0 rfl) ?_
          refine lv_iload_n hx hb dX3_begin_54 rfl (lv_at hl 1 rfl) ?_
          refine va_put (D := D) (ci := 3) (v := .int (nI 0)) (ty := .int) (C := RX3) (T := TX3) (N := 20) hx hb hts hin3 tyX3 tyX3_ok nmX3 hown hZ.1 hP hD hS 0 rfl rfl 13 (by decide) hf95 (fun _ h9 => h9) rfl (by decide +kernel) rfl rfl (Nat.le_of_ble_eq_true rfl) dX3_begin_55 (fun H locs hP hD hS => ?_)
          have hP : va_P D vwCl (pR cZ cI b 0 2 0 true false 0 mo ea (fun _ => false) T) H := hP
          have hD : va_D A (pR cZ cI b 0 2 0 true false 0 mo ea (fun _ => false) T) := hD
          refine lv_aload_n hx hb dX3_begin_58 rfl (lv_at hl 0 rfl) ?_
          refine lv_iload_n hx hb dX3_begin_59 rfl (lv_at hl 2 rfl) ?_
          refine va_put (D := D) (ci := 3) (v := .int (nI 1)) (ty := .int) (C := RX3) (T := TX3) (N := 20) hx hb hts hin3 tyX3 tyX3_ok nmX3 hown hZ.1 hP hD hS 0 rfl rfl 14 (by decide) hf98 (fun _ h9 => h9) rfl (by decide +kernel) rfl rfl (Nat.le_of_ble_eq_true rfl) dX3_begin_60 (fun H locs hP hD hS => ?_)
          have hP : va_P D vwCl (pR cZ cI b 0 2 0 true false 0 1 ea (fun _ => false) T) H := hP
          have hD : va_D A (pR cZ cI b 0 2 0 true false 0 1 ea (fun _ => false) T) := hD
          refine lv_aload_n hx hb dX3_begin_63 rfl (lv_at hl 0 rfl) ?_
          refine lv_iconst (v := nI 0) hx hb dX3_begin_64 (by decide) ?_
          refine va_put (D := D) (ci := 3) (v := .int (nI 0)) (ty := .int) (C := RX3) (T := TX3) (N := 20) hx hb hts hin3 tyX3 tyX3_ok nmX3 hown hZ.1 hP hD hS 0 rfl rfl 15 (by decide) hf110 (fun _ h9 => h9) rfl (by decide +kernel) rfl rfl (Nat.le_of_ble_eq_true rfl) dX3_begin_65 (fun H locs hP hD hS => ?_)
          have hP : va_P D vwCl (pR cZ cI b 0 2 0 true false 0 1 0 (fun _ => false) T) H := hP
          have hD : va_D A (pR cZ cI b 0 2 0 true false 0 1 0 (fun _ => false) T) := hD
          refine lv_aload_n hx hb dX3_begin_68 rfl (lv_at hl 0 rfl) ?_
          have hFc := va_free (wc := pR cZ cI b 0 2 0 true false 0 1 0 (fun _ => false) T) hD hS hA [0, 1, 2, 3, 4, 5, 6, 7, 8] rfl
          refine va_calli (va_runV (As := []) (rest := []) ⟨hx, hb, hml, hown, hts⟩ (r_X3_toCatch l D cZ cI b 0 0 false 0 T H.size  (by first | assumption | omega)) (cwV 0 hts gX3_begin_X3_toCatch rfl rfl rfl (by decide +kernel) ⟨Nat.le_of_ble_eq_true rfl, Nat.le_of_ble_eq_true rfl⟩) ⟨WrP_blind, va_recv hZ.1 hP (ci := 3) (q0 := 0) rfl rfl, WrP_start hP hD hZ⟩ rfl rfl hl.1 rfl (lv_room (Nat.le_of_ble_eq_true rfl)) dX3_begin_69 ⟨Nat.le_of_ble_eq_true rfl, Nat.le_of_ble_eq_true rfl⟩) hS (fun q _ h => hFc q h) hFc (fun r9 u_5 t H1 locs ht hvm hw hB hz1 hk1 hS => ?_)
          obtain ⟨nn_6, gg_7, T_8⟩ := u_5
          obtain ⟨hP, hD⟩ := hB
          rw [ht] at hP
          replace hD := hD.weaken (fun _ _ _ h => hFc _ h)
          generalize H1 = H at hP hS ⊢
          refine W.widen (k := 1) (n := 768) (by omega) (by omega) ?_
          have hP : va_P D vwCl (pR cZ cI b 0 2 0 true false 0 1 0 (fun _ => false) T_8 ++ [(nn_6, .inl (cZ, 768, .inl (gg_7)))]) H := hP
          have hD : va_D A (pR cZ cI b 0 2 0 true false 0 1 0 (fun _ => false) T_8 ++ [(nn_6, .inl (cZ, 768, .inl (gg_7)))]) := hD
          obtain ⟨hw, hsT_8⟩ := hw
          replace hsT_8 : sOk1 T_8 := hsT_8
          subst hw
          refine rv_top (show _ = (-1) from rfl) ?_
          have hP9 : va_P D vwCl (pR cZ cI b 0 2 0 true false 0 1 0 (fun _ => false) T_8 ++ [(nn_6, .inl (cZ, 768, .inl (gg_7)))]) H := by exact hP
          have hD9 : va_D A (pR cZ cI b 0 2 0 true false 0 1 0 (fun _ => false) T_8 ++ [(nn_6, .inl (cZ, 768, .inl (gg_7)))]) := by exact hD
          exact W.iret (v := (-1)) hx hb hr (fun t ht hW => ⟨⟨_, (nn_6, gg_7, T_8), rfl, ⟨rfl, hsT_8⟩, by rw [ht]; exact hP9, hD9⟩, hS.F ht⟩) hS.2.2 dX3_begin_72
        · skip
          exact Bool.noConfusion c33_4
      · skip
        exact Bool.noConfusion c21_3

