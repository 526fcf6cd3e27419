set_option maxHeartbeats 4000000 in
set_option maxRecDepth 100000 in
theorem r_X3_best1 (l : Launch) (D : va_G) (cZ cI : ClassId) (b : Nat → Nat) (th : Nat) (tn : Nat) (cg : Bool) (ea : Nat) (T : Nat → Nat → Nat → Option Nat) (sz : Nat)  (htn : tn < 2 ^ 29) (hpar : tn % 2 = 1) : Met l yX3_best wsX3_best ({ frames := 3, cells := 10, slots := 840, locals := 76 }) (WrP D cZ cI [.ref (b 0)] (pR cZ cI b th 2 tn true cg 0 1 ea (fun _ => false) T) sz) (va_Qi (fun r (u : RU) => r = nI 0 ∧ sOk1 u.2.2) (fun (u : RU) t => va_P D vwCl (pR cZ cI b th 2 tn true cg 0 1 ea (fun _ => false) u.2.2 ++ [(u.1, .inl (cZ, 768, .inl (u.2.1)))]) t.heap ∧ va_D (va_A (pR cZ cI b th 2 tn true cg 0 1 ea (fun _ => false) T) sz) (pR cZ cI b th 2 tn true cg 0 1 ea (fun _ => false) u.2.2 ++ [(u.1, .inl (cZ, 768, .inl (u.2.1)))])) (va_A (pR cZ cI b th 2 tn true cg 0 1 ea (fun _ => false) T) sz)) 10 840 (va_A (pR cZ cI b th 2 tn true cg 0 1 ea (fun _ => false) T) sz) := by
  refine Met.ofW (cc := cX3_best) (maxL := 7) (ret := (some .int)) (by decide) rfl ?_
  intro p e s m args below meth c s₁ B hml hv
  obtain ⟨rfl, hsz, hP, hZ, hD0⟩ := hv
  have hx := B.exec
  have hb := B.bytes
  have hr := B.returns
  have hts := atoms_spec (ws := wsX3_best) B.pre
  have hown : s.vm.findClass RX3 = some m.cls := findClass_of_methodNamed B.named
  have hlocks := B.notSynchronized
  subst hsz
  have hD := hD0.self (sz := s.heap.size)
  generalize hAe : va_A (pR cZ cI b th 2 tn true cg 0 1 ea (fun _ => false) T) s.heap.size = A at hD ⊢
  have hA : ∀ q : Nat, s.heap.size ≤ q → A q := fun q h => by rw [← hAe]; exact Or.inr h
  have hS : va_S A s.heap s.heap [] := va_S.rf
  have hP : va_P D vwCl (pR cZ cI b th 2 tn true cg 0 1 ea (fun _ => false) T) s.heap := hP
  have hl := lv_entry ([.ref (b 0)]) (n := 7) (Nat.le_of_ble_eq_true rfl)
  rw [lg_entry_eq]
  generalize (lg_sl ([.ref (b 0)]) ++ List.replicate (7 - (lg_sl ([.ref (b 0)])).length) Slot.unset).toArray = ls at hl ⊢
  have hl : lv_has ls 7 [(0, .ref (b 0))] := hl
  have hin3 : ∀ w ∈ u_ws RX3 TX3 20, w ∈ wsX3_best := by decide +kernel
  have hf9 := hts (.fieldLink RX3 9 "DoorChaseModel" "safe" "[Z") (by decide +kernel)
  have hf32 := hts (.fieldLink RX3 32 "DoorChaseModel" "sure" "[I") (by decide +kernel)
  have hf43 := hts (.fieldLink RX3 43 "DoorChaseModel" "rooms" "I") (by decide +kernel)
  have hf85 := hts (.fieldLink RX3 85 "DoorChaseModel" "isOn" "Z") (by decide +kernel)
  have hf92 := hts (.fieldLink RX3 92 "DoorChaseModel" "turn" "I") (by decide +kernel)
  have hf95 := hts (.fieldLink RX3 95 "DoorChaseModel" "cat" "I") (by decide +kernel)
  have hf98 := hts (.fieldLink RX3 98 "DoorChaseModel" "mouse" "I") (by decide +kernel)
  refine lv_aload_n hx hb dX3_best_0 rfl (lv_at hl 0 rfl) ?_
  refine va_get (D := D) (ci := 3) (v := .int (bI true)) (C := RX3) (T := TX3) (N := 20) hx hb hts hin3 hown hZ.1 hP 0 rfl rfl 11 (by decide) hf85 (fun _ h9 => h9) rfl dX3_best_1 ?_
  refine rv_ifneB (tgt := 9) hx hb dX3_best_4 (by decide) (fun c4_1 => ?_) (fun c4_1 => ?_)
  · skip
    refine lv_aload_n hx hb dX3_best_9 rfl (lv_at hl 0 rfl) ?_
    have hFc := va_free (wc := pR cZ cI b th 2 tn true cg 0 1 ea (fun _ => false) T) hD hS hA [0, 1, 2, 3, 4, 5, 6, 7, 8] rfl
    refine va_callv (va_runV (As := []) (rest := []) ⟨hx, hb, hml, hown, hts⟩ (r_X3_reckon l D cZ cI b th tn true cg 0 1 ea T s.heap.size  ) (cwV 0 hts gX3_best_X3_reckon rfl rfl rfl (by decide +kernel) ⟨Nat.le_of_ble_eq_true rfl, Nat.le_of_ble_eq_true rfl⟩) ⟨WrP_blind, va_recv hZ.1 hP (ci := 3) (q0 := 0) rfl rfl, WrP_start hP hD hZ⟩ rfl rfl hl.1 rfl (lv_room (Nat.le_of_ble_eq_true rfl)) dX3_best_10 ⟨Nat.le_of_ble_eq_true rfl, Nat.le_of_ble_eq_true rfl⟩) hS (fun q _ h => hFc q h) hFc (fun u_2 t H1 locs ht hvm hw hB hz1 hk1 hS => ?_)
    obtain ⟨nn_3, gg_4, T_5⟩ := u_2
    obtain ⟨hP, hD⟩ := hB
    rw [ht] at hP
    replace hD := hD.weaken (fun _ _ _ h => hFc _ h)
    generalize H1 = H at hP hS ⊢
    refine W.widen (k := 1) (n := 768) (by omega) (by omega) ?_
    have hP : va_P D vwCl (pR cZ cI b th 2 tn true cg 0 1 ea (fun _ => false) T_5 ++ [(nn_3, .inl (cZ, 768, .inl (gg_4)))]) H := hP
    have hD : va_D A (pR cZ cI b th 2 tn true cg 0 1 ea (fun _ => false) T_5 ++ [(nn_3, .inl (cZ, 768, .inl (gg_4)))]) := hD
    have hsT_5 : sOk1 T_5 := hw
    refine lv_iconst (v := (-1)) hx hb dX3_best_13 (by decide) ?_
    refine lv_istore_n (lv' := [(1, .int ((-1))), (0, .ref (b 0))]) hx hb dX3_best_14 rfl hl (by decide) rfl (fun ls hl => ?_)
    refine lv_ldc (v := 2147483647) hx hb hown (hts (.constant RX3 103 (2147483647)) (by decide +kernel)) dX3_best_15 ?_
    refine lv_istore_n (lv' := [(2, .int (2147483647)), (1, .int ((-1))), (0, .ref (b 0))]) hx hb dX3_best_17 rfl hl (by decide) rfl (fun ls hl => ?_)
    refine lv_iconst (v := nI 0) hx hb dX3_best_18 (by decide) ?_
    refine lv_istore_n (lv' := [(3, .int (nI 0)), (2, .int (2147483647)), (1, .int ((-1))), (0, .ref (b 0))]) hx hb dX3_best_19 rfl hl (by decide) rfl (fun ls hl => ?_)
    refine lv_iload_n hx hb dX3_best_20 rfl (lv_at hl 0 rfl) ?_
    refine lv_aload_n hx hb dX3_best_21 rfl (lv_at hl 3 rfl) ?_
    refine va_get (D := D) (ci := 3) (v := .int (nI 2)) (C := RX3) (T := TX3) (N := 20) hx hb hts hin3 hown hZ.1 hP 0 rfl rfl 1 (by decide) hf43 (fun _ h9 => h9) rfl dX3_best_22 ?_
    refine rv_ge (tgt := 224) hx hb (by omega) (by omega) dX3_best_25 (by decide) (fun c25_6 => ?_) (fun c25_6 => ?_)
    · skip
      exfalso; omega
    · skip
      refine lv_aload_n hx hb dX3_best_28 rfl (lv_at hl 3 rfl) ?_
      refine va_get (D := D) (ci := 3) (v := .int (nI tn)) (C := RX3) (T := TX3) (N := 20) hx hb hts hin3 hown hZ.1 hP 0 rfl rfl 10 (by decide) hf92 (fun _ h9 => h9) rfl dX3_best_29 ?_
      refine lv_iconst (v := nI 2) hx hb dX3_best_32 (by decide) ?_
      refine rv_rem hx hb (by omega) (by omega) (by omega) dX3_best_33 ?_
      refine lv_iconst (v := nI 1) hx hb dX3_best_34 (by decide) ?_
      refine rv_ne (tgt := 42) hx hb (by omega) (by omega) dX3_best_35 (by decide) (fun c35_7 => ?_) (fun c35_7 => ?_)
      · skip
        exfalso; omega
      · skip
        refine lv_iconst (v := nI 1) hx hb dX3_best_38 (by decide) ?_
        refine rv_top (show nI 1 = bI true from rfl) ?_
        refine lv_goto (tgt := 43) hx hb dX3_best_39 (by decide) ?_
        refine lv_istore (lv' := [(4, .int (bI true)), (3, .int (nI 0)), (2, .int (2147483647)), (1, .int ((-1))), (0, .ref (b 0))]) hx hb dX3_best_43 hl (by decide) rfl (fun ls hl => ?_)
        refine lv_aload_n hx hb dX3_best_45 rfl (lv_at hl 4 rfl) ?_
        refine lv_iload hx hb dX3_best_46 (lv_at hl 0 rfl) ?_
        refine rv_ifeqB (tgt := 58) hx hb dX3_best_48 (by decide) (fun c48_8 => ?_) (fun c48_8 => ?_)
        · skip
          exact Bool.noConfusion c48_8
        · skip
          refine lv_aload_n hx hb dX3_best_51 rfl (lv_at hl 4 rfl) ?_
          refine va_get (D := D) (ci := 3) (v := .int (nI 0)) (C := RX3) (T := TX3) (N := 20) hx hb hts hin3 hown hZ.1 hP 0 rfl rfl 13 (by decide) hf95 (fun _ h9 => h9) rfl dX3_best_52 ?_
          refine lv_goto (tgt := 62) hx hb dX3_best_55 (by decide) ?_
          refine lv_iload_n hx hb dX3_best_62 rfl (lv_at hl 1 rfl) ?_
          refine lv_aload_n hx hb dX3_best_63 rfl (lv_at hl 4 rfl) ?_
          refine va_get (D := D) (ci := 3) (v := .int (nI tn)) (C := RX3) (T := TX3) (N := 20) hx hb hts hin3 hown hZ.1 hP 0 rfl rfl 10 (by decide) hf92 (fun _ h9 => h9) rfl dX3_best_64 ?_
          refine vp_callSi (va_runV (As := [.int (nI 0), .int (nI 0), .int (nI tn)]) (rest := []) ⟨hx, hb, hml, hown, hts⟩ (r_X3_isWay l D cZ cI b th 2 tn true cg 0 1 ea T_5  0 0 tn (by first | assumption | omega) (by first | assumption | omega)) (cwV 3 hts gX3_best_X3_isWay rfl rfl rfl (by decide +kernel) ⟨Nat.le_of_ble_eq_true rfl, Nat.le_of_ble_eq_true rfl⟩) ⟨RdP_blind, va_recv hZ.1 hP (ci := 3) (q0 := 0) rfl rfl, RdP_start (hP.sub (ws' := pR cZ cI b th 2 tn true cg 0 1 ea (fun _ => false) T_5) [0, 1, 2, 3, 4, 5, 6, 7, 8] rfl) hZ⟩ rfl rfl hl.1 rfl (lv_room (Nat.le_of_ble_eq_true rfl)) dX3_best_67 ⟨Nat.le_of_ble_eq_true rfl, Nat.le_of_ble_eq_true rfl⟩).run (fun r_9 hr_10 => ?_)
          subst hr_10
          refine rv_top (show _ = bI (decide (0 = 0)) from rfl) ?_
          refine rv_top (show bI (decide (0 = 0)) = bI true from rfl) ?_
          refine rv_ifeqB (tgt := 218) hx hb dX3_best_70 (by decide) (fun c70_11 => ?_) (fun c70_11 => ?_)
          · skip
            exact Bool.noConfusion c70_11
          · skip
            refine lv_iload hx hb dX3_best_73 (lv_at hl 0 rfl) ?_
            refine rv_ifeqB (tgt := 90) hx hb dX3_best_75 (by decide) (fun c75_12 => ?_) (fun c75_12 => ?_)
            · skip
              exact Bool.noConfusion c75_12
            · skip
              refine lv_aload_n hx hb dX3_best_78 rfl (lv_at hl 4 rfl) ?_
              refine va_get (D := D) (ci := 3) (v := .ref (b 1)) (C := RX3) (T := TX3) (N := 20) hx hb hts hin3 hown hZ.1 hP 0 rfl rfl 3 (by decide) hf9 (fun _ h9 => h9) rfl dX3_best_79 ?_
              refine lv_iload_n hx hb dX3_best_82 rfl (lv_at hl 1 rfl) ?_
              refine rv_zald hx hb hZ.1 hP 1 0 rfl rfl (r := 0) (by omega) (by decide) (v := bI ((fun _ => false) 0)) rfl dX3_best_83 ?_
              refine rv_top (show bI ((fun _ => false) 0) = bI false from rfl) ?_
              refine rv_ifeqB (tgt := 90) hx hb dX3_best_84 (by decide) (fun c84_13 => ?_) (fun c84_13 => ?_)
              · skip
                refine lv_iload hx hb dX3_best_90 (lv_at hl 0 rfl) ?_
                refine rv_ifeqB (tgt := 117) hx hb dX3_best_92 (by decide) (fun c92_14 => ?_) (fun c92_14 => ?_)
                · skip
                  exact Bool.noConfusion c92_14
                · skip
                  refine lv_aload_n hx hb dX3_best_95 rfl (lv_at hl 4 rfl) ?_
                  refine va_get (D := D) (ci := 3) (v := .ref (b 8)) (C := RX3) (T := TX3) (N := 20) hx hb hts hin3 hown hZ.1 hP 0 rfl rfl 16 (by decide) hf32 (fun _ h9 => h9) rfl dX3_best_96 ?_
                  refine lv_aload_n hx hb dX3_best_99 rfl (lv_at hl 4 rfl) ?_
                  refine va_get (D := D) (ci := 3) (v := .int (nI tn)) (C := RX3) (T := TX3) (N := 20) hx hb hts hin3 hown hZ.1 hP 0 rfl rfl 10 (by decide) hf92 (fun _ h9 => h9) rfl dX3_best_100 ?_
                  refine lv_iconst (v := nI 1) hx hb dX3_best_103 (by decide) ?_
                  refine rv_add hx hb dX3_best_104 ?_
                  refine lv_iload_n hx hb dX3_best_105 rfl (lv_at hl 1 rfl) ?_
                  refine lv_aload_n hx hb dX3_best_106 rfl (lv_at hl 4 rfl) ?_
                  refine va_get (D := D) (ci := 3) (v := .int (nI 1)) (C := RX3) (T := TX3) (N := 20) hx hb hts hin3 hown hZ.1 hP 0 rfl rfl 14 (by decide) hf98 (fun _ h9 => h9) rfl dX3_best_107 ?_
                  refine vp_callSi (va_runS (As := [.int (nI (tn + 1)), .int (nI 0), .int (nI 1)]) (rest := [.ref (b 8)]) ⟨hx, hb, hml, hown, hts⟩ (r_X3_place l D cZ cI   (tn + 1) 0 1 (by first | assumption | omega)) (va_cwS 3 hts gX3_best_X3_place rfl rfl rfl (by decide +kernel) ⟨Nat.le_of_ble_eq_true rfl, Nat.le_of_ble_eq_true rfl⟩) ⟨RdP_blind, RdP_start (hP.sub (ws' := []) [] rfl) hZ⟩ rfl rfl hl.1 rfl (lv_room (Nat.le_of_ble_eq_true rfl)) dX3_best_110 ⟨Nat.le_of_ble_eq_true rfl, Nat.le_of_ble_eq_true rfl⟩).run (fun r_15 hr_16 => ?_)
                  subst hr_16
                  refine rv_top (show _ = nI (((tn + 1) % 12 * 8 + 0) * 8 + 1) from rfl) ?_
                  refine rv_iald hx hb hZ.1 hP 8 1 rfl rfl (r := ((tn + 1) % 12 * 8 + 0) * 8 + 1) (by have := Nat.mod_lt (tn + 1) (show 0 < 12 by decide); omega) (by decide) (v := iO (T_5 ((tn + 1) % 12) 0 1)) (encT_at _ ((tn + 1) % 12) (by omega) (by omega)) dX3_best_113 ?_
                  refine rv_top (show iO (T_5 ((tn + 1) % 12) 0 1) = (-1) from by rw [show T_5 ((tn + 1) % 12) 0 1 = none from (hsT_5 ((tn + 1) % 12) 0 1 (Nat.mod_lt _ (by decide)) (by decide) (by decide)).trans (if_neg (by decide))]; rfl) ?_
                  refine lv_goto (tgt := 136) hx hb dX3_best_114 (by decide) ?_
                  refine lv_istore (lv' := [(5, .int ((-1))), (4, .int (bI true)), (3, .int (nI 0)), (2, .int (2147483647)), (1, .int ((-1))), (0, .ref (b 0))]) hx hb dX3_best_136 hl (by decide) rfl (fun ls hl => ?_)
                  refine lv_iload hx hb dX3_best_138 (lv_at hl 1 rfl) ?_
                  refine rv_ifeqB (tgt := 188) hx hb dX3_best_140 (by decide) (fun c140_17 => ?_) (fun c140_17 => ?_)
                  · skip
                    exact Bool.noConfusion c140_17
                  · skip
                    refine lv_iload hx hb dX3_best_143 (lv_at hl 0 rfl) ?_
                    refine lv_if_lt (tgt := 153) hx hb dX3_best_145 (by decide) (fun c145_18 => ?_) (fun c145_18 => ?_)
                    · skip
                      refine lv_sipush (v := nI 1000) hx hb dX3_best_153 (by decide) ?_
                      refine lv_aload_n hx hb dX3_best_156 rfl (lv_at hl 5 rfl) ?_
                      refine lv_iload_n hx hb dX3_best_157 rfl (lv_at hl 2 rfl) ?_
                      refine lv_aload_n hx hb dX3_best_158 rfl (lv_at hl 5 rfl) ?_
                      refine va_get (D := D) (ci := 3) (v := .int (nI 1)) (C := RX3) (T := TX3) (N := 20) hx hb hts hin3 hown hZ.1 hP 0 rfl rfl 14 (by decide) hf98 (fun _ h9 => h9) rfl dX3_best_159 ?_
                      have hPc := hP.sub (ws' := pR cZ cI b th 2 tn true cg 0 1 ea (fun _ => false) T_5) [0, 1, 2, 3, 4, 5, 6, 7, 8] rfl
                      have hDc := hD.sub (ws' := pR cZ cI b th 2 tn true cg 0 1 ea (fun _ => false) T_5) [0, 1, 2, 3, 4, 5, 6, 7, 8] (by decide) rfl
                      have hFc := va_free (wc := pR cZ cI b th 2 tn true cg 0 1 ea (fun _ => false) T_5) hD hS hA [0, 1, 2, 3, 4, 5, 6, 7, 8] rfl
                      refine va_calli (va_runV (As := [.int (nI 0), .int (nI 1)]) (rest := [.int (nI 1000)]) ⟨hx, hb, hml, hown, hts⟩ (r_X3_away l D cZ cI b th tn true cg 0 1 ea T_5 H.size  ) (cwV 2 hts gX3_best_X3_away rfl rfl rfl (by decide +kernel) ⟨Nat.le_of_ble_eq_true rfl, Nat.le_of_ble_eq_true rfl⟩) ⟨WrP_blind, va_recv hZ.1 hP (ci := 3) (q0 := 0) rfl rfl, WrP_start hPc hDc hZ⟩ rfl rfl hl.1 rfl (lv_room (Nat.le_of_ble_eq_true rfl)) dX3_best_162 ⟨Nat.le_of_ble_eq_true rfl, Nat.le_of_ble_eq_true rfl⟩) hS (fun q _ h => hFc q h) hFc (fun r9 u t H1 locs ht hvm hw hB hz1 hk1 hS => ?_)
                      obtain ⟨hP1, hD1⟩ := hB
                      rw [ht] at hP1
                      obtain ⟨hP, hD⟩ := va_join (wr := ([9] : List Nat).filterMap (fun i => (pR cZ cI b th 2 tn true cg 0 1 ea (fun _ => false) T_5 ++ [(nn_3, .inl (cZ, 768, .inl (gg_4)))])[i]?)) (w1 := pR cZ cI b th 2 tn true cg 0 1 ea (fun _ => false) T_5) hP hD [0, 1, 2, 3, 4, 5, 6, 7, 8] [9] rfl rfl (by decide) (by decide) hk1 hFc hP1 hD1
                      replace hP := hP.sub (ws' := pR cZ cI b th 2 tn true cg 0 1 ea (fun _ => false) T_5 ++ [(nn_3, .inl (cZ, 768, .inl (gg_4)))]) [1, 2, 3, 4, 5, 6, 7, 8, 9, 0] rfl
                      replace hD := hD.sub (ws' := pR cZ cI b th 2 tn true cg 0 1 ea (fun _ => false) T_5 ++ [(nn_3, .inl (cZ, 768, .inl (gg_4)))]) [1, 2, 3, 4, 5, 6, 7, 8, 9, 0] (by decide) rfl
                      generalize H1 = H at hP hS ⊢
                      refine W.widen (k := 10) (n := 840) (by omega) (by omega) ?_
                      have hP : va_P D vwCl (pR cZ cI b th 2 tn true cg 0 1 ea (fun _ => false) T_5 ++ [(nn_3, .inl (cZ, 768, .inl (gg_4)))]) H := hP
                      have hD : va_D A (pR cZ cI b th 2 tn true cg 0 1 ea (fun _ => false) T_5 ++ [(nn_3, .inl (cZ, 768, .inl (gg_4)))]) := hD
                      subst hw
                      refine rv_top (show _ = (-1) from rfl) ?_
                      refine lv_if_ge (tgt := 173) hx hb dX3_best_165 (by decide) (fun c165_19 => ?_) (fun c165_19 => ?_)
                      · skip
                        exact absurd c165_19 (by decide)
                      · skip
                        refine lv_bipush (v := nI 8) hx hb dX3_best_168 (by decide) ?_
                        refine lv_goto (tgt := 182) hx hb dX3_best_170 (by decide) ?_
                        refine rv_add hx hb dX3_best_182 ?_
                        refine lv_istore (lv' := [(6, .int (nI (1000 + 8))), (5, .int ((-1))), (4, .int (bI true)), (3, .int (nI 0)), (2, .int (2147483647)), (1, .int ((-1))), (0, .ref (b 0))]) hx hb dX3_best_183 hl (by decide) rfl (fun ls hl => ?_)
                        refine lv_goto (tgt := 204) hx hb dX3_best_185 (by decide) ?_
                        refine lv_iload hx hb dX3_best_204 (lv_at hl 0 rfl) ?_
                        refine lv_iload_n hx hb dX3_best_206 rfl (lv_at hl 4 rfl) ?_
                        refine lv_icmp_lt (tgt := 213) hx hb dX3_best_207 (by decide) (fun c207_20 => ?_) (fun c207_20 => ?_)
                        · skip
                          refine lv_iload hx hb dX3_best_213 (lv_at hl 0 rfl) ?_
                          refine lv_istore_n (lv' := [(2, .int (nI (1000 + 8))), (6, .int (nI (1000 + 8))), (5, .int ((-1))), (4, .int (bI true)), (3, .int (nI 0)), (1, .int ((-1))), (0, .ref (b 0))]) hx hb dX3_best_215 rfl hl (by decide) rfl (fun ls hl => ?_)
                          refine lv_iload_n hx hb dX3_best_216 rfl (lv_at hl 4 rfl) ?_
                          refine lv_istore_n (lv' := [(1, .int (nI 0)), (2, .int (nI (1000 + 8))), (6, .int (nI (1000 + 8))), (5, .int ((-1))), (4, .int (bI true)), (3, .int (nI 0)), (0, .ref (b 0))]) hx hb dX3_best_217 rfl hl (by decide) rfl (fun ls hl => ?_)
                          refine lv_iinc (v := nI 1) (lv' := [(3, .int (nI 1)), (1, .int (nI 0)), (2, .int (nI (1000 + 8))), (6, .int (nI (1000 + 8))), (5, .int ((-1))), (4, .int (bI true)), (0, .ref (b 0))]) hx hb dX3_best_218 hl (k := 5) rfl (nI_add 0 1) (by decide) rfl (fun ls hl => ?_)
                          refine lv_goto (tgt := 20) hx hb dX3_best_221 (by decide) ?_
                          refine lv_iload_n hx hb dX3_best_20 rfl (lv_at hl 0 rfl) ?_
                          refine lv_aload_n hx hb dX3_best_21 rfl (lv_at hl 6 rfl) ?_
                          refine va_get (D := D) (ci := 3) (v := .int (nI 2)) (C := RX3) (T := TX3) (N := 20) hx hb hts hin3 hown hZ.1 hP 0 rfl rfl 1 (by decide) hf43 (fun _ h9 => h9) rfl dX3_best_22 ?_
                          refine rv_ge (tgt := 224) hx hb (by omega) (by omega) dX3_best_25 (by decide) (fun c25_21 => ?_) (fun c25_21 => ?_)
                          · skip
                            exfalso; omega
                          · skip
                            refine lv_aload_n hx hb dX3_best_28 rfl (lv_at hl 6 rfl) ?_
                            refine va_get (D := D) (ci := 3) (v := .int (nI tn)) (C := RX3) (T := TX3) (N := 20) hx hb hts hin3 hown hZ.1 hP 0 rfl rfl 10 (by decide) hf92 (fun _ h9 => h9) rfl dX3_best_29 ?_
                            refine lv_iconst (v := nI 2) hx hb dX3_best_32 (by decide) ?_
                            refine rv_rem hx hb (by omega) (by omega) (by omega) dX3_best_33 ?_
                            refine lv_iconst (v := nI 1) hx hb dX3_best_34 (by decide) ?_
                            refine rv_ne (tgt := 42) hx hb (by omega) (by omega) dX3_best_35 (by decide) (fun c35_22 => ?_) (fun c35_22 => ?_)
                            · skip
                              exfalso; omega
                            · skip
                              refine lv_iconst (v := nI 1) hx hb dX3_best_38 (by decide) ?_
                              refine rv_top (show nI 1 = bI true from rfl) ?_
                              refine lv_goto (tgt := 43) hx hb dX3_best_39 (by decide) ?_
                              refine lv_istore (lv' := [(4, .int (bI true)), (3, .int (nI 1)), (1, .int (nI 0)), (2, .int (nI (1000 + 8))), (6, .int (nI (1000 + 8))), (5, .int ((-1))), (0, .ref (b 0))]) hx hb dX3_best_43 hl (by decide) rfl (fun ls hl => ?_)
                              refine lv_aload_n hx hb dX3_best_45 rfl (lv_at hl 6 rfl) ?_
                              refine lv_iload hx hb dX3_best_46 (lv_at hl 0 rfl) ?_
                              refine rv_ifeqB (tgt := 58) hx hb dX3_best_48 (by decide) (fun c48_23 => ?_) (fun c48_23 => ?_)
                              · skip
                                exact Bool.noConfusion c48_23
                              · skip
                                refine lv_aload_n hx hb dX3_best_51 rfl (lv_at hl 6 rfl) ?_
                                refine va_get (D := D) (ci := 3) (v := .int (nI 0)) (C := RX3) (T := TX3) (N := 20) hx hb hts hin3 hown hZ.1 hP 0 rfl rfl 13 (by decide) hf95 (fun _ h9 => h9) rfl dX3_best_52 ?_
                                refine lv_goto (tgt := 62) hx hb dX3_best_55 (by decide) ?_
                                refine lv_iload_n hx hb dX3_best_62 rfl (lv_at hl 1 rfl) ?_
                                refine lv_aload_n hx hb dX3_best_63 rfl (lv_at hl 6 rfl) ?_
                                refine va_get (D := D) (ci := 3) (v := .int (nI tn)) (C := RX3) (T := TX3) (N := 20) hx hb hts hin3 hown hZ.1 hP 0 rfl rfl 10 (by decide) hf92 (fun _ h9 => h9) rfl dX3_best_64 ?_
                                refine vp_callSi (va_runV (As := [.int (nI 0), .int (nI 1), .int (nI tn)]) (rest := []) ⟨hx, hb, hml, hown, hts⟩ (r_X3_isWay l D cZ cI b th 2 tn true cg 0 1 ea T_5  0 1 tn (by first | assumption | omega) (by first | assumption | omega)) (cwV 3 hts gX3_best_X3_isWay rfl rfl rfl (by decide +kernel) ⟨Nat.le_of_ble_eq_true rfl, Nat.le_of_ble_eq_true rfl⟩) ⟨RdP_blind, va_recv hZ.1 hP (ci := 3) (q0 := 0) rfl rfl, RdP_start (hP.sub (ws' := pR cZ cI b th 2 tn true cg 0 1 ea (fun _ => false) T_5) [0, 1, 2, 3, 4, 5, 6, 7, 8] rfl) hZ⟩ rfl rfl hl.1 rfl (lv_room (Nat.le_of_ble_eq_true rfl)) dX3_best_67 ⟨Nat.le_of_ble_eq_true rfl, Nat.le_of_ble_eq_true rfl⟩).run (fun r_24 hr_25 => ?_)
                                subst hr_25
                                refine rv_top (show _ = bI (decide (0 = 1)) from rfl) ?_
                                refine rv_top (show bI (decide (0 = 1)) = bI false from rfl) ?_
                                refine rv_ifeqB (tgt := 218) hx hb dX3_best_70 (by decide) (fun c70_26 => ?_) (fun c70_26 => ?_)
                                · skip
                                  refine lv_iinc (v := nI 2) (lv' := [(3, .int (nI 2)), (4, .int (bI true)), (1, .int (nI 0)), (2, .int (nI (1000 + 8))), (6, .int (nI (1000 + 8))), (5, .int ((-1))), (0, .ref (b 0))]) hx hb dX3_best_218 hl (k := 1) rfl (nI_add 1 1) (by decide) rfl (fun ls hl => ?_)
                                  refine lv_goto (tgt := 20) hx hb dX3_best_221 (by decide) ?_
                                  refine lv_iload_n hx hb dX3_best_20 rfl (lv_at hl 0 rfl) ?_
                                  refine lv_aload_n hx hb dX3_best_21 rfl (lv_at hl 6 rfl) ?_
                                  refine va_get (D := D) (ci := 3) (v := .int (nI 2)) (C := RX3) (T := TX3) (N := 20) hx hb hts hin3 hown hZ.1 hP 0 rfl rfl 1 (by decide) hf43 (fun _ h9 => h9) rfl dX3_best_22 ?_
                                  refine rv_ge (tgt := 224) hx hb (by omega) (by omega) dX3_best_25 (by decide) (fun c25_27 => ?_) (fun c25_27 => ?_)
                                  · skip
                                    refine lv_iload_n hx hb dX3_best_224 rfl (lv_at hl 2 rfl) ?_
                                    have hP9 : va_P D vwCl (pR cZ cI b th 2 tn true cg 0 1 ea (fun _ => false) T_5 ++ [(nn_3, .inl (cZ, 768, .inl (gg_4)))]) H := by exact hP
                                    have hD9 : va_D A (pR cZ cI b th 2 tn true cg 0 1 ea (fun _ => false) T_5 ++ [(nn_3, .inl (cZ, 768, .inl (gg_4)))]) := by exact hD
                                    exact W.iret (v := nI 0) hx hb hr (fun t ht hW => ⟨⟨_, (nn_3, gg_4, T_5), rfl, ⟨rfl, hsT_5⟩, by rw [ht]; exact hP9, hD9⟩, hS.F ht⟩) hS.2.2 dX3_best_225
                                  · skip
                                    exfalso; omega
                                · skip
                                  exact Bool.noConfusion c70_26
                        · skip
                          exact absurd c207_20 (by decide)
                    · skip
                      exact absurd c145_18 (by decide)
              · skip
                exact Bool.noConfusion c84_13
  · skip
    exact Bool.noConfusion c4_1

set_option maxHeartbeats 4000000 in
set_option maxRecDepth 100000 in
theorem r_X3_play (l : Launch) (D : va_G) (cZ cI : ClassId) (b : Nat → Nat) (th : Nat) (tn : Nat) (cg : Bool) (ea : Nat) (T : Nat → Nat → Nat → Option Nat) (sz : Nat)  (htn : tn < 2 ^ 28) (hpar : tn % 2 = 0) : Met l yX3_play wsX3_play ({ frames := 4, cells := 330, slots := 48240, locals := 102 }) (WrP D cZ cI [.ref (b 0), .int (nI 60)] (pR cZ cI b th 2 tn true cg 0 1 ea (fun _ => false) T) sz) (va_Qi (fun r (u : PU) => r = nI 60 ∧ isR cZ u.2 60) (fun (u : PU) t => va_P D vwCl (pR cZ cI b 0 2 (tn + 60) true cg 0 1 ea (fun _ => false) u.1 ++ u.2) t.heap ∧ va_D (va_A (pR cZ cI b th 2 tn true cg 0 1 ea (fun _ => false) T) sz) (pR cZ cI b 0 2 (tn + 60) true cg 0 1 ea (fun _ => false) u.1 ++ u.2)) (va_A (pR cZ cI b th 2 tn true cg 0 1 ea (fun _ => false) T) sz)) 330 48240 (va_A (pR cZ cI b th 2 tn true cg 0 1 ea (fun _ => false) T) sz) := by
  refine Met.ofW (cc := cX3_play) (maxL := 3) (ret := (some .int)) (by decide) rfl ?_
  intro p e s m args below meth c s₁ B hml hv
  obtain ⟨rfl, hsz, hP, hZ, hD0⟩ := hv
  have hx := B.exec
  have hb := B.bytes
  have hr := B.returns
  have hts := atoms_spec (ws := wsX3_play) B.pre
  have hown : s.vm.findClass RX3 = some m.cls := findClass_of_methodNamed B.named
  have hlocks := B.notSynchronized
  subst hsz
  have hD := hD0.self (sz := s.heap.size)
  generalize hAe : va_A (pR cZ cI b th 2 tn true cg 0 1 ea (fun _ => false) T) s.heap.size = A at hD ⊢
  have hA : ∀ q : Nat, s.heap.size ≤ q → A q := fun q h => by rw [← hAe]; exact Or.inr h
  have hS : va_S A s.heap s.heap [] := va_S.rf
  have hP : va_P D vwCl (pR cZ cI b th 2 tn true cg 0 1 ea (fun _ => false) T) s.heap := hP
  have hl := lv_entry ([.ref (b 0), .int (nI 60)]) (n := 3) (Nat.le_of_ble_eq_true rfl)
  rw [lg_entry_eq]
  generalize (lg_sl ([.ref (b 0), .int (nI 60)]) ++ List.replicate (3 - (lg_sl ([.ref (b 0), .int (nI 60)])).length) Slot.unset).toArray = ls at hl ⊢
  have hl : lv_has ls 3 [(0, .ref (b 0)), (1, .int (nI 60))] := hl
  have hin3 : ∀ w ∈ u_ws RX3 TX3 20, w ∈ wsX3_play := by decide +kernel
  have hf85 := hts (.fieldLink RX3 85 "DoorChaseModel" "isOn" "Z") (by decide +kernel)
  refine lv_aload_n hx hb dX3_play_0 rfl (lv_at hl 0 rfl) ?_
  refine lv_iload_n hx hb dX3_play_1 rfl (lv_at hl 1 rfl) ?_
  refine lv_iconst (v := nI 1) hx hb dX3_play_2 (by decide) ?_
  refine lv_bipush (v := nI 60) hx hb dX3_play_3 (by decide) ?_
  refine vp_callSi (va_runS (As := [.int (nI 60), .int (nI 1), .int (nI 60)]) (rest := [.ref (b 0)]) ⟨hx, hb, hml, hown, hts⟩ (r_X3_isIn l D cZ cI   (nI 60) (nI 1) (nI 60) ) (va_cwS 3 hts gX3_play_X3_isIn rfl rfl rfl (by decide +kernel) ⟨Nat.le_of_ble_eq_true rfl, Nat.le_of_ble_eq_true rfl⟩) ⟨RdP_blind, RdP_start (hP.sub (ws' := []) [] rfl) hZ⟩ rfl rfl hl.1 rfl (lv_room (Nat.le_of_ble_eq_true rfl)) dX3_play_5 ⟨Nat.le_of_ble_eq_true rfl, Nat.le_of_ble_eq_true rfl⟩).run (fun r_1 hr_2 => ?_)
  subst hr_2
  refine rv_top (show _ = bI (decide ((nI 1) ≤ (nI 60)) && decide ((nI 60) ≤ (nI 60))) from rfl) ?_
  refine rv_top (show bI (decide ((nI 1) ≤ (nI 60)) && decide ((nI 60) ≤ (nI 60))) = bI true from by decide) ?_
  refine rv_ifneB (tgt := 15) hx hb dX3_play_8 (by decide) (fun c8_3 => ?_) (fun c8_3 => ?_)
  · skip
    refine lv_iconst (v := nI 0) hx hb dX3_play_15 (by decide) ?_
    refine rv_top (show nI 0 = bI false from rfl) ?_
    refine lv_iconst (v := nI 1) hx hb dX3_play_16 (by decide) ?_
    have hFc := va_free (wc := pR cZ cI b th 2 tn true cg 0 1 ea (fun _ => false) T) hD hS hA [0, 1, 2, 3, 4, 5, 6, 7, 8] rfl
    refine va_calli (va_runV (As := [.int (bI false), .int (nI 1)]) (rest := []) ⟨hx, hb, hml, hown, hts⟩ (r_X3_start l D cZ cI b th 2 tn true cg 0 1 ea T s.heap.size 1 ) (cwV 2 hts gX3_play_X3_start rfl rfl rfl (by decide +kernel) ⟨Nat.le_of_ble_eq_true rfl, Nat.le_of_ble_eq_true rfl⟩) ⟨WrP_blind, va_recv hZ.1 hP (ci := 3) (q0 := 0) rfl rfl, WrP_start hP hD hZ⟩ rfl rfl hl.1 rfl (lv_room (Nat.le_of_ble_eq_true rfl)) dX3_play_17 ⟨Nat.le_of_ble_eq_true rfl, Nat.le_of_ble_eq_true rfl⟩) hS (fun q _ h => hFc q h) hFc (fun r9 u t H1 locs ht hvm hw hB hz1 hk1 hS => ?_)
    obtain ⟨hP, hD⟩ := hB
    rw [ht] at hP
    replace hD := hD.weaken (fun _ _ _ h => hFc _ h)
    generalize H1 = H at hP hS ⊢
    have hP : va_P D vwCl (pR cZ cI b 0 2 tn true cg 0 1 ea (fun _ => false) T) H := hP
    have hD : va_D A (pR cZ cI b 0 2 tn true cg 0 1 ea (fun _ => false) T) := hD
    subst hw
    refine rv_top (show _ = bI false from rfl) ?_
    refine rv_ifneB (tgt := 43) hx hb dX3_play_20 (by decide) (fun c20_4 => ?_) (fun c20_4 => ?_)
    · skip
      exact Bool.noConfusion c20_4
    · skip
      refine lv_aload_n hx hb dX3_play_23 rfl (lv_at hl 0 rfl) ?_
      refine lv_aload_n hx hb dX3_play_24 rfl (lv_at hl 0 rfl) ?_
      refine va_get (D := D) (ci := 3) (v := .int (bI true)) (C := RX3) (T := TX3) (N := 20) hx hb hts hin3 hown hZ.1 hP 0 rfl rfl 11 (by decide) hf85 (fun _ h9 => h9) rfl dX3_play_25 ?_
      refine rv_ifneB (tgt := 35) hx hb dX3_play_28 (by decide) (fun c28_5 => ?_) (fun c28_5 => ?_)
      · skip
        refine lv_iconst (v := nI 0) hx hb dX3_play_35 (by decide) ?_
        refine rv_top (show nI 0 = bI false from rfl) ?_
        refine lv_iconst (v := nI 2) hx hb dX3_play_36 (by decide) ?_
        have hFc := va_free (wc := pR cZ cI b 0 2 tn true cg 0 1 ea (fun _ => false) T) hD hS hA [0, 1, 2, 3, 4, 5, 6, 7, 8] rfl
        refine va_calli (va_runV (As := [.int (bI false), .int (nI 2)]) (rest := []) ⟨hx, hb, hml, hown, hts⟩ (r_X3_refuse l D cZ cI b 2 tn true cg 0 1 ea T H.size 2 ) (cwV 2 hts gX3_play_X3_refuse rfl rfl rfl (by decide +kernel) ⟨Nat.le_of_ble_eq_true rfl, Nat.le_of_ble_eq_true rfl⟩) ⟨WrP_blind, va_recv hZ.1 hP (ci := 3) (q0 := 0) rfl rfl, WrP_start hP hD hZ⟩ rfl rfl hl.1 rfl (lv_room (Nat.le_of_ble_eq_true rfl)) dX3_play_37 ⟨Nat.le_of_ble_eq_true rfl, Nat.le_of_ble_eq_true rfl⟩) hS (fun q _ h => hFc q h) hFc (fun r9 u t H1 locs ht hvm hw hB hz1 hk1 hS => ?_)
        obtain ⟨hP, hD⟩ := hB
        rw [ht] at hP
        replace hD := hD.weaken (fun _ _ _ h => hFc _ h)
        generalize H1 = H at hP hS ⊢
        have hP : va_P D vwCl (pR cZ cI b 0 2 tn true cg 0 1 ea (fun _ => false) T) H := hP
        have hD : va_D A (pR cZ cI b 0 2 tn true cg 0 1 ea (fun _ => false) T) := hD
        subst hw
        refine rv_top (show _ = bI false from rfl) ?_
        refine rv_ifeqB (tgt := 45) hx hb dX3_play_40 (by decide) (fun c40_6 => ?_) (fun c40_6 => ?_)
        · skip
          refine lv_iconst (v := nI 0) hx hb dX3_play_45 (by decide) ?_
          refine lv_istore_n (lv' := [(2, .int (nI 0)), (0, .ref (b 0)), (1, .int (nI 60))]) hx hb dX3_play_46 rfl hl (by decide) rfl (fun ls hl => ?_)
          have L47 : ∀ (n k : Nat) (T9 : Nat → Nat → Nat → Option Nat) (pl : va_W), k + n = 60 → isR cZ pl k → ∀ (H : Heap) (locs : List Loc), va_P D vwCl (pR cZ cI b 0 2 (tn + k) true cg 0 1 ea (fun _ => false) T9 ++ pl) H → va_D A (pR cZ cI b 0 2 (tn + k) true cg 0 1 ea (fun _ => false) T9 ++ pl) → va_S A s.heap H locs → ∀ (ls : Array Slot), lv_has ls 3 [(0, .ref (b 0)), (1, .int (nI 60)), (2, .int (nI k))] → W p l e (headSpec wsX3_play ({ frames := 4, cells := 330, slots := 48240, locals := 102 })).room s m ([.ref (b 0), .int (nI 60)] : List Value).toArray below meth c H locs (11 * (k / 2) + k % 2) (1608 * (k / 2) + 768 * (k % 2)) (MQ below (va_Qi (fun r (u : PU) => r = nI 60 ∧ isR cZ u.2 60) (fun (u : PU) t => va_P D vwCl (pR cZ cI b 0 2 (tn + 60) true cg 0 1 ea (fun _ => false) u.1 ++ u.2) t.heap ∧ va_D A (pR cZ cI b 0 2 (tn + 60) true cg 0 1 ea (fun _ => false) u.1 ++ u.2)) A) ([.ref (b 0), .int (nI 60)] : List Value).toArray s 330 48240 A) (F0 m 47 ls []) := by
            intro n
            induction n with
            | zero =>
              intro k T9 pl hk hR H locs hP hD hS ls hl
              obtain rfl : k = 60 := by omega
              refine lv_iload_n hx hb dX3_play_47 rfl (lv_at hl 2 rfl) ?_
              refine lv_iload_n hx hb dX3_play_48 rfl (lv_at hl 1 rfl) ?_
              refine rv_ge (tgt := 73) hx hb (by decide) (by decide) dX3_play_49 (by decide) (fun _ => ?_) (fun q => absurd q (by omega))
              refine lv_iload_n hx hb dX3_play_73 rfl (lv_at hl 2 rfl) ?_
              refine W.widen (k := 330) (n := 48240) (by omega) (by omega) ?_
              exact W.iret (v := nI 60) hx hb hr (fun t ht hW => ⟨⟨_, (T9, pl), rfl, ⟨rfl, hR⟩, by rw [ht]; exact hP, hD⟩, hS.F ht⟩) hS.2.2 dX3_play_74
            | succ n ih =>
              intro k T9 pl hk hR H locs hP hD hS ls hl
              have hin3 : ∀ w ∈ u_ws RX3 TX3 20, w ∈ wsX3_play := by decide +kernel
              refine lv_iload_n hx hb dX3_play_47 rfl (lv_at hl 2 rfl) ?_
              refine lv_iload_n hx hb dX3_play_48 rfl (lv_at hl 1 rfl) ?_
              refine rv_ge (tgt := 73) hx hb (by omega) (by decide) dX3_play_49 (by decide) (fun q => absurd q (by omega)) (fun _ => ?_)
              refine lv_aload_n hx hb dX3_play_52 rfl (lv_at hl 0 rfl) ?_
              refine va_get (D := D) (ci := 3) (v := .int (bI true)) (C := RX3) (T := TX3) (N := 20) hx hb hts hin3 hown hZ.1 hP 0 rfl rfl 11 (by decide) hf85 (fun _ h9 => h9) rfl dX3_play_53 ?_
              refine rv_ifeqB (tgt := 73) hx hb dX3_play_56 (by decide) (fun q => Bool.noConfusion q) (fun _ => ?_)
              refine lv_aload_n hx hb dX3_play_59 rfl (lv_at hl 0 rfl) ?_
              refine lv_aload_n hx hb dX3_play_60 rfl (lv_at hl 0 rfl) ?_
              rcases (show k % 2 = 0 ∨ k % 2 = 1 by omega) with hk2 | hk2
              · skip
                have hPc := hP.sub (ws' := pR cZ cI b 0 2 (tn + k) true cg 0 1 ea (fun _ => false) T9) [0, 1, 2, 3, 4, 5, 6, 7, 8] rfl
                have hDc := hD.sub (ws' := pR cZ cI b 0 2 (tn + k) true cg 0 1 ea (fun _ => false) T9) [0, 1, 2, 3, 4, 5, 6, 7, 8] (by decide) rfl
                have hFc := va_free (wc := pR cZ cI b 0 2 (tn + k) true cg 0 1 ea (fun _ => false) T9) hD hS hA [0, 1, 2, 3, 4, 5, 6, 7, 8] rfl
                refine va_calli (va_runV (As := []) (rest := [.ref (b 0)]) ⟨hx, hb, hml, hown, hts⟩ (r_X3_best0 l D cZ cI b 0 (tn + k) cg ea T9 H.size (by omega) (by omega)) (cwV 0 hts gX3_play_X3_best rfl rfl rfl (by decide +kernel) ⟨Nat.le_of_ble_eq_true rfl, Nat.le_of_ble_eq_true rfl⟩) ⟨WrP_blind, va_recv hZ.1 hP (ci := 3) (q0 := 0) rfl rfl, WrP_start hPc hDc hZ⟩ rfl rfl hl.1 rfl (lv_room (Nat.le_of_ble_eq_true rfl)) dX3_play_61 ⟨(show 11 * (k / 2) + k % 2 + 1 ≤ 330 by omega), (show 1608 * (k / 2) + 768 * (k % 2) + 768 ≤ 48240 by omega)⟩) hS (fun q _ h => hFc q h) hFc (fun r9 u t H1 locs ht hvm hw hB hz1 hk1 hS => ?_)
                obtain ⟨a9, g9, T8⟩ := u
                obtain ⟨hw, -⟩ := hw
                obtain ⟨hP1, hD1⟩ := hB
                rw [ht] at hP1
                obtain ⟨hP, hD⟩ := va_joinQ (wr := []) (w1 := pR cZ cI b 0 2 (tn + k) true cg 0 1 ea (fun _ => false) T8 ++ [(a9, .inl (cZ, 768, .inl g9))]) (cx := pR cZ cI b 0 2 (tn + k) true cg 0 1 ea (fun _ => false) T9) hP hD [0, 1, 2, 3, 4, 5, 6, 7, 8] [] rfl rfl rfl (fun i h => absurd h List.not_mem_nil) hk1 hFc hP1 hD1
                have hP : va_P D vwCl (pR cZ cI b 0 2 (tn + k) true cg 0 1 ea (fun _ => false) T8 ++ ([(a9, .inl (cZ, 768, .inl g9))] ++ pl)) H1 := hP
                have hD : va_D A (pR cZ cI b 0 2 (tn + k) true cg 0 1 ea (fun _ => false) T8 ++ ([(a9, .inl (cZ, 768, .inl g9))] ++ pl)) := hD
                have hR : isR cZ ([(a9, .inl (cZ, 768, .inl g9))] ++ pl) (k + 1) := isR_one hR
                generalize ([(a9, .inl (cZ, 768, .inl g9))] ++ pl : va_W) = pl at hP hD hR
                clear hP1 hD1 hFc hPc hDc
                generalize H1 = H at hP hS ⊢
                refine W.widen (k := 11 * ((k + 1) / 2) + (k + 1) % 2) (n := 1608 * ((k + 1) / 2) + 768 * ((k + 1) % 2)) (by omega) (by omega) ?_
                subst hw
                have hPc := hP.sub (ws' := pR cZ cI b 0 2 (tn + k) true cg 0 1 ea (fun _ => false) T8) [0, 1, 2, 3, 4, 5, 6, 7, 8] rfl
                have hDc := hD.sub (ws' := pR cZ cI b 0 2 (tn + k) true cg 0 1 ea (fun _ => false) T8) [0, 1, 2, 3, 4, 5, 6, 7, 8] (by decide) rfl
                have hFc := va_free (wc := pR cZ cI b 0 2 (tn + k) true cg 0 1 ea (fun _ => false) T8) hD hS hA [0, 1, 2, 3, 4, 5, 6, 7, 8] rfl
                refine va_callv (va_runV (As := [.int (nI 1)]) (rest := []) ⟨hx, hb, hml, hown, hts⟩ (r_X3_goTo0 l D cZ cI b 0 (tn + k) cg ea T8 H.size (by omega) (by omega)) (cwV 1 hts gX3_play_X3_goTo rfl rfl rfl (by decide +kernel) ⟨Nat.le_of_ble_eq_true rfl, Nat.le_of_ble_eq_true rfl⟩) ⟨WrP_blind, va_recv hZ.1 hP (ci := 3) (q0 := 0) rfl rfl, WrP_start hPc hDc hZ⟩ rfl rfl hl.1 rfl (lv_room (Nat.le_of_ble_eq_true rfl)) dX3_play_64 ⟨(show 11 * ((k + 1) / 2) + (k + 1) % 2 + 0 ≤ 330 by omega), (show 1608 * ((k + 1) / 2) + 768 * ((k + 1) % 2) + 0 ≤ 48240 by omega)⟩) hS (fun q _ h => hFc q h) hFc (fun u t H1 locs ht hvm hw hB hz1 hk1 hS => ?_)
                obtain ⟨hP1, hD1⟩ := hB
                rw [ht] at hP1
                obtain ⟨hP, hD⟩ := va_joinQ (wr := []) (w1 := pR cZ cI b 0 2 (tn + k + 1) true cg 0 1 ea (fun _ => false) T8) (cx := pR cZ cI b 0 2 (tn + k) true cg 0 1 ea (fun _ => false) T8) hP hD [0, 1, 2, 3, 4, 5, 6, 7, 8] [] rfl rfl rfl (fun i h => absurd h List.not_mem_nil) hk1 hFc hP1 hD1
                have hP : va_P D vwCl (pR cZ cI b 0 2 (tn + (k + 1)) true cg 0 1 ea (fun _ => false) T8 ++ pl) H1 := hP
                have hD : va_D A (pR cZ cI b 0 2 (tn + (k + 1)) true cg 0 1 ea (fun _ => false) T8 ++ pl) := hD
                refine lv_iinc (v := nI (k + 1)) (lv' := [(2, .int (nI (k + 1))), (0, .ref (b 0)), (1, .int (nI 60))]) hx hb dX3_play_67 hl (k := 2) rfl (nI_add k 1) (by decide) rfl (fun ls hl => ?_)
                refine lv_goto (tgt := 47) hx hb dX3_play_70 (by decide) ?_
                exact ih (k + 1) T8 pl (by omega) hR H1 locs hP hD hS ls (lv_sub hl [1, 2, 0] rfl)
              · skip
                have hPc := hP.sub (ws' := pR cZ cI b 0 2 (tn + k) true cg 0 1 ea (fun _ => false) T9) [0, 1, 2, 3, 4, 5, 6, 7, 8] rfl
                have hDc := hD.sub (ws' := pR cZ cI b 0 2 (tn + k) true cg 0 1 ea (fun _ => false) T9) [0, 1, 2, 3, 4, 5, 6, 7, 8] (by decide) rfl
                have hFc := va_free (wc := pR cZ cI b 0 2 (tn + k) true cg 0 1 ea (fun _ => false) T9) hD hS hA [0, 1, 2, 3, 4, 5, 6, 7, 8] rfl
                refine va_calli (va_runV (As := []) (rest := [.ref (b 0)]) ⟨hx, hb, hml, hown, hts⟩ (r_X3_best1 l D cZ cI b 0 (tn + k) cg ea T9 H.size (by omega) (by omega)) (cwV 0 hts gX3_play_X3_best rfl rfl rfl (by decide +kernel) ⟨Nat.le_of_ble_eq_true rfl, Nat.le_of_ble_eq_true rfl⟩) ⟨WrP_blind, va_recv hZ.1 hP (ci := 3) (q0 := 0) rfl rfl, WrP_start hPc hDc hZ⟩ rfl rfl hl.1 rfl (lv_room (Nat.le_of_ble_eq_true rfl)) dX3_play_61 ⟨(show 11 * (k / 2) + k % 2 + 10 ≤ 330 by omega), (show 1608 * (k / 2) + 768 * (k % 2) + 840 ≤ 48240 by omega)⟩) hS (fun q _ h => hFc q h) hFc (fun r9 u t H1 locs ht hvm hw hB hz1 hk1 hS => ?_)
                obtain ⟨a9, g9, T8⟩ := u
                obtain ⟨hw, -⟩ := hw
                obtain ⟨hP1, hD1⟩ := hB
                rw [ht] at hP1
                obtain ⟨hP, hD⟩ := va_joinQ (wr := []) (w1 := pR cZ cI b 0 2 (tn + k) true cg 0 1 ea (fun _ => false) T8 ++ [(a9, .inl (cZ, 768, .inl g9))]) (cx := pR cZ cI b 0 2 (tn + k) true cg 0 1 ea (fun _ => false) T9) hP hD [0, 1, 2, 3, 4, 5, 6, 7, 8] [] rfl rfl rfl (fun i h => absurd h List.not_mem_nil) hk1 hFc hP1 hD1
                have hP : va_P D vwCl (pR cZ cI b 0 2 (tn + k) true cg 0 1 ea (fun _ => false) T8 ++ ([(a9, .inl (cZ, 768, .inl g9))] ++ pl)) H1 := hP
                have hD : va_D A (pR cZ cI b 0 2 (tn + k) true cg 0 1 ea (fun _ => false) T8 ++ ([(a9, .inl (cZ, 768, .inl g9))] ++ pl)) := hD
                have hR : isR cZ ([(a9, .inl (cZ, 768, .inl g9))] ++ pl) (k + 1) := isR_one hR
                generalize ([(a9, .inl (cZ, 768, .inl g9))] ++ pl : va_W) = pl at hP hD hR
                clear hP1 hD1 hFc hPc hDc
                generalize H1 = H at hP hS ⊢
                refine W.widen (k := 11 * ((k + 1) / 2) + (k + 1) % 2) (n := 1608 * ((k + 1) / 2) + 768 * ((k + 1) % 2)) (by omega) (by omega) ?_
                subst hw
                have hPc := hP.sub (ws' := pR cZ cI b 0 2 (tn + k) true cg 0 1 ea (fun _ => false) T8) [0, 1, 2, 3, 4, 5, 6, 7, 8] rfl
                have hDc := hD.sub (ws' := pR cZ cI b 0 2 (tn + k) true cg 0 1 ea (fun _ => false) T8) [0, 1, 2, 3, 4, 5, 6, 7, 8] (by decide) rfl
                have hFc := va_free (wc := pR cZ cI b 0 2 (tn + k) true cg 0 1 ea (fun _ => false) T8) hD hS hA [0, 1, 2, 3, 4, 5, 6, 7, 8] rfl
                refine va_callv (va_runV (As := [.int (nI 0)]) (rest := []) ⟨hx, hb, hml, hown, hts⟩ (r_X3_goTo1 l D cZ cI b 0 (tn + k) cg ea T8 H.size (by omega) (by omega)) (cwV 1 hts gX3_play_X3_goTo rfl rfl rfl (by decide +kernel) ⟨Nat.le_of_ble_eq_true rfl, Nat.le_of_ble_eq_true rfl⟩) ⟨WrP_blind, va_recv hZ.1 hP (ci := 3) (q0 := 0) rfl rfl, WrP_start hPc hDc hZ⟩ rfl rfl hl.1 rfl (lv_room (Nat.le_of_ble_eq_true rfl)) dX3_play_64 ⟨(show 11 * ((k + 1) / 2) + (k + 1) % 2 + 0 ≤ 330 by omega), (show 1608 * ((k + 1) / 2) + 768 * ((k + 1) % 2) + 0 ≤ 48240 by omega)⟩) hS (fun q _ h => hFc q h) hFc (fun u t H1 locs ht hvm hw hB hz1 hk1 hS => ?_)
                obtain ⟨hP1, hD1⟩ := hB
                rw [ht] at hP1
                obtain ⟨hP, hD⟩ := va_joinQ (wr := []) (w1 := pR cZ cI b 0 2 (tn + k + 1) true cg 0 1 ea (fun _ => false) T8) (cx := pR cZ cI b 0 2 (tn + k) true cg 0 1 ea (fun _ => false) T8) hP hD [0, 1, 2, 3, 4, 5, 6, 7, 8] [] rfl rfl rfl (fun i h => absurd h List.not_mem_nil) hk1 hFc hP1 hD1
                have hP : va_P D vwCl (pR cZ cI b 0 2 (tn + (k + 1)) true cg 0 1 ea (fun _ => false) T8 ++ pl) H1 := hP
                have hD : va_D A (pR cZ cI b 0 2 (tn + (k + 1)) true cg 0 1 ea (fun _ => false) T8 ++ pl) := hD
                refine lv_iinc (v := nI (k + 1)) (lv' := [(2, .int (nI (k + 1))), (0, .ref (b 0)), (1, .int (nI 60))]) hx hb dX3_play_67 hl (k := 2) rfl (nI_add k 1) (by decide) rfl (fun ls hl => ?_)
                refine lv_goto (tgt := 47) hx hb dX3_play_70 (by decide) ?_
                exact ih (k + 1) T8 pl (by omega) hR H1 locs hP hD hS ls (lv_sub hl [1, 2, 0] rfl)
          have hP : va_P D vwCl (pR cZ cI b 0 2 (tn + 0) true cg 0 1 ea (fun _ => false) T ++ []) H := hP
          have hD : va_D A (pR cZ cI b 0 2 (tn + 0) true cg 0 1 ea (fun _ => false) T ++ []) := hD
          exact L47 60 0 T [] rfl ⟨rfl, fun q h => absurd h List.not_mem_nil⟩ _ _ hP hD hS ls (lv_sub hl [1, 2, 0] rfl)
        · skip
          exact Bool.noConfusion c40_6
      · skip
        exact Bool.noConfusion c28_5
  · skip
    exact Bool.noConfusion c8_3

