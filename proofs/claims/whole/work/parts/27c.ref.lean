set_option maxHeartbeats 4000000 in
set_option maxRecDepth 100000 in
theorem r_X3_reckon (l : Launch) (D : va_G) (cZ cI : ClassId) (b : Nat → Nat) (th : Nat) (tn : Nat) (on : Bool) (cg : Bool) (ct : Nat) (mo : Nat) (ea : Nat) (T : Nat → Nat → Nat → Option Nat) (sz : Nat)   : Met l yX3_reckon wsX3_reckon ({ frames := 2, cells := 1, slots := 768, locals := 50 }) (WrP D cZ cI [.ref (b 0)] (pR cZ cI b th 2 tn on cg ct mo ea (fun _ => false) T) sz) (va_Qv (fun (u : RU) => sOk1 u.2.2) (fun (u : RU) t => va_P D vwCl (pR cZ cI b th 2 tn on cg ct mo ea (fun _ => false) u.2.2 ++ [(u.1, .inl (cZ, 768, .inl (u.2.1)))]) t.heap ∧ va_D (va_A (pR cZ cI b th 2 tn on cg ct mo ea (fun _ => false) T) sz) (pR cZ cI b th 2 tn on cg ct mo ea (fun _ => false) u.2.2 ++ [(u.1, .inl (cZ, 768, .inl (u.2.1)))])) (va_A (pR cZ cI b th 2 tn on cg ct mo ea (fun _ => false) T) sz)) 1 768 (va_A (pR cZ cI b th 2 tn on cg ct mo ea (fun _ => false) T) sz) := by
  refine Met.ofW (cc := cX3_reckon) (maxL := 7) (ret := none) (by decide) rfl ?_
  intro p e s m args below meth c s₁ B hml hv
  obtain ⟨rfl, hsz, hP, hZ, hD0⟩ := hv
  have hx := B.exec
  have hb := B.bytes
  have hr := B.returns
  have hts := atoms_spec (ws := wsX3_reckon) B.pre
  have hown : s.vm.findClass RX3 = some m.cls := findClass_of_methodNamed B.named
  have hlocks := B.notSynchronized
  subst hsz
  have hD := hD0.self (sz := s.heap.size)
  generalize hAe : va_A (pR cZ cI b th 2 tn on cg ct mo ea (fun _ => false) T) s.heap.size = A at hD ⊢
  have hA : ∀ q : Nat, s.heap.size ≤ q → A q := fun q h => by rw [← hAe]; exact Or.inr h
  have hS : va_S A s.heap s.heap [] := va_S.rf
  have hP : va_P D vwCl (pR cZ cI b th 2 tn on cg ct mo ea (fun _ => false) T) s.heap := hP
  have hl := lv_entry ([.ref (b 0)]) (n := 7) (Nat.le_of_ble_eq_true rfl)
  rw [lg_entry_eq]
  generalize (lg_sl ([.ref (b 0)]) ++ List.replicate (7 - (lg_sl ([.ref (b 0)])).length) Slot.unset).toArray = ls at hl ⊢
  have hl : lv_has ls 7 [(0, .ref (b 0))] := hl
  have hin3 : ∀ w ∈ u_ws RX3 TX3 20, w ∈ wsX3_reckon := by decide +kernel
  have hf9 := hts (.fieldLink RX3 9 "DoorChaseModel" "safe" "[Z") (by decide +kernel)
  have hf32 := hts (.fieldLink RX3 32 "DoorChaseModel" "sure" "[I") (by decide +kernel)
  have hf43 := hts (.fieldLink RX3 43 "DoorChaseModel" "rooms" "I") (by decide +kernel)
  refine lv_sipush (v := nI 768) hx hb dX3_reckon_0 (by decide) ?_
  refine va_newa (atype := .boolean) hx hb (hts (.arrayClass .boolean) (by decide +kernel)) (ty := .boolean) rfl hZ.1 hP hD hS hA (N' := 768) (a0 := (768, .inl (encV (fun _ _ _ => false)))) (fun _ => rfl) (by decide) rfl (by decide) (Nat.le_of_ble_eq_true rfl) (Nat.le_of_ble_eq_true rfl) dX3_reckon_3 (fun n_1 cA H hK1 hP hD hS => ?_)
  obtain rfl := uniqZ hK1
  refine W.widen (k := 1) (n := 768) (by omega) (by omega) ?_
  have hP : va_P D vwCl (pR cZ cI b th 2 tn on cg ct mo ea (fun _ => false) T ++ [(n_1, .inl (cZ, 768, .inl (encV (fun _ _ _ => false))))]) H := hP
  have hD : va_D A (pR cZ cI b th 2 tn on cg ct mo ea (fun _ => false) T ++ [(n_1, .inl (cZ, 768, .inl (encV (fun _ _ _ => false))))]) := hD
  refine lv_astore_n (lv' := [(1, .ref n_1), (0, .ref (b 0))]) hx hb dX3_reckon_5 rfl hl (by decide) rfl (fun ls hl => ?_)
  refine lv_iconst (v := nI 0) hx hb dX3_reckon_6 (by decide) ?_
  refine lv_istore_n (lv' := [(2, .int (nI 0)), (1, .ref n_1), (0, .ref (b 0))]) hx hb dX3_reckon_7 rfl hl (by decide) rfl (fun ls hl => ?_)
  have loop8 : ∀ (n : Nat) (i : Nat) (Ta : Nat → Nat → Nat → Option Nat) (wa : Nat → Nat → Nat → Bool), 12 + 1 ≤ i + n → (i ≤ 12) → (okR i 0 0 Ta wa) → ∀ (H : Heap) (locs : List Loc), va_P D vwCl (pR cZ cI b th 2 tn on cg ct mo ea (fun _ => false) Ta ++ [(n_1, .inl (cZ, 768, .inl (encV wa)))]) H → va_D A (pR cZ cI b th 2 tn on cg ct mo ea (fun _ => false) Ta ++ [(n_1, .inl (cZ, 768, .inl (encV wa)))]) → va_S A s.heap H locs → ∀ (ls : Array Slot), lv_has ls 7 [(0, .ref (b 0)), (1, .ref n_1), (2, .int (nI i))] → W p l e (headSpec wsX3_reckon ({ frames := 2, cells := 1, slots := 768, locals := 50 })).room s m ([.ref (b 0)] : List Value).toArray below meth c H locs 1 768 (MQ below (va_Qv (fun (u : RU) => sOk1 u.2.2) (fun (u : RU) t => va_P D vwCl (pR cZ cI b th 2 tn on cg ct mo ea (fun _ => false) u.2.2 ++ [(u.1, .inl (cZ, 768, .inl (u.2.1)))]) t.heap ∧ va_D A (pR cZ cI b th 2 tn on cg ct mo ea (fun _ => false) u.2.2 ++ [(u.1, .inl (cZ, 768, .inl (u.2.1)))])) A) ([.ref (b 0)] : List Value).toArray s 1 768 A) (F0 m 8 ls []) := by
    intro n
    induction n with
    | zero =>
      intro i Ta wa hmeas hi hE8 H locs hP hD hS ls hl
      exact absurd hmeas (by omega)
    | succ n ih8 =>
      intro i Ta wa hmeas hi hE8 H locs hP hD hS ls hl
      refine lv_iload_n hx hb dX3_reckon_8 rfl (lv_at hl 2 rfl) ?_
      refine lv_bipush (v := nI 12) hx hb dX3_reckon_9 (by decide) ?_
      refine rv_ge (tgt := 94) hx hb (by omega) (by omega) dX3_reckon_11 (by decide) (fun c11_2 => ?_) (fun c11_2 => ?_)
      · skip
        have hok : sOk Ta wa := okR_done hE8 (by omega)
        refine lv_iconst (v := nI 1) hx hb dX3_reckon_94 (by decide) ?_
        refine rv_top (show nI 1 = bI true from rfl) ?_
        refine lv_istore_n (lv' := [(2, .int (bI true)), (0, .ref (b 0)), (1, .ref n_1)]) hx hb dX3_reckon_95 rfl hl (by decide) rfl (fun ls hl => ?_)
        refine lv_iconst (v := nI 1) hx hb dX3_reckon_96 (by decide) ?_
        refine lv_istore_n (lv' := [(3, .int (nI 1)), (2, .int (bI true)), (0, .ref (b 0)), (1, .ref n_1)]) hx hb dX3_reckon_97 rfl hl (by decide) rfl (fun ls hl => ?_)
        refine lv_iload_n hx hb dX3_reckon_98 rfl (lv_at hl 1 rfl) ?_
        refine rv_ifeqB (tgt := 224) hx hb dX3_reckon_99 (by decide) (fun c99_3 => ?_) (fun c99_3 => ?_)
        · skip
          exact Bool.noConfusion c99_3
        · skip
          refine lv_iconst (v := nI 0) hx hb dX3_reckon_102 (by decide) ?_
          refine rv_top (show nI 0 = bI false from rfl) ?_
          refine lv_istore_n (lv' := [(2, .int (bI false)), (3, .int (nI 1)), (0, .ref (b 0)), (1, .ref n_1)]) hx hb dX3_reckon_103 rfl hl (by decide) rfl (fun ls hl => ?_)
          refine lv_iconst (v := nI 0) hx hb dX3_reckon_104 (by decide) ?_
          refine lv_istore (lv' := [(4, .int (nI 0)), (2, .int (bI false)), (3, .int (nI 1)), (0, .ref (b 0)), (1, .ref n_1)]) hx hb dX3_reckon_105 hl (by decide) rfl (fun ls hl => ?_)
          have loop107 : ∀ (n : Nat) (i5 : Nat), 12 + 1 ≤ i5 + n → (i5 ≤ 12) → ∀ (H : Heap) (locs : List Loc), va_P D vwCl (pR cZ cI b th 2 tn on cg ct mo ea (fun _ => false) Ta ++ [(n_1, .inl (cZ, 768, .inl (encV wa)))]) H → va_D A (pR cZ cI b th 2 tn on cg ct mo ea (fun _ => false) Ta ++ [(n_1, .inl (cZ, 768, .inl (encV wa)))]) → va_S A s.heap H locs → ∀ (ls : Array Slot), lv_has ls 7 [(0, .ref (b 0)), (1, .ref n_1), (2, .int (bI false)), (3, .int (nI 1)), (4, .int (nI i5))] → W p l e (headSpec wsX3_reckon ({ frames := 2, cells := 1, slots := 768, locals := 50 })).room s m ([.ref (b 0)] : List Value).toArray below meth c H locs 1 768 (MQ below (va_Qv (fun (u : RU) => sOk1 u.2.2) (fun (u : RU) t => va_P D vwCl (pR cZ cI b th 2 tn on cg ct mo ea (fun _ => false) u.2.2 ++ [(u.1, .inl (cZ, 768, .inl (u.2.1)))]) t.heap ∧ va_D A (pR cZ cI b th 2 tn on cg ct mo ea (fun _ => false) u.2.2 ++ [(u.1, .inl (cZ, 768, .inl (u.2.1)))])) A) ([.ref (b 0)] : List Value).toArray s 1 768 A) (F0 m 107 ls []) := by
            intro n
            induction n with
            | zero =>
              intro i5 hmeas hi5 H locs hP hD hS ls hl
              exact absurd hmeas (by omega)
            | succ n ih107 =>
              intro i5 hmeas hi5 H locs hP hD hS ls hl
              refine lv_iload hx hb dX3_reckon_107 (lv_at hl 4 rfl) ?_
              refine lv_bipush (v := nI 12) hx hb dX3_reckon_109 (by decide) ?_
              refine rv_ge (tgt := 218) hx hb (by omega) (by omega) dX3_reckon_111 (by decide) (fun c111_4 => ?_) (fun c111_4 => ?_)
              · skip
                refine lv_iinc (v := nI 2) (lv' := [(3, .int (nI 2)), (0, .ref (b 0)), (1, .ref n_1), (2, .int (bI false)), (4, .int (nI i5))]) hx hb dX3_reckon_218 hl (k := 3) rfl (nI_add 1 1) (by decide) rfl (fun ls hl => ?_)
                refine lv_goto (tgt := 98) hx hb dX3_reckon_221 (by decide) ?_
                refine lv_iload_n hx hb dX3_reckon_98 rfl (lv_at hl 3 rfl) ?_
                refine rv_ifeqB (tgt := 224) hx hb dX3_reckon_99 (by decide) (fun c99_5 => ?_) (fun c99_5 => ?_)
                · skip
                  have hP9 : va_P D vwCl (pR cZ cI b th 2 tn on cg ct mo ea (fun _ => false) Ta ++ [(n_1, .inl (cZ, 768, .inl (encV wa)))]) H := by exact hP
                  have hD9 : va_D A (pR cZ cI b th 2 tn on cg ct mo ea (fun _ => false) Ta ++ [(n_1, .inl (cZ, 768, .inl (encV wa)))]) := by exact hD
                  exact W.vret hx hb hr (fun t ht hW => ⟨⟨(n_1, encV wa, Ta), rfl, sOk_T hok, by rw [ht]; exact hP9, hD9⟩, hS.F ht⟩) hS.2.2 dX3_reckon_224
                · skip
                  exact Bool.noConfusion c99_5
              · skip
                refine lv_iconst (v := nI 0) hx hb dX3_reckon_114 (by decide) ?_
                refine lv_istore (lv' := [(5, .int (nI 0)), (0, .ref (b 0)), (1, .ref n_1), (2, .int (bI false)), (3, .int (nI 1)), (4, .int (nI i5))]) hx hb dX3_reckon_115 hl (by decide) rfl (fun ls hl => ?_)
                have loop117 : ∀ (n : Nat) (a5 : Nat), 2 + 1 ≤ a5 + n → (a5 ≤ 2) → ∀ (H : Heap) (locs : List Loc), va_P D vwCl (pR cZ cI b th 2 tn on cg ct mo ea (fun _ => false) Ta ++ [(n_1, .inl (cZ, 768, .inl (encV wa)))]) H → va_D A (pR cZ cI b th 2 tn on cg ct mo ea (fun _ => false) Ta ++ [(n_1, .inl (cZ, 768, .inl (encV wa)))]) → va_S A s.heap H locs → ∀ (ls : Array Slot), lv_has ls 7 [(0, .ref (b 0)), (1, .ref n_1), (2, .int (bI false)), (3, .int (nI 1)), (4, .int (nI i5)), (5, .int (nI a5))] → W p l e (headSpec wsX3_reckon ({ frames := 2, cells := 1, slots := 768, locals := 50 })).room s m ([.ref (b 0)] : List Value).toArray below meth c H locs 1 768 (MQ below (va_Qv (fun (u : RU) => sOk1 u.2.2) (fun (u : RU) t => va_P D vwCl (pR cZ cI b th 2 tn on cg ct mo ea (fun _ => false) u.2.2 ++ [(u.1, .inl (cZ, 768, .inl (u.2.1)))]) t.heap ∧ va_D A (pR cZ cI b th 2 tn on cg ct mo ea (fun _ => false) u.2.2 ++ [(u.1, .inl (cZ, 768, .inl (u.2.1)))])) A) ([.ref (b 0)] : List Value).toArray s 1 768 A) (F0 m 117 ls []) := by
                  intro n
                  induction n with
                  | zero =>
                    intro a5 hmeas ha5 H locs hP hD hS ls hl
                    exact absurd hmeas (by omega)
                  | succ n ih117 =>
                    intro a5 hmeas ha5 H locs hP hD hS ls hl
                    refine lv_iload hx hb dX3_reckon_117 (lv_at hl 5 rfl) ?_
                    refine lv_aload_n hx hb dX3_reckon_119 rfl (lv_at hl 0 rfl) ?_
                    refine va_get (D := D) (ci := 3) (v := .int (nI 2)) (C := RX3) (T := TX3) (N := 20) hx hb hts hin3 hown hZ.1 hP 0 rfl rfl 1 (by decide) hf43 (fun _ h9 => h9) rfl dX3_reckon_120 ?_
                    refine rv_ge (tgt := 212) hx hb (by omega) (by omega) dX3_reckon_123 (by decide) (fun c123_6 => ?_) (fun c123_6 => ?_)
                    · skip
                      refine lv_iinc (v := nI (i5 + 1)) (lv' := [(4, .int (nI (i5 + 1))), (0, .ref (b 0)), (1, .ref n_1), (2, .int (bI false)), (3, .int (nI 1)), (5, .int (nI a5))]) hx hb dX3_reckon_212 hl (k := 4) rfl (nI_add i5 1) (by decide) rfl (fun ls hl => ?_)
                      refine lv_goto (tgt := 107) hx hb dX3_reckon_215 (by decide) ?_
                      exact ih107 (i5 + 1) (by omega) (by omega) _ _ hP hD hS ls (lv_sub hl [1, 2, 3, 4, 0] rfl)
                    · skip
                      refine lv_iconst (v := nI 0) hx hb dX3_reckon_126 (by decide) ?_
                      refine lv_istore (lv' := [(6, .int (nI 0)), (0, .ref (b 0)), (1, .ref n_1), (2, .int (bI false)), (3, .int (nI 1)), (4, .int (nI i5)), (5, .int (nI a5))]) hx hb dX3_reckon_127 hl (by decide) rfl (fun ls hl => ?_)
                      have loop129 : ∀ (n : Nat) (y5 : Nat), 2 + 1 ≤ y5 + n → (y5 ≤ 2) → ∀ (H : Heap) (locs : List Loc), va_P D vwCl (pR cZ cI b th 2 tn on cg ct mo ea (fun _ => false) Ta ++ [(n_1, .inl (cZ, 768, .inl (encV wa)))]) H → va_D A (pR cZ cI b th 2 tn on cg ct mo ea (fun _ => false) Ta ++ [(n_1, .inl (cZ, 768, .inl (encV wa)))]) → va_S A s.heap H locs → ∀ (ls : Array Slot), lv_has ls 7 [(0, .ref (b 0)), (1, .ref n_1), (2, .int (bI false)), (3, .int (nI 1)), (4, .int (nI i5)), (5, .int (nI a5)), (6, .int (nI y5))] → W p l e (headSpec wsX3_reckon ({ frames := 2, cells := 1, slots := 768, locals := 50 })).room s m ([.ref (b 0)] : List Value).toArray below meth c H locs 1 768 (MQ below (va_Qv (fun (u : RU) => sOk1 u.2.2) (fun (u : RU) t => va_P D vwCl (pR cZ cI b th 2 tn on cg ct mo ea (fun _ => false) u.2.2 ++ [(u.1, .inl (cZ, 768, .inl (u.2.1)))]) t.heap ∧ va_D A (pR cZ cI b th 2 tn on cg ct mo ea (fun _ => false) u.2.2 ++ [(u.1, .inl (cZ, 768, .inl (u.2.1)))])) A) ([.ref (b 0)] : List Value).toArray s 1 768 A) (F0 m 129 ls []) := by
                        intro n
                        induction n with
                        | zero =>
                          intro y5 hmeas hy5 H locs hP hD hS ls hl
                          exact absurd hmeas (by omega)
                        | succ n ih129 =>
                          intro y5 hmeas hy5 H locs hP hD hS ls hl
                          refine lv_iload hx hb dX3_reckon_129 (lv_at hl 6 rfl) ?_
                          refine lv_aload_n hx hb dX3_reckon_131 rfl (lv_at hl 0 rfl) ?_
                          refine va_get (D := D) (ci := 3) (v := .int (nI 2)) (C := RX3) (T := TX3) (N := 20) hx hb hts hin3 hown hZ.1 hP 0 rfl rfl 1 (by decide) hf43 (fun _ h9 => h9) rfl dX3_reckon_132 ?_
                          refine rv_ge (tgt := 206) hx hb (by omega) (by omega) dX3_reckon_135 (by decide) (fun c135_7 => ?_) (fun c135_7 => ?_)
                          · skip
                            refine lv_iinc (v := nI (a5 + 1)) (lv' := [(5, .int (nI (a5 + 1))), (0, .ref (b 0)), (1, .ref n_1), (2, .int (bI false)), (3, .int (nI 1)), (4, .int (nI i5)), (6, .int (nI y5))]) hx hb dX3_reckon_206 hl (k := 5) rfl (nI_add a5 1) (by decide) rfl (fun ls hl => ?_)
                            refine lv_goto (tgt := 117) hx hb dX3_reckon_209 (by decide) ?_
                            exact ih117 (a5 + 1) (by omega) (by omega) _ _ hP hD hS ls (lv_sub hl [1, 2, 3, 4, 5, 0] rfl)
                          · skip
                            refine lv_aload_n hx hb dX3_reckon_138 rfl (lv_at hl 0 rfl) ?_
                            refine va_get (D := D) (ci := 3) (v := .ref (b 1)) (C := RX3) (T := TX3) (N := 20) hx hb hts hin3 hown hZ.1 hP 0 rfl rfl 3 (by decide) hf9 (fun _ h9 => h9) rfl dX3_reckon_139 ?_
                            refine lv_iload hx hb dX3_reckon_142 (lv_at hl 5 rfl) ?_
                            refine rv_zald hx hb hZ.1 hP 1 0 rfl rfl (r := a5) (by omega) (by decide) (v := bI ((fun _ => false) a5)) rfl dX3_reckon_144 ?_
                            refine rv_ifneB (tgt := 200) hx hb dX3_reckon_145 (by decide) (fun c145_8 => ?_) (fun c145_8 => ?_)
                            · skip
                              exact Bool.noConfusion c145_8
                            · skip
                              refine lv_aload_n hx hb dX3_reckon_148 rfl (lv_at hl 0 rfl) ?_
                              refine va_get (D := D) (ci := 3) (v := .ref (b 8)) (C := RX3) (T := TX3) (N := 20) hx hb hts hin3 hown hZ.1 hP 0 rfl rfl 16 (by decide) hf32 (fun _ h9 => h9) rfl dX3_reckon_149 ?_
                              refine lv_iload hx hb dX3_reckon_152 (lv_at hl 4 rfl) ?_
                              refine lv_iload hx hb dX3_reckon_154 (lv_at hl 5 rfl) ?_
                              refine lv_iload hx hb dX3_reckon_156 (lv_at hl 6 rfl) ?_
                              refine vp_callSi (va_runS (As := [.int (nI i5), .int (nI a5), .int (nI y5)]) (rest := [.ref (b 8)]) ⟨hx, hb, hml, hown, hts⟩ (r_X3_place l D cZ cI   i5 a5 y5 (by first | assumption | omega)) (va_cwS 3 hts gX3_reckon_X3_place rfl rfl rfl (by decide +kernel) ⟨Nat.le_of_ble_eq_true rfl, Nat.le_of_ble_eq_true rfl⟩) ⟨RdP_blind, RdP_start (hP.sub (ws' := []) [] rfl) hZ⟩ rfl rfl hl.1 rfl (lv_room (Nat.le_of_ble_eq_true rfl)) dX3_reckon_158 ⟨Nat.le_of_ble_eq_true rfl, Nat.le_of_ble_eq_true rfl⟩).run (fun r_9 hr_10 => ?_)
                              subst hr_10
                              refine rv_top (show _ = nI ((i5 % 12 * 8 + a5) * 8 + y5) from rfl) ?_
                              refine rv_iald hx hb hZ.1 hP 8 1 rfl rfl (r := (i5 % 12 * 8 + a5) * 8 + y5) (by have := Nat.mod_lt i5 (show 0 < 12 by decide); omega) (by decide) (v := iO (Ta (i5 % 12) a5 y5)) (encT_at _ (i5 % 12) (by omega) (by omega)) dX3_reckon_161 ?_
                              refine rv_ifgeO (tgt := 200) hx hb (sOk_b hok (by omega) (by omega) (by omega)) dX3_reckon_162 (by decide) (fun c162_11 => ?_) (fun c162_11 => ?_)
                              · skip
                                refine lv_iinc (v := nI (y5 + 1)) (lv' := [(6, .int (nI (y5 + 1))), (0, .ref (b 0)), (1, .ref n_1), (2, .int (bI false)), (3, .int (nI 1)), (4, .int (nI i5)), (5, .int (nI a5))]) hx hb dX3_reckon_200 hl (k := 6) rfl (nI_add y5 1) (by decide) rfl (fun ls hl => ?_)
                                refine lv_goto (tgt := 129) hx hb dX3_reckon_203 (by decide) ?_
                                exact ih129 (y5 + 1) (by omega) (by omega) _ _ hP hD hS ls (lv_sub hl [1, 2, 3, 4, 5, 6, 0] rfl)
                              · skip
                                refine lv_aload_n hx hb dX3_reckon_165 rfl (lv_at hl 0 rfl) ?_
                                refine lv_aload_n hx hb dX3_reckon_166 rfl (lv_at hl 1 rfl) ?_
                                refine lv_iload hx hb dX3_reckon_167 (lv_at hl 4 rfl) ?_
                                refine lv_iload hx hb dX3_reckon_169 (lv_at hl 5 rfl) ?_
                                refine lv_iload hx hb dX3_reckon_171 (lv_at hl 6 rfl) ?_
                                refine lv_iload_n hx hb dX3_reckon_173 rfl (lv_at hl 3 rfl) ?_
                                refine vp_callSi (va_runV (As := [.ref n_1, .int (nI i5), .int (nI a5), .int (nI y5), .int (nI 1)]) (rest := []) ⟨hx, hb, hml, hown, hts⟩ (r_X3_comes l D cZ cI b th tn on cg ct mo ea Ta n_1 wa  i5 a5 y5 hok (by first | assumption | omega) (by first | assumption | omega) (by first | assumption | omega) (sOk_ne (p := i5 % 12) hok (by omega) (by omega) (by omega) (by assumption))) (cwV 5 hts gX3_reckon_X3_comes rfl rfl rfl (by decide +kernel) ⟨Nat.le_of_ble_eq_true rfl, Nat.le_of_ble_eq_true rfl⟩) ⟨RdP_blind, va_recv hZ.1 hP (ci := 3) (q0 := 0) rfl rfl, RdP_start (hP.sub (ws' := pR cZ cI b th 2 tn on cg ct mo ea (fun _ => false) Ta ++ [(n_1, .inl (cZ, 768, .inl (encV wa)))]) [0, 1, 2, 3, 4, 5, 6, 7, 8, 9] rfl) hZ⟩ rfl rfl hl.1 rfl (lv_room (Nat.le_of_ble_eq_true rfl)) dX3_reckon_174 ⟨Nat.le_of_ble_eq_true rfl, Nat.le_of_ble_eq_true rfl⟩).run (fun r_12 hr_13 => ?_)
                                subst hr_13
                                refine rv_top (show _ = bI false from rfl) ?_
                                refine rv_ifneB (tgt := 183) hx hb dX3_reckon_177 (by decide) (fun c177_14 => ?_) (fun c177_14 => ?_)
                                · skip
                                  exact Bool.noConfusion c177_14
                                · skip
                                  refine lv_goto (tgt := 200) hx hb dX3_reckon_180 (by decide) ?_
                                  refine lv_iinc (v := nI (y5 + 1)) (lv' := [(6, .int (nI (y5 + 1))), (0, .ref (b 0)), (1, .ref n_1), (2, .int (bI false)), (3, .int (nI 1)), (4, .int (nI i5)), (5, .int (nI a5))]) hx hb dX3_reckon_200 hl (k := 6) rfl (nI_add y5 1) (by decide) rfl (fun ls hl => ?_)
                                  refine lv_goto (tgt := 129) hx hb dX3_reckon_203 (by decide) ?_
                                  exact ih129 (y5 + 1) (by omega) (by omega) _ _ hP hD hS ls (lv_sub hl [1, 2, 3, 4, 5, 6, 0] rfl)
                      exact loop129 (2 + 1) 0 (by omega) (by omega) _ _ hP hD hS ls (lv_sub hl [1, 2, 3, 4, 5, 6, 0] rfl)
                exact loop117 (2 + 1) 0 (by omega) (by omega) _ _ hP hD hS ls (lv_sub hl [1, 2, 3, 4, 5, 0] rfl)
          exact loop107 (12 + 1) 0 (by omega) (by omega) _ _ hP hD hS ls (lv_sub hl [3, 4, 1, 2, 0] rfl)
      · skip
        refine lv_iconst (v := nI 0) hx hb dX3_reckon_14 (by decide) ?_
        refine lv_istore_n (lv' := [(3, .int (nI 0)), (0, .ref (b 0)), (1, .ref n_1), (2, .int (nI i))]) hx hb dX3_reckon_15 rfl hl (by decide) rfl (fun ls hl => ?_)
        have loop16 : ∀ (n : Nat) (a : Nat) (Tb : Nat → Nat → Nat → Option Nat) (wb : Nat → Nat → Nat → Bool), 2 + 1 ≤ a + n → (a ≤ 2) → (okR i a 0 Tb wb) → ∀ (H : Heap) (locs : List Loc), va_P D vwCl (pR cZ cI b th 2 tn on cg ct mo ea (fun _ => false) Tb ++ [(n_1, .inl (cZ, 768, .inl (encV wb)))]) H → va_D A (pR cZ cI b th 2 tn on cg ct mo ea (fun _ => false) Tb ++ [(n_1, .inl (cZ, 768, .inl (encV wb)))]) → va_S A s.heap H locs → ∀ (ls : Array Slot), lv_has ls 7 [(0, .ref (b 0)), (1, .ref n_1), (2, .int (nI i)), (3, .int (nI a))] → W p l e (headSpec wsX3_reckon ({ frames := 2, cells := 1, slots := 768, locals := 50 })).room s m ([.ref (b 0)] : List Value).toArray below meth c H locs 1 768 (MQ below (va_Qv (fun (u : RU) => sOk1 u.2.2) (fun (u : RU) t => va_P D vwCl (pR cZ cI b th 2 tn on cg ct mo ea (fun _ => false) u.2.2 ++ [(u.1, .inl (cZ, 768, .inl (u.2.1)))]) t.heap ∧ va_D A (pR cZ cI b th 2 tn on cg ct mo ea (fun _ => false) u.2.2 ++ [(u.1, .inl (cZ, 768, .inl (u.2.1)))])) A) ([.ref (b 0)] : List Value).toArray s 1 768 A) (F0 m 16 ls []) := by
          intro n
          induction n with
          | zero =>
            intro a Tb wb hmeas ha hE16 H locs hP hD hS ls hl
            exact absurd hmeas (by omega)
          | succ n ih16 =>
            intro a Tb wb hmeas ha hE16 H locs hP hD hS ls hl
            refine lv_iload_n hx hb dX3_reckon_16 rfl (lv_at hl 3 rfl) ?_
            refine lv_aload_n hx hb dX3_reckon_17 rfl (lv_at hl 0 rfl) ?_
            refine va_get (D := D) (ci := 3) (v := .int (nI 2)) (C := RX3) (T := TX3) (N := 20) hx hb hts hin3 hown hZ.1 hP 0 rfl rfl 1 (by decide) hf43 (fun _ h9 => h9) rfl dX3_reckon_18 ?_
            refine rv_ge (tgt := 88) hx hb (by omega) (by omega) dX3_reckon_21 (by decide) (fun c21_15 => ?_) (fun c21_15 => ?_)
            · skip
              refine lv_iinc (v := nI (i + 1)) (lv' := [(2, .int (nI (i + 1))), (0, .ref (b 0)), (1, .ref n_1), (3, .int (nI a))]) hx hb dX3_reckon_88 hl (k := 2) rfl (nI_add i 1) (by decide) rfl (fun ls hl => ?_)
              refine lv_goto (tgt := 8) hx hb dX3_reckon_91 (by decide) ?_
              exact ih8 (i + 1) Tb wb (by omega) (by omega) (okR_i hE16 (by omega)) _ _ hP hD hS ls (lv_sub hl [1, 2, 0] rfl)
            · skip
              refine lv_iconst (v := nI 0) hx hb dX3_reckon_24 (by decide) ?_
              refine lv_istore (lv' := [(4, .int (nI 0)), (0, .ref (b 0)), (1, .ref n_1), (2, .int (nI i)), (3, .int (nI a))]) hx hb dX3_reckon_25 hl (by decide) rfl (fun ls hl => ?_)
              have loop27 : ∀ (n : Nat) (y : Nat) (Tc : Nat → Nat → Nat → Option Nat) (wc : Nat → Nat → Nat → Bool), 2 + 1 ≤ y + n → (y ≤ 2) → (okR i a y Tc wc) → ∀ (H : Heap) (locs : List Loc), va_P D vwCl (pR cZ cI b th 2 tn on cg ct mo ea (fun _ => false) Tc ++ [(n_1, .inl (cZ, 768, .inl (encV wc)))]) H → va_D A (pR cZ cI b th 2 tn on cg ct mo ea (fun _ => false) Tc ++ [(n_1, .inl (cZ, 768, .inl (encV wc)))]) → va_S A s.heap H locs → ∀ (ls : Array Slot), lv_has ls 7 [(0, .ref (b 0)), (1, .ref n_1), (2, .int (nI i)), (3, .int (nI a)), (4, .int (nI y))] → W p l e (headSpec wsX3_reckon ({ frames := 2, cells := 1, slots := 768, locals := 50 })).room s m ([.ref (b 0)] : List Value).toArray below meth c H locs 1 768 (MQ below (va_Qv (fun (u : RU) => sOk1 u.2.2) (fun (u : RU) t => va_P D vwCl (pR cZ cI b th 2 tn on cg ct mo ea (fun _ => false) u.2.2 ++ [(u.1, .inl (cZ, 768, .inl (u.2.1)))]) t.heap ∧ va_D A (pR cZ cI b th 2 tn on cg ct mo ea (fun _ => false) u.2.2 ++ [(u.1, .inl (cZ, 768, .inl (u.2.1)))])) A) ([.ref (b 0)] : List Value).toArray s 1 768 A) (F0 m 27 ls []) := by
                intro n
                induction n with
                | zero =>
                  intro y Tc wc hmeas hy hE27 H locs hP hD hS ls hl
                  exact absurd hmeas (by omega)
                | succ n ih27 =>
                  intro y Tc wc hmeas hy hE27 H locs hP hD hS ls hl
                  refine lv_iload hx hb dX3_reckon_27 (lv_at hl 4 rfl) ?_
                  refine lv_aload_n hx hb dX3_reckon_29 rfl (lv_at hl 0 rfl) ?_
                  refine va_get (D := D) (ci := 3) (v := .int (nI 2)) (C := RX3) (T := TX3) (N := 20) hx hb hts hin3 hown hZ.1 hP 0 rfl rfl 1 (by decide) hf43 (fun _ h9 => h9) rfl dX3_reckon_30 ?_
                  refine rv_ge (tgt := 82) hx hb (by omega) (by omega) dX3_reckon_33 (by decide) (fun c33_16 => ?_) (fun c33_16 => ?_)
                  · skip
                    refine lv_iinc (v := nI (a + 1)) (lv' := [(3, .int (nI (a + 1))), (0, .ref (b 0)), (1, .ref n_1), (2, .int (nI i)), (4, .int (nI y))]) hx hb dX3_reckon_82 hl (k := 3) rfl (nI_add a 1) (by decide) rfl (fun ls hl => ?_)
                    refine lv_goto (tgt := 16) hx hb dX3_reckon_85 (by decide) ?_
                    exact ih16 (a + 1) Tc wc (by omega) (by omega) (okR_a hE27 (by omega)) _ _ hP hD hS ls (lv_sub hl [1, 2, 3, 0] rfl)
                  · skip
                    refine lv_aload_n hx hb dX3_reckon_36 rfl (lv_at hl 1 rfl) ?_
                    refine lv_iload_n hx hb dX3_reckon_37 rfl (lv_at hl 2 rfl) ?_
                    refine lv_iload_n hx hb dX3_reckon_38 rfl (lv_at hl 3 rfl) ?_
                    refine lv_iload hx hb dX3_reckon_39 (lv_at hl 4 rfl) ?_
                    refine vp_callSi (va_runS (As := [.int (nI i), .int (nI a), .int (nI y)]) (rest := [.ref n_1]) ⟨hx, hb, hml, hown, hts⟩ (r_X3_place l D cZ cI   i a y (by first | assumption | omega)) (va_cwS 3 hts gX3_reckon_X3_place rfl rfl rfl (by decide +kernel) ⟨Nat.le_of_ble_eq_true rfl, Nat.le_of_ble_eq_true rfl⟩) ⟨RdP_blind, RdP_start (hP.sub (ws' := []) [] rfl) hZ⟩ rfl rfl hl.1 rfl (lv_room (Nat.le_of_ble_eq_true rfl)) dX3_reckon_41 ⟨Nat.le_of_ble_eq_true rfl, Nat.le_of_ble_eq_true rfl⟩).run (fun r_17 hr_18 => ?_)
                    subst hr_18
                    refine rv_top (show _ = nI ((i % 12 * 8 + a) * 8 + y) from rfl) ?_
                    refine lv_aload_n hx hb dX3_reckon_44 rfl (lv_at hl 0 rfl) ?_
                    refine lv_iload_n hx hb dX3_reckon_45 rfl (lv_at hl 3 rfl) ?_
                    refine lv_iload hx hb dX3_reckon_46 (lv_at hl 4 rfl) ?_
                    refine lv_iload_n hx hb dX3_reckon_48 rfl (lv_at hl 2 rfl) ?_
                    refine vp_callSi (va_runV (As := [.int (nI a), .int (nI y), .int (nI i)]) (rest := [.int (nI ((i % 12 * 8 + a) * 8 + y)), .ref n_1]) ⟨hx, hb, hml, hown, hts⟩ (r_X3_isWay l D cZ cI b th 2 tn on cg ct mo ea Tc  a y i (by first | assumption | omega) (by first | assumption | omega)) (cwV 3 hts gX3_reckon_X3_isWay rfl rfl rfl (by decide +kernel) ⟨Nat.le_of_ble_eq_true rfl, Nat.le_of_ble_eq_true rfl⟩) ⟨RdP_blind, va_recv hZ.1 hP (ci := 3) (q0 := 0) rfl rfl, RdP_start (hP.sub (ws' := pR cZ cI b th 2 tn on cg ct mo ea (fun _ => false) Tc) [0, 1, 2, 3, 4, 5, 6, 7, 8] rfl) hZ⟩ rfl rfl hl.1 rfl (lv_room (Nat.le_of_ble_eq_true rfl)) dX3_reckon_49 ⟨Nat.le_of_ble_eq_true rfl, Nat.le_of_ble_eq_true rfl⟩).run (fun r_19 hr_20 => ?_)
                    subst hr_20
                    refine rv_top (show _ = bI (decide (a = y)) from rfl) ?_
                    refine rv_zast hx hb hZ.1 hP hD hS 9 0 rfl rfl (r := (i % 12 * 8 + a) * 8 + y) (by have := Nat.mod_lt i (show 0 < 12 by decide); omega) (by decide) (encV_up _ (i % 12) (by omega) (by omega) _) dX3_reckon_52 (fun H locs hP hD hS => ?_)
                    have hP : va_P D vwCl (pR cZ cI b th 2 tn on cg ct mo ea (fun _ => false) Tc ++ [(n_1, .inl (cZ, 768, .inl (encV (up4 wc (i % 12) a y (decide (a = y))))))]) H := hP
                    have hD : va_D A (pR cZ cI b th 2 tn on cg ct mo ea (fun _ => false) Tc ++ [(n_1, .inl (cZ, 768, .inl (encV (up4 wc (i % 12) a y (decide (a = y))))))]) := hD
                    refine lv_aload_n hx hb dX3_reckon_53 rfl (lv_at hl 0 rfl) ?_
                    refine va_get (D := D) (ci := 3) (v := .ref (b 8)) (C := RX3) (T := TX3) (N := 20) hx hb hts hin3 hown hZ.1 hP 0 rfl rfl 16 (by decide) hf32 (fun _ h9 => h9) rfl dX3_reckon_54 ?_
                    refine lv_iload_n hx hb dX3_reckon_57 rfl (lv_at hl 2 rfl) ?_
                    refine lv_iload_n hx hb dX3_reckon_58 rfl (lv_at hl 3 rfl) ?_
                    refine lv_iload hx hb dX3_reckon_59 (lv_at hl 4 rfl) ?_
                    refine vp_callSi (va_runS (As := [.int (nI i), .int (nI a), .int (nI y)]) (rest := [.ref (b 8)]) ⟨hx, hb, hml, hown, hts⟩ (r_X3_place l D cZ cI   i a y (by first | assumption | omega)) (va_cwS 3 hts gX3_reckon_X3_place rfl rfl rfl (by decide +kernel) ⟨Nat.le_of_ble_eq_true rfl, Nat.le_of_ble_eq_true rfl⟩) ⟨RdP_blind, RdP_start (hP.sub (ws' := []) [] rfl) hZ⟩ rfl rfl hl.1 rfl (lv_room (Nat.le_of_ble_eq_true rfl)) dX3_reckon_61 ⟨Nat.le_of_ble_eq_true rfl, Nat.le_of_ble_eq_true rfl⟩).run (fun r_21 hr_22 => ?_)
                    subst hr_22
                    refine rv_top (show _ = nI ((i % 12 * 8 + a) * 8 + y) from rfl) ?_
                    refine lv_iload_n hx hb dX3_reckon_64 rfl (lv_at hl 3 rfl) ?_
                    refine lv_iload hx hb dX3_reckon_65 (lv_at hl 4 rfl) ?_
                    refine rv_ne (tgt := 74) hx hb (by omega) (by omega) dX3_reckon_67 (by decide) (fun c67_23 => ?_) (fun c67_23 => ?_)
                    · skip
                      refine lv_iconst (v := (-1)) hx hb dX3_reckon_74 (by decide) ?_
                      refine rv_top (show (-1 : Int32) = iO none from rfl) ?_
                      refine rv_iast hx hb hZ.1 hP hD hS 8 1 rfl rfl (r := (i % 12 * 8 + a) * 8 + y) (by have := Nat.mod_lt i (show 0 < 12 by decide); omega) (by decide) (encT_up _ (i % 12) (by omega) (by omega) _) dX3_reckon_75 (fun H locs hP hD hS => ?_)
                      have hP : va_P D vwCl (pR cZ cI b th 2 tn on cg ct mo ea (fun _ => false) (up4 Tc (i % 12) a y none) ++ [(n_1, .inl (cZ, 768, .inl (encV (up4 wc (i % 12) a y (decide (a = y))))))]) H := hP
                      have hD : va_D A (pR cZ cI b th 2 tn on cg ct mo ea (fun _ => false) (up4 Tc (i % 12) a y none) ++ [(n_1, .inl (cZ, 768, .inl (encV (up4 wc (i % 12) a y (decide (a = y))))))]) := hD
                      refine lv_iinc (v := nI (y + 1)) (lv' := [(4, .int (nI (y + 1))), (0, .ref (b 0)), (1, .ref n_1), (2, .int (nI i)), (3, .int (nI a))]) hx hb dX3_reckon_76 hl (k := 4) rfl (nI_add y 1) (by decide) rfl (fun ls hl => ?_)
                      refine lv_goto (tgt := 27) hx hb dX3_reckon_79 (by decide) ?_
                      exact ih27 (y + 1) (up4 Tc (i % 12) a y none) (up4 wc (i % 12) a y (decide (a = y))) (by omega) (by omega) (okR_y hE27 (by omega) (by first | rw [if_pos (by assumption)] | rw [if_neg (by assumption)]) rfl) _ _ hP hD hS ls (lv_sub hl [1, 2, 3, 4, 0] rfl)
                    · skip
                      refine lv_iconst (v := nI 0) hx hb dX3_reckon_70 (by decide) ?_
                      refine lv_goto (tgt := 75) hx hb dX3_reckon_71 (by decide) ?_
                      refine rv_top (iO_some 0).symm ?_
                      refine rv_iast hx hb hZ.1 hP hD hS 8 1 rfl rfl (r := (i % 12 * 8 + a) * 8 + y) (by have := Nat.mod_lt i (show 0 < 12 by decide); omega) (by decide) (encT_up _ (i % 12) (by omega) (by omega) _) dX3_reckon_75 (fun H locs hP hD hS => ?_)
                      have hP : va_P D vwCl (pR cZ cI b th 2 tn on cg ct mo ea (fun _ => false) (up4 Tc (i % 12) a y (some 0)) ++ [(n_1, .inl (cZ, 768, .inl (encV (up4 wc (i % 12) a y (decide (a = y))))))]) H := hP
                      have hD : va_D A (pR cZ cI b th 2 tn on cg ct mo ea (fun _ => false) (up4 Tc (i % 12) a y (some 0)) ++ [(n_1, .inl (cZ, 768, .inl (encV (up4 wc (i % 12) a y (decide (a = y))))))]) := hD
                      refine lv_iinc (v := nI (y + 1)) (lv' := [(4, .int (nI (y + 1))), (0, .ref (b 0)), (1, .ref n_1), (2, .int (nI i)), (3, .int (nI a))]) hx hb dX3_reckon_76 hl (k := 4) rfl (nI_add y 1) (by decide) rfl (fun ls hl => ?_)
                      refine lv_goto (tgt := 27) hx hb dX3_reckon_79 (by decide) ?_
                      exact ih27 (y + 1) (up4 Tc (i % 12) a y (some 0)) (up4 wc (i % 12) a y (decide (a = y))) (by omega) (by omega) (okR_y hE27 (by omega) (by first | rw [if_pos (by assumption)] | rw [if_neg (by assumption)]) rfl) _ _ hP hD hS ls (lv_sub hl [1, 2, 3, 4, 0] rfl)
              exact loop27 (2 + 1) 0 Tb wb (by omega) (by omega) hE16 _ _ hP hD hS ls (lv_sub hl [1, 2, 3, 4, 0] rfl)
        exact loop16 (2 + 1) 0 Ta wa (by omega) (by omega) hE8 _ _ hP hD hS ls (lv_sub hl [1, 2, 3, 0] rfl)
  exact loop8 (12 + 1) 0 T (fun _ _ _ => false) (by omega) (by omega) okR_0 _ _ hP hD hS ls (lv_sub hl [2, 1, 0] rfl)

set_option maxHeartbeats 4000000 in
set_option maxRecDepth 100000 in
theorem r_X3_toCatch (l : Launch) (D : va_G) (cZ cI : ClassId) (b : Nat → Nat) (th : Nat) (tn : Nat) (cg : Bool) (ea : Nat) (T : Nat → Nat → Nat → Option Nat) (sz : Nat)  (htn : tn < 2 ^ 30) : Met l yX3_toCatch wsX3_toCatch ({ frames := 3, cells := 1, slots := 768, locals := 76 }) (WrP D cZ cI [.ref (b 0)] (pR cZ cI b th 2 tn true cg 0 1 ea (fun _ => false) T) sz) (va_Qi (fun r (u : RU) => r = (-1) ∧ sOk1 u.2.2) (fun (u : RU) t => va_P D vwCl (pR cZ cI b th 2 tn true cg 0 1 ea (fun _ => false) u.2.2 ++ [(u.1, .inl (cZ, 768, .inl (u.2.1)))]) t.heap ∧ va_D (va_A (pR cZ cI b th 2 tn true cg 0 1 ea (fun _ => false) T) sz) (pR cZ cI b th 2 tn true cg 0 1 ea (fun _ => false) u.2.2 ++ [(u.1, .inl (cZ, 768, .inl (u.2.1)))])) (va_A (pR cZ cI b th 2 tn true cg 0 1 ea (fun _ => false) T) sz)) 1 768 (va_A (pR cZ cI b th 2 tn true cg 0 1 ea (fun _ => false) T) sz) := by
  refine Met.ofW (cc := cX3_toCatch) (maxL := 1) (ret := (some .int)) (by decide) rfl ?_
  intro p e s m args below meth c s₁ B hml hv
  obtain ⟨rfl, hsz, hP, hZ, hD0⟩ := hv
  have hx := B.exec
  have hb := B.bytes
  have hr := B.returns
  have hts := atoms_spec (ws := wsX3_toCatch) B.pre
  have hown : s.vm.findClass RX3 = some m.cls := findClass_of_methodNamed B.named
  have hlocks := B.notSynchronized
  subst hsz
  have hD := hD0.self (sz := s.heap.size)
  generalize hAe : va_A (pR cZ cI b th 2 tn true cg 0 1 ea (fun _ => false) T) s.heap.size = A at hD ⊢
  have hA : ∀ q : Nat, s.heap.size ≤ q → A q := fun q h => by rw [← hAe]; exact Or.inr h
  have hS : va_S A s.heap s.heap [] := va_S.rf
  have hP : va_P D vwCl (pR cZ cI b th 2 tn true cg 0 1 ea (fun _ => false) T) s.heap := hP
  have hl := lv_entry ([.ref (b 0)]) (n := 1) (Nat.le_of_ble_eq_true rfl)
  rw [lg_entry_eq]
  generalize (lg_sl ([.ref (b 0)]) ++ List.replicate (1 - (lg_sl ([.ref (b 0)])).length) Slot.unset).toArray = ls at hl ⊢
  have hl : lv_has ls 1 [(0, .ref (b 0))] := hl
  have hin3 : ∀ w ∈ u_ws RX3 TX3 20, w ∈ wsX3_toCatch := by decide +kernel
  have hf32 := hts (.fieldLink RX3 32 "DoorChaseModel" "sure" "[I") (by decide +kernel)
  have hf85 := hts (.fieldLink RX3 85 "DoorChaseModel" "isOn" "Z") (by decide +kernel)
  have hf92 := hts (.fieldLink RX3 92 "DoorChaseModel" "turn" "I") (by decide +kernel)
  have hf95 := hts (.fieldLink RX3 95 "DoorChaseModel" "cat" "I") (by decide +kernel)
  have hf98 := hts (.fieldLink RX3 98 "DoorChaseModel" "mouse" "I") (by decide +kernel)
  refine lv_aload_n hx hb dX3_toCatch_0 rfl (lv_at hl 0 rfl) ?_
  refine va_get (D := D) (ci := 3) (v := .int (bI true)) (C := RX3) (T := TX3) (N := 20) hx hb hts hin3 hown hZ.1 hP 0 rfl rfl 11 (by decide) hf85 (fun _ h9 => h9) rfl dX3_toCatch_1 ?_
  refine rv_ifneB (tgt := 9) hx hb dX3_toCatch_4 (by decide) (fun c4_1 => ?_) (fun c4_1 => ?_)
  · skip
    refine lv_aload_n hx hb dX3_toCatch_9 rfl (lv_at hl 0 rfl) ?_
    have hFc := va_free (wc := pR cZ cI b th 2 tn true cg 0 1 ea (fun _ => false) T) hD hS hA [0, 1, 2, 3, 4, 5, 6, 7, 8] rfl
    refine va_callv (va_runV (As := []) (rest := []) ⟨hx, hb, hml, hown, hts⟩ (r_X3_reckon l D cZ cI b th tn true cg 0 1 ea T s.heap.size  ) (cwV 0 hts gX3_toCatch_X3_reckon rfl rfl rfl (by decide +kernel) ⟨Nat.le_of_ble_eq_true rfl, Nat.le_of_ble_eq_true rfl⟩) ⟨WrP_blind, va_recv hZ.1 hP (ci := 3) (q0 := 0) rfl rfl, WrP_start hP hD hZ⟩ rfl rfl hl.1 rfl (lv_room (Nat.le_of_ble_eq_true rfl)) dX3_toCatch_10 ⟨Nat.le_of_ble_eq_true rfl, Nat.le_of_ble_eq_true rfl⟩) hS (fun q _ h => hFc q h) hFc (fun u_2 t H1 locs ht hvm hw hB hz1 hk1 hS => ?_)
    obtain ⟨nn_3, gg_4, T_5⟩ := u_2
    obtain ⟨hP, hD⟩ := hB
    rw [ht] at hP
    replace hD := hD.weaken (fun _ _ _ h => hFc _ h)
    generalize H1 = H at hP hS ⊢
    refine W.widen (k := 1) (n := 768) (by omega) (by omega) ?_
    have hP : va_P D vwCl (pR cZ cI b th 2 tn true cg 0 1 ea (fun _ => false) T_5 ++ [(nn_3, .inl (cZ, 768, .inl (gg_4)))]) H := hP
    have hD : va_D A (pR cZ cI b th 2 tn true cg 0 1 ea (fun _ => false) T_5 ++ [(nn_3, .inl (cZ, 768, .inl (gg_4)))]) := hD
    have hsT_5 : sOk1 T_5 := hw
    refine lv_aload_n hx hb dX3_toCatch_13 rfl (lv_at hl 0 rfl) ?_
    refine va_get (D := D) (ci := 3) (v := .ref (b 8)) (C := RX3) (T := TX3) (N := 20) hx hb hts hin3 hown hZ.1 hP 0 rfl rfl 16 (by decide) hf32 (fun _ h9 => h9) rfl dX3_toCatch_14 ?_
    refine lv_aload_n hx hb dX3_toCatch_17 rfl (lv_at hl 0 rfl) ?_
    refine va_get (D := D) (ci := 3) (v := .int (nI tn)) (C := RX3) (T := TX3) (N := 20) hx hb hts hin3 hown hZ.1 hP 0 rfl rfl 10 (by decide) hf92 (fun _ h9 => h9) rfl dX3_toCatch_18 ?_
    refine lv_aload_n hx hb dX3_toCatch_21 rfl (lv_at hl 0 rfl) ?_
    refine va_get (D := D) (ci := 3) (v := .int (nI 0)) (C := RX3) (T := TX3) (N := 20) hx hb hts hin3 hown hZ.1 hP 0 rfl rfl 13 (by decide) hf95 (fun _ h9 => h9) rfl dX3_toCatch_22 ?_
    refine lv_aload_n hx hb dX3_toCatch_25 rfl (lv_at hl 0 rfl) ?_
    refine va_get (D := D) (ci := 3) (v := .int (nI 1)) (C := RX3) (T := TX3) (N := 20) hx hb hts hin3 hown hZ.1 hP 0 rfl rfl 14 (by decide) hf98 (fun _ h9 => h9) rfl dX3_toCatch_26 ?_
    refine vp_callSi (va_runS (As := [.int (nI tn), .int (nI 0), .int (nI 1)]) (rest := [.ref (b 8)]) ⟨hx, hb, hml, hown, hts⟩ (r_X3_place l D cZ cI   tn 0 1 (by first | assumption | omega)) (va_cwS 3 hts gX3_toCatch_X3_place rfl rfl rfl (by decide +kernel) ⟨Nat.le_of_ble_eq_true rfl, Nat.le_of_ble_eq_true rfl⟩) ⟨RdP_blind, RdP_start (hP.sub (ws' := []) [] rfl) hZ⟩ rfl rfl hl.1 rfl (lv_room (Nat.le_of_ble_eq_true rfl)) dX3_toCatch_29 ⟨Nat.le_of_ble_eq_true rfl, Nat.le_of_ble_eq_true rfl⟩).run (fun r_6 hr_7 => ?_)
    subst hr_7
    refine rv_top (show _ = nI ((tn % 12 * 8 + 0) * 8 + 1) from rfl) ?_
    refine rv_iald hx hb hZ.1 hP 8 1 rfl rfl (r := (tn % 12 * 8 + 0) * 8 + 1) (by have := Nat.mod_lt (tn) (show 0 < 12 by decide); omega) (by decide) (v := iO (T_5 (tn % 12) 0 1)) (encT_at _ (tn % 12) (by omega) (by omega)) dX3_toCatch_32 ?_
    refine rv_top (show iO (T_5 (tn % 12) 0 1) = (-1) from by rw [show T_5 (tn % 12) 0 1 = none from (hsT_5 (tn % 12) 0 1 (Nat.mod_lt _ (by decide)) (by decide) (by decide)).trans (if_neg (by decide))]; rfl) ?_
    have hP9 : va_P D vwCl (pR cZ cI b th 2 tn true cg 0 1 ea (fun _ => false) T_5 ++ [(nn_3, .inl (cZ, 768, .inl (gg_4)))]) H := by exact hP
    have hD9 : va_D A (pR cZ cI b th 2 tn true cg 0 1 ea (fun _ => false) T_5 ++ [(nn_3, .inl (cZ, 768, .inl (gg_4)))]) := by exact hD
    exact W.iret (v := (-1)) hx hb hr (fun t ht hW => ⟨⟨_, (nn_3, gg_4, T_5), rfl, ⟨rfl, hsT_5⟩, by rw [ht]; exact hP9, hD9⟩, hS.F ht⟩) hS.2.2 dX3_toCatch_33
  · skip
    exact Bool.noConfusion c4_1

