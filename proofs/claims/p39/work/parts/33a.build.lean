/-! ===== p39: the law's build ===== -/
abbrev wSf (cZ : ClassId) (sf n : Nat) (S : Nat → Bool) : va_W := [(sf, .inl (cZ, n, .inl (encB S)))]
abbrev wDr (cR : ClassId) (dr k : Nat) (f : Nat → Option Nat) : va_W := [(dr, .inl (cR, k, .inr (.inr (.inr (.inr f)))))]
abbrev rmB : Room := { frames := 5, cells := 16, slots := 98, locals := 123 }
/-- what a walk of build has at hand -/
def BdC (p : Program) (s : State) (m : MethodId) (args : Array Value) (c : Code) (b L : Nat) (xs : Nat → Int32) (D : va_G) (cZ cI cR : ClassId) (A : Nat → Prop) : Prop :=
  p.tables.exec = Jvm.exec ∧ c.code = cL_build ∧ c.maxLocals = 11 ∧ s.vm.findClass RL = some m.cls ∧ (∀ w ∈ wsL_build, w.before args s = true) ∧ va_X b L xs s s.heap ∧ b < s.heap.size ∧ ¬ A b ∧ L < 2 ^ 31 ∧ (∀ q, s.heap.size ≤ q → A q) ∧ zKR D cZ cI cR s
/-- how the house stands while rooms are made -/
def bdR (σ : HS) (ω : OS) (S : Nat → Bool) : Prop := zOk σ ∧ zM σ = 0 ∧ (∀ i, i < zN σ → S i = zS σ i) ∧ (0 < zN σ → LK σ ω ∧ zS σ 0 = false) ∧ zC σ = fun _ => 0
set_option maxHeartbeats 4000000 in
set_option maxRecDepth 100000 in
theorem bd_rooms {p : Program} {l : Launch} {e : Env} {s : State} {m : MethodId} {args : Array Value} {below : List Frame} {meth : Method} {c : Code} {b L : Nat} {xs : Nat → Int32} {D : va_G} {cZ cI cR : ClassId} {A : Nat → Prop} {Q : State → Prop} (C : BdC p s m args c b L xs D cZ cI cR A) {a sf n : Nat} {o o' q : Nat → Nat} {κ : CS} {ω' : OS} (hn8 : n ≤ 8)
    (K : ∀ (σ : HS) (ω : OS) (S : Nat → Bool) (H : Heap) (locs : List Loc) (ls : Array Slot), bdR σ ω S → zN σ = n → va_P D vwCl (pD cZ cI a o o' q κ ω ω' σ ++ wSf cZ sf n S) H → va_D A (pD cZ cI a o o' q κ ω ω' σ ++ wSf cZ sf n S) → va_S A s.heap H locs → lv_has ls 11 [(0, .ref a), (1, .ref b), (2, .ref sf)] → W p l e (headSpec wsL_build rmB).room s m args below meth c H locs 0 0 Q (F0 m 50 ls [])) :
    ∀ (f r : Nat) (σ : HS) (ω : OS) (S : Nat → Bool) (H : Heap) (locs : List Loc) (ls : Array Slot), n + 1 ≤ r + f → r ≤ n → zN σ = r → bdR σ ω S → va_P D vwCl (pD cZ cI a o o' q κ ω ω' σ ++ wSf cZ sf n S) H → va_D A (pD cZ cI a o o' q κ ω ω' σ ++ wSf cZ sf n S) → va_S A s.heap H locs → lv_has ls 11 [(3, .int (nI r)), (0, .ref a), (1, .ref b), (2, .ref sf)] → W p l e (headSpec wsL_build rmB).room s m args below meth c H locs 0 0 Q (F0 m 2 ls []) := by
  intro f
  induction f with
  | zero => intro r σ ω S H locs ls h1 h2; exact absurd h1 (by omega)
  | succ f ih =>
    intro r σ ω S H locs ls hm hrn hzr hI hP hD hS hl
    obtain ⟨hx, hb, hml, hown, hts, hX, hbl, hbA, hL, hA, hZ⟩ := id C
    refine lv_iload_n hx hb dL_build_2 rfl (lv_at hl 0 rfl) ?_
    refine lv_aload_n hx hb dL_build_3 rfl (lv_at hl 3 rfl) ?_
    refine va_alen hx hb hZ.1 hP 19 0 rfl rfl (v := nI n) rfl dL_build_4 ?_
    refine rv_ge (tgt := 50) (x := r) (y := n) hx hb (by omega) (by omega) dL_build_5 (by decide) (fun h => ?_) (fun h => ?_)
    · exact K σ ω S H locs ls hI (by omega) hP hD hS (lv_sub hl [1, 2, 3] rfl)
    · refine lv_aload_n hx hb dL_build_8 rfl (lv_at hl 3 rfl) ?_
      refine lv_iload_n hx hb dL_build_9 rfl (lv_at hl 0 rfl) ?_
      refine lv_iload_n hx hb dL_build_10 rfl (lv_at hl 0 rfl) ?_
      refine lv_iconst (v := nI 1) hx hb dL_build_11 (by decide) ?_
      have K35 : ∀ v : Bool, (r = 0 → v = false) → W p l e (headSpec wsL_build rmB).room s m args below meth c H locs 0 0 Q (F0 m 35 ls [.int (bI v), .int (nI r), .ref sf]) := by
        intro v hv0
        obtain ⟨i1, i2, i3, i4, i5⟩ := hI
        refine rv_zast hx hb hZ.1 hP hD hS 19 0 rfl rfl (r := r) (by omega) (by omega) (encB_up _ _ _) dL_build_35 (fun H locs hP hD hS => ?_)
        replace hP : va_P D vwCl (pD cZ cI a o o' q κ ω ω' σ ++ wSf cZ sf n (va_up S r v)) H := hP
        replace hD : va_D A (pD cZ cI a o o' q κ ω ω' σ ++ wSf cZ sf n (va_up S r v)) := hD
        refine lv_aload_n hx hb dL_build_36 rfl (lv_at hl 1 rfl) ?_
        refine lv_aload_n hx hb dL_build_37 rfl (lv_at hl 3 rfl) ?_
        refine lv_iload_n hx hb dL_build_38 rfl (lv_at hl 0 rfl) ?_
        refine rv_zald hx hb hZ.1 hP 19 0 rfl rfl (r := r) (by omega) (by omega) (v := bI v) (show bI (va_up S r v r) = bI v by unfold va_up; rw [if_pos rfl]) dL_build_39 ?_
        have hPc := hP.sub (ws' := pD cZ cI a o o' q κ ω ω' σ) [0, 1, 2, 3, 4, 5, 6, 7, 8, 9, 10, 11, 12, 13, 14, 15, 16, 17, 18] rfl
        have hDc := hD.sub (ws' := pD cZ cI a o o' q κ ω ω' σ) [0, 1, 2, 3, 4, 5, 6, 7, 8, 9, 10, 11, 12, 13, 14, 15, 16, 17, 18] (by decide) rfl
        have hFc := va_free (wc := pD cZ cI a o o' q κ ω ω' σ) hD hS hA [0, 1, 2, 3, 4, 5, 6, 7, 8, 9, 10, 11, 12, 13, 14, 15, 16, 17, 18] rfl
        refine va_calli (va_runV (As := [.int (bI v)]) (rest := []) ⟨hx, hb, hml, hown, hts⟩ (c_X2_addRoom l D cZ cI a o o' q κ ω ω' σ H.size v i1 (by omega)) (cwV 1 hts gL_build_X2_addRoom rfl rfl rfl (by decide +kernel) ⟨Nat.le_of_ble_eq_true rfl, Nat.le_of_ble_eq_true rfl⟩) ⟨WrP_blind, va_recv hZ.1 hP (ci := 2) (q0 := 0) rfl rfl, WrP_start hPc hDc hZ.two⟩ rfl rfl hl.1 rfl (lv_room (Nat.le_of_ble_eq_true rfl)) dL_build_40 ⟨Nat.le_of_ble_eq_true rfl, Nat.le_of_ble_eq_true rfl⟩) hS (fun q _ h => hFc q h) hFc (fun r9 u9 t H1 locs ht hvm hw hB hz1 hk1 hS => ?_)
        obtain ⟨hP1, hD1⟩ := hB
        rw [ht] at hP1
        obtain ⟨ω1, hω1⟩ : ∃ ω1 : OS, ω1 = (lookW (zN σ + 1, zM σ, va_up (zS σ) (zN σ) v, zC σ, zF σ, zG σ, zP σ, zT σ, zL σ) none ω, (lookR (zN σ + 1, zM σ, va_up (zS σ) (zN σ) v, zC σ, zF σ, zG σ, zP σ, zT σ, zL σ) none ω).1, (lookR (zN σ + 1, zM σ, va_up (zS σ) (zN σ) v, zC σ, zF σ, zG σ, zP σ, zT σ, zL σ) none ω).2.1, (lookR (zN σ + 1, zM σ, va_up (zS σ) (zN σ) v, zC σ, zF σ, zG σ, zP σ, zT σ, zL σ) none ω).2.2.1) := ⟨_, rfl⟩
        rw [← hω1] at hP1 hD1
        obtain ⟨hP, hD⟩ := va_join (wr := wSf cZ sf n (va_up S r v)) (w1 := pD cZ cI a o o' q κ ω1 ω' (zN σ + 1, zM σ, va_up (zS σ) (zN σ) v, zC σ, zF σ, zG σ, zP σ, zT σ, zL σ)) hP hD [0, 1, 2, 3, 4, 5, 6, 7, 8, 9, 10, 11, 12, 13, 14, 15, 16, 17, 18] [19] rfl rfl (by decide) (by decide) hk1 hFc hP1 hD1
        replace hP := hP.sub (ws' := pD cZ cI a o o' q κ ω1 ω' (zN σ + 1, zM σ, va_up (zS σ) (zN σ) v, zC σ, zF σ, zG σ, zP σ, zT σ, zL σ) ++ wSf cZ sf n (va_up S r v)) [1, 2, 3, 4, 5, 6, 7, 8, 9, 10, 11, 12, 13, 14, 15, 16, 17, 18, 19, 0] rfl
        replace hD := hD.sub (ws' := pD cZ cI a o o' q κ ω1 ω' (zN σ + 1, zM σ, va_up (zS σ) (zN σ) v, zC σ, zF σ, zG σ, zP σ, zT σ, zL σ) ++ wSf cZ sf n (va_up S r v)) [1, 2, 3, 4, 5, 6, 7, 8, 9, 10, 11, 12, 13, 14, 15, 16, 17, 18, 19, 0] (by decide) rfl
        generalize H1 = H at hP hS ⊢
        subst hw
        refine lv_pop hx hb dL_build_43 rfl ?_
        refine lv_iinc (v := nI (r + 1)) (lv' := [(3, .int (nI (r + 1))), (0, .ref a), (1, .ref b), (2, .ref sf)]) hx hb dL_build_44 hl (k := 0) rfl (nI_add r 1) (by decide) rfl (fun ls hl => ?_)
        refine lv_goto (tgt := 2) hx hb dL_build_47 (by decide) ?_
        have hσ1 : zOk (zN σ + 1, zM σ, va_up (zS σ) (zN σ) v, zC σ, zF σ, zG σ, zP σ, zT σ, zL σ) := zOk_room i1 (by omega) v
        refine ih (r + 1) (zN σ + 1, zM σ, va_up (zS σ) (zN σ) v, zC σ, zF σ, zG σ, zP σ, zT σ, zL σ) ω1 (va_up S r v) H locs ls (by omega) (by omega) (show zN σ + 1 = r + 1 by omega) ⟨hσ1, i2, ?_, ?_, i5⟩ hP hD hS hl
        · intro i hi
          have hi2 : i < zN σ + 1 := hi
          show va_up S r v i = va_up (zS σ) (zN σ) v i
          rw [hzr]
          unfold va_up
          by_cases h9 : i = r
          · rw [if_pos h9, if_pos h9]
          · rw [if_neg h9, if_neg h9]; exact i3 i (by omega)
        · intro _
          refine ⟨by rw [hω1]; exact LK_look hσ1 ω, ?_⟩
          show va_up (zS σ) (zN σ) v 0 = false
          rw [hzr]
          unfold va_up
          by_cases h9 : (0 : Nat) = r
          · rw [if_pos h9]; exact hv0 h9.symm
          · rw [if_neg h9]; exact (i4 (by omega)).2
      have K34 : W p l e (headSpec wsL_build rmB).room s m args below meth c H locs 0 0 Q (F0 m 34 ls [.int (nI r), .ref sf]) := by
        refine lv_iconst (v := nI 0) hx hb dL_build_34 (by decide) ?_
        refine rv_top (show nI 0 = bI false from rfl) ?_
        exact K35 false (fun _ => rfl)
      refine rv_le (tgt := 34) (x := r) (y := 1) hx hb (by omega) (by decide) dL_build_12 (by decide) (fun _ => K34) (fun h1 => ?_)
      refine lv_aload_n hx hb dL_build_15 rfl (lv_at hl 2 rfl) ?_
      refine lv_iload_n hx hb dL_build_16 rfl (lv_at hl 0 rfl) ?_
      refine vp_callSi (va_runS (As := [.ref b, .int (nI r)]) (rest := [.int (nI r), .ref sf]) ⟨hx, hb, hml, hown, hts⟩ (c_L_cell l b L xs r (by omega) hL) (va_cwS 2 hts gL_build_L_cell rfl rfl rfl (by decide +kernel) ⟨Nat.le_of_ble_eq_true rfl, Nat.le_of_ble_eq_true rfl⟩) ⟨ScP_blind, ScP_start (hX.kept (hS.2.1 b hbl hbA))⟩ rfl rfl hl.1 rfl (lv_room (Nat.le_of_ble_eq_true rfl)) dL_build_17 ⟨Nat.le_of_ble_eq_true rfl, Nat.le_of_ble_eq_true rfl⟩).run (fun r9 hq => ?_)
      subst hq
      refine lv_bipush (v := nI 9) hx hb dL_build_20 (by decide) ?_
      refine lv_ishr hx hb dL_build_22 ?_
      refine lv_topi (fun y9 _ => ?_)
      refine lv_iconst (v := nI 5) hx hb dL_build_23 (by decide) ?_
      refine vp_callSi (va_runS (As := [.int y9, .int (nI 5)]) (rest := [.int (nI r), .ref sf]) ⟨hx, hb, hml, hown, hts⟩ (c_L_below l D cZ cI y9 5 (by decide) (by decide)) (va_cwS 2 hts gL_build_L_below rfl rfl rfl (by decide +kernel) ⟨Nat.le_of_ble_eq_true rfl, Nat.le_of_ble_eq_true rfl⟩) ⟨RdP_blind, RdP_start (hP.sub (ws' := []) [] rfl) hZ.two⟩ rfl rfl hl.1 rfl (lv_room (Nat.le_of_ble_eq_true rfl)) dL_build_24 ⟨Nat.le_of_ble_eq_true rfl, Nat.le_of_ble_eq_true rfl⟩).run (fun r9 hq => ?_)
      subst hq
      refine rv_ifneN (tgt := 34) (x := belF y9 5) hx hb (Nat.lt_trans (belF_lt y9 (by decide)) (by decide)) dL_build_27 (by decide) (fun _ => K34) (fun _ => ?_)
      refine lv_iconst (v := nI 1) hx hb dL_build_30 (by decide) ?_
      refine rv_top (show nI 1 = bI true from rfl) ?_
      refine lv_goto (tgt := 35) hx hb dL_build_31 (by decide) ?_
      exact K35 true (fun h9 => absurd h9 (by omega))
