set_option maxHeartbeats 4000000 in
set_option maxRecDepth 100000 in
/-- the switch -/
theorem lk_sw {p : Program} {e : Env} {s : State} {m : MethodId} {below : List Frame} {meth : Method} {c : Code} (l : Launch) (hl9 : l.stackTraces = false) {b : Nat} {xs : Nat → Int32} (C0 : lw_At p s m meth c b 5 xs) {D : va_G} {cZ cI cJ : ClassId} {a u : Nat} {o o' q g : Nat → Nat} {H : Heap} {locs : List Loc} (hZ : zKJ D cZ cI cJ s) (hT : exT s) (hE : exS s H) (hC : xcT s) (hP : va_P D vwCl (pD cZ cI a o o' q κ0 ωz ωz σ0 ++ pM cZ cI g 0 0 (some 0) (fun _ => false) ++ [(u, .inl (cJ, 1, .inr (.inl (fun _ => (0 : Int64)))))]) H) (hD : va_D (fun q : Nat => s.heap.size ≤ q) (pD cZ cI a o o' q κ0 ωz ωz σ0 ++ pM cZ cI g 0 0 (some 0) (fun _ => false) ++ [(u, .inl (cJ, 1, .inr (.inl (fun _ => (0 : Int64)))))])) (hS : va_S (fun q : Nat => s.heap.size ≤ q) s.heap H locs) {ls : Array Slot} (hl : lv_has ls 9 [(4, .int (nI 0)), (3, .ref u), (2, .ref (g 0)), (1, .ref a), (0, .ref b)]) (j : Nat) (hj : j < 64) : W p l e room_1 s m #[Value.ref b] below meth c H locs 29 3099 (lw_Z below #[Value.ref b] s) (F0 m 39 ls [.int (nI j)]) := by
  obtain ⟨hx, hb, hr, hml, hown, hts0, hX, hbl, hlocks, hgv⟩ := id C0
  rcases Nat.lt_or_ge j 36 with h | h
  · rcases (show j = 0 ∨ j = 1 ∨ j = 2 ∨ j = 3 ∨ j = 4 ∨ j = 5 ∨ j = 6 ∨ j = 7 ∨ j = 8 ∨ j = 9 ∨ j = 10 ∨ j = 11 ∨ j = 12 ∨ j = 13 ∨ j = 14 ∨ j = 15 ∨ j = 16 ∨ j = 17 ∨ j = 18 ∨ j = 19 ∨ j = 20 ∨ j = 21 ∨ j = 22 ∨ j = 23 ∨ j = 24 ∨ j = 25 ∨ j = 26 ∨ j = 27 ∨ j = 28 ∨ j = 29 ∨ j = 30 ∨ j = 31 ∨ j = 32 ∨ j = 33 ∨ j = 34 ∨ j = 35 by omega) with rfl | rfl | rfl | rfl | rfl | rfl | rfl | rfl | rfl | rfl | rfl | rfl | rfl | rfl | rfl | rfl | rfl | rfl | rfl | rfl | rfl | rfl | rfl | rfl | rfl | rfl | rfl | rfl | rfl | rfl | rfl | rfl | rfl | rfl | rfl | rfl
    · refine lv_tableIn (off := 157) (tgt := 196) hx hb dL_law_39 (by decide) (by decide) rfl (by decide) ?_
      exact (Decidable.em (xs 1 = 0)).elim (fun h9 => lk_addRoom_f l hl9 C0 hZ hT hE hC hP hD hS h9 hl) (fun h9 => lk_addRoom_t l hl9 C0 hZ hT hE hC hP hD hS h9 hl)
    · refine lv_tableIn (off := 229) (tgt := 268) hx hb dL_law_39 (by decide) (by decide) rfl (by decide) ?_
      exact lk_1 l hl9 C0 hZ hT hE hC hP hD hS hl
    · refine lv_tableIn (off := 321) (tgt := 360) hx hb dL_law_39 (by decide) (by decide) rfl (by decide) ?_
      exact lk_2 l hl9 C0 hZ hT hE hC hP hD hS hl
    · refine lv_tableIn (off := 384) (tgt := 423) hx hb dL_law_39 (by decide) (by decide) rfl (by decide) ?_
      exact lk_3 l hl9 C0 hZ hT hE hC hP hD hS hl
    · refine lv_tableIn (off := 452) (tgt := 491) hx hb dL_law_39 (by decide) (by decide) rfl (by decide) ?_
      exact lk_4 l hl9 C0 hZ hT hE hC hP hD hS hl
    · refine lv_tableIn (off := 520) (tgt := 559) hx hb dL_law_39 (by decide) (by decide) rfl (by decide) ?_
      exact lk_5 l hl9 C0 hZ hT hE hC hP hD hS hl
    · refine lv_tableIn (off := 583) (tgt := 622) hx hb dL_law_39 (by decide) (by decide) rfl (by decide) ?_
      exact (Decidable.em (xs 1 < 1 ∨ ¬ xs 1 ≤ 60)).elim (fun h9 => lk_play_a l hl9 C0 hZ hT hE hC hP hD hS h9 hl) (fun h9 => lk_play_s l hl9 C0 hZ hT hE hC hP hD hS h9 hl)
    · refine lv_tableIn (off := 639) (tgt := 678) hx hb dL_law_39 (by decide) (by decide) rfl (by decide) ?_
      exact lk_7 l hl9 C0 hZ hT hE hC hP hD hS hl
    · refine lv_tableIn (off := 652) (tgt := 691) hx hb dL_law_39 (by decide) (by decide) rfl (by decide) ?_
      exact lk_8 l hl9 C0 hZ hT hE hC hP hD hS hl
    · refine lv_tableIn (off := 665) (tgt := 704) hx hb dL_law_39 (by decide) (by decide) rfl (by decide) ?_
      exact lk_9 l hl9 C0 hZ hT hE hC hP hD hS hl
    · refine lv_tableIn (off := 678) (tgt := 717) hx hb dL_law_39 (by decide) (by decide) rfl (by decide) ?_
      exact lk_10 l hl9 C0 hZ hT hE hC hP hD hS hl
    · refine lv_tableIn (off := 691) (tgt := 730) hx hb dL_law_39 (by decide) (by decide) rfl (by decide) ?_
      exact lk_11 l hl9 C0 hZ hT hE hC hP hD hS hl
    · refine lv_tableIn (off := 704) (tgt := 743) hx hb dL_law_39 (by decide) (by decide) rfl (by decide) ?_
      exact lk_12 l hl9 C0 hZ hT hE hC hP hD hS hl
    · refine lv_tableIn (off := 717) (tgt := 756) hx hb dL_law_39 (by decide) (by decide) rfl (by decide) ?_
      exact lk_13 l hl9 C0 hZ hT hE hC hP hD hS hl
    · refine lv_tableIn (off := 730) (tgt := 769) hx hb dL_law_39 (by decide) (by decide) rfl (by decide) ?_
      exact lk_14 l hl9 C0 hZ hT hE hC hP hD hS hl
    · refine lv_tableIn (off := 743) (tgt := 782) hx hb dL_law_39 (by decide) (by decide) rfl (by decide) ?_
      exact lk_15 l hl9 C0 hZ hT hE hC hP hD hS hl
    · refine lv_tableIn (off := 756) (tgt := 795) hx hb dL_law_39 (by decide) (by decide) rfl (by decide) ?_
      exact lk_16 l hl9 C0 hZ hT hE hC hP hD hS hl
    · refine lv_tableIn (off := 819) (tgt := 858) hx hb dL_law_39 (by decide) (by decide) rfl (by decide) ?_
      exact lk_17 l hl9 C0 hZ hT hE hC hP hD hS hl
    · refine lv_tableIn (off := 875) (tgt := 914) hx hb dL_law_39 (by decide) (by decide) rfl (by decide) ?_
      exact lk_18 l hl9 C0 hZ hT hE hC hP hD hS hl
    · refine lv_tableIn (off := 931) (tgt := 970) hx hb dL_law_39 (by decide) (by decide) rfl (by decide) ?_
      exact lk_19 l hl9 C0 hZ hT hE hC hP hD hS hl
    · refine lv_tableIn (off := 994) (tgt := 1033) hx hb dL_law_39 (by decide) (by decide) rfl (by decide) ?_
      exact lk_20 l hl9 C0 hZ hT hE hC hP hD hS hl
    · refine lv_tableIn (off := 1057) (tgt := 1096) hx hb dL_law_39 (by decide) (by decide) rfl (by decide) ?_
      exact lk_21 l hl9 C0 hZ hT hE hC hP hD hS hl
    · refine lv_tableIn (off := 1113) (tgt := 1152) hx hb dL_law_39 (by decide) (by decide) rfl (by decide) ?_
      exact lk_22 l hl9 C0 hZ hT hE hC hP hD hS hl
    · refine lv_tableIn (off := 1181) (tgt := 1220) hx hb dL_law_39 (by decide) (by decide) rfl (by decide) ?_
      exact lk_23 l hl9 C0 hZ hT hE hC hP hD hS hl
    · refine lv_tableIn (off := 1256) (tgt := 1295) hx hb dL_law_39 (by decide) (by decide) rfl (by decide) ?_
      exact lk_24 l hl9 C0 hZ hT hE hC hP hD hS hl
    · refine lv_tableIn (off := 1324) (tgt := 1363) hx hb dL_law_39 (by decide) (by decide) rfl (by decide) ?_
      exact lk_25 l hl9 C0 hZ hT hE hC hP hD hS hl
    · refine lv_tableIn (off := 1380) (tgt := 1419) hx hb dL_law_39 (by decide) (by decide) rfl (by decide) ?_
      exact lk_26 l hl9 C0 hZ hT hE hC hP hD hS hl
    · refine lv_tableIn (off := 1436) (tgt := 1475) hx hb dL_law_39 (by decide) (by decide) rfl (by decide) ?_
      exact lk_27 l hl9 C0 hZ hT hE hC hP hD hS hl
    · refine lv_tableIn (off := 1449) (tgt := 1488) hx hb dL_law_39 (by decide) (by decide) rfl (by decide) ?_
      exact lk_28 l hl9 C0 hZ hT hE hC hP hD hS hl
    · refine lv_tableIn (off := 1517) (tgt := 1556) hx hb dL_law_39 (by decide) (by decide) rfl (by decide) ?_
      exact lk_29 l hl9 C0 hZ hT hE hC hP hD hS hl
    · refine lv_tableIn (off := 1530) (tgt := 1569) hx hb dL_law_39 (by decide) (by decide) rfl (by decide) ?_
      exact lk_30 l hl9 C0 hZ hT hE hC hP hD hS hl
    · refine lv_tableIn (off := 1543) (tgt := 1582) hx hb dL_law_39 (by decide) (by decide) rfl (by decide) ?_
      exact lk_31 l hl9 C0 hZ hT hE hC hP hD hS hl
    · refine lv_tableIn (off := 1556) (tgt := 1595) hx hb dL_law_39 (by decide) (by decide) rfl (by decide) ?_
      exact lk_32 l hl9 C0 hZ hT hE hC hP hD hS hl
    · refine lv_tableIn (off := 1569) (tgt := 1608) hx hb dL_law_39 (by decide) (by decide) rfl (by decide) ?_
      exact lk_33 l hl9 C0 hZ hT hE hC hP hD hS hl
    · refine lv_tableIn (off := 1582) (tgt := 1621) hx hb dL_law_39 (by decide) (by decide) rfl (by decide) ?_
      exact lk_34 l hl9 C0 hZ hT hE hC hP hD hS hl
    · refine lv_tableIn (off := 1623) (tgt := 1662) hx hb dL_law_39 (by decide) (by decide) rfl (by decide) ?_
      exact lk_35 l hl9 C0 hZ hT hE hC hP hD hS hl
  · refine lv_tableOut (tgt := 1676) hx hb dL_law_39 (Or.inr (sw_out j hj h)) (by decide) ?_
    exact lk_end l C0 hS (Nat.le_of_ble_eq_true rfl) (Nat.le_of_ble_eq_true rfl) (lv_sub hl [0, 4] rfl)
set_option maxHeartbeats 4000000 in
set_option maxRecDepth 100000 in
/-- THE LAW, from its entry -/
theorem whole_start {p : Program} {e : Env} {s : State} {m : MethodId} {below : List Frame} {meth : Method} {c : Code} (l : Launch) (hflags : l.flags = flags0) {b L : Nat} {xs : Nat → Int32} (hL : L ≤ 5) (C0 : lw_At p s m meth c b L xs) : W p l e room_1 s m #[Value.ref b] below meth c s.heap [] 0 0 (lw_Z below #[Value.ref b] s) (entryFrame m ([Value.ref b] : List Value).toArray 9) := by
  have hl9 := fl_trace hflags
  obtain ⟨hx, hb, hr, hml, hown, hts0, hX, hbl, hlocks, hgv⟩ := id C0
  have hown : s.vm.findClass RL = some m.cls := hown
  have hts : ∀ w ∈ wsL_law, w.before #[Value.ref b] s = true := fun w h => hts0 w (wsL_law_in w h)
  obtain ⟨D, cZ, cI, cJ, hZ⟩ := st_known hts0
  obtain ⟨hT, hE, hC⟩ := st_exc hts0 hgv
  have hA : ∀ q : Nat, s.heap.size ≤ q → (fun q : Nat => s.heap.size ≤ q) q := fun _ h => h
  have hbA : ¬ (fun q : Nat => s.heap.size ≤ q) b := Nat.not_le.mpr hbl
  have hS : va_S (fun q : Nat => s.heap.size ≤ q) s.heap s.heap [] := va_S.rf
  have hP : va_P D vwCl [] s.heap := fun k q h => by simp at h
  have hD : va_D (fun q : Nat => s.heap.size ≤ q) [] := ⟨fun i j p q h => by simp at h, fun k q h => by simp at h⟩
  have hl := lv_entry ([.ref b]) (n := 9) (Nat.le_of_ble_eq_true rfl)
  rw [lg_entry_eq]
  generalize (lg_sl ([.ref b]) ++ List.replicate (9 - (lg_sl ([.ref b])).length) Slot.unset).toArray = ls at hl ⊢
  have hl : lv_has ls 9 [(0, .ref b)] := hl
  refine va_new (ci := 2) (fs := [.null, .null, .null, .int 0, .int 0, .int 0, .int 0, .int 0, .int 0]) (C := RX2) (T := TX2) (N := 9) hx hb hts inlX2 tyX2 tyX2_ok hown (hts (.classLink RL 8 RX2) (by decide +kernel)) (hts (.instantiable RX2 9) (by decide +kernel)) (hts (.initialized RX2) (by decide +kernel)) hZ.1 hP hD hS hA rfl (fun j hj => by rcases (show j = 0 ∨ j = 1 ∨ j = 2 ∨ j = 3 ∨ j = 4 ∨ j = 5 ∨ j = 6 ∨ j = 7 ∨ j = 8 by omega) with rfl | rfl | rfl | rfl | rfl | rfl | rfl | rfl | rfl <;> rfl) (Nat.le_of_ble_eq_true rfl) (Nat.le_of_ble_eq_true rfl) dL_law_0 (fun a H hP hD hS => ?_)
  have hP : va_P D vwCl ([(a, .inr (2, [.null, .null, .null, .int 0, .int 0, .int 0, .int 0, .int 0, .int 0]))]) H := hP
  have hD : va_D (fun q : Nat => s.heap.size ≤ q) ([(a, .inr (2, [.null, .null, .null, .int 0, .int 0, .int 0, .int 0, .int 0, .int 0]))]) := hD
  refine W.widen (k := 1) (n := 9) (Nat.le_of_ble_eq_true rfl) (Nat.le_of_ble_eq_true rfl) ?_
  refine lv_dup hx hb dL_law_3 rfl ?_
  have hFc := va_free (wc := [(a, .inr (2, [.null, .null, .null, .int 0, .int 0, .int 0, .int 0, .int 0, .int 0]))]) hD hS hA [0] rfl
  refine va_callv (va_runI (As := []) (rest := [.ref a]) ⟨hx, hb, hml, hown, hts⟩ (c_X2_init l D cZ cI a H.size) (cwI 0 hts gL_law_X2_init rfl rfl rfl (hts (.initialized RX2) (by decide +kernel)) (hts (.methodLink RL 78 yX2_init) (by decide +kernel)) (hts (.instanceMethod yX2_init) (by decide +kernel)) rfl (by decide +kernel) ⟨Nat.le_of_ble_eq_true rfl, Nat.le_of_ble_eq_true rfl⟩) ⟨WrP_blind, WrP_start hP hD hZ.two⟩ rfl rfl hl.1 rfl (lv_room (Nat.le_of_ble_eq_true rfl)) dL_law_4 ⟨Nat.le_of_ble_eq_true rfl, Nat.le_of_ble_eq_true rfl⟩) hS (fun q _ h => hFc q h) hFc (fun u2 t H1 locs ht hvm hw hB hz1 hk1 hS => ?_)
  obtain ⟨hP1, hD1⟩ := hB
  rw [ht] at hP1
  obtain ⟨hP, hD⟩ := va_join (wr := []) (w1 := pD cZ cI a u2.2.1 u2.2.2 u2.1 κ0 ωz ωz σ0) hP hD [0] [] rfl rfl (by decide) (by decide) hk1 hFc hP1 hD1
  replace hP : va_P D vwCl (pD cZ cI a u2.2.1 u2.2.2 u2.1 κ0 ωz ωz σ0) H1 := hP
  replace hD : va_D (fun q : Nat => s.heap.size ≤ q) (pD cZ cI a u2.2.1 u2.2.2 u2.1 κ0 ωz ωz σ0) := hD
  generalize H1 = H at hP hS ⊢
  refine W.widen (k := 19) (n := 2224) (Nat.le_of_ble_eq_true rfl) (Nat.le_of_ble_eq_true rfl) ?_
  refine lv_astore_n (lv' := [(1, .ref a), (0, .ref b)]) hx hb dL_law_7 rfl hl (by decide) rfl (fun ls hl => ?_)
  refine va_new (ci := 3) (fs := [.int 0, .int 0, .int 0, .null, .null, .null, .null, .null, .null, .null, .int 0, .int 0, .int 0, .int 0, .int 0, .int 0, .null, .int 0, .int 0, .int 0]) (C := RX3) (T := TX3) (N := 20) hx hb hts inlX3 tyX3 tyX3_ok hown (hts (.classLink RL 79 RX3) (by decide +kernel)) (hts (.instantiable RX3 20) (by decide +kernel)) (hts (.initialized RX3) (by decide +kernel)) hZ.1 hP hD hS hA rfl (fun j hj => by rcases (show j = 0 ∨ j = 1 ∨ j = 2 ∨ j = 3 ∨ j = 4 ∨ j = 5 ∨ j = 6 ∨ j = 7 ∨ j = 8 ∨ j = 9 ∨ j = 10 ∨ j = 11 ∨ j = 12 ∨ j = 13 ∨ j = 14 ∨ j = 15 ∨ j = 16 ∨ j = 17 ∨ j = 18 ∨ j = 19 by omega) with rfl | rfl | rfl | rfl | rfl | rfl | rfl | rfl | rfl | rfl | rfl | rfl | rfl | rfl | rfl | rfl | rfl | rfl | rfl | rfl <;> rfl) (Nat.le_of_ble_eq_true rfl) (Nat.le_of_ble_eq_true rfl) dL_law_8 (fun h0 H hP hD hS => ?_)
  have hP : va_P D vwCl (pD cZ cI a u2.2.1 u2.2.2 u2.1 κ0 ωz ωz σ0 ++ [(h0, .inr (3, [.int 0, .int 0, .int 0, .null, .null, .null, .null, .null, .null, .null, .int 0, .int 0, .int 0, .int 0, .int 0, .int 0, .null, .int 0, .int 0, .int 0]))]) H := hP
  have hD : va_D (fun q : Nat => s.heap.size ≤ q) (pD cZ cI a u2.2.1 u2.2.2 u2.1 κ0 ωz ωz σ0 ++ [(h0, .inr (3, [.int 0, .int 0, .int 0, .null, .null, .null, .null, .null, .null, .null, .int 0, .int 0, .int 0, .int 0, .int 0, .int 0, .null, .int 0, .int 0, .int 0]))]) := hD
  refine W.widen (k := 20) (n := 2244) (Nat.le_of_ble_eq_true rfl) (Nat.le_of_ble_eq_true rfl) ?_
  refine lv_dup hx hb dL_law_11 rfl ?_
  have hPc := hP.sub (ws' := [(h0, .inr (3, [.int 0, .int 0, .int 0, .null, .null, .null, .null, .null, .null, .null, .int 0, .int 0, .int 0, .int 0, .int 0, .int 0, .null, .int 0, .int 0, .int 0]))]) [19] rfl
  have hDc := hD.sub (ws' := [(h0, .inr (3, [.int 0, .int 0, .int 0, .null, .null, .null, .null, .null, .null, .null, .int 0, .int 0, .int 0, .int 0, .int 0, .int 0, .null, .int 0, .int 0, .int 0]))]) [19] (by decide) rfl
  have hFc := va_free (wc := [(h0, .inr (3, [.int 0, .int 0, .int 0, .null, .null, .null, .null, .null, .null, .null, .int 0, .int 0, .int 0, .int 0, .int 0, .int 0, .null, .int 0, .int 0, .int 0]))]) hD hS hA [19] rfl
  refine va_callv (va_runI (As := []) (rest := [.ref h0]) ⟨hx, hb, hml, hown, hts⟩ (c_X3_init l D cZ cI h0 H.size) (cwI 0 hts gL_law_X3_init rfl rfl rfl (hts (.initialized RX3) (by decide +kernel)) (hts (.methodLink RL 81 yX3_init) (by decide +kernel)) (hts (.instanceMethod yX3_init) (by decide +kernel)) rfl (by decide +kernel) ⟨Nat.le_of_ble_eq_true rfl, Nat.le_of_ble_eq_true rfl⟩) ⟨WrP_blind, WrP_start hPc hDc hZ.two⟩ rfl rfl hl.1 rfl (lv_room (Nat.le_of_ble_eq_true rfl)) dL_law_12 ⟨Nat.le_of_ble_eq_true rfl, Nat.le_of_ble_eq_true rfl⟩) hS (fun q _ h => hFc q h) hFc (fun g t H1 locs ht hvm hw hB hz1 hk1 hS => ?_)
  obtain ⟨e0, hP1, hD1⟩ := hB
  subst e0
  rw [ht] at hP1
  obtain ⟨hP, hD⟩ := va_join (wr := pD cZ cI a u2.2.1 u2.2.2 u2.1 κ0 ωz ωz σ0) (w1 := pM cZ cI g 0 0 (some 0) (fun _ => false)) hP hD [19] [0, 1, 2, 3, 4, 5, 6, 7, 8, 9, 10, 11, 12, 13, 14, 15, 16, 17, 18] rfl rfl (by decide) (by decide) hk1 hFc hP1 hD1
  replace hP : va_P D vwCl (pD cZ cI a u2.2.1 u2.2.2 u2.1 κ0 ωz ωz σ0 ++ pM cZ cI g 0 0 (some 0) (fun _ => false)) H1 := hP
  replace hD : va_D (fun q : Nat => s.heap.size ≤ q) (pD cZ cI a u2.2.1 u2.2.2 u2.1 κ0 ωz ωz σ0 ++ pM cZ cI g 0 0 (some 0) (fun _ => false)) := hD
  generalize H1 = H at hP hS ⊢
  refine W.widen (k := 28) (n := 3098) (Nat.le_of_ble_eq_true rfl) (Nat.le_of_ble_eq_true rfl) ?_
  refine lv_astore_n (lv' := [(2, .ref (g 0)), (1, .ref a), (0, .ref b)]) hx hb dL_law_15 rfl hl (by decide) rfl (fun ls hl => ?_)
  refine lv_iconst (v := nI 1) hx hb dL_law_16 (by decide) ?_
  refine va_newa (atype := .long) hx hb (hts (.arrayClass .long) (by decide +kernel)) (ty := .long) rfl hZ.1 hP hD hS hA (N' := 1) (a0 := (1, .inr (.inl (fun _ => (0 : Int64))))) (fun _ => rfl) (by decide) rfl (by decide) (Nat.le_of_ble_eq_true rfl) (Nat.le_of_ble_eq_true rfl) dL_law_17 (fun u cA H hK1 hP hD hS => ?_)
  obtain rfl : cJ = cA := Option.some.inj (((hK1.2 2 (cJ, .long) rfl).2 : s.vm.findClass _ = some cJ).symm.trans ((hK1.2 3 (cA, .long) rfl).2 : s.vm.findClass _ = some cA))
  have hP : va_P D vwCl (pD cZ cI a u2.2.1 u2.2.2 u2.1 κ0 ωz ωz σ0 ++ pM cZ cI g 0 0 (some 0) (fun _ => false) ++ [(u, .inl (cJ, 1, .inr (.inl (fun _ => (0 : Int64)))))]) H := hP
  have hD : va_D (fun q : Nat => s.heap.size ≤ q) (pD cZ cI a u2.2.1 u2.2.2 u2.1 κ0 ωz ωz σ0 ++ pM cZ cI g 0 0 (some 0) (fun _ => false) ++ [(u, .inl (cJ, 1, .inr (.inl (fun _ => (0 : Int64)))))]) := hD
  refine W.widen (k := 29) (n := 3099) (Nat.le_of_ble_eq_true rfl) (Nat.le_of_ble_eq_true rfl) ?_
  refine lv_astore_n (lv' := [(3, .ref u), (2, .ref (g 0)), (1, .ref a), (0, .ref b)]) hx hb dL_law_19 rfl hl (by decide) rfl (fun ls hl => ?_)
  refine lv_iconst (v := nI 0) hx hb dL_law_20 (by decide) ?_
  refine lv_istore (lv' := [(4, .int (nI 0)), (3, .ref u), (2, .ref (g 0)), (1, .ref a), (0, .ref b)]) hx hb dL_law_21 hl (by decide) rfl (fun ls hl => ?_)
  have hE9 : exS s H := hE.grow hS.1 (fun q hq => hS.2.1 q hq (Nat.not_le.mpr hq))
  refine lv_iload hx hb dL_law_23 (lv_at hl 0 rfl) ?_
  refine lv_aload_n hx hb dL_law_25 rfl (lv_at hl 4 rfl) ?_
  refine va_slen hx hb hX hbl hbA hS dL_law_26 ?_
  refine lv_iconst (v := nI 5) hx hb dL_law_27 (by decide) ?_
  refine lv_isub hx hb dL_law_28 ?_
  rcases (show L = 5 ∨ L = 0 ∨ L = 1 ∨ L = 2 ∨ L = 3 ∨ L = 4 by omega) with rfl | hL5
  · refine lv_icmp_gt (tgt := 1682) hx hb dL_law_29 (by decide) (fun h => absurd h (by decide)) (fun _ => ?_)
    refine lv_aload_n hx hb dL_law_32 rfl (lv_at hl 4 rfl) ?_
    refine lv_iload hx hb dL_law_33 (lv_at hl 0 rfl) ?_
    refine va_sld hx hb hX hbl hbA hS (nI_in (by decide) (by decide)) dL_law_35 ?_
    refine lv_bipush (v := nI 63) hx hb dL_law_36 (by decide) ?_
    refine lv_iand hx hb dL_law_38 ?_
    obtain ⟨j, hj, ej⟩ := pk_andE (xs (nI 0).toNatClampNeg) (m := nI 63) 6 (by decide)
    refine rv_top ej ?_
    exact lk_sw l hl9 C0 hZ hT hE9 hC hP hD hS hl j hj
  · refine lv_icmp_gt (tgt := 1682) hx hb dL_law_29 (by decide) (fun _ => ?_) (fun h => absurd (by rcases hL5 with rfl | rfl | rfl | rfl | rfl <;> decide) h)
    exact lk_yes l C0 hS (Nat.le_of_ble_eq_true rfl) (Nat.le_of_ble_eq_true rfl)
