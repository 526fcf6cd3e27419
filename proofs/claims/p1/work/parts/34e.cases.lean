set_option maxHeartbeats 4000000 in
set_option maxRecDepth 100000 in
theorem lk_7 {p : Program} {e : Env} {s : State} {m : MethodId} {below : List Frame} {meth : Method} {c : Code} (l : Launch) (hl9 : l.stackTraces = false) {b : Nat} {xs : Nat → Int32} (C0 : lw_At p s m meth c b 5 xs) {D : va_G} {cZ cI cJ : ClassId} {a u : Nat} {o o' q g : Nat → Nat} {H : Heap} {locs : List Loc} (hZ : zKJ D cZ cI cJ s) (hT : exT s) (hE : exS s H) (hC : xcT s) (hP : va_P D vwCl (pD cZ cI a o o' q κ0 ωz ωz σ0 ++ pM cZ cI g 0 0 (some 0) (fun _ => false) ++ [(u, .inl (cJ, 1, .inr (.inl (fun _ => (0 : Int64)))))]) H) (hD : va_D (fun q : Nat => s.heap.size ≤ q) (pD cZ cI a o o' q κ0 ωz ωz σ0 ++ pM cZ cI g 0 0 (some 0) (fun _ => false) ++ [(u, .inl (cJ, 1, .inr (.inl (fun _ => (0 : Int64)))))])) (hS : va_S (fun q : Nat => s.heap.size ≤ q) s.heap H locs)  {ls : Array Slot} (hl : lv_has ls 9 [(4, .int (nI 0)), (3, .ref u), (2, .ref (g 0)), (1, .ref a), (0, .ref b)]) : W p l e room_1 s m #[Value.ref b] below meth c H locs 29 3099 (lw_Z below #[Value.ref b] s) (F0 m 678 ls []) := by
  obtain ⟨hx, hb, hr, hml, hown, hts0, hX, hbl, hlocks, hgv⟩ := id C0
  have hown : s.vm.findClass RL = some m.cls := hown
  have hts : ∀ w ∈ wsL_law, w.before #[Value.ref b] s = true := fun w h => hts0 w (wsL_law_in w h)
  have hA : ∀ q : Nat, s.heap.size ≤ q → (fun q : Nat => s.heap.size ≤ q) q := fun _ h => h
  have hbA : ¬ (fun q : Nat => s.heap.size ≤ q) b := Nat.not_le.mpr hbl
  refine lv_aload_n hx hb dL_law_678 rfl (lv_at hl 3 rfl) ?_
  refine vp_callSi (va_runV (As := []) (rest := []) ⟨hx, hb, hml, hown, hts⟩ (c_X2_turn l D cZ cI a o o' q κ0 ωz ωz σ0) (cwV 0 hts gL_law_X2_turn rfl rfl rfl (by decide +kernel) ⟨Nat.le_of_ble_eq_true rfl, Nat.le_of_ble_eq_true rfl⟩) ⟨RdP_blind, va_recv hZ.1 hP (ci := 2) (q0 := 0) rfl rfl, RdP_start (hP.sub (ws' := pD cZ cI a o o' q κ0 ωz ωz σ0) [0, 1, 2, 3, 4, 5, 6, 7, 8, 9, 10, 11, 12, 13, 14, 15, 16, 17, 18] rfl) hZ.two⟩ rfl rfl hl.1 rfl (lv_room (Nat.le_of_ble_eq_true rfl)) dL_law_679 ⟨Nat.le_of_ble_eq_true rfl, Nat.le_of_ble_eq_true rfl⟩).run (fun r9 hq1 => ?_)
  obtain rfl : r9 = (nI 0 : Int32) := hq1
  refine lv_aload_n hx hb dL_law_682 rfl (lv_at hl 2 rfl) ?_
  have hPc := hP.sub (ws' := pM cZ cI g 0 0 (some 0) (fun _ => false)) [19, 20, 21, 22, 23, 24, 25, 26, 27] rfl
  have hDc := hD.sub (ws' := pM cZ cI g 0 0 (some 0) (fun _ => false)) [19, 20, 21, 22, 23, 24, 25, 26, 27] (by decide) rfl
  have hFc := va_free (wc := pM cZ cI g 0 0 (some 0) (fun _ => false)) hD hS hA [19, 20, 21, 22, 23, 24, 25, 26, 27] rfl
  refine va_calli (va_runV (As := []) (rest := [.int (nI 0)]) ⟨hx, hb, hml, hown, hts⟩ (c_X3_turn l D cZ cI g 0 (some 0) H.size ) (cwV 0 hts gL_law_X3_turn rfl rfl rfl (by decide +kernel) ⟨Nat.le_of_ble_eq_true rfl, Nat.le_of_ble_eq_true rfl⟩) ⟨WrP_blind, va_recv hZ.1 hP (ci := 3) (q0 := 19) rfl rfl, WrP_start hPc hDc hZ.two⟩ rfl rfl hl.1 rfl (lv_room (Nat.le_of_ble_eq_true rfl)) dL_law_683 ⟨Nat.le_of_ble_eq_true rfl, Nat.le_of_ble_eq_true rfl⟩) hS (fun q _ h => hFc q h) hFc (fun r9 u9 t H1 locs ht hvm hw hB hz1 hk1 hS => ?_)
  obtain ⟨hP1, hD1⟩ := hB
  rw [ht] at hP1
  obtain ⟨hP, hD⟩ := va_join (wr := pD cZ cI a o o' q κ0 ωz ωz σ0 ++ [(u, .inl (cJ, 1, .inr (.inl (fun _ => (0 : Int64)))))]) (w1 := pM cZ cI g 0 0 (some 0) (fun _ => false)) hP hD [19, 20, 21, 22, 23, 24, 25, 26, 27] [0, 1, 2, 3, 4, 5, 6, 7, 8, 9, 10, 11, 12, 13, 14, 15, 16, 17, 18, 28] rfl rfl (by decide) (by decide) hk1 hFc hP1 hD1
  replace hP : va_P D vwCl (pD cZ cI a o o' q κ0 ωz ωz σ0 ++ [(u, .inl (cJ, 1, .inr (.inl (fun _ => (0 : Int64)))))] ++ pM cZ cI g 0 0 (some 0) (fun _ => false)) H1 := hP
  replace hD : va_D (fun q : Nat => s.heap.size ≤ q) (pD cZ cI a o o' q κ0 ωz ωz σ0 ++ [(u, .inl (cJ, 1, .inr (.inl (fun _ => (0 : Int64)))))] ++ pM cZ cI g 0 0 (some 0) (fun _ => false)) := hD
  generalize H1 = H at hP hS ⊢
  obtain rfl : r9 = (nI 0 : Int32) := hw
  refine lv_icmp_eq (tgt := 1676) hx hb dL_law_686 (by decide) (fun _ => ?_) (fun h => absurd (by first | rfl | decide) h)
  exact lk_end l C0 hS (Nat.le_of_ble_eq_true rfl) (Nat.le_of_ble_eq_true rfl) (lv_sub hl [0, 4] rfl)

set_option maxHeartbeats 4000000 in
set_option maxRecDepth 100000 in
theorem lk_8 {p : Program} {e : Env} {s : State} {m : MethodId} {below : List Frame} {meth : Method} {c : Code} (l : Launch) (hl9 : l.stackTraces = false) {b : Nat} {xs : Nat → Int32} (C0 : lw_At p s m meth c b 5 xs) {D : va_G} {cZ cI cJ : ClassId} {a u : Nat} {o o' q g : Nat → Nat} {H : Heap} {locs : List Loc} (hZ : zKJ D cZ cI cJ s) (hT : exT s) (hE : exS s H) (hC : xcT s) (hP : va_P D vwCl (pD cZ cI a o o' q κ0 ωz ωz σ0 ++ pM cZ cI g 0 0 (some 0) (fun _ => false) ++ [(u, .inl (cJ, 1, .inr (.inl (fun _ => (0 : Int64)))))]) H) (hD : va_D (fun q : Nat => s.heap.size ≤ q) (pD cZ cI a o o' q κ0 ωz ωz σ0 ++ pM cZ cI g 0 0 (some 0) (fun _ => false) ++ [(u, .inl (cJ, 1, .inr (.inl (fun _ => (0 : Int64)))))])) (hS : va_S (fun q : Nat => s.heap.size ≤ q) s.heap H locs)  {ls : Array Slot} (hl : lv_has ls 9 [(4, .int (nI 0)), (3, .ref u), (2, .ref (g 0)), (1, .ref a), (0, .ref b)]) : W p l e room_1 s m #[Value.ref b] below meth c H locs 29 3099 (lw_Z below #[Value.ref b] s) (F0 m 691 ls []) := by
  obtain ⟨hx, hb, hr, hml, hown, hts0, hX, hbl, hlocks, hgv⟩ := id C0
  have hown : s.vm.findClass RL = some m.cls := hown
  have hts : ∀ w ∈ wsL_law, w.before #[Value.ref b] s = true := fun w h => hts0 w (wsL_law_in w h)
  have hA : ∀ q : Nat, s.heap.size ≤ q → (fun q : Nat => s.heap.size ≤ q) q := fun _ h => h
  have hbA : ¬ (fun q : Nat => s.heap.size ≤ q) b := Nat.not_le.mpr hbl
  refine lv_aload_n hx hb dL_law_691 rfl (lv_at hl 3 rfl) ?_
  refine vp_callSi (va_runV (As := []) (rest := []) ⟨hx, hb, hml, hown, hts⟩ (c_X2_rooms l D cZ cI a o o' q κ0 ωz ωz σ0) (cwV 0 hts gL_law_X2_rooms rfl rfl rfl (by decide +kernel) ⟨Nat.le_of_ble_eq_true rfl, Nat.le_of_ble_eq_true rfl⟩) ⟨RdP_blind, va_recv hZ.1 hP (ci := 2) (q0 := 0) rfl rfl, RdP_start (hP.sub (ws' := pD cZ cI a o o' q κ0 ωz ωz σ0) [0, 1, 2, 3, 4, 5, 6, 7, 8, 9, 10, 11, 12, 13, 14, 15, 16, 17, 18] rfl) hZ.two⟩ rfl rfl hl.1 rfl (lv_room (Nat.le_of_ble_eq_true rfl)) dL_law_692 ⟨Nat.le_of_ble_eq_true rfl, Nat.le_of_ble_eq_true rfl⟩).run (fun r9 hq1 => ?_)
  obtain rfl : r9 = (nI 0 : Int32) := hq1
  refine lv_aload_n hx hb dL_law_695 rfl (lv_at hl 2 rfl) ?_
  have hPc := hP.sub (ws' := pM cZ cI g 0 0 (some 0) (fun _ => false)) [19, 20, 21, 22, 23, 24, 25, 26, 27] rfl
  have hDc := hD.sub (ws' := pM cZ cI g 0 0 (some 0) (fun _ => false)) [19, 20, 21, 22, 23, 24, 25, 26, 27] (by decide) rfl
  have hFc := va_free (wc := pM cZ cI g 0 0 (some 0) (fun _ => false)) hD hS hA [19, 20, 21, 22, 23, 24, 25, 26, 27] rfl
  refine va_calli (va_runV (As := []) (rest := [.int (nI 0)]) ⟨hx, hb, hml, hown, hts⟩ (c_X3_rooms l D cZ cI g 0 (some 0) H.size ) (cwV 0 hts gL_law_X3_rooms rfl rfl rfl (by decide +kernel) ⟨Nat.le_of_ble_eq_true rfl, Nat.le_of_ble_eq_true rfl⟩) ⟨WrP_blind, va_recv hZ.1 hP (ci := 3) (q0 := 19) rfl rfl, WrP_start hPc hDc hZ.two⟩ rfl rfl hl.1 rfl (lv_room (Nat.le_of_ble_eq_true rfl)) dL_law_696 ⟨Nat.le_of_ble_eq_true rfl, Nat.le_of_ble_eq_true rfl⟩) hS (fun q _ h => hFc q h) hFc (fun r9 u9 t H1 locs ht hvm hw hB hz1 hk1 hS => ?_)
  obtain ⟨hP1, hD1⟩ := hB
  rw [ht] at hP1
  obtain ⟨hP, hD⟩ := va_join (wr := pD cZ cI a o o' q κ0 ωz ωz σ0 ++ [(u, .inl (cJ, 1, .inr (.inl (fun _ => (0 : Int64)))))]) (w1 := pM cZ cI g 0 0 (some 0) (fun _ => false)) hP hD [19, 20, 21, 22, 23, 24, 25, 26, 27] [0, 1, 2, 3, 4, 5, 6, 7, 8, 9, 10, 11, 12, 13, 14, 15, 16, 17, 18, 28] rfl rfl (by decide) (by decide) hk1 hFc hP1 hD1
  replace hP : va_P D vwCl (pD cZ cI a o o' q κ0 ωz ωz σ0 ++ [(u, .inl (cJ, 1, .inr (.inl (fun _ => (0 : Int64)))))] ++ pM cZ cI g 0 0 (some 0) (fun _ => false)) H1 := hP
  replace hD : va_D (fun q : Nat => s.heap.size ≤ q) (pD cZ cI a o o' q κ0 ωz ωz σ0 ++ [(u, .inl (cJ, 1, .inr (.inl (fun _ => (0 : Int64)))))] ++ pM cZ cI g 0 0 (some 0) (fun _ => false)) := hD
  generalize H1 = H at hP hS ⊢
  obtain rfl : r9 = (nI 0 : Int32) := hw
  refine lv_icmp_eq (tgt := 1676) hx hb dL_law_699 (by decide) (fun _ => ?_) (fun h => absurd (by first | rfl | decide) h)
  exact lk_end l C0 hS (Nat.le_of_ble_eq_true rfl) (Nat.le_of_ble_eq_true rfl) (lv_sub hl [0, 4] rfl)

set_option maxHeartbeats 4000000 in
set_option maxRecDepth 100000 in
theorem lk_9 {p : Program} {e : Env} {s : State} {m : MethodId} {below : List Frame} {meth : Method} {c : Code} (l : Launch) (hl9 : l.stackTraces = false) {b : Nat} {xs : Nat → Int32} (C0 : lw_At p s m meth c b 5 xs) {D : va_G} {cZ cI cJ : ClassId} {a u : Nat} {o o' q g : Nat → Nat} {H : Heap} {locs : List Loc} (hZ : zKJ D cZ cI cJ s) (hT : exT s) (hE : exS s H) (hC : xcT s) (hP : va_P D vwCl (pD cZ cI a o o' q κ0 ωz ωz σ0 ++ pM cZ cI g 0 0 (some 0) (fun _ => false) ++ [(u, .inl (cJ, 1, .inr (.inl (fun _ => (0 : Int64)))))]) H) (hD : va_D (fun q : Nat => s.heap.size ≤ q) (pD cZ cI a o o' q κ0 ωz ωz σ0 ++ pM cZ cI g 0 0 (some 0) (fun _ => false) ++ [(u, .inl (cJ, 1, .inr (.inl (fun _ => (0 : Int64)))))])) (hS : va_S (fun q : Nat => s.heap.size ≤ q) s.heap H locs)  {ls : Array Slot} (hl : lv_has ls 9 [(4, .int (nI 0)), (3, .ref u), (2, .ref (g 0)), (1, .ref a), (0, .ref b)]) : W p l e room_1 s m #[Value.ref b] below meth c H locs 29 3099 (lw_Z below #[Value.ref b] s) (F0 m 704 ls []) := by
  obtain ⟨hx, hb, hr, hml, hown, hts0, hX, hbl, hlocks, hgv⟩ := id C0
  have hown : s.vm.findClass RL = some m.cls := hown
  have hts : ∀ w ∈ wsL_law, w.before #[Value.ref b] s = true := fun w h => hts0 w (wsL_law_in w h)
  have hA : ∀ q : Nat, s.heap.size ≤ q → (fun q : Nat => s.heap.size ≤ q) q := fun _ h => h
  have hbA : ¬ (fun q : Nat => s.heap.size ≤ q) b := Nat.not_le.mpr hbl
  refine lv_aload_n hx hb dL_law_704 rfl (lv_at hl 3 rfl) ?_
  refine vp_callSi (va_runV (As := []) (rest := []) ⟨hx, hb, hml, hown, hts⟩ (c_X2_doors l D cZ cI a o o' q κ0 ωz ωz σ0) (cwV 0 hts gL_law_X2_doors rfl rfl rfl (by decide +kernel) ⟨Nat.le_of_ble_eq_true rfl, Nat.le_of_ble_eq_true rfl⟩) ⟨RdP_blind, va_recv hZ.1 hP (ci := 2) (q0 := 0) rfl rfl, RdP_start (hP.sub (ws' := pD cZ cI a o o' q κ0 ωz ωz σ0) [0, 1, 2, 3, 4, 5, 6, 7, 8, 9, 10, 11, 12, 13, 14, 15, 16, 17, 18] rfl) hZ.two⟩ rfl rfl hl.1 rfl (lv_room (Nat.le_of_ble_eq_true rfl)) dL_law_705 ⟨Nat.le_of_ble_eq_true rfl, Nat.le_of_ble_eq_true rfl⟩).run (fun r9 hq1 => ?_)
  obtain rfl : r9 = (nI 0 : Int32) := hq1
  refine lv_aload_n hx hb dL_law_708 rfl (lv_at hl 2 rfl) ?_
  have hPc := hP.sub (ws' := pM cZ cI g 0 0 (some 0) (fun _ => false)) [19, 20, 21, 22, 23, 24, 25, 26, 27] rfl
  have hDc := hD.sub (ws' := pM cZ cI g 0 0 (some 0) (fun _ => false)) [19, 20, 21, 22, 23, 24, 25, 26, 27] (by decide) rfl
  have hFc := va_free (wc := pM cZ cI g 0 0 (some 0) (fun _ => false)) hD hS hA [19, 20, 21, 22, 23, 24, 25, 26, 27] rfl
  refine va_calli (va_runV (As := []) (rest := [.int (nI 0)]) ⟨hx, hb, hml, hown, hts⟩ (c_X3_doors l D cZ cI g 0 (some 0) H.size ) (cwV 0 hts gL_law_X3_doors rfl rfl rfl (by decide +kernel) ⟨Nat.le_of_ble_eq_true rfl, Nat.le_of_ble_eq_true rfl⟩) ⟨WrP_blind, va_recv hZ.1 hP (ci := 3) (q0 := 19) rfl rfl, WrP_start hPc hDc hZ.two⟩ rfl rfl hl.1 rfl (lv_room (Nat.le_of_ble_eq_true rfl)) dL_law_709 ⟨Nat.le_of_ble_eq_true rfl, Nat.le_of_ble_eq_true rfl⟩) hS (fun q _ h => hFc q h) hFc (fun r9 u9 t H1 locs ht hvm hw hB hz1 hk1 hS => ?_)
  obtain ⟨hP1, hD1⟩ := hB
  rw [ht] at hP1
  obtain ⟨hP, hD⟩ := va_join (wr := pD cZ cI a o o' q κ0 ωz ωz σ0 ++ [(u, .inl (cJ, 1, .inr (.inl (fun _ => (0 : Int64)))))]) (w1 := pM cZ cI g 0 0 (some 0) (fun _ => false)) hP hD [19, 20, 21, 22, 23, 24, 25, 26, 27] [0, 1, 2, 3, 4, 5, 6, 7, 8, 9, 10, 11, 12, 13, 14, 15, 16, 17, 18, 28] rfl rfl (by decide) (by decide) hk1 hFc hP1 hD1
  replace hP : va_P D vwCl (pD cZ cI a o o' q κ0 ωz ωz σ0 ++ [(u, .inl (cJ, 1, .inr (.inl (fun _ => (0 : Int64)))))] ++ pM cZ cI g 0 0 (some 0) (fun _ => false)) H1 := hP
  replace hD : va_D (fun q : Nat => s.heap.size ≤ q) (pD cZ cI a o o' q κ0 ωz ωz σ0 ++ [(u, .inl (cJ, 1, .inr (.inl (fun _ => (0 : Int64)))))] ++ pM cZ cI g 0 0 (some 0) (fun _ => false)) := hD
  generalize H1 = H at hP hS ⊢
  obtain rfl : r9 = (nI 0 : Int32) := hw
  refine lv_icmp_eq (tgt := 1676) hx hb dL_law_712 (by decide) (fun _ => ?_) (fun h => absurd (by first | rfl | decide) h)
  exact lk_end l C0 hS (Nat.le_of_ble_eq_true rfl) (Nat.le_of_ble_eq_true rfl) (lv_sub hl [0, 4] rfl)

set_option maxHeartbeats 4000000 in
set_option maxRecDepth 100000 in
theorem lk_10 {p : Program} {e : Env} {s : State} {m : MethodId} {below : List Frame} {meth : Method} {c : Code} (l : Launch) (hl9 : l.stackTraces = false) {b : Nat} {xs : Nat → Int32} (C0 : lw_At p s m meth c b 5 xs) {D : va_G} {cZ cI cJ : ClassId} {a u : Nat} {o o' q g : Nat → Nat} {H : Heap} {locs : List Loc} (hZ : zKJ D cZ cI cJ s) (hT : exT s) (hE : exS s H) (hC : xcT s) (hP : va_P D vwCl (pD cZ cI a o o' q κ0 ωz ωz σ0 ++ pM cZ cI g 0 0 (some 0) (fun _ => false) ++ [(u, .inl (cJ, 1, .inr (.inl (fun _ => (0 : Int64)))))]) H) (hD : va_D (fun q : Nat => s.heap.size ≤ q) (pD cZ cI a o o' q κ0 ωz ωz σ0 ++ pM cZ cI g 0 0 (some 0) (fun _ => false) ++ [(u, .inl (cJ, 1, .inr (.inl (fun _ => (0 : Int64)))))])) (hS : va_S (fun q : Nat => s.heap.size ≤ q) s.heap H locs)  {ls : Array Slot} (hl : lv_has ls 9 [(4, .int (nI 0)), (3, .ref u), (2, .ref (g 0)), (1, .ref a), (0, .ref b)]) : W p l e room_1 s m #[Value.ref b] below meth c H locs 29 3099 (lw_Z below #[Value.ref b] s) (F0 m 717 ls []) := by
  obtain ⟨hx, hb, hr, hml, hown, hts0, hX, hbl, hlocks, hgv⟩ := id C0
  have hown : s.vm.findClass RL = some m.cls := hown
  have hts : ∀ w ∈ wsL_law, w.before #[Value.ref b] s = true := fun w h => hts0 w (wsL_law_in w h)
  have hA : ∀ q : Nat, s.heap.size ≤ q → (fun q : Nat => s.heap.size ≤ q) q := fun _ h => h
  have hbA : ¬ (fun q : Nat => s.heap.size ≤ q) b := Nat.not_le.mpr hbl
  refine lv_aload_n hx hb dL_law_717 rfl (lv_at hl 3 rfl) ?_
  refine vp_callSi (va_runV (As := []) (rest := []) ⟨hx, hb, hml, hown, hts⟩ (c_X2_isOn l D cZ cI a o o' q κ0 ωz ωz σ0) (cwV 0 hts gL_law_X2_isOn rfl rfl rfl (by decide +kernel) ⟨Nat.le_of_ble_eq_true rfl, Nat.le_of_ble_eq_true rfl⟩) ⟨RdP_blind, va_recv hZ.1 hP (ci := 2) (q0 := 0) rfl rfl, RdP_start (hP.sub (ws' := pD cZ cI a o o' q κ0 ωz ωz σ0) [0, 1, 2, 3, 4, 5, 6, 7, 8, 9, 10, 11, 12, 13, 14, 15, 16, 17, 18] rfl) hZ.two⟩ rfl rfl hl.1 rfl (lv_room (Nat.le_of_ble_eq_true rfl)) dL_law_718 ⟨Nat.le_of_ble_eq_true rfl, Nat.le_of_ble_eq_true rfl⟩).run (fun r9 hq1 => ?_)
  obtain rfl : r9 = (nI 0 : Int32) := hq1
  refine lv_aload_n hx hb dL_law_721 rfl (lv_at hl 2 rfl) ?_
  have hPc := hP.sub (ws' := pM cZ cI g 0 0 (some 0) (fun _ => false)) [19, 20, 21, 22, 23, 24, 25, 26, 27] rfl
  have hDc := hD.sub (ws' := pM cZ cI g 0 0 (some 0) (fun _ => false)) [19, 20, 21, 22, 23, 24, 25, 26, 27] (by decide) rfl
  have hFc := va_free (wc := pM cZ cI g 0 0 (some 0) (fun _ => false)) hD hS hA [19, 20, 21, 22, 23, 24, 25, 26, 27] rfl
  refine va_calli (va_runV (As := []) (rest := [.int (nI 0)]) ⟨hx, hb, hml, hown, hts⟩ (c_X3_isOn l D cZ cI g 0 (some 0) H.size ) (cwV 0 hts gL_law_X3_isOn rfl rfl rfl (by decide +kernel) ⟨Nat.le_of_ble_eq_true rfl, Nat.le_of_ble_eq_true rfl⟩) ⟨WrP_blind, va_recv hZ.1 hP (ci := 3) (q0 := 19) rfl rfl, WrP_start hPc hDc hZ.two⟩ rfl rfl hl.1 rfl (lv_room (Nat.le_of_ble_eq_true rfl)) dL_law_722 ⟨Nat.le_of_ble_eq_true rfl, Nat.le_of_ble_eq_true rfl⟩) hS (fun q _ h => hFc q h) hFc (fun r9 u9 t H1 locs ht hvm hw hB hz1 hk1 hS => ?_)
  obtain ⟨hP1, hD1⟩ := hB
  rw [ht] at hP1
  obtain ⟨hP, hD⟩ := va_join (wr := pD cZ cI a o o' q κ0 ωz ωz σ0 ++ [(u, .inl (cJ, 1, .inr (.inl (fun _ => (0 : Int64)))))]) (w1 := pM cZ cI g 0 0 (some 0) (fun _ => false)) hP hD [19, 20, 21, 22, 23, 24, 25, 26, 27] [0, 1, 2, 3, 4, 5, 6, 7, 8, 9, 10, 11, 12, 13, 14, 15, 16, 17, 18, 28] rfl rfl (by decide) (by decide) hk1 hFc hP1 hD1
  replace hP : va_P D vwCl (pD cZ cI a o o' q κ0 ωz ωz σ0 ++ [(u, .inl (cJ, 1, .inr (.inl (fun _ => (0 : Int64)))))] ++ pM cZ cI g 0 0 (some 0) (fun _ => false)) H1 := hP
  replace hD : va_D (fun q : Nat => s.heap.size ≤ q) (pD cZ cI a o o' q κ0 ωz ωz σ0 ++ [(u, .inl (cJ, 1, .inr (.inl (fun _ => (0 : Int64)))))] ++ pM cZ cI g 0 0 (some 0) (fun _ => false)) := hD
  generalize H1 = H at hP hS ⊢
  obtain rfl : r9 = (nI 0 : Int32) := hw
  refine lv_icmp_eq (tgt := 1676) hx hb dL_law_725 (by decide) (fun _ => ?_) (fun h => absurd (by first | rfl | decide) h)
  exact lk_end l C0 hS (Nat.le_of_ble_eq_true rfl) (Nat.le_of_ble_eq_true rfl) (lv_sub hl [0, 4] rfl)

set_option maxHeartbeats 4000000 in
set_option maxRecDepth 100000 in
theorem lk_11 {p : Program} {e : Env} {s : State} {m : MethodId} {below : List Frame} {meth : Method} {c : Code} (l : Launch) (hl9 : l.stackTraces = false) {b : Nat} {xs : Nat → Int32} (C0 : lw_At p s m meth c b 5 xs) {D : va_G} {cZ cI cJ : ClassId} {a u : Nat} {o o' q g : Nat → Nat} {H : Heap} {locs : List Loc} (hZ : zKJ D cZ cI cJ s) (hT : exT s) (hE : exS s H) (hC : xcT s) (hP : va_P D vwCl (pD cZ cI a o o' q κ0 ωz ωz σ0 ++ pM cZ cI g 0 0 (some 0) (fun _ => false) ++ [(u, .inl (cJ, 1, .inr (.inl (fun _ => (0 : Int64)))))]) H) (hD : va_D (fun q : Nat => s.heap.size ≤ q) (pD cZ cI a o o' q κ0 ωz ωz σ0 ++ pM cZ cI g 0 0 (some 0) (fun _ => false) ++ [(u, .inl (cJ, 1, .inr (.inl (fun _ => (0 : Int64)))))])) (hS : va_S (fun q : Nat => s.heap.size ≤ q) s.heap H locs)  {ls : Array Slot} (hl : lv_has ls 9 [(4, .int (nI 0)), (3, .ref u), (2, .ref (g 0)), (1, .ref a), (0, .ref b)]) : W p l e room_1 s m #[Value.ref b] below meth c H locs 29 3099 (lw_Z below #[Value.ref b] s) (F0 m 730 ls []) := by
  obtain ⟨hx, hb, hr, hml, hown, hts0, hX, hbl, hlocks, hgv⟩ := id C0
  have hown : s.vm.findClass RL = some m.cls := hown
  have hts : ∀ w ∈ wsL_law, w.before #[Value.ref b] s = true := fun w h => hts0 w (wsL_law_in w h)
  have hA : ∀ q : Nat, s.heap.size ≤ q → (fun q : Nat => s.heap.size ≤ q) q := fun _ h => h
  have hbA : ¬ (fun q : Nat => s.heap.size ≤ q) b := Nat.not_le.mpr hbl
  refine lv_aload_n hx hb dL_law_730 rfl (lv_at hl 3 rfl) ?_
  refine vp_callSi (va_runV (As := []) (rest := []) ⟨hx, hb, hml, hown, hts⟩ (c_X2_isCaught l D cZ cI a o o' q κ0 ωz ωz σ0) (cwV 0 hts gL_law_X2_isCaught rfl rfl rfl (by decide +kernel) ⟨Nat.le_of_ble_eq_true rfl, Nat.le_of_ble_eq_true rfl⟩) ⟨RdP_blind, va_recv hZ.1 hP (ci := 2) (q0 := 0) rfl rfl, RdP_start (hP.sub (ws' := pD cZ cI a o o' q κ0 ωz ωz σ0) [0, 1, 2, 3, 4, 5, 6, 7, 8, 9, 10, 11, 12, 13, 14, 15, 16, 17, 18] rfl) hZ.two⟩ rfl rfl hl.1 rfl (lv_room (Nat.le_of_ble_eq_true rfl)) dL_law_731 ⟨Nat.le_of_ble_eq_true rfl, Nat.le_of_ble_eq_true rfl⟩).run (fun r9 hq1 => ?_)
  obtain rfl : r9 = (nI 0 : Int32) := hq1
  refine lv_aload_n hx hb dL_law_734 rfl (lv_at hl 2 rfl) ?_
  have hPc := hP.sub (ws' := pM cZ cI g 0 0 (some 0) (fun _ => false)) [19, 20, 21, 22, 23, 24, 25, 26, 27] rfl
  have hDc := hD.sub (ws' := pM cZ cI g 0 0 (some 0) (fun _ => false)) [19, 20, 21, 22, 23, 24, 25, 26, 27] (by decide) rfl
  have hFc := va_free (wc := pM cZ cI g 0 0 (some 0) (fun _ => false)) hD hS hA [19, 20, 21, 22, 23, 24, 25, 26, 27] rfl
  refine va_calli (va_runV (As := []) (rest := [.int (nI 0)]) ⟨hx, hb, hml, hown, hts⟩ (c_X3_isCaught l D cZ cI g 0 (some 0) H.size ) (cwV 0 hts gL_law_X3_isCaught rfl rfl rfl (by decide +kernel) ⟨Nat.le_of_ble_eq_true rfl, Nat.le_of_ble_eq_true rfl⟩) ⟨WrP_blind, va_recv hZ.1 hP (ci := 3) (q0 := 19) rfl rfl, WrP_start hPc hDc hZ.two⟩ rfl rfl hl.1 rfl (lv_room (Nat.le_of_ble_eq_true rfl)) dL_law_735 ⟨Nat.le_of_ble_eq_true rfl, Nat.le_of_ble_eq_true rfl⟩) hS (fun q _ h => hFc q h) hFc (fun r9 u9 t H1 locs ht hvm hw hB hz1 hk1 hS => ?_)
  obtain ⟨hP1, hD1⟩ := hB
  rw [ht] at hP1
  obtain ⟨hP, hD⟩ := va_join (wr := pD cZ cI a o o' q κ0 ωz ωz σ0 ++ [(u, .inl (cJ, 1, .inr (.inl (fun _ => (0 : Int64)))))]) (w1 := pM cZ cI g 0 0 (some 0) (fun _ => false)) hP hD [19, 20, 21, 22, 23, 24, 25, 26, 27] [0, 1, 2, 3, 4, 5, 6, 7, 8, 9, 10, 11, 12, 13, 14, 15, 16, 17, 18, 28] rfl rfl (by decide) (by decide) hk1 hFc hP1 hD1
  replace hP : va_P D vwCl (pD cZ cI a o o' q κ0 ωz ωz σ0 ++ [(u, .inl (cJ, 1, .inr (.inl (fun _ => (0 : Int64)))))] ++ pM cZ cI g 0 0 (some 0) (fun _ => false)) H1 := hP
  replace hD : va_D (fun q : Nat => s.heap.size ≤ q) (pD cZ cI a o o' q κ0 ωz ωz σ0 ++ [(u, .inl (cJ, 1, .inr (.inl (fun _ => (0 : Int64)))))] ++ pM cZ cI g 0 0 (some 0) (fun _ => false)) := hD
  generalize H1 = H at hP hS ⊢
  obtain rfl : r9 = (nI 0 : Int32) := hw
  refine lv_icmp_eq (tgt := 1676) hx hb dL_law_738 (by decide) (fun _ => ?_) (fun h => absurd (by first | rfl | decide) h)
  exact lk_end l C0 hS (Nat.le_of_ble_eq_true rfl) (Nat.le_of_ble_eq_true rfl) (lv_sub hl [0, 4] rfl)

set_option maxHeartbeats 4000000 in
set_option maxRecDepth 100000 in
theorem lk_12 {p : Program} {e : Env} {s : State} {m : MethodId} {below : List Frame} {meth : Method} {c : Code} (l : Launch) (hl9 : l.stackTraces = false) {b : Nat} {xs : Nat → Int32} (C0 : lw_At p s m meth c b 5 xs) {D : va_G} {cZ cI cJ : ClassId} {a u : Nat} {o o' q g : Nat → Nat} {H : Heap} {locs : List Loc} (hZ : zKJ D cZ cI cJ s) (hT : exT s) (hE : exS s H) (hC : xcT s) (hP : va_P D vwCl (pD cZ cI a o o' q κ0 ωz ωz σ0 ++ pM cZ cI g 0 0 (some 0) (fun _ => false) ++ [(u, .inl (cJ, 1, .inr (.inl (fun _ => (0 : Int64)))))]) H) (hD : va_D (fun q : Nat => s.heap.size ≤ q) (pD cZ cI a o o' q κ0 ωz ωz σ0 ++ pM cZ cI g 0 0 (some 0) (fun _ => false) ++ [(u, .inl (cJ, 1, .inr (.inl (fun _ => (0 : Int64)))))])) (hS : va_S (fun q : Nat => s.heap.size ≤ q) s.heap H locs)  {ls : Array Slot} (hl : lv_has ls 9 [(4, .int (nI 0)), (3, .ref u), (2, .ref (g 0)), (1, .ref a), (0, .ref b)]) : W p l e room_1 s m #[Value.ref b] below meth c H locs 29 3099 (lw_Z below #[Value.ref b] s) (F0 m 743 ls []) := by
  obtain ⟨hx, hb, hr, hml, hown, hts0, hX, hbl, hlocks, hgv⟩ := id C0
  have hown : s.vm.findClass RL = some m.cls := hown
  have hts : ∀ w ∈ wsL_law, w.before #[Value.ref b] s = true := fun w h => hts0 w (wsL_law_in w h)
  have hA : ∀ q : Nat, s.heap.size ≤ q → (fun q : Nat => s.heap.size ≤ q) q := fun _ h => h
  have hbA : ¬ (fun q : Nat => s.heap.size ≤ q) b := Nat.not_le.mpr hbl
  refine lv_aload_n hx hb dL_law_743 rfl (lv_at hl 3 rfl) ?_
  refine vp_callSi (va_runV (As := []) (rest := []) ⟨hx, hb, hml, hown, hts⟩ (c_X2_isCatsTurn l D cZ cI a o o' q κ0 ωz ωz σ0 (by decide)) (cwV 0 hts gL_law_X2_isCatsTurn rfl rfl rfl (by decide +kernel) ⟨Nat.le_of_ble_eq_true rfl, Nat.le_of_ble_eq_true rfl⟩) ⟨RdP_blind, va_recv hZ.1 hP (ci := 2) (q0 := 0) rfl rfl, RdP_start (hP.sub (ws' := pD cZ cI a o o' q κ0 ωz ωz σ0) [0, 1, 2, 3, 4, 5, 6, 7, 8, 9, 10, 11, 12, 13, 14, 15, 16, 17, 18] rfl) hZ.two⟩ rfl rfl hl.1 rfl (lv_room (Nat.le_of_ble_eq_true rfl)) dL_law_744 ⟨Nat.le_of_ble_eq_true rfl, Nat.le_of_ble_eq_true rfl⟩).run (fun r9 hq1 => ?_)
  obtain rfl : r9 = (nI 0 : Int32) := hq1.trans (by decide)
  refine lv_aload_n hx hb dL_law_747 rfl (lv_at hl 2 rfl) ?_
  have hPc := hP.sub (ws' := pM cZ cI g 0 0 (some 0) (fun _ => false)) [19, 20, 21, 22, 23, 24, 25, 26, 27] rfl
  have hDc := hD.sub (ws' := pM cZ cI g 0 0 (some 0) (fun _ => false)) [19, 20, 21, 22, 23, 24, 25, 26, 27] (by decide) rfl
  have hFc := va_free (wc := pM cZ cI g 0 0 (some 0) (fun _ => false)) hD hS hA [19, 20, 21, 22, 23, 24, 25, 26, 27] rfl
  refine va_calli (va_runV (As := []) (rest := [.int (nI 0)]) ⟨hx, hb, hml, hown, hts⟩ (c_X3_isCatsTurn l D cZ cI g 0 (some 0) H.size ) (cwV 0 hts gL_law_X3_isCatsTurn rfl rfl rfl (by decide +kernel) ⟨Nat.le_of_ble_eq_true rfl, Nat.le_of_ble_eq_true rfl⟩) ⟨WrP_blind, va_recv hZ.1 hP (ci := 3) (q0 := 19) rfl rfl, WrP_start hPc hDc hZ.two⟩ rfl rfl hl.1 rfl (lv_room (Nat.le_of_ble_eq_true rfl)) dL_law_748 ⟨Nat.le_of_ble_eq_true rfl, Nat.le_of_ble_eq_true rfl⟩) hS (fun q _ h => hFc q h) hFc (fun r9 u9 t H1 locs ht hvm hw hB hz1 hk1 hS => ?_)
  obtain ⟨hP1, hD1⟩ := hB
  rw [ht] at hP1
  obtain ⟨hP, hD⟩ := va_join (wr := pD cZ cI a o o' q κ0 ωz ωz σ0 ++ [(u, .inl (cJ, 1, .inr (.inl (fun _ => (0 : Int64)))))]) (w1 := pM cZ cI g 0 0 (some 0) (fun _ => false)) hP hD [19, 20, 21, 22, 23, 24, 25, 26, 27] [0, 1, 2, 3, 4, 5, 6, 7, 8, 9, 10, 11, 12, 13, 14, 15, 16, 17, 18, 28] rfl rfl (by decide) (by decide) hk1 hFc hP1 hD1
  replace hP : va_P D vwCl (pD cZ cI a o o' q κ0 ωz ωz σ0 ++ [(u, .inl (cJ, 1, .inr (.inl (fun _ => (0 : Int64)))))] ++ pM cZ cI g 0 0 (some 0) (fun _ => false)) H1 := hP
  replace hD : va_D (fun q : Nat => s.heap.size ≤ q) (pD cZ cI a o o' q κ0 ωz ωz σ0 ++ [(u, .inl (cJ, 1, .inr (.inl (fun _ => (0 : Int64)))))] ++ pM cZ cI g 0 0 (some 0) (fun _ => false)) := hD
  generalize H1 = H at hP hS ⊢
  obtain rfl : r9 = (nI 0 : Int32) := hw
  refine lv_icmp_eq (tgt := 1676) hx hb dL_law_751 (by decide) (fun _ => ?_) (fun h => absurd (by first | rfl | decide) h)
  exact lk_end l C0 hS (Nat.le_of_ble_eq_true rfl) (Nat.le_of_ble_eq_true rfl) (lv_sub hl [0, 4] rfl)

set_option maxHeartbeats 4000000 in
set_option maxRecDepth 100000 in
theorem lk_13 {p : Program} {e : Env} {s : State} {m : MethodId} {below : List Frame} {meth : Method} {c : Code} (l : Launch) (hl9 : l.stackTraces = false) {b : Nat} {xs : Nat → Int32} (C0 : lw_At p s m meth c b 5 xs) {D : va_G} {cZ cI cJ : ClassId} {a u : Nat} {o o' q g : Nat → Nat} {H : Heap} {locs : List Loc} (hZ : zKJ D cZ cI cJ s) (hT : exT s) (hE : exS s H) (hC : xcT s) (hP : va_P D vwCl (pD cZ cI a o o' q κ0 ωz ωz σ0 ++ pM cZ cI g 0 0 (some 0) (fun _ => false) ++ [(u, .inl (cJ, 1, .inr (.inl (fun _ => (0 : Int64)))))]) H) (hD : va_D (fun q : Nat => s.heap.size ≤ q) (pD cZ cI a o o' q κ0 ωz ωz σ0 ++ pM cZ cI g 0 0 (some 0) (fun _ => false) ++ [(u, .inl (cJ, 1, .inr (.inl (fun _ => (0 : Int64)))))])) (hS : va_S (fun q : Nat => s.heap.size ≤ q) s.heap H locs)  {ls : Array Slot} (hl : lv_has ls 9 [(4, .int (nI 0)), (3, .ref u), (2, .ref (g 0)), (1, .ref a), (0, .ref b)]) : W p l e room_1 s m #[Value.ref b] below meth c H locs 29 3099 (lw_Z below #[Value.ref b] s) (F0 m 756 ls []) := by
  obtain ⟨hx, hb, hr, hml, hown, hts0, hX, hbl, hlocks, hgv⟩ := id C0
  have hown : s.vm.findClass RL = some m.cls := hown
  have hts : ∀ w ∈ wsL_law, w.before #[Value.ref b] s = true := fun w h => hts0 w (wsL_law_in w h)
  have hA : ∀ q : Nat, s.heap.size ≤ q → (fun q : Nat => s.heap.size ≤ q) q := fun _ h => h
  have hbA : ¬ (fun q : Nat => s.heap.size ≤ q) b := Nat.not_le.mpr hbl
  refine lv_aload_n hx hb dL_law_756 rfl (lv_at hl 3 rfl) ?_
  refine vp_callSi (va_runV (As := []) (rest := []) ⟨hx, hb, hml, hown, hts⟩ (c_X2_catIn l D cZ cI a o o' q κ0 ωz ωz σ0) (cwV 0 hts gL_law_X2_catIn rfl rfl rfl (by decide +kernel) ⟨Nat.le_of_ble_eq_true rfl, Nat.le_of_ble_eq_true rfl⟩) ⟨RdP_blind, va_recv hZ.1 hP (ci := 2) (q0 := 0) rfl rfl, RdP_start (hP.sub (ws' := pD cZ cI a o o' q κ0 ωz ωz σ0) [0, 1, 2, 3, 4, 5, 6, 7, 8, 9, 10, 11, 12, 13, 14, 15, 16, 17, 18] rfl) hZ.two⟩ rfl rfl hl.1 rfl (lv_room (Nat.le_of_ble_eq_true rfl)) dL_law_757 ⟨Nat.le_of_ble_eq_true rfl, Nat.le_of_ble_eq_true rfl⟩).run (fun r9 hq1 => ?_)
  obtain rfl : r9 = (-1 : Int32) := hq1
  refine lv_aload_n hx hb dL_law_760 rfl (lv_at hl 2 rfl) ?_
  have hPc := hP.sub (ws' := pM cZ cI g 0 0 (some 0) (fun _ => false)) [19, 20, 21, 22, 23, 24, 25, 26, 27] rfl
  have hDc := hD.sub (ws' := pM cZ cI g 0 0 (some 0) (fun _ => false)) [19, 20, 21, 22, 23, 24, 25, 26, 27] (by decide) rfl
  have hFc := va_free (wc := pM cZ cI g 0 0 (some 0) (fun _ => false)) hD hS hA [19, 20, 21, 22, 23, 24, 25, 26, 27] rfl
  refine va_calli (va_runV (As := []) (rest := [.int (-1)]) ⟨hx, hb, hml, hown, hts⟩ (c_X3_catIn l D cZ cI g 0 (some 0) H.size ) (cwV 0 hts gL_law_X3_catIn rfl rfl rfl (by decide +kernel) ⟨Nat.le_of_ble_eq_true rfl, Nat.le_of_ble_eq_true rfl⟩) ⟨WrP_blind, va_recv hZ.1 hP (ci := 3) (q0 := 19) rfl rfl, WrP_start hPc hDc hZ.two⟩ rfl rfl hl.1 rfl (lv_room (Nat.le_of_ble_eq_true rfl)) dL_law_761 ⟨Nat.le_of_ble_eq_true rfl, Nat.le_of_ble_eq_true rfl⟩) hS (fun q _ h => hFc q h) hFc (fun r9 u9 t H1 locs ht hvm hw hB hz1 hk1 hS => ?_)
  obtain ⟨hP1, hD1⟩ := hB
  rw [ht] at hP1
  obtain ⟨hP, hD⟩ := va_join (wr := pD cZ cI a o o' q κ0 ωz ωz σ0 ++ [(u, .inl (cJ, 1, .inr (.inl (fun _ => (0 : Int64)))))]) (w1 := pM cZ cI g 0 0 (some 0) (fun _ => false)) hP hD [19, 20, 21, 22, 23, 24, 25, 26, 27] [0, 1, 2, 3, 4, 5, 6, 7, 8, 9, 10, 11, 12, 13, 14, 15, 16, 17, 18, 28] rfl rfl (by decide) (by decide) hk1 hFc hP1 hD1
  replace hP : va_P D vwCl (pD cZ cI a o o' q κ0 ωz ωz σ0 ++ [(u, .inl (cJ, 1, .inr (.inl (fun _ => (0 : Int64)))))] ++ pM cZ cI g 0 0 (some 0) (fun _ => false)) H1 := hP
  replace hD : va_D (fun q : Nat => s.heap.size ≤ q) (pD cZ cI a o o' q κ0 ωz ωz σ0 ++ [(u, .inl (cJ, 1, .inr (.inl (fun _ => (0 : Int64)))))] ++ pM cZ cI g 0 0 (some 0) (fun _ => false)) := hD
  generalize H1 = H at hP hS ⊢
  obtain rfl : r9 = (-1 : Int32) := hw
  refine lv_icmp_eq (tgt := 1676) hx hb dL_law_764 (by decide) (fun _ => ?_) (fun h => absurd (by first | rfl | decide) h)
  exact lk_end l C0 hS (Nat.le_of_ble_eq_true rfl) (Nat.le_of_ble_eq_true rfl) (lv_sub hl [0, 4] rfl)

set_option maxHeartbeats 4000000 in
set_option maxRecDepth 100000 in
theorem lk_14 {p : Program} {e : Env} {s : State} {m : MethodId} {below : List Frame} {meth : Method} {c : Code} (l : Launch) (hl9 : l.stackTraces = false) {b : Nat} {xs : Nat → Int32} (C0 : lw_At p s m meth c b 5 xs) {D : va_G} {cZ cI cJ : ClassId} {a u : Nat} {o o' q g : Nat → Nat} {H : Heap} {locs : List Loc} (hZ : zKJ D cZ cI cJ s) (hT : exT s) (hE : exS s H) (hC : xcT s) (hP : va_P D vwCl (pD cZ cI a o o' q κ0 ωz ωz σ0 ++ pM cZ cI g 0 0 (some 0) (fun _ => false) ++ [(u, .inl (cJ, 1, .inr (.inl (fun _ => (0 : Int64)))))]) H) (hD : va_D (fun q : Nat => s.heap.size ≤ q) (pD cZ cI a o o' q κ0 ωz ωz σ0 ++ pM cZ cI g 0 0 (some 0) (fun _ => false) ++ [(u, .inl (cJ, 1, .inr (.inl (fun _ => (0 : Int64)))))])) (hS : va_S (fun q : Nat => s.heap.size ≤ q) s.heap H locs)  {ls : Array Slot} (hl : lv_has ls 9 [(4, .int (nI 0)), (3, .ref u), (2, .ref (g 0)), (1, .ref a), (0, .ref b)]) : W p l e room_1 s m #[Value.ref b] below meth c H locs 29 3099 (lw_Z below #[Value.ref b] s) (F0 m 769 ls []) := by
  obtain ⟨hx, hb, hr, hml, hown, hts0, hX, hbl, hlocks, hgv⟩ := id C0
  have hown : s.vm.findClass RL = some m.cls := hown
  have hts : ∀ w ∈ wsL_law, w.before #[Value.ref b] s = true := fun w h => hts0 w (wsL_law_in w h)
  have hA : ∀ q : Nat, s.heap.size ≤ q → (fun q : Nat => s.heap.size ≤ q) q := fun _ h => h
  have hbA : ¬ (fun q : Nat => s.heap.size ≤ q) b := Nat.not_le.mpr hbl
  refine lv_aload_n hx hb dL_law_769 rfl (lv_at hl 3 rfl) ?_
  refine vp_callSi (va_runV (As := []) (rest := []) ⟨hx, hb, hml, hown, hts⟩ (c_X2_mouseIn l D cZ cI a o o' q κ0 ωz ωz σ0) (cwV 0 hts gL_law_X2_mouseIn rfl rfl rfl (by decide +kernel) ⟨Nat.le_of_ble_eq_true rfl, Nat.le_of_ble_eq_true rfl⟩) ⟨RdP_blind, va_recv hZ.1 hP (ci := 2) (q0 := 0) rfl rfl, RdP_start (hP.sub (ws' := pD cZ cI a o o' q κ0 ωz ωz σ0) [0, 1, 2, 3, 4, 5, 6, 7, 8, 9, 10, 11, 12, 13, 14, 15, 16, 17, 18] rfl) hZ.two⟩ rfl rfl hl.1 rfl (lv_room (Nat.le_of_ble_eq_true rfl)) dL_law_770 ⟨Nat.le_of_ble_eq_true rfl, Nat.le_of_ble_eq_true rfl⟩).run (fun r9 hq1 => ?_)
  obtain rfl : r9 = (-1 : Int32) := hq1
  refine lv_aload_n hx hb dL_law_773 rfl (lv_at hl 2 rfl) ?_
  have hPc := hP.sub (ws' := pM cZ cI g 0 0 (some 0) (fun _ => false)) [19, 20, 21, 22, 23, 24, 25, 26, 27] rfl
  have hDc := hD.sub (ws' := pM cZ cI g 0 0 (some 0) (fun _ => false)) [19, 20, 21, 22, 23, 24, 25, 26, 27] (by decide) rfl
  have hFc := va_free (wc := pM cZ cI g 0 0 (some 0) (fun _ => false)) hD hS hA [19, 20, 21, 22, 23, 24, 25, 26, 27] rfl
  refine va_calli (va_runV (As := []) (rest := [.int (-1)]) ⟨hx, hb, hml, hown, hts⟩ (c_X3_mouseIn l D cZ cI g 0 (some 0) H.size ) (cwV 0 hts gL_law_X3_mouseIn rfl rfl rfl (by decide +kernel) ⟨Nat.le_of_ble_eq_true rfl, Nat.le_of_ble_eq_true rfl⟩) ⟨WrP_blind, va_recv hZ.1 hP (ci := 3) (q0 := 19) rfl rfl, WrP_start hPc hDc hZ.two⟩ rfl rfl hl.1 rfl (lv_room (Nat.le_of_ble_eq_true rfl)) dL_law_774 ⟨Nat.le_of_ble_eq_true rfl, Nat.le_of_ble_eq_true rfl⟩) hS (fun q _ h => hFc q h) hFc (fun r9 u9 t H1 locs ht hvm hw hB hz1 hk1 hS => ?_)
  obtain ⟨hP1, hD1⟩ := hB
  rw [ht] at hP1
  obtain ⟨hP, hD⟩ := va_join (wr := pD cZ cI a o o' q κ0 ωz ωz σ0 ++ [(u, .inl (cJ, 1, .inr (.inl (fun _ => (0 : Int64)))))]) (w1 := pM cZ cI g 0 0 (some 0) (fun _ => false)) hP hD [19, 20, 21, 22, 23, 24, 25, 26, 27] [0, 1, 2, 3, 4, 5, 6, 7, 8, 9, 10, 11, 12, 13, 14, 15, 16, 17, 18, 28] rfl rfl (by decide) (by decide) hk1 hFc hP1 hD1
  replace hP : va_P D vwCl (pD cZ cI a o o' q κ0 ωz ωz σ0 ++ [(u, .inl (cJ, 1, .inr (.inl (fun _ => (0 : Int64)))))] ++ pM cZ cI g 0 0 (some 0) (fun _ => false)) H1 := hP
  replace hD : va_D (fun q : Nat => s.heap.size ≤ q) (pD cZ cI a o o' q κ0 ωz ωz σ0 ++ [(u, .inl (cJ, 1, .inr (.inl (fun _ => (0 : Int64)))))] ++ pM cZ cI g 0 0 (some 0) (fun _ => false)) := hD
  generalize H1 = H at hP hS ⊢
  obtain rfl : r9 = (-1 : Int32) := hw
  refine lv_icmp_eq (tgt := 1676) hx hb dL_law_777 (by decide) (fun _ => ?_) (fun h => absurd (by first | rfl | decide) h)
  exact lk_end l C0 hS (Nat.le_of_ble_eq_true rfl) (Nat.le_of_ble_eq_true rfl) (lv_sub hl [0, 4] rfl)

set_option maxHeartbeats 4000000 in
set_option maxRecDepth 100000 in
theorem lk_15 {p : Program} {e : Env} {s : State} {m : MethodId} {below : List Frame} {meth : Method} {c : Code} (l : Launch) (hl9 : l.stackTraces = false) {b : Nat} {xs : Nat → Int32} (C0 : lw_At p s m meth c b 5 xs) {D : va_G} {cZ cI cJ : ClassId} {a u : Nat} {o o' q g : Nat → Nat} {H : Heap} {locs : List Loc} (hZ : zKJ D cZ cI cJ s) (hT : exT s) (hE : exS s H) (hC : xcT s) (hP : va_P D vwCl (pD cZ cI a o o' q κ0 ωz ωz σ0 ++ pM cZ cI g 0 0 (some 0) (fun _ => false) ++ [(u, .inl (cJ, 1, .inr (.inl (fun _ => (0 : Int64)))))]) H) (hD : va_D (fun q : Nat => s.heap.size ≤ q) (pD cZ cI a o o' q κ0 ωz ωz σ0 ++ pM cZ cI g 0 0 (some 0) (fun _ => false) ++ [(u, .inl (cJ, 1, .inr (.inl (fun _ => (0 : Int64)))))])) (hS : va_S (fun q : Nat => s.heap.size ≤ q) s.heap H locs)  {ls : Array Slot} (hl : lv_has ls 9 [(4, .int (nI 0)), (3, .ref u), (2, .ref (g 0)), (1, .ref a), (0, .ref b)]) : W p l e room_1 s m #[Value.ref b] below meth c H locs 29 3099 (lw_Z below #[Value.ref b] s) (F0 m 782 ls []) := by
  obtain ⟨hx, hb, hr, hml, hown, hts0, hX, hbl, hlocks, hgv⟩ := id C0
  have hown : s.vm.findClass RL = some m.cls := hown
  have hts : ∀ w ∈ wsL_law, w.before #[Value.ref b] s = true := fun w h => hts0 w (wsL_law_in w h)
  have hA : ∀ q : Nat, s.heap.size ≤ q → (fun q : Nat => s.heap.size ≤ q) q := fun _ h => h
  have hbA : ¬ (fun q : Nat => s.heap.size ≤ q) b := Nat.not_le.mpr hbl
  refine lv_aload_n hx hb dL_law_782 rfl (lv_at hl 3 rfl) ?_
  refine vp_callSi (va_runV (As := []) (rest := []) ⟨hx, hb, hml, hown, hts⟩ (c_X2_eaten l D cZ cI a o o' q κ0 ωz ωz σ0) (cwV 0 hts gL_law_X2_eaten rfl rfl rfl (by decide +kernel) ⟨Nat.le_of_ble_eq_true rfl, Nat.le_of_ble_eq_true rfl⟩) ⟨RdP_blind, va_recv hZ.1 hP (ci := 2) (q0 := 0) rfl rfl, RdP_start (hP.sub (ws' := pD cZ cI a o o' q κ0 ωz ωz σ0) [0, 1, 2, 3, 4, 5, 6, 7, 8, 9, 10, 11, 12, 13, 14, 15, 16, 17, 18] rfl) hZ.two⟩ rfl rfl hl.1 rfl (lv_room (Nat.le_of_ble_eq_true rfl)) dL_law_783 ⟨Nat.le_of_ble_eq_true rfl, Nat.le_of_ble_eq_true rfl⟩).run (fun r9 hq1 => ?_)
  obtain rfl : r9 = (nI 0 : Int32) := hq1
  refine lv_aload_n hx hb dL_law_786 rfl (lv_at hl 2 rfl) ?_
  have hPc := hP.sub (ws' := pM cZ cI g 0 0 (some 0) (fun _ => false)) [19, 20, 21, 22, 23, 24, 25, 26, 27] rfl
  have hDc := hD.sub (ws' := pM cZ cI g 0 0 (some 0) (fun _ => false)) [19, 20, 21, 22, 23, 24, 25, 26, 27] (by decide) rfl
  have hFc := va_free (wc := pM cZ cI g 0 0 (some 0) (fun _ => false)) hD hS hA [19, 20, 21, 22, 23, 24, 25, 26, 27] rfl
  refine va_calli (va_runV (As := []) (rest := [.int (nI 0)]) ⟨hx, hb, hml, hown, hts⟩ (c_X3_eaten l D cZ cI g 0 (some 0) H.size ) (cwV 0 hts gL_law_X3_eaten rfl rfl rfl (by decide +kernel) ⟨Nat.le_of_ble_eq_true rfl, Nat.le_of_ble_eq_true rfl⟩) ⟨WrP_blind, va_recv hZ.1 hP (ci := 3) (q0 := 19) rfl rfl, WrP_start hPc hDc hZ.two⟩ rfl rfl hl.1 rfl (lv_room (Nat.le_of_ble_eq_true rfl)) dL_law_787 ⟨Nat.le_of_ble_eq_true rfl, Nat.le_of_ble_eq_true rfl⟩) hS (fun q _ h => hFc q h) hFc (fun r9 u9 t H1 locs ht hvm hw hB hz1 hk1 hS => ?_)
  obtain ⟨hP1, hD1⟩ := hB
  rw [ht] at hP1
  obtain ⟨hP, hD⟩ := va_join (wr := pD cZ cI a o o' q κ0 ωz ωz σ0 ++ [(u, .inl (cJ, 1, .inr (.inl (fun _ => (0 : Int64)))))]) (w1 := pM cZ cI g 0 0 (some 0) (fun _ => false)) hP hD [19, 20, 21, 22, 23, 24, 25, 26, 27] [0, 1, 2, 3, 4, 5, 6, 7, 8, 9, 10, 11, 12, 13, 14, 15, 16, 17, 18, 28] rfl rfl (by decide) (by decide) hk1 hFc hP1 hD1
  replace hP : va_P D vwCl (pD cZ cI a o o' q κ0 ωz ωz σ0 ++ [(u, .inl (cJ, 1, .inr (.inl (fun _ => (0 : Int64)))))] ++ pM cZ cI g 0 0 (some 0) (fun _ => false)) H1 := hP
  replace hD : va_D (fun q : Nat => s.heap.size ≤ q) (pD cZ cI a o o' q κ0 ωz ωz σ0 ++ [(u, .inl (cJ, 1, .inr (.inl (fun _ => (0 : Int64)))))] ++ pM cZ cI g 0 0 (some 0) (fun _ => false)) := hD
  generalize H1 = H at hP hS ⊢
  obtain rfl : r9 = (nI 0 : Int32) := hw
  refine lv_icmp_eq (tgt := 1676) hx hb dL_law_790 (by decide) (fun _ => ?_) (fun h => absurd (by first | rfl | decide) h)
  exact lk_end l C0 hS (Nat.le_of_ble_eq_true rfl) (Nat.le_of_ble_eq_true rfl) (lv_sub hl [0, 4] rfl)

