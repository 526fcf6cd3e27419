/-! ===== THE ROOM: what the end of that script holds ===== -/
theorem nodup_pred : ∀ {is : List Nat}, is.Nodup → (∀ i, i ∈ is → 0 < i) → (is.map (fun i => i - 1)).Nodup := by
  intro is h h0
  induction is with
  | nil => exact List.nodup_nil
  | cons a as ih =>
    rw [List.nodup_cons] at h
    rw [List.map_cons, List.nodup_cons]
    refine ⟨fun q => ?_, ih h.2 (fun i hi => h0 i (List.mem_cons_of_mem _ hi))⟩
    obtain ⟨j, hj, e⟩ := List.mem_map.mp q
    have h1 := h0 a List.mem_cons_self
    have h2 := h0 j (List.mem_cons_of_mem _ hj)
    have : j = a := by omega
    exact h.1 (this ▸ hj)
/-- so many different cells of 768 slots: so much in all -/
theorem mass_list : ∀ (l : List Cell) (is : List Nat), is.Nodup → (∀ i, i ∈ is → ∃ c : Cell, l[i]? = some c ∧ c.slots.size = 768) → 768 * is.length ≤ (l.map (fun c : Cell => c.slots.size)).sum := by
  intro l
  induction l with
  | nil =>
    intro is _ h
    cases is with
    | nil => exact Nat.le_refl 0
    | cons i is => obtain ⟨c, h1, -⟩ := h i List.mem_cons_self; simp at h1
  | cons x xs ih =>
    intro is hn h
    have key : ∀ js : List Nat, js.Nodup → (∀ i, i ∈ js → 0 < i) → (∀ i, i ∈ js → i ∈ is) → 768 * js.length ≤ (xs.map (fun c : Cell => c.slots.size)).sum := by
      intro js hj h0 hs
      have := ih (js.map (fun i => i - 1)) (nodup_pred hj h0) (fun i hi => by
        obtain ⟨j, hj2, e⟩ := List.mem_map.mp hi
        obtain ⟨c, h1, h2⟩ := h j (hs j hj2)
        have h3 := h0 j hj2
        subst e
        refine ⟨c, ?_, h2⟩
        rw [show j = (j - 1) + 1 by omega, List.getElem?_cons_succ] at h1
        exact h1)
      rw [List.length_map] at this
      exact this
    rw [List.map_cons, List.sum_cons]
    by_cases h0 : 0 ∈ is
    · obtain ⟨c, h1, h2⟩ := h 0 h0
      have hx : c = x := by simpa using h1.symm
      subst hx
      have k1 := key (is.erase 0) (hn.erase 0) (fun i hi => Nat.pos_of_ne_zero (fun q => by subst q; exact (List.Nodup.mem_erase_iff hn).mp hi |>.1 rfl)) (fun i hi => List.mem_of_mem_erase hi)
      have k2 := List.length_erase_of_mem h0
      have k3 : 0 < is.length := List.length_pos_of_mem h0
      omega
    · have k1 := key is hn (fun i hi => Nat.pos_of_ne_zero (fun q => h0 (q ▸ hi))) (fun i hi => hi)
      omega
theorem mass_heap {D : va_G} {cl : List vw_C} {lo n : Nat} {cZ : ClassId} {X pl : va_W} {H : Heap} (hP : va_P D cl (X ++ pl) H) (hD : va_D (fun q : Nat => lo ≤ q) (X ++ pl)) (hR : isR cZ pl n) : 768 * n ≤ ((H.toList.drop lo).map (fun c : Cell => c.slots.size)).sum := by
  have hi : ∀ (k : Nat) (q : Nat × va_E), pl[k]? = some q → (X ++ pl)[X.length + k]? = some q := fun k q h => by
    rw [List.getElem?_append_right (Nat.le_add_right _ _), Nat.add_sub_cancel_left]; exact h
  have hlo : ∀ q, q ∈ pl → lo ≤ q.1 := fun q hq => by
    obtain ⟨k, hk⟩ := List.getElem?_of_mem hq
    exact hD.2 _ _ (hi k q hk)
  have hnd : (pl.map (fun q => q.1 - lo)).Nodup := by
    refine List.pairwise_iff_getElem.mpr (fun i j hi9 hj9 hij e => ?_)
    rw [List.length_map] at hj9
    have hj := hj9
    rw [List.getElem_map, List.getElem_map] at e
    have e2 : pl[i].1 - lo = pl[j].1 - lo := e
    have l1 := hlo _ (List.getElem_mem (Nat.lt_trans hij hj))
    have l2 := hlo _ (List.getElem_mem hj)
    have e3 := hD.1 _ _ _ _ (hi i _ (List.getElem?_eq_getElem (Nat.lt_trans hij hj))) (hi j _ (List.getElem?_eq_getElem hj)) (show pl[i].1 = pl[j].1 by omega)
    omega
  have := mass_list (H.toList.drop lo) (pl.map (fun q => q.1 - lo)) hnd (fun i hi2 => by
    obtain ⟨q, hq, rfl⟩ := List.mem_map.mp hi2
    obtain ⟨k, hk⟩ := List.getElem?_of_mem hq
    obtain ⟨g, hg⟩ := hR.2 q hq
    have h1 := hP _ q (hi k q hk)
    obtain ⟨a, e⟩ := q
    subst hg
    have h2 : H[a]? = some (vp_cell cZ (768, .inl g)) := h1
    refine ⟨_, ?_, arrV_size cZ 768 (fun j => .int (g j))⟩
    rw [List.getElem?_drop, show lo + (a - lo) = a by have := hlo _ hq; omega, Array.getElem?_toList]
    exact h2)
  rw [List.length_map, hR.1] at this
  exact this
def lR_Q (K : Nat) (s : State) (o : Outcome) (t : State) : Prop := o = .returned (some (.int 1)) ∧ 46080 * K ≤ ((t.heap.toList.drop s.heap.size).map (fun c : Cell => c.slots.size)).sum
def lR_Z (K : Nat) (below : List Frame) (s : State) : State → Prop := fun t => ∃ o, t.status = .running ∧ Ended t below o ∧ lR_Q K s o t
theorem lr_ret {p : Program} {l : Launch} {e : Env} {s : State} {m : MethodId} {below : List Frame} {meth : Method} {c : Code} {b K : Nat} (hx : p.tables.exec = Jvm.exec) (hb : c.code = code) (hr : meth.sig.returnType = ret) (hlocks : meth.locks = false) {pc : Nat} {H : Heap} {locs : List Loc} {ce sl : Nat} {ls : Array Slot} (hm : 46080 * K ≤ ((H.toList.drop s.heap.size).map (fun c : Cell => c.slots.size)).sum) (hdg : decode code pc = .ok (.ireturn, 1)) : W p l e (R9 K) s m #[Value.ref b] below meth c H locs ce sl (lR_Z K below s) (F0 m pc ls [.int 1]) := by
  intro T hT X
  obtain ⟨fs, hret, hrun, hended, hW, hframe⟩ := X.leave (v := some (.int 1)) (hlocks := hlocks) (fun h => by rw [hr] at h; cases h)
  have hmeth' : T.vm.method? m = some meth := X.method'
  refine ⟨T.setFrames fs, ?_, .returned (some (.int 1)), hrun, hended, rfl, ?_⟩
  · jvm_step X.here [X.here.top, hx, hb, hdg, hmeth', hr, ret, narrow_b1]
    (try refine ⟨rfl, ?_⟩); (try refine ⟨rfl, ?_⟩)
    first | (intro acts; rw [hret _ acts rfl rfl rfl]) | rw [hret _ _ rfl rfl rfl]
    exact Steps.refl _
  · show 46080 * K ≤ ((T.heap.toList.drop s.heap.size).map (fun c : Cell => c.slots.size)).sum
    rw [hT]
    exact hm
/-- the script: two rooms, begin(0, 1), then play(60) again and again -/
def sc (j : Nat) : Int32 := if j < 15 then (if j = 10 then 4 else if j = 12 then 1 else 0) else if j % 5 = 0 then 6 else if j % 5 = 1 then 60 else 0
theorem sc_6 (j : Nat) : sc (15 + 5 * j) = nI 6 := by
  unfold sc
  rw [if_neg (by omega), if_pos (by omega)]
  rfl
theorem sc_60 (j : Nat) : sc (15 + 5 * j + 1) = nI 60 := by
  unfold sc
  rw [if_neg (by omega), if_neg (by omega), if_pos (by omega)]
  rfl
set_option maxHeartbeats 4000000 in
set_option maxRecDepth 100000 in
theorem lr_loop {p : Program} {e : Env} {s : State} {m : MethodId} {below : List Frame} {meth : Method} {c : Code} {l : Launch} {b : Nat} {D : va_G} {cZ cI cJ : ClassId} (K : Nat) (hK : 15 + 5 * K < 2 ^ 22) (C : lR_At p s m meth c b (15 + 5 * K) sc) (hZ : zKJ D cZ cI cJ s) {a u : Nat} {o o' q g : Nat → Nat} {ω : OS} (hL : LK (σd 2) ω) :
    ∀ (n j : Nat), j + n = K → ∀ (T : Nat → Nat → Nat → Option Nat) (f : Nat → Int64) (pl : va_W) (H : Heap) (locs : List Loc), isR cZ pl (60 * j) → va_P D vwCl (pD cZ cI a o o' q (60 * j, true, false, some 0, some 1, 0) ω ωz (σd 2) ++ pR cZ cI g 0 2 (60 * j) true false 0 1 0 (fun _ => false) T ++ [(u, .inl (cJ, 1, .inr (.inl f)))] ++ pl) H → va_D (fun q : Nat => s.heap.size ≤ q) (pD cZ cI a o o' q (60 * j, true, false, some 0, some 1, 0) ω ωz (σd 2) ++ pR cZ cI g 0 2 (60 * j) true false 0 1 0 (fun _ => false) T ++ [(u, .inl (cJ, 1, .inr (.inl f)))] ++ pl) → va_S (fun q : Nat => s.heap.size ≤ q) s.heap H locs → ∀ ls : Array Slot, lv_has ls 9 [(4, .int (nI (15 + 5 * j))), (3, .ref u), (2, .ref (g 0)), (1, .ref a), (0, .ref b)] → W p l e (R9 K) s m #[Value.ref b] below meth c H locs (30 + 330 * j) (3867 + 48240 * j) (lR_Z K below s) (F0 m 23 ls []) := by
  intro n
  induction n with
  | zero =>
    intro j hj T f pl H locs hR hP hD hS ls hl
    obtain rfl : j = K := by omega
    obtain ⟨hx, hb, hr, hml, hown, hts0, hX, hbl, hlocks⟩ := id C
    have hbA : ¬ (fun q : Nat => s.heap.size ≤ q) b := Nat.not_le.mpr hbl
    refine lv_iload hx hb dL_law_23 (lv_at hl 0 rfl) ?_
    refine lv_aload_n hx hb dL_law_25 rfl (lv_at hl 4 rfl) ?_
    refine va_slen hx hb hX hbl hbA hS dL_law_26 ?_
    refine rv_top (show Int32.ofNat (15 + 5 * j) = nI (15 + 5 * j) from rfl) ?_
    refine lv_iconst (v := nI 5) hx hb dL_law_27 (by decide) ?_
    refine rv_sub hx hb (by omega) dL_law_28 ?_
    refine rv_gt (tgt := 1682) hx hb (by omega) (by omega) dL_law_29 (by decide) (fun _ => ?_) (fun q => absurd q (by omega))
    refine lv_iconst (v := 1) hx hb dL_law_1682 (by decide) ?_
    refine lr_ret hx hb hr hlocks ?_ dL_law_1683
    have := mass_heap hP hD hR
    rw [show 46080 * j = 768 * (60 * j) by omega]
    exact this
  | succ n ih =>
    intro j hj T f pl H locs hR hP hD hS ls hl
    refine lr_play C hZ K (by omega) (by omega) (i := 15 + 5 * j) (by omega) (by omega) (sc_6 j) (sc_60 j) hL (nw := 60 * j) (n := 60 * j) (by omega) (by omega) hR hP hD hS hl ?_
    intro T1 pl1 f1 H1 locs1 ls1 hR1 hP1 hD1 hS1 hl1
    have e1 : 60 * j + 60 = 60 * (j + 1) := by omega
    have e2 : 60 + 60 * j = 60 * (j + 1) := by omega
    have e3 : 15 + 5 * j + 5 = 15 + 5 * (j + 1) := by omega
    rw [e1] at hP1 hD1
    rw [e2] at hR1
    rw [e3] at hl1
    rw [show 30 + 330 * j + 330 = 30 + 330 * (j + 1) by omega, show 3867 + 48240 * j + 48240 = 3867 + 48240 * (j + 1) by omega]
    exact ih (j + 1) (by omega) T1 f1 pl1 H1 locs1 hR1 hP1 hD1 hS1 ls1 hl1
set_option maxHeartbeats 4000000 in
set_option maxRecDepth 100000 in
/-- the law on that script, from its entry -/
theorem whole_startR {p : Program} {e : Env} {s : State} {m : MethodId} {below : List Frame} {meth : Method} {c : Code} (l : Launch) {b : Nat} (K : Nat) (hK : 15 + 5 * K < 2 ^ 22) (hK1 : 1 ≤ K) (C0 : lR_At p s m meth c b (15 + 5 * K) sc) : W p l e (R9 K) s m #[Value.ref b] below meth c s.heap [] 0 0 (lR_Z K below s) (entryFrame m ([Value.ref b] : List Value).toArray 9) := by
  obtain ⟨hx, hb, hr, hml, hown, hts0, hX, hbl, hlocks⟩ := id C0
  have hown : s.vm.findClass RL = some m.cls := hown
  have hts : ∀ w ∈ wsL_law, w.before #[Value.ref b] s = true := fun w h => hts0 w (wsL_law_in w h)
  obtain ⟨D, cZ, cI, cJ, hZ⟩ := st_known hts0
  have hA : ∀ q : Nat, s.heap.size ≤ q → (fun q : Nat => s.heap.size ≤ q) q := fun _ h => h
  have hbA : ¬ (fun q : Nat => s.heap.size ≤ q) b := Nat.not_le.mpr hbl
  have hS : va_S (fun q : Nat => s.heap.size ≤ q) s.heap s.heap [] := va_S.rf
  have hP : va_P D vwCl [] s.heap := fun k q h => by simp at h
  have hD : va_D (fun q : Nat => s.heap.size ≤ q) [] := ⟨fun i j p q h => by simp at h, fun k q h => by simp at h⟩
  have hl := lv_entry ([.ref b]) (n := 9) (Nat.le_of_ble_eq_true rfl)
  rw [lg_entry_eq]
  generalize (lg_sl ([.ref b]) ++ List.replicate (9 - (lg_sl ([.ref b])).length) Slot.unset).toArray = ls at hl ⊢
  have hl : lv_has ls 9 [(0, .ref b)] := hl
  refine va_new (ci := 2) (fs := [.null, .null, .null, .int 0, .int 0, .int 0, .int 0, .int 0, .int 0]) (C := RX2) (T := TX2) (N := 9) hx hb hts inlX2 tyX2 tyX2_ok hown (hts (.classLink RL 8 RX2) (by decide +kernel)) (hts (.instantiable RX2 9) (by decide +kernel)) (hts (.initialized RX2) (by decide +kernel)) hZ.1 hP hD hS hA rfl (fun j hj => by rcases (show j = 0 ∨ j = 1 ∨ j = 2 ∨ j = 3 ∨ j = 4 ∨ j = 5 ∨ j = 6 ∨ j = 7 ∨ j = 8 by omega) with rfl | rfl | rfl | rfl | rfl | rfl | rfl | rfl | rfl <;> rfl) (show 0 + 1 ≤ 30 + 330 * K by omega) (show 0 + 9 ≤ 3867 + 48240 * K by omega) dL_law_0 (fun a H hP hD hS => ?_)
  have hP : va_P D vwCl ([(a, .inr (2, [.null, .null, .null, .int 0, .int 0, .int 0, .int 0, .int 0, .int 0]))]) H := hP
  have hD : va_D (fun q : Nat => s.heap.size ≤ q) ([(a, .inr (2, [.null, .null, .null, .int 0, .int 0, .int 0, .int 0, .int 0, .int 0]))]) := hD
  refine W.widen (k := 1) (n := 9) (Nat.le_of_ble_eq_true rfl) (Nat.le_of_ble_eq_true rfl) ?_
  refine lv_dup hx hb dL_law_3 rfl ?_
  have hFc := va_free (wc := [(a, .inr (2, [.null, .null, .null, .int 0, .int 0, .int 0, .int 0, .int 0, .int 0]))]) hD hS hA [0] rfl
  refine va_callv (va_runI (As := []) (rest := [.ref a]) ⟨hx, hb, hml, hown, hts⟩ (c_X2_init l D cZ cI a H.size) (cwI 0 hts gL_law_X2_init rfl rfl rfl (hts (.initialized RX2) (by decide +kernel)) (hts (.methodLink RL 78 yX2_init) (by decide +kernel)) (hts (.instanceMethod yX2_init) (by decide +kernel)) rfl (by decide +kernel) ⟨Nat.le_of_ble_eq_true rfl, Nat.le_of_ble_eq_true rfl⟩) ⟨WrP_blind, WrP_start hP hD hZ.two⟩ rfl rfl hl.1 rfl (lv_room (Nat.le_of_ble_eq_true rfl)) dL_law_4 ⟨(show 1 + 18 ≤ 30 + 330 * K by omega), (show 9 + 2215 ≤ 3867 + 48240 * K by omega)⟩) hS (fun q _ h => hFc q h) hFc (fun u2 t H1 locs ht hvm hw hB hz1 hk1 hS => ?_)
  obtain ⟨hP1, hD1⟩ := hB
  rw [ht] at hP1
  obtain ⟨hP, hD⟩ := va_join (wr := []) (w1 := pD cZ cI a u2.2.1 u2.2.2 u2.1 κ0 ωz ωz σ0) hP hD [0] [] rfl rfl (by decide) (by decide) hk1 hFc hP1 hD1
  replace hP : va_P D vwCl (pD cZ cI a u2.2.1 u2.2.2 u2.1 κ0 ωz ωz σ0) H1 := hP
  replace hD : va_D (fun q : Nat => s.heap.size ≤ q) (pD cZ cI a u2.2.1 u2.2.2 u2.1 κ0 ωz ωz σ0) := hD
  generalize H1 = H at hP hS ⊢
  refine W.widen (k := 19) (n := 2224) (Nat.le_of_ble_eq_true rfl) (Nat.le_of_ble_eq_true rfl) ?_
  refine lv_astore_n (lv' := [(1, .ref a), (0, .ref b)]) hx hb dL_law_7 rfl hl (by decide) rfl (fun ls hl => ?_)
  refine va_new (ci := 3) (fs := [.int 0, .int 0, .int 0, .null, .null, .null, .null, .null, .null, .null, .int 0, .int 0, .int 0, .int 0, .int 0, .int 0, .null, .int 0, .int 0, .int 0]) (C := RX3) (T := TX3) (N := 20) hx hb hts inlX3 tyX3 tyX3_ok hown (hts (.classLink RL 79 RX3) (by decide +kernel)) (hts (.instantiable RX3 20) (by decide +kernel)) (hts (.initialized RX3) (by decide +kernel)) hZ.1 hP hD hS hA rfl (fun j hj => by rcases (show j = 0 ∨ j = 1 ∨ j = 2 ∨ j = 3 ∨ j = 4 ∨ j = 5 ∨ j = 6 ∨ j = 7 ∨ j = 8 ∨ j = 9 ∨ j = 10 ∨ j = 11 ∨ j = 12 ∨ j = 13 ∨ j = 14 ∨ j = 15 ∨ j = 16 ∨ j = 17 ∨ j = 18 ∨ j = 19 by omega) with rfl | rfl | rfl | rfl | rfl | rfl | rfl | rfl | rfl | rfl | rfl | rfl | rfl | rfl | rfl | rfl | rfl | rfl | rfl | rfl <;> rfl) (show 19 + 1 ≤ 30 + 330 * K by omega) (show 2224 + 20 ≤ 3867 + 48240 * K by omega) dL_law_8 (fun h0 H hP hD hS => ?_)
  have hP : va_P D vwCl (pD cZ cI a u2.2.1 u2.2.2 u2.1 κ0 ωz ωz σ0 ++ [(h0, .inr (3, [.int 0, .int 0, .int 0, .null, .null, .null, .null, .null, .null, .null, .int 0, .int 0, .int 0, .int 0, .int 0, .int 0, .null, .int 0, .int 0, .int 0]))]) H := hP
  have hD : va_D (fun q : Nat => s.heap.size ≤ q) (pD cZ cI a u2.2.1 u2.2.2 u2.1 κ0 ωz ωz σ0 ++ [(h0, .inr (3, [.int 0, .int 0, .int 0, .null, .null, .null, .null, .null, .null, .null, .int 0, .int 0, .int 0, .int 0, .int 0, .int 0, .null, .int 0, .int 0, .int 0]))]) := hD
  refine W.widen (k := 20) (n := 2244) (Nat.le_of_ble_eq_true rfl) (Nat.le_of_ble_eq_true rfl) ?_
  refine lv_dup hx hb dL_law_11 rfl ?_
  have hPc := hP.sub (ws' := [(h0, .inr (3, [.int 0, .int 0, .int 0, .null, .null, .null, .null, .null, .null, .null, .int 0, .int 0, .int 0, .int 0, .int 0, .int 0, .null, .int 0, .int 0, .int 0]))]) [19] rfl
  have hDc := hD.sub (ws' := [(h0, .inr (3, [.int 0, .int 0, .int 0, .null, .null, .null, .null, .null, .null, .null, .int 0, .int 0, .int 0, .int 0, .int 0, .int 0, .null, .int 0, .int 0, .int 0]))]) [19] (by decide) rfl
  have hFc := va_free (wc := [(h0, .inr (3, [.int 0, .int 0, .int 0, .null, .null, .null, .null, .null, .null, .null, .int 0, .int 0, .int 0, .int 0, .int 0, .int 0, .null, .int 0, .int 0, .int 0]))]) hD hS hA [19] rfl
  refine va_callv (va_runI (As := []) (rest := [.ref h0]) ⟨hx, hb, hml, hown, hts⟩ (c_X3_init l D cZ cI h0 H.size) (cwI 0 hts gL_law_X3_init rfl rfl rfl (hts (.initialized RX3) (by decide +kernel)) (hts (.methodLink RL 81 yX3_init) (by decide +kernel)) (hts (.instanceMethod yX3_init) (by decide +kernel)) rfl (by decide +kernel) ⟨Nat.le_of_ble_eq_true rfl, Nat.le_of_ble_eq_true rfl⟩) ⟨WrP_blind, WrP_start hPc hDc hZ.two⟩ rfl rfl hl.1 rfl (lv_room (Nat.le_of_ble_eq_true rfl)) dL_law_12 ⟨(show 20 + 8 ≤ 30 + 330 * K by omega), (show 2244 + 854 ≤ 3867 + 48240 * K by omega)⟩) hS (fun q _ h => hFc q h) hFc (fun g t H1 locs ht hvm hw hB hz1 hk1 hS => ?_)
  obtain ⟨e0, hP1, hD1⟩ := hB
  subst e0
  rw [ht] at hP1
  obtain ⟨hP, hD⟩ := va_join (wr := pD cZ cI a u2.2.1 u2.2.2 u2.1 κ0 ωz ωz σ0) (w1 := pM cZ cI g 0 0 (some 0) (fun _ => false)) hP hD [19] [0, 1, 2, 3, 4, 5, 6, 7, 8, 9, 10, 11, 12, 13, 14, 15, 16, 17, 18] rfl rfl (by decide) (by decide) hk1 hFc hP1 hD1
  replace hP : va_P D vwCl (pD cZ cI a u2.2.1 u2.2.2 u2.1 κ0 ωz ωz σ0 ++ pM cZ cI g 0 0 (some 0) (fun _ => false)) H1 := hP
  replace hD : va_D (fun q : Nat => s.heap.size ≤ q) (pD cZ cI a u2.2.1 u2.2.2 u2.1 κ0 ωz ωz σ0 ++ pM cZ cI g 0 0 (some 0) (fun _ => false)) := hD
  generalize H1 = H at hP hS ⊢
  refine W.widen (k := 28) (n := 3098) (Nat.le_of_ble_eq_true rfl) (Nat.le_of_ble_eq_true rfl) ?_
  refine lv_astore_n (lv' := [(2, .ref (g 0)), (1, .ref a), (0, .ref b)]) hx hb dL_law_15 rfl hl (by decide) rfl (fun ls hl => ?_)
  refine lv_iconst (v := nI 1) hx hb dL_law_16 (by decide) ?_
  refine va_newa (atype := .long) hx hb (hts (.arrayClass .long) (by decide +kernel)) (ty := .long) rfl hZ.1 hP hD hS hA (N' := 1) (a0 := (1, .inr (.inl (fun _ => (0 : Int64))))) (fun _ => rfl) (by decide) rfl (by decide) (show 28 + 1 ≤ 30 + 330 * K by omega) (show 3098 + 1 ≤ 3867 + 48240 * K by omega) dL_law_17 (fun u cA H hK1 hP hD hS => ?_)
  obtain rfl : cJ = cA := Option.some.inj (((hK1.2 2 (cJ, .long) rfl).2 : s.vm.findClass _ = some cJ).symm.trans ((hK1.2 3 (cA, .long) rfl).2 : s.vm.findClass _ = some cA))
  have hP : va_P D vwCl (pD cZ cI a u2.2.1 u2.2.2 u2.1 κ0 ωz ωz σ0 ++ pM cZ cI g 0 0 (some 0) (fun _ => false) ++ [(u, .inl (cJ, 1, .inr (.inl (fun _ => (0 : Int64)))))]) H := hP
  have hD : va_D (fun q : Nat => s.heap.size ≤ q) (pD cZ cI a u2.2.1 u2.2.2 u2.1 κ0 ωz ωz σ0 ++ pM cZ cI g 0 0 (some 0) (fun _ => false) ++ [(u, .inl (cJ, 1, .inr (.inl (fun _ => (0 : Int64)))))]) := hD
  refine W.widen (k := 29) (n := 3099) (Nat.le_of_ble_eq_true rfl) (Nat.le_of_ble_eq_true rfl) ?_
  refine lv_astore_n (lv' := [(3, .ref u), (2, .ref (g 0)), (1, .ref a), (0, .ref b)]) hx hb dL_law_19 rfl hl (by decide) rfl (fun ls hl => ?_)
  refine lv_iconst (v := nI 0) hx hb dL_law_20 (by decide) ?_
  refine lv_istore (lv' := [(4, .int (nI 0)), (3, .ref u), (2, .ref (g 0)), (1, .ref a), (0, .ref b)]) hx hb dL_law_21 hl (by decide) rfl (fun ls hl => ?_)
  obtain ⟨q, hq9⟩ : ∃ q : Nat → Nat, q = u2.1 := ⟨_, rfl⟩
  obtain ⟨o, ho9⟩ : ∃ q : Nat → Nat, q = u2.2.1 := ⟨_, rfl⟩
  obtain ⟨o', hp9⟩ : ∃ q : Nat → Nat, q = u2.2.2 := ⟨_, rfl⟩
  rw [← hq9, ← ho9, ← hp9] at hP hD
  have hP : va_P D vwCl (pD cZ cI a o o' q κ0 ωz ωz (σd 0) ++ pR cZ cI g 0 0 0 false false 0 0 0 (fun _ => false) (fun _ _ _ => some 0) ++ [(u, .inl (cJ, 1, .inr (.inl (fun _ => (0 : Int64)))))] ++ []) H := hP.sub [0, 1, 2, 3, 4, 5, 6, 7, 8, 9, 10, 11, 12, 13, 14, 15, 16, 17, 18, 19, 20, 21, 22, 23, 24, 25, 26, 27, 28] rfl
  have hD : va_D (fun q : Nat => s.heap.size ≤ q) (pD cZ cI a o o' q κ0 ωz ωz (σd 0) ++ pR cZ cI g 0 0 0 false false 0 0 0 (fun _ => false) (fun _ _ _ => some 0) ++ [(u, .inl (cJ, 1, .inr (.inl (fun _ => (0 : Int64)))))] ++ []) := hD.sub [0, 1, 2, 3, 4, 5, 6, 7, 8, 9, 10, 11, 12, 13, 14, 15, 16, 17, 18, 19, 20, 21, 22, 23, 24, 25, 26, 27, 28] (by decide) rfl
  refine lr_add0 C0 hZ K (by omega) (by omega) (i := 0) (by omega) (by omega) rfl rfl hP hD hS hl ?_
  intro ω1 hL1 f1 H1 locs1 ls1 hP1 hD1 hS1 hl1
  refine lr_add1 C0 hZ K (by omega) (by omega) (i := 5) (by omega) (by omega) rfl rfl hP1 hD1 hS1 hl1 ?_
  intro ω2 hL2 f2 H2 locs2 ls2 hP2 hD2 hS2 hl2
  refine lr_begin C0 hZ K (by omega) (by omega) (i := 10) (by omega) (by omega) rfl rfl rfl hL2 hP2 hD2 hS2 hl2 ?_
  intro T3 f3 H3 locs3 ls3 hP3 hD3 hS3 hl3
  exact lr_loop K hK C0 hZ hL2 K 0 (by omega) T3 f3 [] H3 locs3 ⟨rfl, fun q h => absurd h List.not_mem_nil⟩ hP3 hD3 hS3 ls3 hl3
