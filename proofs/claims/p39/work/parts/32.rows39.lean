/-! ===== p39: rows of rows, and the law's small helpers ===== -/
section R39
variable {p : Program} {l : Launch} {e : Env} {R : Room} {s : State} {m : MethodId} {args : Array Value} {below : List Frame} {meth : Method} {c : Code} {H : Heap} {locs : List Loc} {cells slots : Nat} {Q : State → Prop}
variable {cc : ByteArray} {pc : Nat} {ls : Array Slot} {rest : List Value} {D : va_G} {cl : List vw_C} {A : Nat → Prop} {a : Nat} {tys : List (ClassId × FieldType)} {ws : va_W} {H0 : Heap}
/-- the array classes int[][] and int[], as the machine knows them -/
def arr2 (cI cR : ClassId) (U : State) : Prop := ∃ kA kI : Class, U.vm.classes[cR]? = some kA ∧ kA.kind = .array cI (.array .int) ∧ U.vm.classes[cI]? = some kI
theorem arr2_of {args : Array Value} {s : State} {cI cR : ClassId} (h : (Cond.arrayOver (.array .int)).before args s = true) (hI : s.vm.findClass ("[" ++ FieldType.int.toString) = some cI) (hR : s.vm.findClass ("[" ++ (FieldType.array .int).toString) = some cR) : arr2 cI cR s := by
  obtain ⟨comp, c, k, h1, -, h2, h3, h4⟩ := arrayOverA_spec h
  have e1 : comp = cI := Option.some.inj (h1.symm.trans hI)
  have e2 : c = cR := Option.some.inj (h4.symm.trans hR)
  subst e1; subst e2
  obtain ⟨kI, hk, -⟩ := Vm.findClass_spec h1
  exact ⟨k, kI, h2, h3, hk⟩
theorem va_ldA (hexec : p.tables.exec = Jvm.exec) (hb : c.code = cc) (hK : va_K D cl tys s) (hP : va_P D cl ws H) (q0 t0 : Nat) {cA : ClassId} {n : Nat} {f : Nat → Option Nat} (ha : ws[q0]? = some (a, .inl (cA, n, .inr (.inr (.inr (.inr f)))))) (ht : tys[t0]? = some (cA, .array .int)) {r : Nat} (hr : r < n) (hn : n < 2 ^ 31) {v : Nat} (hv : f r = some v) (hdg : decode cc pc = .ok (.aaload, 1))
    (kk : W p l e R s m args below meth c H locs cells slots Q (F0 m (pc + 1) ls (.ref v :: rest))) : W p l e R s m args below meth c H locs cells slots Q (F0 m pc ls (.int (nI r) :: .ref a :: rest)) := by
  have hin : vp_in (nI r) n := nI_in hr hn
  have hcl : (nI r).toNatClampNeg = r := nI_clamp (Nat.lt_trans hr hn)
  exact W.aald (v := .ref v) (ty := .array .int) hexec hb (hP q0 _ ha) ((hK.2 t0 _ ht).1 n (fun j => va_rf (f j))) rfl (fun q => by cases q) (by show ¬ (nI r < 0 ∨ (arrV _ _ _).slots.size ≤ _); rw [arrV_size]; exact hin) (by show (arrV _ _ _).slots[_]? = _; rw [arrV_read _ _ (by rw [hcl]; exact hr), hcl, hv]; rfl) rfl rfl hdg kk
theorem va_stA (hexec : p.tables.exec = Jvm.exec) (hb : c.code = cc) (hK : va_K D cl tys s) (hP : va_P D cl ws H) (hD : va_D A ws) (hS : va_S A H0 H locs) (q0 t0 qk : Nat) {cR cI : ClassId} {n v nn : Nat} {f : Nat → Option Nat} {g : Nat → Int32} (ha : ws[q0]? = some (a, .inl (cR, n, .inr (.inr (.inr (.inr f)))))) (ht : tys[t0]? = some (cR, .array .int)) (h2 : arr2 cI cR s) (hv : ws[qk]? = some (v, .inl (cI, nn, .inl g))) {r : Nat} (hr : r < n) (hn : n < 2 ^ 31) (hdg : decode cc pc = .ok (.aastore, 1))
    (kk : ∀ (H1 : Heap) (locs1 : List Loc), va_P D cl (ws.set q0 (a, .inl (cR, n, .inr (.inr (.inr (.inr (va_up f r (some v)))))))) H1 → va_D A (ws.set q0 (a, .inl (cR, n, .inr (.inr (.inr (.inr (va_up f r (some v)))))))) → va_S A H0 H1 locs1 → W p l e R s m args below meth c H1 locs1 cells slots Q (F0 m (pc + 1) ls rest)) : W p l e R s m args below meth c H locs cells slots Q (F0 m pc ls (.ref v :: .int (nI r) :: .ref a :: rest)) := by
  have hin : vp_in (nI r) n := nI_in hr hn
  have hcl : (nI r).toNatClampNeg = r := nI_clamp (Nat.lt_trans hr hn)
  have h0 : ¬ nI r < 0 := fun q => hin (Or.inl q)
  obtain ⟨kA, kI, k1, k2, k3⟩ := h2
  refine W.aast hexec hb (hP q0 _ ha) (fun q h => by cases h) (fun h => by cases h) k1 k2 rfl k3 ⟨h0, by show _ < (arrV _ _ _).slots.size; rw [arrV_size, hcl]; exact hr⟩ (hP qk _ hv) (fun q h => by cases h) k3 (va_asg _ _) rfl rfl hdg fun H1 e z oq => ?_
  refine kk H1 _ (hP.set hD ha ?_ oq) (hD.set ha) (hS.put z oq (hD.2 q0 _ ha))
  show H1[a]? = some (vp_cell _ _)
  rw [e]
  rw [vp_cell_q, vp_cell_q, arrV_store, hcl]
  congr 2
  funext q
  by_cases hq : q = r
  · subst hq
    simp [updV, va_up, va_rf]
  · simp [updV, va_up, hq]
theorem va_newA (hexec : p.tables.exec = Jvm.exec) (hb : c.code = cc) {own : String} {index : Nat} (hown : s.vm.findClass own = some m.cls) (hclink : (Cond.classLink own index "[I").before args s = true) (hover : (Cond.arrayOver (.array .int)).before args s = true) {cR : ClassId} (hR : s.vm.findClass ("[" ++ (FieldType.array .int).toString) = some cR) (hP : va_P D cl ws H) (hD : va_D A ws) (hS : va_S A H0 H locs) (hA : ∀ q, H0.size ≤ q → A q)
    {N' : Nat} (hn : N' < 2 ^ 27) (hcells : cells + 1 ≤ R.cells) (hslots : slots + N' ≤ R.slots) (hdg : decode cc pc = .ok (.anewarray index, 3))
    (kk : ∀ (q : Nat) (H1 : Heap), va_P D cl (ws ++ [(q, .inl (cR, N', .inr (.inr (.inr (.inr (fun _ => none))))))]) H1 → va_D A (ws ++ [(q, .inl (cR, N', .inr (.inr (.inr (.inr (fun _ => none))))))]) → va_S A H0 H1 locs →
      W p l e R s m args below meth c H1 locs (cells + 1) (slots + N') Q (F0 m (pc + 3) ls (.ref q :: rest))) : W p l e R s m args below meth c H locs cells slots Q (F0 m pc ls (.int (nI N') :: rest)) := by
  have hN : (nI N').toNatClampNeg = N' := nI_clamp (by omega)
  have h0 : ¬ nI N' < 0 := fun q => (nI_in (show N' < N' + 1 by omega) (by omega)) (Or.inl q)
  refine W.anewA (t := .int) hexec hb hown hclink hover rfl hdg rfl h0 (by rw [hN]; omega) hcells (by rw [hN]; exact hslots) fun cA kA comp f1 f2 f3 f4 => ?_
  rw [hN]
  have ec : cA = cR := Option.some.inj (f1.symm.trans hR)
  subst ec
  generalize hH1 : H.push ({ cls := cA, slots := Array.replicate N' .null, vm := .none } : Cell) = H1
  have z1 : H1.size = H.size + 1 := by rw [← hH1, Array.size_push]
  have e1 : H1[H.size]? = some (arrV cA N' (fun _ => .null)) := by rw [← hH1, Array.getElem?_push_size, ← arrV_new]
  have o1 : ∀ q : Nat, q < H.size → H1[q]? = H[q]? := fun q hq => by rw [← hH1, Array.getElem?_push, if_neg (Nat.ne_of_lt hq)]
  have hk : ∀ (k : Nat) (x : Nat × va_E), ws[k]? = some x → H1[x.1]? = H[x.1]? := fun k x hx => o1 x.1 ((hP k x hx).lt)
  refine kk H.size H1 ((hP.kept hk).app (fun k x hx => ?_)) (hD.push hP rfl (hA _ hS.1)) ⟨Nat.le_trans hS.1 (by omega), fun x h1 h2 => (o1 x (Nat.lt_of_lt_of_le h1 hS.1)).trans (hS.2.1 x h1 h2), hS.2.2⟩
  have hz : k < 1 := (List.getElem?_eq_some_iff.mp hx).1
  rw [show k = 0 by omega] at hx
  cases hx
  show H1[H.size]? = some (vp_cell _ _)
  rw [vp_cell_q]
  exact e1
theorem va_cpA {cc : ByteArray} (hexec : p.tables.exec = Jvm.exec) (hb : c.code = cc) (hml : c.maxLocals = ls.size) {own : String} {index : Nat} (hown : s.vm.findClass own = some m.cls) (hlink : (Cond.methodLink own index arraycopyName).before args s = true) (hnat : (Cond.native arraycopyName).before args s = true) (hstat : (Cond.static arraycopyName).before args s = true) (hini : (Cond.initialized "java/lang/System").before args s = true)
    (hK : va_K D cl tys s) (hP : va_P D cl ws H) (hD : va_D A ws) (hS : va_S A H0 H locs) (q0 q1 t0 : Nat) {a0 : Nat} {cR cI : ClassId} {n0 n1 : Nat} {f g : Nat → Option Nat} (ha0 : ws[q0]? = some (a0, .inl (cR, n0, .inr (.inr (.inr (.inr f)))))) (ha1 : ws[q1]? = some (a, .inl (cR, n1, .inr (.inr (.inr (.inr g)))))) (ht0 : tys[t0]? = some (cR, .array .int)) (h2c : arr2 cI cR s)
    {N : Nat} (hN31 : N < 2 ^ 30) (h4 : N ≤ n0) (h5 : N ≤ n1) (hel : ∀ i : Nat, i < N → ∀ y : Nat, f i = some y → ∃ (k nn : Nat) (g : Nat → Int32), ws[k]? = some (y, .inl (cI, nn, .inl g)))
    (hframes : 1 ≤ R.frames) (hlocals : (rest.map fun v => v.category).sum + (nativeFrameWords "java/lang/System" "arraycopy" 5 + 11) ≤ R.locals) (hdg : decode cc pc = .ok (.invokestatic index, 3))
    (kk : ∀ (H1 : Heap) (locs1 : List Loc), va_P D cl (ws.set q1 (a, .inl (cR, n1, .inr (.inr (.inr (.inr (va_cpy f g 0 0 N))))))) H1 → va_D A (ws.set q1 (a, .inl (cR, n1, .inr (.inr (.inr (.inr (va_cpy f g 0 0 N))))))) → va_S A H0 H1 locs1 → W p l e R s m args below meth c H1 locs1 cells slots Q (F0 m (pc + 3) ls rest)) : W p l e R s m args below meth c H locs cells slots Q (F0 m pc ls (.int (nI N) :: .int (nI 0) :: .ref a :: .int (nI 0) :: .ref a0 :: rest)) := by
  have nn : ∀ z : Int32, ¬ z < 0 → z.toInt = (z.toNatClampNeg : Int) := by
    intro z hz
    have hz0 : (0 : Int) ≤ z.toInt := by
      have := Int32.not_lt.mp hz
      simpa using Int32.le_iff_toInt_le.mp this
    show z.toInt = ((z.toInt.toNat : Nat) : Int)
    omega
  have e0 : (nI 0).toNatClampNeg = 0 := rfl
  have eN : (nI N).toNatClampNeg = N := nI_clamp (by omega)
  have z0 : ¬ nI 0 < 0 := by decide
  have zN9 : ¬ nI N < 0 := fun q => (nI_in (show N < N + 1 by omega) (by omega)) (Or.inl q)
  intro T hT X
  have hc0 : H[a0]? = some (vp_cell cR (n0, .inr (.inr (.inr (.inr f))))) := hP q0 _ ha0
  have hc1 : H[a]? = some (vp_cell cR (n1, .inr (.inr (.inr (.inr g))))) := hP q1 _ ha1
  obtain ⟨-, k0, hk0, cm0, hkk0⟩ := (hK.2 t0 _ ht0).1 n0 (fun j => va_rf (f j))
  obtain ⟨-, k1, hk1, cm1, hkk1⟩ := (hK.2 t0 _ ht0).1 n1 (fun j => va_rf (g j))
  obtain ⟨vm', X', step⟩ := X.arraycopy hexec hown hlink hnat hstat hini (src := a0) (dst := a) (cs := vp_cell cR (n0, .inr (.inr (.inr (.inr f))))) (cd := vp_cell cR (n1, .inr (.inr (.inr (.inr g))))) (srcPos := nI 0) (destPos := nI 0) (n := nI N) (by rw [hT]; exact hc0) (by rw [hT]; exact hc1)
    (fun _ h => by cases h) (fun _ h => by cases h) (fun h => by cases h) (fun h => by cases h) hk0 hk1 hkk0 hkk1 rfl z0 z0 zN9
    (by rw [nn _ z0, nn _ zN9, e0, eN]; show ¬ _ > ((arrV cR n0 (fun j => va_rf (f j))).slots.size : Int); rw [arrV_size]; omega)
    (by rw [nn _ z0, nn _ zN9, e0, eN]; show ¬ _ > ((arrV cR n1 (fun j => va_rf (g j))).slots.size : Int); rw [arrV_size]; omega)
    (fun vm₁ hal i hi => by
      rw [eN] at hi
      rw [e0]
      have e : (vp_cell cR (n0, .inr (.inr (.inr (.inr f))))).slots.getD (0 + i) .null = va_rf (f i) := by
        show (arrV cR n0 (fun j => va_rf (f j))).slots.getD _ _ = _
        rw [Nat.zero_add, Array.getD_eq_getD_getElem?, arrV_read _ _ (by omega)]
        rfl
      rw [e]
      cases hy : f i with
      | none => exact ⟨rfl, trivial⟩
      | some y =>
        obtain ⟨k9, nn9, g9, hw9⟩ := hel i hi y hy
        have g1 : H[y]? = some (vp_cell cI (nn9, .inl g9)) := hP k9 _ hw9
        obtain ⟨kA, kI, r1, r2, r3⟩ := h2c
        cases hk1.symm.trans r1
        cases hkk1.symm.trans r2
        obtain ⟨kC', hkC', -⟩ := hal.2.2 _ _ r3
        refine ⟨rfl, vp_cell cI (nn9, .inl g9), (show T.heap[y]? = some _ by rw [hT]; exact g1), (fun q h => by cases h), ⟨kC', hkC'⟩, ?_, ?_⟩
        · exact ⟨kC', hkC'⟩
        · exact va_asg _ _)
    (g := F0 m pc ls (.int (nI N) :: .int (nI 0) :: .ref a :: .int (nI 0) :: .ref a0 :: rest)) rfl (by rw [hml]) (rest := rest) rfl (by rw [hb]; exact hdg) hframes (by show 2 * 0 + _ + _ ≤ _; omega)
  have e1 : copied (vp_cell cR (n0, .inr (.inr (.inr (.inr f))))) (vp_cell cR (n1, .inr (.inr (.inr (.inr g))))) (nI 0) (nI 0) (nI N) = vp_cell cR (n1, .inr (.inr (.inr (.inr (va_cpy f g 0 0 N))))) := by
    rw [vp_cell_q, vp_cell_q, vp_cell_q]
    rw [show va_cpy f g 0 0 N = va_cpy f g (nI 0).toNatClampNeg (nI 0).toNatClampNeg (nI N).toNatClampNeg by rw [e0, eN]]
    exact va_copied (fun z => va_rf z) cR cR f g (by rw [e0, eN]; omega)
  rw [e1] at X' step
  have hl : a < H.size := (Array.getElem?_eq_some_iff.mp hc1).1
  have hheap : ((T.setVm vm').setCell a (vp_cell cR (n1, .inr (.inr (.inr (.inr (va_cpy f g 0 0 N))))))).heap = H.setIfInBounds a (vp_cell cR (n1, .inr (.inr (.inr (.inr (va_cpy f g 0 0 N)))))) := by rw [← hT]; rfl
  have oq : ∀ q : Nat, q ≠ a → (H.setIfInBounds a (vp_cell cR (n1, .inr (.inr (.inr (.inr (va_cpy f g 0 0 N)))))))[q]? = H[q]? := fun q hq => by simp [Array.getElem?_setIfInBounds, Ne.symm hq]
  obtain ⟨t, a1, b1⟩ := kk _ _ (hP.set hD ha1 (show (H.setIfInBounds a _)[a]? = some _ by simp [Array.getElem?_setIfInBounds, hl]) oq) (hD.set ha1) ⟨by simp; exact hS.1, fun q g1 g2 => by
      rw [oq q (fun e => g2 (by rw [e]; exact hD.2 q1 _ ha1))]
      exact hS.2.1 q g1 g2, fun q hq => by
      rcases List.mem_append.mp hq with h | h
      · exact hS.2.2 q h
      · obtain ⟨z, -, hz⟩ := List.mem_map.mp h
        rw [← hz]
        exact hD.2 q1 _ ha1⟩ _ hheap X'
  exact ⟨t, step t a1, b1⟩
end R39
/-- a start with the array class of rows -/
def zKR (D : va_G) (cZ cI cR : ClassId) (U : State) : Prop := va_K D vwCl [(cZ, .boolean), (cI, .int), (cR, .array .int)] U ∧ nst U ∧ va_Nw (.arrayOver (.array .int)) U
theorem zKR.call {D : va_G} {cZ cI cR : ClassId} {U : State} {g : JFrame} {mk : MethodId} {a : Array Value} (h : zKR D cZ cI cR U) : zKR D cZ cI cR (U.calling g mk a) := ⟨va_K.moved (u := U) (U := U.calling g mk a) (Vm.Alike.refl U.vm) h.1, h.2.1.same (U := U.calling g mk a) rfl, over_moved (u := U) (E := U.calling g mk a) (Vm.Alike.refl U.vm) h.2.2⟩
theorem zKR.warm {D : va_G} {cZ cI cR : ClassId} {s U : State} (hW : s.WarmedH U.vm) (h : zKR D cZ cI cR s) : zKR D cZ cI cR U := ⟨va_K.moved hW.alike h.1, h.2.1.warm hW, over_moved hW.alike h.2.2⟩
theorem zKR.two {D : va_G} {cZ cI cR : ClassId} {U : State} (h : zKR D cZ cI cR U) : zK D cZ cI U := ⟨h.1.sub [0, 1] rfl, h.2.1⟩
theorem zKR.over {D : va_G} {cZ cI cR : ClassId} {U : State} {args : Array Value} (h : zKR D cZ cI cR U) : (Cond.arrayOver (.array .int)).before args U = true := over_moved (Vm.Alike.refl U.vm) h.2.2
theorem zKR.arr {D : va_G} {cZ cI cR : ClassId} {U : State} (h : zKR D cZ cI cR U) : arr2 cI cR U := arr2_of (args := #[]) h.2.2 ((h.1.2 1 (cI, .int) rfl).2 : U.vm.findClass _ = some cI) ((h.1.2 2 (cR, .array .int) rfl).2 : U.vm.findClass _ = some cR)
theorem zKR.nm {D : va_G} {cZ cI cR : ClassId} {U : State} (h : zKR D cZ cI cR U) : U.vm.findClass ("[" ++ (FieldType.array .int).toString) = some cR := (h.1.2 2 (cR, .array .int) rfl).2
/-- below(v, n) -/
def belF (v : Int32) (N : Nat) : Nat := v.toBitVec.toNat % 2 ^ 31 % N
theorem belF_lt (v : Int32) {N : Nat} (h : 0 < N) : belF v N < N := Nat.mod_lt _ h
set_option maxHeartbeats 4000000 in
set_option maxRecDepth 100000 in
theorem c_L_below (l : Launch) (D : va_G) (cZ cI : ClassId) (v : Int32) (N : Nat) (h0 : 0 < N) (hN : N < 2 ^ 31) : Met l yL_below wsL_below ({ frames := 0, cells := 0, slots := 0, locals := 0 }) (RdP D cZ cI [.int v, .int (nI N)] ([])) (vp_Si (fun r0 => r0 = nI (belF v N))) 0 0 (fun _ => False) := by
  refine Met.ofW (cc := cL_below) (maxL := 2) (ret := (some .int)) (by decide) rfl ?_
  intro p e s m args below meth c s₁ B hml hv
  obtain ⟨rfl, hP, hZ⟩ := hv
  have hx := B.exec
  have hb := B.bytes
  have hr := B.returns
  have hts := atoms_spec (ws := wsL_below) B.pre
  have hown : s.vm.findClass RL = some m.cls := findClass_of_methodNamed B.named
  have hl := lv_entry ([.int v, .int (nI N)]) (n := 2) (Nat.le_of_ble_eq_true rfl)
  rw [lg_entry_eq]
  generalize (lg_sl ([.int v, .int (nI N)]) ++ List.replicate (2 - (lg_sl ([.int v, .int (nI N)])).length) Slot.unset).toArray = ls at hl ⊢
  have hl : lv_has ls 2 [(0, .int v), (1, .int (nI N))] := hl
  refine lv_iload_n hx hb dL_below_0 rfl (lv_at hl 0 rfl) ?_
  refine lv_ldc (v := 2147483647) hx hb hown (hts (.constant RL 7 2147483647) (by decide +kernel)) dL_below_1 ?_
  refine lv_iand hx hb dL_below_3 ?_
  refine rv_top (pk_and v (m := 2147483647) 31 (by decide)) ?_
  refine lv_iload_n hx hb dL_below_4 rfl (lv_at hl 1 rfl) ?_
  refine rv_rem hx hb (Nat.mod_lt _ (by decide)) hN h0 dL_below_5 ?_
  exact W.iret (v := nI (belF v N)) hx hb hr (fun t ht hW => ⟨_, rfl, rfl, ht⟩) (fun q h => absurd h List.not_mem_nil) dL_below_6
/-- cell(s, k): the script's word, or one made of k -/
def celF (xs : Nat → Int32) (L k : Nat) : Int32 := if k < L then xs k else 790386105 * nI (k + 3)
def ScP (b L : Nat) (xs : Nat → Int32) (av : List Value) : Array Value → State → Prop := va_Pc av (fun U => va_X b L xs U U.heap)
theorem ScP_blind {b L : Nat} {xs : Nat → Int32} {av : List Value} : FrameBlind (ScP b L xs av) := by
  intro a U g mk h
  obtain ⟨h1, h2⟩ := h
  exact ⟨h1, h2.moved (u := U) (U := U.calling g mk a) (Vm.Alike.refl U.vm)⟩
theorem ScP_start {b L : Nat} {xs : Nat → Int32} {av : List Value} {s : State} {H : Heap} (h : va_X b L xs s H) : ∀ U : State, U.heap = H → s.WarmedH U.vm → ScP b L xs av av.toArray U := by
  intro U hU hW
  refine ⟨rfl, ?_⟩
  show va_X b L xs U U.heap
  rw [hU]
  exact h.moved hW.alike
set_option maxHeartbeats 4000000 in
set_option maxRecDepth 100000 in
theorem c_L_cell (l : Launch) (b L : Nat) (xs : Nat → Int32) (k : Nat) (hk : k < 2 ^ 31) (hL : L < 2 ^ 31) : Met l yL_cell wsL_cell ({ frames := 0, cells := 0, slots := 0, locals := 0 }) (ScP b L xs [.ref b, .int (nI k)]) (vp_Si (fun r0 => r0 = celF xs L k)) 0 0 (fun _ => False) := by
  refine Met.ofW (cc := cL_cell) (maxL := 2) (ret := (some .int)) (by decide) rfl ?_
  intro p e s m args below meth c s₁ B hml hv
  obtain ⟨rfl, hX⟩ := hv
  have hx := B.exec
  have hb := B.bytes
  have hr := B.returns
  have hts := atoms_spec (ws := wsL_cell) B.pre
  have hown : s.vm.findClass RL = some m.cls := findClass_of_methodNamed B.named
  have hbl : b < s.heap.size := by obtain ⟨scr, h1, -⟩ := hX; exact (Array.getElem?_eq_some_iff.mp h1).1
  have hS : va_S (fun _ => False) s.heap s.heap [] := va_S.rf
  have hl := lv_entry ([.ref b, .int (nI k)]) (n := 2) (Nat.le_of_ble_eq_true rfl)
  rw [lg_entry_eq]
  generalize (lg_sl ([.ref b, .int (nI k)]) ++ List.replicate (2 - (lg_sl ([.ref b, .int (nI k)])).length) Slot.unset).toArray = ls at hl ⊢
  have hl : lv_has ls 2 [(0, .ref b), (1, .int (nI k))] := hl
  refine lv_iload_n hx hb dL_cell_0 rfl (lv_at hl 1 rfl) ?_
  refine lv_aload_n hx hb dL_cell_1 rfl (lv_at hl 0 rfl) ?_
  refine va_slen hx hb hX hbl id hS dL_cell_2 ?_
  refine rv_ge (tgt := 12) (x := k) (y := L) hx hb hk hL dL_cell_3 (by decide) (fun h => ?_) (fun h => ?_)
  · refine lv_ldc (v := 790386105) hx hb hown (hts (.constant RL 8 790386105) (by decide +kernel)) dL_cell_12 ?_
    refine lv_iload_n hx hb dL_cell_14 rfl (lv_at hl 1 rfl) ?_
    refine lv_iconst (v := nI 3) hx hb dL_cell_15 (by decide) ?_
    refine rv_add hx hb dL_cell_16 ?_
    refine lv_imul hx hb dL_cell_17 ?_
    exact W.iret (v := 790386105 * nI (k + 3)) hx hb hr (fun t ht hW => ⟨_, rfl, by unfold celF; rw [if_neg h], ht⟩) (fun q h => absurd h List.not_mem_nil) dL_cell_18
  · have h' : k < L := by first | exact h | exact Decidable.byContradiction h
    refine lv_aload_n hx hb dL_cell_6 rfl (lv_at hl 0 rfl) ?_
    refine lv_iload_n hx hb dL_cell_7 rfl (lv_at hl 1 rfl) ?_
    refine va_sld hx hb hX hbl id hS (nI_in h' hL) dL_cell_8 ?_
    refine rv_top (show xs (nI k).toNatClampNeg = xs k by rw [nI_clamp hk]) ?_
    refine lv_goto (tgt := 18) hx hb dL_cell_9 (by decide) ?_
    exact W.iret (v := xs k) hx hb hr (fun t ht hW => ⟨_, rfl, by unfold celF; rw [if_pos h'], ht⟩) (fun q h => absurd h List.not_mem_nil) dL_cell_18
