/-! ===== my own rows over numbers that are known ===== -/
abbrev HS : Type := Nat × Nat × (Nat → Bool) × (Nat → Nat) × (Nat → Nat) × (Nat → Nat) × (Nat → Nat) × (Nat → Nat) × (Nat → Bool)
abbrev zN (σ : HS) : Nat := σ.1
abbrev zM (σ : HS) : Nat := σ.2.1
abbrev zS (σ : HS) : Nat → Bool := σ.2.2.1
abbrev zC (σ : HS) : Nat → Nat := σ.2.2.2.1
abbrev zF (σ : HS) : Nat → Nat := σ.2.2.2.2.1
abbrev zG (σ : HS) : Nat → Nat := σ.2.2.2.2.2.1
abbrev zP (σ : HS) : Nat → Nat := σ.2.2.2.2.2.2.1
abbrev zT (σ : HS) : Nat → Nat := σ.2.2.2.2.2.2.2.1
abbrev zL (σ : HS) : Nat → Bool := σ.2.2.2.2.2.2.2.2
/-- the house is as its face keeps it -/
def zOk (σ : HS) : Prop := zN σ ≤ 8 ∧ zM σ ≤ 14 ∧ (∀ d, zF σ d < 8) ∧ (∀ d, zG σ d < 8) ∧ (∀ d, zP σ d ≤ 4) ∧ (∀ d, zT σ d < 4) ∧ (∀ r, zC σ r ≤ 9)
abbrev OS : Type := (Nat → Nat → Nat → Bool) × (Nat → Nat → Nat → Bool) × (Nat → Nat → Nat → Bool) × (Nat → Nat → Nat → Option Nat)
abbrev oW (ω : OS) : Nat → Nat → Nat → Bool := ω.1
abbrev oU (ω : OS) : Nat → Nat → Nat → Bool := ω.2.1
abbrev oB (ω : OS) : Nat → Nat → Nat → Bool := ω.2.2.1
abbrev oT (ω : OS) : Nat → Nat → Nat → Option Nat := ω.2.2.2
def encB (f : Nat → Bool) : Nat → Int32 := fun k => bI (f k)
def encN (f : Nat → Nat) : Nat → Int32 := fun k => nI (f k)
def encW (f : Nat → Nat → Nat → Bool) : Nat → Int32 := fun k => sb (f (k / 8) (k % 8))
def encT (f : Nat → Nat → Nat → Option Nat) : Nat → Int32 := fun k => iO (f (k / 64) (k / 8 % 8) (k % 8))
def up3 {α : Type} (f : Nat → Nat → α) (p r : Nat) (v : α) : Nat → Nat → α := fun p' r' => if p' = p ∧ r' = r then v else f p' r'
def up4 {α : Type} (f : Nat → Nat → Nat → α) (p r m : Nat) (v : α) : Nat → Nat → Nat → α := fun p' r' m' => if p' = p ∧ r' = r ∧ m' = m then v else f p' r' m'
theorem encW_at (f : Nat → Nat → Nat → Bool) (p : Nat) {r : Nat} (h : r < 8) : encW f (p * 8 + r) = sb (f p r) := by
  show sb (f ((p * 8 + r) / 8) ((p * 8 + r) % 8)) = _
  rw [show (p * 8 + r) / 8 = p by omega, show (p * 8 + r) % 8 = r by omega]
theorem encT_at (f : Nat → Nat → Nat → Option Nat) (p : Nat) {r m : Nat} (h : r < 8) (hm : m < 8) : encT f ((p * 8 + r) * 8 + m) = iO (f p r m) := by
  show iO (f (((p * 8 + r) * 8 + m) / 64) (((p * 8 + r) * 8 + m) / 8 % 8) (((p * 8 + r) * 8 + m) % 8)) = _
  rw [show ((p * 8 + r) * 8 + m) / 64 = p by omega, show ((p * 8 + r) * 8 + m) / 8 % 8 = r by omega, show ((p * 8 + r) * 8 + m) % 8 = m by omega]
theorem encB_up (f : Nat → Bool) (i : Nat) (v : Bool) : upd (encB f) i (bI v) = encB (va_up f i v) := by
  funext j
  by_cases h : j = i <;> simp [upd, encB, va_up, h]
theorem encN_up (f : Nat → Nat) (i : Nat) (v : Nat) : upd (encN f) i (nI v) = encN (va_up f i v) := by
  funext j
  by_cases h : j = i <;> simp [upd, encN, va_up, h]
theorem encW_up (f : Nat → Nat → Nat → Bool) (p : Nat) {r : Nat} (h : r < 8) (P : Nat → Bool) : upd (encW f) (p * 8 + r) (sb P) = encW (up3 f p r P) := by
  funext j
  by_cases hj : j = p * 8 + r
  · subst hj
    rw [encW_at _ _ h]
    simp [upd, up3]
  · have h1 : ¬ (j / 8 = p ∧ j % 8 = r) := by omega
    simp [upd, encW, up3, hj, h1]
theorem encT_up (f : Nat → Nat → Nat → Option Nat) (p : Nat) {r m : Nat} (h : r < 8) (hm : m < 8) (o : Option Nat) : upd (encT f) ((p * 8 + r) * 8 + m) (iO o) = encT (up4 f p r m o) := by
  funext j
  by_cases hj : j = (p * 8 + r) * 8 + m
  · subst hj
    rw [encT_at _ _ h hm]
    simp [upd, up4]
  · have h1 : ¬ (j / 64 = p ∧ j / 8 % 8 = r ∧ j % 8 = m) := by omega
    simp [upd, encT, up4, hj, h1]
/-- the house's eight cells -/
abbrev pH (cZ cI : ClassId) (q : Nat → Nat) (σ : HS) : va_W := [(q 0, .inr (0, [.int (nI (zN σ)), .ref (q 1), .ref (q 2), .int (nI (zM σ)), .ref (q 3), .ref (q 4), .ref (q 5), .ref (q 6), .ref (q 7)])), (q 1, .inl (cZ, 8, .inl (encB (zS σ)))), (q 2, .inl (cI, 8, .inl (encN (zC σ)))), (q 3, .inl (cI, 14, .inl (encN (zF σ)))), (q 4, .inl (cI, 14, .inl (encN (zG σ)))), (q 5, .inl (cI, 14, .inl (encN (zP σ)))), (q 6, .inl (cI, 14, .inl (encN (zT σ)))), (q 7, .inl (cZ, 14, .inl (encB (zL σ))))]
/-- an outlook's five cells, then the house's eight -/
abbrev pO (cZ cI : ClassId) (o q : Nat → Nat) (ω : OS) (σ : HS) : va_W := [(o 0, .inr (1, [.ref (o 1), .ref (o 2), .ref (o 3), .ref (o 4)])), (o 1, .inl (cI, 96, .inl (encW (oW ω)))), (o 2, .inl (cI, 96, .inl (encW (oU ω)))), (o 3, .inl (cI, 96, .inl (encW (oB ω)))), (o 4, .inl (cI, 768, .inl (encT (oT ω)))), (q 0, .inr (0, [.int (nI (zN σ)), .ref (q 1), .ref (q 2), .int (nI (zM σ)), .ref (q 3), .ref (q 4), .ref (q 5), .ref (q 6), .ref (q 7)])), (q 1, .inl (cZ, 8, .inl (encB (zS σ)))), (q 2, .inl (cI, 8, .inl (encN (zC σ)))), (q 3, .inl (cI, 14, .inl (encN (zF σ)))), (q 4, .inl (cI, 14, .inl (encN (zG σ)))), (q 5, .inl (cI, 14, .inl (encN (zP σ)))), (q 6, .inl (cI, 14, .inl (encN (zT σ)))), (q 7, .inl (cZ, 14, .inl (encB (zL σ))))]
/-- the chase's own numbers: now, isGoingOn, wasCaught, cat, mouse, cheeseEaten -/
abbrev CS : Type := Nat × Bool × Bool × Option Nat × Option Nat × Nat
abbrev kn (κ : CS) : Nat := κ.1
abbrev ko (κ : CS) : Bool := κ.2.1
abbrev kg (κ : CS) : Bool := κ.2.2.1
abbrev kc (κ : CS) : Option Nat := κ.2.2.2.1
abbrev km (κ : CS) : Option Nat := κ.2.2.2.2.1
abbrev ke (κ : CS) : Nat := κ.2.2.2.2.2
/-- the whole object: itself, the outlook, the outlook if locked, the house -/
abbrev pD (cZ cI : ClassId) (a : Nat) (o o' q : Nat → Nat) (κ : CS) (ω ω' : OS) (σ : HS) : va_W := [(a, .inr (2, [.ref (q 0), .ref (o 0), .ref (o' 0), .int (nI (kn κ)), .int (bI (ko κ)), .int (bI (kg κ)), .int (iO (kc κ)), .int (iO (km κ)), .int (nI (ke κ))])), (o 0, .inr (1, [.ref (o 1), .ref (o 2), .ref (o 3), .ref (o 4)])), (o 1, .inl (cI, 96, .inl (encW (oW ω)))), (o 2, .inl (cI, 96, .inl (encW (oU ω)))), (o 3, .inl (cI, 96, .inl (encW (oB ω)))), (o 4, .inl (cI, 768, .inl (encT (oT ω)))), (o' 0, .inr (1, [.ref (o' 1), .ref (o' 2), .ref (o' 3), .ref (o' 4)])), (o' 1, .inl (cI, 96, .inl (encW (oW ω')))), (o' 2, .inl (cI, 96, .inl (encW (oU ω')))), (o' 3, .inl (cI, 96, .inl (encW (oB ω')))), (o' 4, .inl (cI, 768, .inl (encT (oT ω')))), (q 0, .inr (0, [.int (nI (zN σ)), .ref (q 1), .ref (q 2), .int (nI (zM σ)), .ref (q 3), .ref (q 4), .ref (q 5), .ref (q 6), .ref (q 7)])), (q 1, .inl (cZ, 8, .inl (encB (zS σ)))), (q 2, .inl (cI, 8, .inl (encN (zC σ)))), (q 3, .inl (cI, 14, .inl (encN (zF σ)))), (q 4, .inl (cI, 14, .inl (encN (zG σ)))), (q 5, .inl (cI, 14, .inl (encN (zP σ)))), (q 6, .inl (cI, 14, .inl (encN (zT σ)))), (q 7, .inl (cZ, 14, .inl (encB (zL σ))))]
/-! ===== what the tables say of private methods of a nest mate; the classes ===== -/
def nst (U : State) : Prop := va_Nw (.methodLinkNest RX0 41 yX2_bit RX2) U ∧ va_Nw (.methodLinkNest RX0 45 yX2_holds RX2) U ∧ va_Nw (.methodLinkNest RX1 28 yX2_holds RX2) U ∧ va_Nw (.methodLinkNest RX1 50 yX2_bit RX2) U ∧ va_Nw (.methodLinkNest RX1 73 yX2_isCatsPhase RX2) U ∧ va_Nw (.methodLinkNest RX2 9 yX0_init RX2) U ∧ va_Nw (.methodLinkNest RX2 18 yX1_init RX2) U
theorem nst.same {u U : State} (h : u.vm = U.vm) (z : nst u) : nst U := ⟨z.1.same rfl h, z.2.1.same rfl h, z.2.2.1.same rfl h, z.2.2.2.1.same rfl h, z.2.2.2.2.1.same rfl h, z.2.2.2.2.2.1.same rfl h, z.2.2.2.2.2.2.same rfl h⟩
theorem nst.warm {s U : State} (hW : s.WarmedH U.vm) (z : nst s) : nst U := ⟨va_Nw.warmM hW z.1, va_Nw.warmM hW z.2.1, va_Nw.warmM hW z.2.2.1, va_Nw.warmM hW z.2.2.2.1, va_Nw.warmM hW z.2.2.2.2.1, va_Nw.warmM hW z.2.2.2.2.2.1, va_Nw.warmM hW z.2.2.2.2.2.2⟩
def zK (D : va_G) (cZ cI : ClassId) (U : State) : Prop := va_K D vwCl [(cZ, .boolean), (cI, .int)] U ∧ nst U
theorem zK.call {D : va_G} {cZ cI : ClassId} {U : State} {g : JFrame} {mk : MethodId} {a : Array Value} (h : zK D cZ cI U) : zK D cZ cI (U.calling g mk a) := ⟨va_K.moved (u := U) (U := U.calling g mk a) (Vm.Alike.refl U.vm) h.1, h.2.same (U := U.calling g mk a) rfl⟩
theorem zK.warm {D : va_G} {cZ cI : ClassId} {s U : State} (hW : s.WarmedH U.vm) (h : zK D cZ cI s) : zK D cZ cI U := ⟨va_K.moved hW.alike h.1, h.2.warm hW⟩
/-- a reader's start: the world, the tables -/
def RdP (D : va_G) (cZ cI : ClassId) (av : List Value) (ws : va_W) : Array Value → State → Prop := va_Pc av (fun U => va_P D vwCl ws U.heap ∧ zK D cZ cI U)
theorem RdP_blind {D : va_G} {cZ cI : ClassId} {av : List Value} {ws : va_W} : FrameBlind (RdP D cZ cI av ws) := by
  intro a U g mk h
  obtain ⟨h1, h2, h3⟩ := h
  exact ⟨h1, h2, h3.call⟩
theorem RdP_start {D : va_G} {cZ cI : ClassId} {av : List Value} {ws : va_W} {s : State} {H : Heap} (hP : va_P D vwCl ws H) (hZ : zK D cZ cI s) : ∀ U : State, U.heap = H → s.WarmedH U.vm → RdP D cZ cI av ws av.toArray U := by
  intro U hU hW
  exact ⟨rfl, by rw [hU]; exact hP, hZ.warm hW⟩
/-- a writer's start -/
def WrP (D : va_G) (cZ cI : ClassId) (av : List Value) (ws : va_W) (sz : Nat) : Array Value → State → Prop := va_Pc av (fun U => U.heap.size = sz ∧ va_P D vwCl ws U.heap ∧ zK D cZ cI U ∧ va_D (fun _ => True) ws)
theorem WrP_blind {D : va_G} {cZ cI : ClassId} {av : List Value} {ws : va_W} {sz : Nat} : FrameBlind (WrP D cZ cI av ws sz) := by
  intro a U g mk h
  obtain ⟨h1, h0, h2, h3, h4⟩ := h
  exact ⟨h1, h0, h2, h3.call, h4⟩
theorem WrP_start {D : va_G} {cZ cI : ClassId} {av : List Value} {ws : va_W} {A : Nat → Prop} {s : State} {H : Heap} (hP : va_P D vwCl ws H) (hD : va_D A ws) (hZ : zK D cZ cI s) : ∀ U : State, U.heap = H → s.WarmedH U.vm → WrP D cZ cI av ws H.size av.toArray U := by
  intro U hU hW
  exact ⟨rfl, by rw [hU], by rw [hU]; exact hP, hZ.warm hW, hD.weaken (fun _ _ _ _ => trivial)⟩
/-- a writer's end: the world behind it -/
abbrev WrV (D : va_G) (ws' : va_W) (A : Nat → Prop) : Array Value → State → Outcome → State → Prop := va_Qv (fun _ : Unit => True) (fun _ t => va_P D vwCl ws' t.heap ∧ va_D A ws') A
abbrev WrI (D : va_G) (ws' : va_W) (A : Nat → Prop) (v : Int32) : Array Value → State → Outcome → State → Prop := va_Qi (fun r (_ : Unit) => r = v) (fun _ t => va_P D vwCl ws' t.heap ∧ va_D A ws') A
theorem nt {b : Bool} (h : b = false) : ¬ b = true := by rw [h]; exact Bool.false_ne_true
section RV
variable {p : Program} {l : Launch} {e : Env} {R : Room} {s : State} {m : MethodId} {args : Array Value} {below : List Frame} {meth : Method} {c : Code} {H : Heap} {locs : List Loc} {cells slots : Nat} {Q : State → Prop}
variable {cc : ByteArray} {pc : Nat} {ls : Array Slot} {rest : List Value}
theorem rv_top {x y : Int32} (h : x = y) (k : W p l e R s m args below meth c H locs cells slots Q (F0 m pc ls (.int y :: rest))) : W p l e R s m args below meth c H locs cells slots Q (F0 m pc ls (.int x :: rest)) := by rw [h]; exact k
theorem rv_add (hexec : p.tables.exec = Jvm.exec) (hb : c.code = cc) {a b : Nat} (hdg : decode cc pc = .ok (.iadd, 1)) (k : W p l e R s m args below meth c H locs cells slots Q (F0 m (pc + 1) ls (.int (nI (a + b)) :: rest))) : W p l e R s m args below meth c H locs cells slots Q (F0 m pc ls (.int (nI b) :: .int (nI a) :: rest)) := lv_iadd hexec hb hdg (by rw [nI_add]; exact k)
theorem rv_sub (hexec : p.tables.exec = Jvm.exec) (hb : c.code = cc) {a b : Nat} (hab : b ≤ a) (hdg : decode cc pc = .ok (.isub, 1)) (k : W p l e R s m args below meth c H locs cells slots Q (F0 m (pc + 1) ls (.int (nI (a - b)) :: rest))) : W p l e R s m args below meth c H locs cells slots Q (F0 m pc ls (.int (nI b) :: .int (nI a) :: rest)) := lv_isub hexec hb hdg (by rw [nI_sub hab]; exact k)
theorem rv_mul (hexec : p.tables.exec = Jvm.exec) (hb : c.code = cc) {a b : Nat} (hdg : decode cc pc = .ok (.imul, 1)) (k : W p l e R s m args below meth c H locs cells slots Q (F0 m (pc + 1) ls (.int (nI (a * b)) :: rest))) : W p l e R s m args below meth c H locs cells slots Q (F0 m pc ls (.int (nI b) :: .int (nI a) :: rest)) := lv_imul hexec hb hdg (by rw [nI_mul]; exact k)
theorem rv_div (hexec : p.tables.exec = Jvm.exec) (hb : c.code = cc) {a b : Nat} (ha : a < 2 ^ 31) (hb2 : b < 2 ^ 31) (h0 : 0 < b) (hdg : decode cc pc = .ok (.idiv, 1)) (k : W p l e R s m args below meth c H locs cells slots Q (F0 m (pc + 1) ls (.int (nI (a / b)) :: rest))) : W p l e R s m args below meth c H locs cells slots Q (F0 m pc ls (.int (nI b) :: .int (nI a) :: rest)) := lv_idiv hexec hb hdg (nI_ne0 h0 hb2) (by rw [nI_div ha hb2 h0]; exact k)
theorem rv_rem (hexec : p.tables.exec = Jvm.exec) (hb : c.code = cc) {a b : Nat} (ha : a < 2 ^ 31) (hb2 : b < 2 ^ 31) (h0 : 0 < b) (hdg : decode cc pc = .ok (.irem, 1)) (k : W p l e R s m args below meth c H locs cells slots Q (F0 m (pc + 1) ls (.int (nI (a % b)) :: rest))) : W p l e R s m args below meth c H locs cells slots Q (F0 m pc ls (.int (nI b) :: .int (nI a) :: rest)) := lv_irem hexec hb hdg (nI_ne0 h0 hb2) (by rw [nI_rem ha hb2 h0]; exact k)
theorem rv_and1 (hexec : p.tables.exec = Jvm.exec) (hb : c.code = cc) {a : Nat} (ha : a < 2 ^ 31) (hdg : decode cc pc = .ok (.iand, 1)) (k : W p l e R s m args below meth c H locs cells slots Q (F0 m (pc + 1) ls (.int (nI (a % 2)) :: rest))) : W p l e R s m args below meth c H locs cells slots Q (F0 m pc ls (.int (nI 1) :: .int (nI a) :: rest)) := lv_iand hexec hb hdg (by rw [show nI 1 = (1 : Int32) from rfl, nI_and1 a ha]; exact k)
theorem rv_andS (hexec : p.tables.exec = Jvm.exec) (hb : c.code = cc) {P P' : Nat → Bool} (hdg : decode cc pc = .ok (.iand, 1)) (k : W p l e R s m args below meth c H locs cells slots Q (F0 m (pc + 1) ls (.int (sb (fun i => P i && P' i)) :: rest))) : W p l e R s m args below meth c H locs cells slots Q (F0 m pc ls (.int (sb P') :: .int (sb P) :: rest)) := lv_iand hexec hb hdg (by rw [sb_and]; exact k)
theorem rv_andnS (hexec : p.tables.exec = Jvm.exec) (hb : c.code = cc) {P P' : Nat → Bool} (hdg : decode cc pc = .ok (.iand, 1)) (k : W p l e R s m args below meth c H locs cells slots Q (F0 m (pc + 1) ls (.int (sb (fun i => P i && !P' i)) :: rest))) : W p l e R s m args below meth c H locs cells slots Q (F0 m pc ls (.int (sb P' ^^^ (-1)) :: .int (sb P) :: rest)) := lv_iand hexec hb hdg (by rw [sb_andn]; exact k)
theorem rv_orS (hexec : p.tables.exec = Jvm.exec) (hb : c.code = cc) {P P' : Nat → Bool} (hdg : decode cc pc = .ok (.ior, 1)) (k : W p l e R s m args below meth c H locs cells slots Q (F0 m (pc + 1) ls (.int (sb (fun i => P i || P' i)) :: rest))) : W p l e R s m args below meth c H locs cells slots Q (F0 m pc ls (.int (sb P') :: .int (sb P) :: rest)) := lv_ior hexec hb hdg (by rw [sb_or]; exact k)
theorem rv_lt (hexec : p.tables.exec = Jvm.exec) (hb : c.code = cc) {x y : Nat} (hX : x < 2 ^ 31) (hY : y < 2 ^ 31) {off : Int} {tgt : Nat} (hdg : decode cc pc = .ok (.if_icmp .lt off, 3)) (ht : (pc : Int) + off = (tgt : Int)) (kt : x < y → W p l e R s m args below meth c H locs cells slots Q (F0 m tgt ls rest)) (kf : ¬ x < y → W p l e R s m args below meth c H locs cells slots Q (F0 m (pc + 3) ls rest)) : W p l e R s m args below meth c H locs cells slots Q (F0 m pc ls (.int (nI y) :: .int (nI x) :: rest)) := lv_icmp_lt hexec hb hdg ht (fun h => kt ((nI_ltI hX hY).mp h)) (fun h => kf (fun h2 => h ((nI_ltI hX hY).mpr h2)))
theorem rv_ge (hexec : p.tables.exec = Jvm.exec) (hb : c.code = cc) {x y : Nat} (hX : x < 2 ^ 31) (hY : y < 2 ^ 31) {off : Int} {tgt : Nat} (hdg : decode cc pc = .ok (.if_icmp .ge off, 3)) (ht : (pc : Int) + off = (tgt : Int)) (kt : ¬ x < y → W p l e R s m args below meth c H locs cells slots Q (F0 m tgt ls rest)) (kf : x < y → W p l e R s m args below meth c H locs cells slots Q (F0 m (pc + 3) ls rest)) : W p l e R s m args below meth c H locs cells slots Q (F0 m pc ls (.int (nI y) :: .int (nI x) :: rest)) := lv_icmp_ge hexec hb hdg ht (fun h => kt (fun h2 => absurd ((nI_leI hY hX).mp h) (by omega))) (fun h => kf (Nat.lt_of_not_le (fun h2 => h ((nI_leI hY hX).mpr h2))))
theorem rv_gt (hexec : p.tables.exec = Jvm.exec) (hb : c.code = cc) {x y : Nat} (hX : x < 2 ^ 31) (hY : y < 2 ^ 31) {off : Int} {tgt : Nat} (hdg : decode cc pc = .ok (.if_icmp .gt off, 3)) (ht : (pc : Int) + off = (tgt : Int)) (kt : y < x → W p l e R s m args below meth c H locs cells slots Q (F0 m tgt ls rest)) (kf : ¬ y < x → W p l e R s m args below meth c H locs cells slots Q (F0 m (pc + 3) ls rest)) : W p l e R s m args below meth c H locs cells slots Q (F0 m pc ls (.int (nI y) :: .int (nI x) :: rest)) := lv_icmp_gt hexec hb hdg ht (fun h => kt ((nI_ltI hY hX).mp h)) (fun h => kf (fun h2 => h ((nI_ltI hY hX).mpr h2)))
theorem rv_le (hexec : p.tables.exec = Jvm.exec) (hb : c.code = cc) {x y : Nat} (hX : x < 2 ^ 31) (hY : y < 2 ^ 31) {off : Int} {tgt : Nat} (hdg : decode cc pc = .ok (.if_icmp .le off, 3)) (ht : (pc : Int) + off = (tgt : Int)) (kt : x ≤ y → W p l e R s m args below meth c H locs cells slots Q (F0 m tgt ls rest)) (kf : ¬ x ≤ y → W p l e R s m args below meth c H locs cells slots Q (F0 m (pc + 3) ls rest)) : W p l e R s m args below meth c H locs cells slots Q (F0 m pc ls (.int (nI y) :: .int (nI x) :: rest)) := lv_icmp_le hexec hb hdg ht (fun h => kt ((nI_leI hX hY).mp h)) (fun h => kf (fun h2 => h ((nI_leI hX hY).mpr h2)))
theorem rv_eq (hexec : p.tables.exec = Jvm.exec) (hb : c.code = cc) {x y : Nat} (hX : x < 2 ^ 31) (hY : y < 2 ^ 31) {off : Int} {tgt : Nat} (hdg : decode cc pc = .ok (.if_icmp .eq off, 3)) (ht : (pc : Int) + off = (tgt : Int)) (kt : x = y → W p l e R s m args below meth c H locs cells slots Q (F0 m tgt ls rest)) (kf : ¬ x = y → W p l e R s m args below meth c H locs cells slots Q (F0 m (pc + 3) ls rest)) : W p l e R s m args below meth c H locs cells slots Q (F0 m pc ls (.int (nI y) :: .int (nI x) :: rest)) := lv_icmp_eq hexec hb hdg ht (fun h => kt ((nI_eq hX hY).mp h)) (fun h => kf (fun h2 => h ((nI_eq hX hY).mpr h2)))
theorem rv_ne (hexec : p.tables.exec = Jvm.exec) (hb : c.code = cc) {x y : Nat} (hX : x < 2 ^ 31) (hY : y < 2 ^ 31) {off : Int} {tgt : Nat} (hdg : decode cc pc = .ok (.if_icmp .ne off, 3)) (ht : (pc : Int) + off = (tgt : Int)) (kt : ¬ x = y → W p l e R s m args below meth c H locs cells slots Q (F0 m tgt ls rest)) (kf : x = y → W p l e R s m args below meth c H locs cells slots Q (F0 m (pc + 3) ls rest)) : W p l e R s m args below meth c H locs cells slots Q (F0 m pc ls (.int (nI y) :: .int (nI x) :: rest)) := lv_icmp_ne hexec hb hdg ht (fun h => kt (fun h2 => h ((nI_eq hX hY).mpr h2))) (fun h => kf ((nI_eq hX hY).mp h))
theorem rv_iald (hexec : p.tables.exec = Jvm.exec) (hb : c.code = cc) {D : va_G} {cl : List vw_C} {tys : List (ClassId × FieldType)} {ws : va_W} {a : Nat} (hK : va_K D cl tys s) (hP : va_P D cl ws H) (q0 t0 : Nat) {cA : ClassId} {n : Nat} {f : Nat → Int32} (ha : ws[q0]? = some (a, .inl (cA, n, .inl f))) (ht : tys[t0]? = some (cA, .int)) {r : Nat} (hr : r < n) (hn : n < 2 ^ 31) {v : Int32} (hv : f r = v) (hdg : decode cc pc = .ok (.iaload, 1)) (kk : W p l e R s m args below meth c H locs cells slots Q (F0 m (pc + 1) ls (.int v :: rest))) : W p l e R s m args below meth c H locs cells slots Q (F0 m pc ls (.int (nI r) :: .ref a :: rest)) := va_iald hexec hb hK hP q0 t0 ha ht (nI_in hr hn) hdg (by rw [nI_clamp (Nat.lt_trans hr hn), hv]; exact kk)
theorem rv_zald (hexec : p.tables.exec = Jvm.exec) (hb : c.code = cc) {D : va_G} {cl : List vw_C} {tys : List (ClassId × FieldType)} {ws : va_W} {a : Nat} (hK : va_K D cl tys s) (hP : va_P D cl ws H) (q0 t0 : Nat) {cA : ClassId} {n : Nat} {f : Nat → Int32} (ha : ws[q0]? = some (a, .inl (cA, n, .inl f))) (ht : tys[t0]? = some (cA, .boolean)) {r : Nat} (hr : r < n) (hn : n < 2 ^ 31) {v : Int32} (hv : f r = v) (hdg : decode cc pc = .ok (.baload, 1)) (kk : W p l e R s m args below meth c H locs cells slots Q (F0 m (pc + 1) ls (.int v :: rest))) : W p l e R s m args below meth c H locs cells slots Q (F0 m pc ls (.int (nI r) :: .ref a :: rest)) := va_zald hexec hb hK hP q0 t0 ha ht (nI_in hr hn) hdg (by rw [nI_clamp (Nat.lt_trans hr hn), hv]; exact kk)
theorem rv_iast (hexec : p.tables.exec = Jvm.exec) (hb : c.code = cc) {D : va_G} {cl : List vw_C} {tys : List (ClassId × FieldType)} {ws : va_W} {a : Nat} {A : Nat → Prop} {H0 : Heap} (hK : va_K D cl tys s) (hP : va_P D cl ws H) (hD : va_D A ws) (hS : va_S A H0 H locs) (q0 t0 : Nat) {cA : ClassId} {n : Nat} {f : Nat → Int32} (ha : ws[q0]? = some (a, .inl (cA, n, .inl f))) (ht : tys[t0]? = some (cA, .int)) {r : Nat} (hr : r < n) (hn : n < 2 ^ 31) {x : Int32} {f' : Nat → Int32} (hf : upd f r x = f') (hdg : decode cc pc = .ok (.iastore, 1)) (kk : ∀ (H1 : Heap) (locs1 : List Loc), va_P D cl (ws.set q0 (a, .inl (cA, n, .inl f'))) H1 → va_D A (ws.set q0 (a, .inl (cA, n, .inl f'))) → va_S A H0 H1 locs1 → W p l e R s m args below meth c H1 locs1 cells slots Q (F0 m (pc + 1) ls rest)) : W p l e R s m args below meth c H locs cells slots Q (F0 m pc ls (.int x :: .int (nI r) :: .ref a :: rest)) := by
  refine va_iast hexec hb hK hP hD hS q0 t0 ha ht (nI_in hr hn) hdg (fun H1 locs1 h1 h2 h3 => ?_)
  rw [nI_clamp (Nat.lt_trans hr hn), hf] at h1 h2
  exact kk H1 locs1 h1 h2 h3
theorem nar_bI (b : Bool) : vp_nar .boolean (bI b) = bI b := by cases b <;> rfl
theorem nr_bI (b : Bool) : narrow .boolean (.int (bI b)) = .int (bI b) := by cases b <;> rfl
theorem rv_zast (hexec : p.tables.exec = Jvm.exec) (hb : c.code = cc) {D : va_G} {cl : List vw_C} {tys : List (ClassId × FieldType)} {ws : va_W} {a : Nat} {A : Nat → Prop} {H0 : Heap} (hK : va_K D cl tys s) (hP : va_P D cl ws H) (hD : va_D A ws) (hS : va_S A H0 H locs) (q0 t0 : Nat) {cA : ClassId} {n : Nat} {f : Nat → Int32} (ha : ws[q0]? = some (a, .inl (cA, n, .inl f))) (ht : tys[t0]? = some (cA, .boolean)) {r : Nat} (hr : r < n) (hn : n < 2 ^ 31) {x : Bool} {f' : Nat → Int32} (hf : upd f r (bI x) = f') (hdg : decode cc pc = .ok (.bastore, 1)) (kk : ∀ (H1 : Heap) (locs1 : List Loc), va_P D cl (ws.set q0 (a, .inl (cA, n, .inl f'))) H1 → va_D A (ws.set q0 (a, .inl (cA, n, .inl f'))) → va_S A H0 H1 locs1 → W p l e R s m args below meth c H1 locs1 cells slots Q (F0 m (pc + 1) ls rest)) : W p l e R s m args below meth c H locs cells slots Q (F0 m pc ls (.int (bI x) :: .int (nI r) :: .ref a :: rest)) := by
  refine va_zast hexec hb hK hP hD hS q0 t0 ha ht (nI_in hr hn) hdg (fun H1 locs1 h1 h2 h3 => ?_)
  rw [nI_clamp (Nat.lt_trans hr hn), nar_bI, hf] at h1 h2
  exact kk H1 locs1 h1 h2 h3
theorem rv_ifeqB (hexec : p.tables.exec = Jvm.exec) (hb : c.code = cc) {x : Bool} {off : Int} {tgt : Nat} (hdg : decode cc pc = .ok (.ifCond .eq off, 3)) (ht : (pc : Int) + off = (tgt : Int)) (kt : x = false → W p l e R s m args below meth c H locs cells slots Q (F0 m tgt ls rest)) (kf : x = true → W p l e R s m args below meth c H locs cells slots Q (F0 m (pc + 3) ls rest)) : W p l e R s m args below meth c H locs cells slots Q (F0 m pc ls (.int (bI x) :: rest)) := lv_if_eq hexec hb hdg ht (fun h => kt (bI_eq0.mp h)) (fun h => kf (by cases x with | true => rfl | false => exact absurd rfl h))
theorem rv_ifneB (hexec : p.tables.exec = Jvm.exec) (hb : c.code = cc) {x : Bool} {off : Int} {tgt : Nat} (hdg : decode cc pc = .ok (.ifCond .ne off, 3)) (ht : (pc : Int) + off = (tgt : Int)) (kt : x = true → W p l e R s m args below meth c H locs cells slots Q (F0 m tgt ls rest)) (kf : x = false → W p l e R s m args below meth c H locs cells slots Q (F0 m (pc + 3) ls rest)) : W p l e R s m args below meth c H locs cells slots Q (F0 m pc ls (.int (bI x) :: rest)) := lv_if_ne hexec hb hdg ht (fun h => kt (by cases x with | true => rfl | false => exact absurd rfl h)) (fun h => kf (bI_eq0.mp h))
theorem rv_neB1 (hexec : p.tables.exec = Jvm.exec) (hb : c.code = cc) {x : Bool} {off : Int} {tgt : Nat} (hdg : decode cc pc = .ok (.if_icmp .ne off, 3)) (ht : (pc : Int) + off = (tgt : Int)) (kt : x = false → W p l e R s m args below meth c H locs cells slots Q (F0 m tgt ls rest)) (kf : x = true → W p l e R s m args below meth c H locs cells slots Q (F0 m (pc + 3) ls rest)) : W p l e R s m args below meth c H locs cells slots Q (F0 m pc ls (.int (nI 1) :: .int (bI x) :: rest)) := lv_icmp_ne hexec hb hdg ht (fun h => kt (by cases x with | false => rfl | true => exact absurd rfl h)) (fun h => kf (bI_eq1.mp h))
theorem rv_ifeqS (hexec : p.tables.exec = Jvm.exec) (hb : c.code = cc) {P : Nat → Bool} {off : Int} {tgt : Nat} (hdg : decode cc pc = .ok (.ifCond .eq off, 3)) (ht : (pc : Int) + off = (tgt : Int)) (kt : (∀ i, i < 8 → P i = false) → W p l e R s m args below meth c H locs cells slots Q (F0 m tgt ls rest)) (kf : ¬ (∀ i, i < 8 → P i = false) → W p l e R s m args below meth c H locs cells slots Q (F0 m (pc + 3) ls rest)) : W p l e R s m args below meth c H locs cells slots Q (F0 m pc ls (.int (sb P) :: rest)) := lv_if_eq hexec hb hdg ht (fun h => kt ((sb_eq0 P).mp h)) (fun h => kf (fun h2 => h ((sb_eq0 P).mpr h2)))
theorem rv_ifneS (hexec : p.tables.exec = Jvm.exec) (hb : c.code = cc) {P : Nat → Bool} {off : Int} {tgt : Nat} (hdg : decode cc pc = .ok (.ifCond .ne off, 3)) (ht : (pc : Int) + off = (tgt : Int)) (kt : ¬ (∀ i, i < 8 → P i = false) → W p l e R s m args below meth c H locs cells slots Q (F0 m tgt ls rest)) (kf : (∀ i, i < 8 → P i = false) → W p l e R s m args below meth c H locs cells slots Q (F0 m (pc + 3) ls rest)) : W p l e R s m args below meth c H locs cells slots Q (F0 m pc ls (.int (sb P) :: rest)) := lv_if_ne hexec hb hdg ht (fun h => kt (fun h2 => h ((sb_eq0 P).mpr h2))) (fun h => kf ((sb_eq0 P).mp h))
theorem rv_shl (hexec : p.tables.exec = Jvm.exec) (hb : c.code = cc) {r : Nat} (hr : r < 8) (hdg : decode cc pc = .ok (.ishl, 1)) (k : W p l e R s m args below meth c H locs cells slots Q (F0 m (pc + 1) ls (.int (sb (fun i => i == r)) :: rest))) : W p l e R s m args below meth c H locs cells slots Q (F0 m pc ls (.int (nI r) :: .int (nI 1) :: rest)) := lv_ishl hexec hb hdg (by rw [show nI 1 = (1 : Int32) from rfl, sb_one r hr]; exact k)
theorem rv_hold (hexec : p.tables.exec = Jvm.exec) (hb : c.code = cc) {P : Nat → Bool} {r : Nat} (hr : r < 8) (hdg : decode cc pc = .ok (.iand, 1)) (k : W p l e R s m args below meth c H locs cells slots Q (F0 m (pc + 1) ls (.int (bI (P r)) :: rest))) : W p l e R s m args below meth c H locs cells slots Q (F0 m pc ls (.int (nI 1) :: .int (sb P >>> (nI r &&& 31)) :: rest)) := lv_iand hexec hb hdg (by rw [show nI 1 = (1 : Int32) from rfl, sb_holds P r hr]; exact k)
theorem iO_nI {o : Option Nat} {x : Nat} (hX : x < 2 ^ 31) (ho : ∀ n, o = some n → n < 2 ^ 31) : nI x = iO o ↔ o = some x := by
  cases o with
  | none => exact ⟨fun h => absurd h (nI_ne_m1 hX), fun h => by cases h⟩
  | some n => exact ⟨fun h => by rw [(nI_eq hX (ho n rfl)).mp h], fun h => by cases h; rfl⟩
theorem rv_eqNO (hexec : p.tables.exec = Jvm.exec) (hb : c.code = cc) {x : Nat} {o : Option Nat} (hX : x < 2 ^ 31) (ho : ∀ n, o = some n → n < 2 ^ 31) {off : Int} {tgt : Nat} (hdg : decode cc pc = .ok (.if_icmp .eq off, 3)) (ht : (pc : Int) + off = (tgt : Int)) (kt : o = some x → W p l e R s m args below meth c H locs cells slots Q (F0 m tgt ls rest)) (kf : ¬ o = some x → W p l e R s m args below meth c H locs cells slots Q (F0 m (pc + 3) ls rest)) : W p l e R s m args below meth c H locs cells slots Q (F0 m pc ls (.int (iO o) :: .int (nI x) :: rest)) := lv_icmp_eq hexec hb hdg ht (fun h => kt ((iO_nI hX ho).mp h)) (fun h => kf (fun h2 => h ((iO_nI hX ho).mpr h2)))
theorem rv_eqO (hexec : p.tables.exec = Jvm.exec) (hb : c.code = cc) {o : Option Nat} (ho : ∀ n, o = some n → n < 2 ^ 31) {off : Int} {tgt : Nat} (hdg : decode cc pc = .ok (.if_icmp .eq off, 3)) (ht : (pc : Int) + off = (tgt : Int)) (kt : o = none → W p l e R s m args below meth c H locs cells slots Q (F0 m tgt ls rest)) (kf : ¬ o = none → W p l e R s m args below meth c H locs cells slots Q (F0 m (pc + 3) ls rest)) : W p l e R s m args below meth c H locs cells slots Q (F0 m pc ls (.int (-1) :: .int (iO o) :: rest)) := lv_icmp_eq hexec hb hdg ht (fun h => kt ((iO_eq ho).mp h)) (fun h => kf (fun h2 => h ((iO_eq ho).mpr h2)))
theorem rv_neO (hexec : p.tables.exec = Jvm.exec) (hb : c.code = cc) {o : Option Nat} (ho : ∀ n, o = some n → n < 2 ^ 31) {off : Int} {tgt : Nat} (hdg : decode cc pc = .ok (.if_icmp .ne off, 3)) (ht : (pc : Int) + off = (tgt : Int)) (kt : ¬ o = none → W p l e R s m args below meth c H locs cells slots Q (F0 m tgt ls rest)) (kf : o = none → W p l e R s m args below meth c H locs cells slots Q (F0 m (pc + 3) ls rest)) : W p l e R s m args below meth c H locs cells slots Q (F0 m pc ls (.int (-1) :: .int (iO o) :: rest)) := lv_icmp_ne hexec hb hdg ht (fun h => kt (fun h2 => h ((iO_eq ho).mpr h2))) (fun h => kf ((iO_eq ho).mp h))
theorem rv_ifltN (hexec : p.tables.exec = Jvm.exec) (hb : c.code = cc) {x : Nat} (hX : x < 2 ^ 31) {off : Int} {tgt : Nat} (hdg : decode cc pc = .ok (.ifCond .lt off, 3)) (ht : (pc : Int) + off = (tgt : Int)) (kf : W p l e R s m args below meth c H locs cells slots Q (F0 m (pc + 3) ls rest)) : W p l e R s m args below meth c H locs cells slots Q (F0 m pc ls (.int (nI x) :: rest)) := lv_if_lt hexec hb hdg ht (fun h => absurd h (nI_pos hX)) (fun _ => kf)
theorem rv_ifgeN (hexec : p.tables.exec = Jvm.exec) (hb : c.code = cc) {x : Nat} (hX : x < 2 ^ 31) {off : Int} {tgt : Nat} (hdg : decode cc pc = .ok (.ifCond .ge off, 3)) (ht : (pc : Int) + off = (tgt : Int)) (kt : W p l e R s m args below meth c H locs cells slots Q (F0 m tgt ls rest)) : W p l e R s m args below meth c H locs cells slots Q (F0 m pc ls (.int (nI x) :: rest)) := lv_if_ge hexec hb hdg ht (fun _ => kt) (fun h => absurd (nI_pos' hX) h)
theorem rv_ifleN (hexec : p.tables.exec = Jvm.exec) (hb : c.code = cc) {x : Nat} (hX : x < 2 ^ 31) {off : Int} {tgt : Nat} (hdg : decode cc pc = .ok (.ifCond .le off, 3)) (ht : (pc : Int) + off = (tgt : Int)) (kt : x = 0 → W p l e R s m args below meth c H locs cells slots Q (F0 m tgt ls rest)) (kf : ¬ x = 0 → W p l e R s m args below meth c H locs cells slots Q (F0 m (pc + 3) ls rest)) : W p l e R s m args below meth c H locs cells slots Q (F0 m pc ls (.int (nI x) :: rest)) := lv_if_le hexec hb hdg ht (fun h => kt (Classical.byContradiction fun h2 => nI_nle (Nat.pos_of_ne_zero h2) hX h)) (fun h => kf (fun h2 => h (by rw [h2]; decide)))
theorem rv_ifneN (hexec : p.tables.exec = Jvm.exec) (hb : c.code = cc) {x : Nat} (hX : x < 2 ^ 31) {off : Int} {tgt : Nat} (hdg : decode cc pc = .ok (.ifCond .ne off, 3)) (ht : (pc : Int) + off = (tgt : Int)) (kt : ¬ x = 0 → W p l e R s m args below meth c H locs cells slots Q (F0 m tgt ls rest)) (kf : x = 0 → W p l e R s m args below meth c H locs cells slots Q (F0 m (pc + 3) ls rest)) : W p l e R s m args below meth c H locs cells slots Q (F0 m pc ls (.int (nI x) :: rest)) := lv_if_ne hexec hb hdg ht (fun h => kt (fun h2 => h (by rw [h2]; decide))) (fun h => kf (Classical.byContradiction fun h2 => nI_ne0 (Nat.pos_of_ne_zero h2) hX h))
theorem nI_bt (n : Nat) {i : Nat} (hi : i < 32) : bt (nI n) i = n.testBit i := by
  show (BitVec.ofNat 32 n).getLsbD i = _
  rw [BitVec.getLsbD_ofNat]
  simp [hi]
theorem nI_xor (a b : Nat) : nI a ^^^ nI b = nI (a ^^^ b) := by
  apply b_ext
  intro i hi
  rw [b_xor, nI_bt _ hi, nI_bt _ hi, nI_bt _ hi, Nat.testBit_xor]
theorem rv_xor (hexec : p.tables.exec = Jvm.exec) (hb : c.code = cc) {a b : Nat} (hdg : decode cc pc = .ok (.ixor, 1)) (k : W p l e R s m args below meth c H locs cells slots Q (F0 m (pc + 1) ls (.int (nI (a ^^^ b)) :: rest))) : W p l e R s m args below meth c H locs cells slots Q (F0 m pc ls (.int (nI b) :: .int (nI a) :: rest)) := lv_ixor hexec hb hdg (by rw [nI_xor]; exact k)
/-- numbers of turns in their order, none ahead of all -/
def ov (o : Option Nat) : Nat := match o with
  | none => 0
  | some n => n + 1
theorem i_irr (x : Int32) : ¬ x < x := by rw [Int32.lt_iff_toInt_lt]; omega
theorem m1_lt {n : Nat} (h : n < 2 ^ 31) : (-1 : Int32) < nI n := by
  rw [Int32.lt_iff_toInt_lt, nI_toInt h]
  have h3 : (-1 : Int32).toInt = -1 := by decide +kernel
  omega
theorem iO_lt {a b : Option Nat} (ha : ∀ n, a = some n → n < 2 ^ 31) (hb : ∀ n, b = some n → n < 2 ^ 31) : iO a < iO b ↔ ov a < ov b := by
  cases a with
  | none => cases b with
    | none => exact ⟨fun h => absurd h (by decide), fun h => absurd h (by decide)⟩
    | some n => exact ⟨fun _ => Nat.succ_pos n, fun _ => m1_lt (hb n rfl)⟩
  | some k => cases b with
    | none => exact ⟨fun h => absurd (Int32.lt_trans h (m1_lt (ha k rfl))) (i_irr _), fun h => absurd h (Nat.not_lt_zero _)⟩
    | some n => exact ⟨fun h => Nat.succ_lt_succ ((nI_ltI (ha k rfl) (hb n rfl)).mp h), fun h => (nI_ltI (ha k rfl) (hb n rfl)).mpr (Nat.lt_of_succ_lt_succ h)⟩
theorem iO_le {a b : Option Nat} (ha : ∀ n, a = some n → n < 2 ^ 31) (hb : ∀ n, b = some n → n < 2 ^ 31) : iO a ≤ iO b ↔ ov a ≤ ov b := by
  rw [← Int32.not_lt, ← Nat.not_lt]
  exact not_congr (iO_lt hb ha)
theorem rv_leOO (hexec : p.tables.exec = Jvm.exec) (hb : c.code = cc) {x y : Option Nat} (hX : ∀ n, x = some n → n < 2 ^ 31) (hY : ∀ n, y = some n → n < 2 ^ 31) {off : Int} {tgt : Nat} (hdg : decode cc pc = .ok (.if_icmp .le off, 3)) (ht : (pc : Int) + off = (tgt : Int)) (kt : ov x ≤ ov y → W p l e R s m args below meth c H locs cells slots Q (F0 m tgt ls rest)) (kf : ¬ ov x ≤ ov y → W p l e R s m args below meth c H locs cells slots Q (F0 m (pc + 3) ls rest)) : W p l e R s m args below meth c H locs cells slots Q (F0 m pc ls (.int (iO y) :: .int (iO x) :: rest)) := lv_icmp_le hexec hb hdg ht (fun h => kt ((iO_le hX hY).mp h)) (fun h => kf (fun h2 => h ((iO_le hX hY).mpr h2)))
theorem rv_geOO (hexec : p.tables.exec = Jvm.exec) (hb : c.code = cc) {x y : Option Nat} (hX : ∀ n, x = some n → n < 2 ^ 31) (hY : ∀ n, y = some n → n < 2 ^ 31) {off : Int} {tgt : Nat} (hdg : decode cc pc = .ok (.if_icmp .ge off, 3)) (ht : (pc : Int) + off = (tgt : Int)) (kt : ov y ≤ ov x → W p l e R s m args below meth c H locs cells slots Q (F0 m tgt ls rest)) (kf : ¬ ov y ≤ ov x → W p l e R s m args below meth c H locs cells slots Q (F0 m (pc + 3) ls rest)) : W p l e R s m args below meth c H locs cells slots Q (F0 m pc ls (.int (iO y) :: .int (iO x) :: rest)) := lv_icmp_ge hexec hb hdg ht (fun h => kt ((iO_le hY hX).mp h)) (fun h => kf (fun h2 => h ((iO_le hY hX).mpr h2)))
theorem iO_getD {o : Option Nat} (k : Nat) (h : ¬ o = none) : iO o = nI (o.getD k) := by
  cases o with
  | none => exact absurd rfl h
  | some n => rfl
def omax (a b : Option Nat) : Option Nat := if ov a < ov b then b else a
theorem iO_max {a b : Option Nat} (ha : ∀ n, a = some n → n < 2 ^ 31) (hb : ∀ n, b = some n → n < 2 ^ 31) : (if iO a < iO b then iO b else iO a) = iO (omax a b) := by
  unfold omax
  by_cases h : ov a < ov b
  · rw [if_pos h, if_pos ((iO_lt ha hb).mpr h)]
  · rw [if_neg h, if_neg (fun h2 => h ((iO_lt ha hb).mp h2))]
theorem omax_lt {a b : Option Nat} {k : Nat} (ha : ∀ n, a = some n → n < k) (hb : ∀ n, b = some n → n < k) : ∀ n, omax a b = some n → n < k := by
  intro n
  unfold omax
  split
  · exact hb n
  · exact ha n
def aN (b : Bool) : Int64 := if b then 1 else 0
def oN (o : Option Nat) : Int64 := (iO o).toInt64
end RV

