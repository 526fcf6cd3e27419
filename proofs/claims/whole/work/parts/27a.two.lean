/-! ===== THE ROOM: the reference in a house of two rooms without a door: each turn that it plays makes a row of 768 ===== -/
def encV (f : Nat → Nat → Nat → Bool) : Nat → Int32 := fun k => bI (f (k / 64) (k / 8 % 8) (k % 8))
theorem encV_at (f : Nat → Nat → Nat → Bool) (p : Nat) {r m : Nat} (h : r < 8) (hm : m < 8) : encV f ((p * 8 + r) * 8 + m) = bI (f p r m) := by
  show bI (f (((p * 8 + r) * 8 + m) / 64) (((p * 8 + r) * 8 + m) / 8 % 8) (((p * 8 + r) * 8 + m) % 8)) = _
  rw [show ((p * 8 + r) * 8 + m) / 64 = p by omega, show ((p * 8 + r) * 8 + m) / 8 % 8 = r by omega, show ((p * 8 + r) * 8 + m) % 8 = m by omega]
theorem encV_up (f : Nat → Nat → Nat → Bool) (p : Nat) {r m : Nat} (h : r < 8) (hm : m < 8) (o : Bool) : upd (encV f) ((p * 8 + r) * 8 + m) (bI o) = encV (up4 f p r m o) := by
  funext j
  by_cases hj : j = (p * 8 + r) * 8 + m
  · subst hj
    rw [encV_at _ _ h hm]
    simp [upd, up4]
  · have h1 : ¬ (j / 64 = p ∧ j / 8 % 8 = r ∧ j % 8 = m) := by omega
    simp [upd, encV, up4, hj, h1]
/-- the reference's nine cells, where no door and no cheese is -/
abbrev pR (cZ cI : ClassId) (b : Nat → Nat) (th ro tn : Nat) (on cg : Bool) (ct mo ea : Nat) (S : Nat → Bool) (T : Nat → Nat → Nat → Option Nat) : va_W := [(b 0, .inr (3, [.int (nI th), .int (nI ro), .int (nI 0), .ref (b 1), .ref (b 2), .ref (b 3), .ref (b 4), .ref (b 5), .ref (b 6), .ref (b 7), .int (nI tn), .int (bI on), .int (bI cg), .int (nI ct), .int (nI mo), .int (nI ea), .ref (b 8), .int (nI 0), .int (nI 0), .int (nI 0)])), (b 1, .inl (cZ, 8, .inl (encB S))), (b 2, .inl (cI, 8, .inl (encN (fun _ => 0)))), (b 3, .inl (cI, 14, .inl (fun _ => 0))), (b 4, .inl (cI, 14, .inl (fun _ => 0))), (b 5, .inl (cI, 14, .inl (fun _ => 0))), (b 6, .inl (cI, 14, .inl (fun _ => 0))), (b 7, .inl (cZ, 14, .inl (fun _ => 0))), (b 8, .inl (cI, 768, .inl (encT T)))]
abbrev RU : Type := Nat × (Nat → Int32) × (Nat → Nat → Nat → Option Nat)
/-- what lies in sure and in the row of ways, as far as they are laid -/
def okR (i a b : Nat) (T : Nat → Nat → Nat → Option Nat) (w : Nat → Nat → Nat → Bool) : Prop := ∀ p x y, x < 2 → y < 2 → (p < i ∨ p = i ∧ (x < a ∨ x = a ∧ y < b)) → T p x y = (if x = y then some 0 else none) ∧ w p x y = decide (x = y)
def sOk (T : Nat → Nat → Nat → Option Nat) (w : Nat → Nat → Nat → Bool) : Prop := ∀ p x y, p < 12 → x < 2 → y < 2 → T p x y = (if x = y then some 0 else none) ∧ w p x y = decide (x = y)
def sOk1 (T : Nat → Nat → Nat → Option Nat) : Prop := ∀ p x y, p < 12 → x < 2 → y < 2 → T p x y = (if x = y then some 0 else none)
theorem okR_0 {T : Nat → Nat → Nat → Option Nat} {w : Nat → Nat → Nat → Bool} : okR 0 0 0 T w := fun p x y _ _ h => by omega
theorem okR_y {i a y : Nat} {T : Nat → Nat → Nat → Option Nat} {w : Nat → Nat → Nat → Bool} (h : okR i a y T w) (hi : i < 12) {o : Option Nat} {v : Bool} (ho : o = if a = y then some 0 else none) (hv : v = decide (a = y)) : okR i a (y + 1) (up4 T (i % 12) a y o) (up4 w (i % 12) a y v) := by
  intro p x z hx hz hc
  rw [Nat.mod_eq_of_lt hi]
  by_cases q : p = i ∧ x = a ∧ z = y
  · obtain ⟨rfl, rfl, rfl⟩ := q
    subst ho; subst hv
    exact ⟨if_pos ⟨rfl, rfl, rfl⟩, if_pos ⟨rfl, rfl, rfl⟩⟩
  · have e1 : up4 T i a y o p x z = T p x z := if_neg q
    have e2 : up4 w i a y v p x z = w p x z := if_neg q
    rw [e1, e2]
    refine h p x z hx hz ?_
    omega
theorem okR_a {i a y : Nat} {T : Nat → Nat → Nat → Option Nat} {w : Nat → Nat → Nat → Bool} (h : okR i a y T w) (hy : 2 ≤ y) : okR i (a + 1) 0 T w := fun p x z hx hz hc => h p x z hx hz (by omega)
theorem okR_i {i a : Nat} {T : Nat → Nat → Nat → Option Nat} {w : Nat → Nat → Nat → Bool} (h : okR i a 0 T w) (ha : 2 ≤ a) : okR (i + 1) 0 0 T w := fun p x z hx hz hc => h p x z hx hz (by omega)
theorem okR_done {i : Nat} {T : Nat → Nat → Nat → Option Nat} {w : Nat → Nat → Nat → Bool} (h : okR i 0 0 T w) (hi : 12 ≤ i) : sOk T w := fun p x z hp hx hz => h p x z hx hz (by omega)
theorem sOk_T {T : Nat → Nat → Nat → Option Nat} {w : Nat → Nat → Nat → Bool} (h : sOk T w) : sOk1 T := fun p x z hp hx hz => (h p x z hp hx hz).1
theorem sOk_b {T : Nat → Nat → Nat → Option Nat} {w : Nat → Nat → Nat → Bool} (h : sOk T w) {p x y : Nat} (hp : p < 12) (hx : x < 2) (hy : y < 2) : ∀ n, T p x y = some n → n < 2 ^ 31 := by
  intro n hn
  rw [(h p x y hp hx hy).1] at hn
  split at hn
  · cases hn; decide
  · cases hn
theorem sOk_ne {T : Nat → Nat → Nat → Option Nat} {w : Nat → Nat → Nat → Bool} (h : sOk T w) {p x y : Nat} (hp : p < 12) (hx : x < 2) (hy : y < 2) (c : T p x y = none) : ¬ x = y := by
  intro e
  rw [(h p x y hp hx hy).1, if_pos e] at c
  cases c
theorem sOk_1 {T : Nat → Nat → Nat → Option Nat} {w : Nat → Nat → Nat → Bool} (h : sOk T w) {t x r y : Nat} (c : w (t % 12) x r = true) (hx : x < 2) (hr : r < 2) (hy : y < 2) (hxy : ¬ x = y) : iO (T ((t + 1) % 12) r y) = -1 := by
  rw [(h _ x r (Nat.mod_lt _ (by decide)) hx hr).2] at c
  have e : x = r := of_decide_eq_true c
  subst e
  rw [(h _ x y (Nat.mod_lt _ (by decide)) hx hy).1, if_neg hxy]
  rfl
theorem sOk_2 {T : Nat → Nat → Nat → Option Nat} {w : Nat → Nat → Nat → Bool} (h : sOk T w) {t x r y : Nat} (c : w (t % 12) y r = true) (hx : x < 2) (hr : r < 2) (hy : y < 2) (hxy : ¬ x = y) : iO (T ((t + 1) % 12) x r) = -1 := by
  rw [(h _ y r (Nat.mod_lt _ (by decide)) hy hr).2] at c
  have e : y = r := of_decide_eq_true c
  subst e
  rw [(h _ x y (Nat.mod_lt _ (by decide)) hx hy).1, if_neg hxy]
  rfl
theorem isIn_N {x ro : Nat} (hx : x < ro) (hr : ro ≤ 8) : (decide (nI 0 ≤ nI x) && decide (nI x ≤ nI (ro - 1))) = true := by
  have h1 : nI 0 ≤ nI x := by
    rw [Int32.le_iff_toInt_le, nI_toInt (by decide), nI_toInt (by omega)]; omega
  have h2 : nI x ≤ nI (ro - 1) := by
    rw [Int32.le_iff_toInt_le, nI_toInt (by omega), nI_toInt (by omega)]; omega
  rw [decide_eq_true h1, decide_eq_true h2]
  rfl
theorem va_up_ff (k : Nat) : va_up (fun _ : Nat => false) k false = (fun _ => false) := by
  funext j
  by_cases h : j = k <;> simp [va_up, h]
section RW9
variable {p : Program} {l : Launch} {e : Env} {R : Room} {s : State} {m : MethodId} {args : Array Value} {below : List Frame} {meth : Method} {c : Code} {H : Heap} {locs : List Loc} {cells slots : Nat} {Q : State → Prop}
variable {cc : ByteArray} {pc : Nat} {ls : Array Slot} {rest : List Value}
theorem rv_ifgeO (hexec : p.tables.exec = Jvm.exec) (hb : c.code = cc) {o : Option Nat} (ho : ∀ n, o = some n → n < 2 ^ 31) {off : Int} {tgt : Nat} (hdg : decode cc pc = .ok (.ifCond .ge off, 3)) (ht : (pc : Int) + off = (tgt : Int)) (kt : ¬ o = none → W p l e R s m args below meth c H locs cells slots Q (F0 m tgt ls rest)) (kf : o = none → W p l e R s m args below meth c H locs cells slots Q (F0 m (pc + 3) ls rest)) : W p l e R s m args below meth c H locs cells slots Q (F0 m pc ls (.int (iO o) :: rest)) := by
  refine lv_if_ge hexec hb hdg ht (fun h => kt (fun q => ?_)) (fun h => kf ?_)
  · subst q; exact absurd h (by decide)
  · cases o with
    | none => rfl
    | some n => exact absurd (nI_pos' (ho n rfl)) h
end RW9
