/-! ===== THE ROOM: such a start there is: the witness's own, with that script in its script's place. So the claim is false ===== -/
def start9 : State := start1.aboutOf ((scr9 K9).map Value.int).toArray
theorem vm9 (a b : Array Value) : (start1.aboutOf a).vm = (start1.aboutOf b).vm := rfl
theorem start9_words : ∀ c ∈ (Cond.code x code maxLocals ret :: tables_1), c.before start1.args0 start9 = true := by
  intro c hc
  cases h : c.onTables with
  | true => exact va_tabs h (u := start1.about) (A := start1.args0) (vm9 start1.cells0 _) (start1.words c hc)
  | false =>
    have h2 := List.all_eq_true.mp (show (Cond.code x code maxLocals ret :: tables_1).all (fun c => c.onTables || c.before start1.args0 start9) = true by decide +kernel) c hc
    rw [h] at h2
    simpa using h2
theorem heap9 (a : Array Value) : (start1.aboutOf a).heap[0]? = some { cls := 16, slots := a, vm := .none } := rfl
theorem start9_pre : (Cond.and given_1 narrow_1).before start1.args0 start9 = true := by decide +kernel
theorem start9_rest : rest_1_c.before start1.args0 start9 = true := by decide +kernel
theorem tla9 (l : List Value) : l.toArray.toList = l := rfl
/-- what lies in the script's place is that script -/
theorem ints9 {Y xs : List Int32} {S : State} (hS : S = start1.aboutOf (Y.map Value.int).toArray) {b : Addr} (hb : b = 0) (hx : S.IntsAt b xs) : S.IntsAt 0 Y := by
  subst hb
  obtain ⟨cell, h1, h2, h3, h4⟩ := hx
  obtain ⟨hcb, -⟩ := State.arrayAt?_spec h1
  rw [hS] at hcb
  have h5 := (heap9 (Y.map Value.int).toArray).symm.trans hcb
  have h6 : cell.slots = (Y.map Value.int).toArray := (congrArg Cell.slots (Option.some.inj h5)).symm
  rw [h6] at h2
  have h7 : Y.map Value.int = xs.map Value.int := (tla9 _).symm.trans h2
  have h8 : xs = Y := ((List.map_inj_right (fun x y h => Value.int.inj h)).mp h7).symm
  rw [← h8]
  exact ⟨cell, h1, by rw [h6, tla9]; exact h7, h3, h4⟩
theorem arg9 {b : Addr} (h : some (Value.ref 0) = some (Value.ref b)) : b = 0 := (Value.ref.inj (Option.some.inj h)).symm
theorem start9_ints : start9.IntsAt 0 (scr9 K9) := by
  have hs := flat_of_before _ start9_pre
  have hq := flat_of_before _ start9_rest
  have harr : (Cond.arrayOf (.arg 0) .int).before start1.args0 start9 = true := hs _ (by decide +kernel)
  have hlen : (Cond.isInt (.length (.arg 0))).before start1.args0 start9 = true := hq _ (by decide +kernel)
  have hall : (Cond.all (.arg 0) (.isInt (.elem (.arg 0) (.index 0)))).before start1.args0 start9 = true := hq _ (by decide +kernel)
  obtain ⟨b, xs, hb, hx⟩ := State.ints_of_pre rfl harr hlen hall
  have hb0 : some (Value.ref 0) = some (Value.ref b) := hb
  exact ints9 (S := start9) rfl (arg9 hb0) hx
set_option maxRecDepth 16384 in
theorem whole_false : ¬ (Claimed_1_1 ∧ Claimed_1_2) := fun h =>
  room_false launch0 rfl lists_1 (p := start1.p0) (e := start1.e0) (s := start9) (m := ⟨0, 0⟩) (args := start1.args0) (below := Lib.HandBits.below0) (launch0.admits_env _ _ _) fairChoices_fair.cas fairChoices_fair.clock rfl (by decide +kernel) (by decide +kernel)
    ((Spec.applies_iff rfl).mpr ⟨rfl, rfl, rfl, by decide +kernel, by decide +kernel, by decide +kernel, launch0.hasRoom_least _ room_1 (by decide +kernel) (by decide +kernel) (by decide +kernel) (by decide +kernel) (by decide +kernel) (by decide +kernel), atoms_intro start9_words⟩)
    ((Spec.applies_iff rfl).mpr ⟨rfl, rfl, rfl, by decide +kernel, by decide +kernel, by decide +kernel, launch0.hasRoom_least _ (R9 K9) (by decide +kernel) (by decide +kernel) (by decide +kernel) (by decide +kernel) (by decide +kernel) (by decide +kernel), atoms_intro start9_words⟩)
    ⟨trivial, start9_rest, start9_pre⟩ 0 rfl start9_ints h.1
