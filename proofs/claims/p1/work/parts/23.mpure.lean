/-! ===== the reference on a fresh object ===== -/
theorem isIn_f1 {v9 l9 g9 : Int32} (h : v9 < l9) : (decide (l9 ≤ v9) && decide (v9 ≤ g9)) = false := by
  rw [decide_eq_false (Int32.not_le.mpr h)]; rfl
theorem isIn_f2 {v9 l9 g9 : Int32} (h : g9 < v9) : (decide (l9 ≤ v9) && decide (v9 ≤ g9)) = false := by
  rw [decide_eq_false (Int32.not_le.mpr h), Bool.and_false]
theorem isIn_t {v9 l9 g9 : Int32} (h : ¬ v9 < l9) (h2 : ¬ g9 < v9) : (decide (l9 ≤ v9) && decide (v9 ≤ g9)) = true := by
  rw [decide_eq_true (Int32.not_lt.mp h), decide_eq_true (Int32.not_lt.mp h2)]; rfl
theorem isIn_0 (x : Int32) : (decide (nI 0 ≤ x) && decide (x ≤ (-1))) = false := by
  have h : ¬ (nI 0 ≤ x ∧ x ≤ (-1 : Int32)) := by
    rintro ⟨h1, h2⟩
    rw [Int32.le_iff_toInt_le] at h1 h2
    have e1 : (nI 0).toInt = 0 := by decide
    have e2 : (-1 : Int32).toInt = -1 := by decide
    omega
  rw [← Bool.decide_and]
  exact decide_eq_false h
abbrev thr (is : Bool) (k : Nat) : Nat := cond is k 0
abbrev thp (is : Bool) : Nat := cond is 2 1
/-- the reference's nine cells: thrown, rooms, greatest and safe as told, all else as it was made -/
abbrev pM (cZ cI : ClassId) (b : Nat → Nat) (t0 ro : Nat) (g0 : Option Nat) (S : Nat → Bool) : va_W := [(b 0, .inr (3, [.int (nI t0), .int (nI ro), .int (nI 0), .ref (b 1), .ref (b 2), .ref (b 3), .ref (b 4), .ref (b 5), .ref (b 6), .ref (b 7), .int (nI 0), .int (bI false), .int (bI false), .int (nI 0), .int (nI 0), .int (nI 0), .ref (b 8), .int (nI 0), .int (iO g0), .int (nI 0)])), (b 1, .inl (cZ, 8, .inl (encB S))), (b 2, .inl (cI, 8, .inl (fun _ => 0))), (b 3, .inl (cI, 14, .inl (fun _ => 0))), (b 4, .inl (cI, 14, .inl (fun _ => 0))), (b 5, .inl (cI, 14, .inl (fun _ => 0))), (b 6, .inl (cI, 14, .inl (fun _ => 0))), (b 7, .inl (cZ, 14, .inl (fun _ => 0))), (b 8, .inl (cI, 768, .inl (fun _ => 0)))]
