/-! ===== the class in a house without doors: cat and mouse stay ===== -/
def σd (n : Nat) : HS := (n, 0, fun _ => false, fun _ => 0, fun _ => 0, fun _ => 0, fun _ => 0, fun _ => 0, fun _ => false)
theorem σd_up (n : Nat) : (zN (σd n) + 1, zM (σd n), va_up (zS (σd n)) (zN (σd n)) false, zC (σd n), zF (σd n), zG (σd n), zP (σd n), zT (σd n), zL (σd n)) = σd (n + 1) := by
  show (n + 1, 0, va_up (fun _ => false) n false, _) = _
  rw [va_up_ff]
  rfl
theorem zOk_d {n : Nat} (h : n ≤ 8) : zOk (σd n) := ⟨h, Nat.zero_le _, fun _ => (show (0 : Nat) < 8 by decide), fun _ => (show (0 : Nat) < 8 by decide), fun _ => (show (0 : Nat) ≤ 4 by decide), fun _ => (show (0 : Nat) < 4 by decide), fun _ => (show (0 : Nat) ≤ 9 by decide)⟩
theorem wayS_d {n p x y : Nat} : wayS (σd n) none p x y = (y == x) := by
  show ((y == x) || (List.range' 0 0).any _) = _
  rw [show List.range' 0 0 = [] from rfl, List.any_nil, Bool.or_false]
theorem sN_d {n c m : Nat} (hc : c < 8) (hm : m < 8) (hne : ¬ m = c) : ∀ k p, sN (σd n) none k p c m = false := by
  intro k
  induction k with
  | zero =>
    intro p
    show (decide (c < n) && (!false && (m == c))) = false
    simp [hne]
  | succ k ih =>
    intro p
    show (sN (σd n) none k p c m || sStep (σd n) none (sN (σd n) none k) p c m) = false
    rw [ih p, Bool.false_or]
    have h : (if isC p = true then (List.range' 0 8).any (fun r => wayS (σd n) none p c r && sN (σd n) none k (nextP p) r m) else decide (m < zN (σd n)) && (List.range' 0 8).all (fun i => !(wayS (σd n) none p m i) || sN (σd n) none k (nextP p) c i)) = false := by
      split
      · rw [List.any_eq_false]
        intro r hr
        rw [wayS_d]
        by_cases e : r = c
        · subst e; rw [ih]; simp
        · simp [e]
      · rw [Bool.and_eq_false_iff]
        right
        rw [List.all_eq_false]
        exact ⟨m, mem8 hm, by rw [wayS_d, ih]; simp⟩
    unfold sStep
    rw [h]
    simp
theorem vT_d {n c m p : Nat} (hc : c < 8) (hm : m < 8) (hne : ¬ m = c) : vT (σd n) p c m = none := fN_none 768 (sN_d hc hm hne 768 p)
theorem best_d {ω : OS} {nw : Nat} (hL : LK (σd 2) ω) : bestF (oW ω) (oT ω) (σd 2) nw 0 1 = whoF nw 0 1 := by
  obtain ⟨h1, h2, -⟩ := best_step (nw := nw) (zOk_d (by decide)) (fun d hd => absurd hd (Nat.not_lt_zero d)) hL (show 0 < zN (σd 2) by decide) rfl (show 1 < zN (σd 2) by decide) (by decide) rfl
  have h3 : whoF nw 0 1 < 8 := whoF_lt (by decide) (by decide)
  have h4 : bestF (oW ω) (oT ω) (σd 2) nw 0 1 < 8 := Nat.lt_trans h2 (by decide)
  rw [hL.1 _ _ _ (Nat.mod_lt _ (by decide)) h3 h4, wayS_d] at h1
  exact eq_of_beq h1
theorem whoF_01 (nw : Nat) : mvCat nw 0 (whoF nw 0 1) = 0 ∧ mvMou nw 1 (whoF nw 0 1) = 1 := by
  unfold mvCat mvMou whoF
  cases isC nw <;> simp
theorem mvK_d (nw : Nat) (cg : Bool) (ea : Nat) : mvK (σd 2) nw cg 0 1 ea (whoF nw 0 1) = (nw + 1, true, cg, some 0, some 1, ea) := by
  unfold mvK
  rw [(whoF_01 nw).1, (whoF_01 nw).2, if_neg (by decide)]
  have e : eatE (σd 2) (whoF nw 0 1) ea = ea := if_pos rfl
  rw [e, ite_self]
theorem mvC_d (nw : Nat) : mvC (σd 2) nw 0 1 (whoF nw 0 1) = fun _ => 0 := by
  unfold mvC
  rw [(whoF_01 nw).1, (whoF_01 nw).2, if_neg (by decide)]
  have e : eatC (σd 2) (whoF nw 0 1) = fun _ => 0 := if_pos rfl
  rw [e]
  exact ite_self _
theorem plL_d {ω : OS} (hL : LK (σd 2) ω) : ∀ f k nw cg ea, plL (σd 2) ω f k (nw, true, cg, some 0, some 1, ea) (fun _ => 0) = (k + f, (nw + f, true, cg, some 0, some 1, ea), fun _ => 0) := by
  intro f
  induction f with
  | zero => intro k nw cg ea; rfl
  | succ f ih =>
    intro k nw cg ea
    rw [plL, if_pos rfl]
    show plL (σd 2) ω f (k + 1) (mvK (σd 2) nw cg 0 1 ea (bestF (oW ω) (oT ω) (σd 2) nw 0 1)) (mvC (σd 2) nw 0 1 (bestF (oW ω) (oT ω) (σd 2) nw 0 1)) = _
    rw [best_d hL, mvK_d, mvC_d, ih, show k + 1 + f = k + (f + 1) by omega, show nw + 1 + f = nw + (f + 1) by omega]
/-- what is looked out of such a house -/
def ωd (n : Nat) (ω : OS) : OS := (lookW (σd n) none ω, (lookR (σd n) none ω).1, (lookR (σd n) none ω).2.1, (lookR (σd n) none ω).2.2.1)
theorem LK_d {n : Nat} (h : n ≤ 8) (ω : OS) : LK (σd n) (ωd n ω) := LK_look (zOk_d h) ω
theorem T_d {n p : Nat} (h : n ≤ 8) (ω : OS) (hp : p < 12) : oT (ωd n ω) p 0 1 = none := ((LK_d h ω).2 p 0 1 hp (by decide) (by decide)).trans (vT_d (by decide) (by decide) (by decide))
