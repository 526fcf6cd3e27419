/-! ===== what the class's methods compute, in plain words: each loop as a recursion on what is left of it ===== -/
def nextP (p : Nat) : Nat := if p + 1 < 12 then p + 1 else 0
def isC (t : Nat) : Bool := t % 2 == 1
def hOpen (σ : HS) (d ph : Nat) : Bool := !(zL σ d) && (decide (zP σ d ≤ 1) || decide (ph % zP σ d ≠ zT σ d))
def hJn (σ : HS) (a b d : Nat) : Bool := (zF σ d == a && zG σ d == b) || (zF σ d == b && zG σ d == a)
def hJoinFrom (σ : HS) (a b : Nat) : Nat → Nat → Option Nat
  | 0, _ => none
  | k + 1, d => if hJn σ a b d then some d else hJoinFrom σ a b k (d + 1)
def hJoin (σ : HS) (a b : Nat) : Option Nat := hJoinFrom σ a b (zM σ) 0
def hAt (σ : HS) (r d : Nat) : Bool := !(zL σ d) && (zF σ d == r || zG σ d == r)
def hCnt (σ : HS) (r : Nat) : Nat → Nat → Nat → Nat
  | 0, _, c => c
  | k + 1, d, c => if hAt σ r d then hCnt σ r k (d + 1) (c + 1) else hCnt σ r k (d + 1) c
def hDoors (σ : HS) (r : Nat) : Nat := hCnt σ r (zM σ) 0 0
def hNear (σ : HS) (P : Nat → Bool) (d : Nat) : Bool := !(zL σ d) && (P (zF σ d) || P (zG σ d))
def hFar (σ : HS) (P : Nat → Bool) : Nat → Nat → (Nat → Bool) → Nat → Bool
  | 0, _, F => F
  | k + 1, d, F => if hNear σ P d then hFar σ P k (d + 1) (fun i => F i || ((i == zF σ d) || (i == zG σ d))) else hFar σ P k (d + 1) F
def hFarther (σ : HS) (P : Nat → Bool) : Nat → Bool := hFar σ P (zM σ) 0 P
theorem near_iff {P : Nat → Bool} {a b : Nat} (ha : a < 8) (hb : b < 8) : (∀ i, i < 8 → (P i && ((i == a) || (i == b))) = false) ↔ (P a || P b) = false := by
  constructor
  · intro h
    have h1 := h a ha
    have h2 := h b hb
    simp at h1 h2
    simp [h1, h2]
  · intro h i hi
    simp at h
    by_cases h1 : i = a
    · subst h1; simp [h.1]
    · by_cases h2 : i = b
      · subst h2; simp [h.2]
      · simp [h1, h2]
theorem hNear_t {σ : HS} {P : Nat → Bool} {d : Nat} (hl : zL σ d = false) (ha : zF σ d < 8) (hb : zG σ d < 8) (h : ¬ ∀ i, i < 8 → (P i && ((i == zF σ d) || (i == zG σ d))) = false) : hNear σ P d = true := by
  rw [near_iff ha hb] at h
  have h2 : (P (zF σ d) || P (zG σ d)) = true := by cases hh : (P (zF σ d) || P (zG σ d)) <;> simp_all
  show (!(zL σ d) && (P (zF σ d) || P (zG σ d))) = true
  rw [h2, hl]; rfl
theorem hNear_f1 {σ : HS} {P : Nat → Bool} {d : Nat} (hl : zL σ d = true) : ¬ hNear σ P d = true := by
  show ¬ (!(zL σ d) && (P (zF σ d) || P (zG σ d))) = true
  rw [hl]; simp
theorem hNear_f2 {σ : HS} {P : Nat → Bool} {d : Nat} (ha : zF σ d < 8) (hb : zG σ d < 8) (h : ∀ i, i < 8 → (P i && ((i == zF σ d) || (i == zG σ d))) = false) : ¬ hNear σ P d = true := by
  rw [near_iff ha hb] at h
  show ¬ (!(zL σ d) && (P (zF σ d) || P (zG σ d))) = true
  rw [h]; simp
def hDist (σ : HS) (b : Nat) : Nat → Nat → (Nat → Bool) → Option Nat
  | 0, _, _ => none
  | k + 1, n, F => if F b = true then some n else hDist σ b k (n + 1) (hFarther σ F)
def hAway (σ : HS) (a b : Nat) : Option Nat := hDist σ b 8 0 (fun i => i == a)
theorem nextP_lt {p : Nat} (h : p < 12) : nextP p < 12 := by unfold nextP; split <;> omega
def oSpr (ω : OS) (p : Nat) (P : Nat → Bool) : Nat → Nat → (Nat → Bool) → Nat → Bool
  | 0, _, F => F
  | k + 1, r, F => if P r = true then oSpr ω p P k (r + 1) (fun i => F i || oW ω p r i) else oSpr ω p P k (r + 1) F
def oSpread (ω : OS) (p : Nat) (P : Nat → Bool) : Nat → Bool := oSpr ω p P 8 0 P
def oCatL (ω : OS) (p x : Nat) : Nat → Nat → (Nat → Bool) → Nat → Bool
  | 0, _, F => F
  | k + 1, r, F => if oW ω p x r = true then oCatL ω p x k (r + 1) (fun i => F i || oB ω (nextP p) r i) else oCatL ω p x k (r + 1) F
def oCat (ω : OS) (p x : Nat) : Nat → Bool := oCatL ω p x 8 0 (fun _ => false)
def oMouL (ω : OS) (p x : Nat) : Nat → Nat → (Nat → Bool) → Nat → Bool
  | 0, _, F => F
  | k + 1, r, F => if (∀ i, i < 8 → (oW ω p r i && !oB ω (nextP p) x i) = false) then oMouL ω p x k (r + 1) (fun i => F i || (i == r)) else oMouL ω p x k (r + 1) F
def oMouse (ω : OS) (σ : HS) (p x : Nat) : Nat → Bool := oMouL ω p x (zN σ) 0 (fun _ => false)
