/-! ===== what the class's methods compute, in plain words: each loop as a recursion on what is left of it ===== -/
def nextP (p : Nat) : Nat := if p + 1 < 12 then p + 1 else 0
def isC (t : Nat) : Bool := t % 2 == 1
def hOpen (σ : HS) (d ph : Nat) : Bool := !(zL σ d) && (decide (zP σ d ≤ 1) || decide (ph % zP σ d ≠ zT σ d))
def hJn (σ : HS) (a b d : Nat) : Bool := (zF σ d == a && zG σ d == b) || (zF σ d == b && zG σ d == a)
def hJoinFrom (σ : HS) (a b : Nat) : Nat → Nat → Option Nat
  | 0, _ => none
  | k + 1, d => if hJn σ a b d then some d else hJoinFrom σ a b k (d + 1)
def hJoin (σ : HS) (a b : Nat) : Option Nat := hJoinFrom σ a b (zM σ) 0
def hAt (σ : HS) (r d : Nat) : Bool := !(zL σ d) && (zF σ d == r || zG σ d == r)
def hCnt (σ : HS) (r : Nat) : Nat → Nat → Nat → Nat
  | 0, _, c => c
  | k + 1, d, c => if hAt σ r d then hCnt σ r k (d + 1) (c + 1) else hCnt σ r k (d + 1) c
def hDoors (σ : HS) (r : Nat) : Nat := hCnt σ r (zM σ) 0 0
def hNear (σ : HS) (P : Nat → Bool) (d : Nat) : Bool := !(zL σ d) && (P (zF σ d) || P (zG σ d))
def hFar (σ : HS) (P : Nat → Bool) : Nat → Nat → (Nat → Bool) → Nat → Bool
  | 0, _, F => F
  | k + 1, d, F => if hNear σ P d then hFar σ P k (d + 1) (fun i => F i || ((i == zF σ d) || (i == zG σ d))) else hFar σ P k (d + 1) F
def hFarther (σ : HS) (P : Nat → Bool) : Nat → Bool := hFar σ P (zM σ) 0 P
theorem near_iff {P : Nat → Bool} {a b : Nat} (ha : a < 8) (hb : b < 8) : (∀ i, i < 8 → (P i && ((i == a) || (i == b))) = false) ↔ (P a || P b) = false := by
  constructor
  · intro h
    have h1 := h a ha
    have h2 := h b hb
    simp at h1 h2
    simp [h1, h2]
  · intro h i hi
    simp at h
    by_cases h1 : i = a
    · subst h1; simp [h.1]
    · by_cases h2 : i = b
      · subst h2; simp [h.2]
      · simp [h1, h2]
theorem hNear_t {σ : HS} {P : Nat → Bool} {d : Nat} (hl : zL σ d = false) (ha : zF σ d < 8) (hb : zG σ d < 8) (h : ¬ ∀ i, i < 8 → (P i && ((i == zF σ d) || (i == zG σ d))) = false) : hNear σ P d = true := by
  rw [near_iff ha hb] at h
  have h2 : (P (zF σ d) || P (zG σ d)) = true := by cases hh : (P (zF σ d) || P (zG σ d)) <;> simp_all
  show (!(zL σ d) && (P (zF σ d) || P (zG σ d))) = true
  rw [h2, hl]; rfl
theorem hNear_f1 {σ : HS} {P : Nat → Bool} {d : Nat} (hl : zL σ d = true) : ¬ hNear σ P d = true := by
  show ¬ (!(zL σ d) && (P (zF σ d) || P (zG σ d))) = true
  rw [hl]; simp
theorem hNear_f2 {σ : HS} {P : Nat → Bool} {d : Nat} (ha : zF σ d < 8) (hb : zG σ d < 8) (h : ∀ i, i < 8 → (P i && ((i == zF σ d) || (i == zG σ d))) = false) : ¬ hNear σ P d = true := by
  rw [near_iff ha hb] at h
  show ¬ (!(zL σ d) && (P (zF σ d) || P (zG σ d))) = true
  rw [h]; simp
def hDist (σ : HS) (b : Nat) : Nat → Nat → (Nat → Bool) → Option Nat
  | 0, _, _ => none
  | k + 1, n, F => if F b = true then some n else hDist σ b k (n + 1) (hFarther σ F)
def hAway (σ : HS) (a b : Nat) : Option Nat := hDist σ b 8 0 (fun i => i == a)
theorem nextP_lt {p : Nat} (h : p < 12) : nextP p < 12 := by unfold nextP; split <;> omega
def oSpr (W : Nat → Nat → Nat → Bool) (p : Nat) (P : Nat → Bool) : Nat → Nat → (Nat → Bool) → Nat → Bool
  | 0, _, F => F
  | k + 1, r, F => if P r = true then oSpr W p P k (r + 1) (fun i => F i || W p r i) else oSpr W p P k (r + 1) F
def oSpread (W : Nat → Nat → Nat → Bool) (p : Nat) (P : Nat → Bool) : Nat → Bool := oSpr W p P 8 0 P
def oCatL (W B : Nat → Nat → Nat → Bool) (p x : Nat) : Nat → Nat → (Nat → Bool) → Nat → Bool
  | 0, _, F => F
  | k + 1, r, F => if W p x r = true then oCatL W B p x k (r + 1) (fun i => F i || B (nextP p) r i) else oCatL W B p x k (r + 1) F
def oCat (W B : Nat → Nat → Nat → Bool) (p x : Nat) : Nat → Bool := oCatL W B p x 8 0 (fun _ => false)
def oMouL (W B : Nat → Nat → Nat → Bool) (p x : Nat) : Nat → Nat → (Nat → Bool) → Nat → Bool
  | 0, _, F => F
  | k + 1, r, F => if (∀ i, i < 8 → (W p r i && !B (nextP p) x i) = false) then oMouL W B p x k (r + 1) (fun i => F i || (i == r)) else oMouL W B p x k (r + 1) F
def oMouse (W B : Nat → Nat → Nat → Bool) (n p x : Nat) : Nat → Bool := oMouL W B p x n 0 (fun _ => false)
/-! ===== what the outlook writes ===== -/
def keepU (U : Nat → Nat → Nat → Bool) (p x : Nat) (P : Nat → Bool) : Nat → Nat → Nat → Bool := up3 U p x (fun i => U p x i || P i)
def kT (p x : Nat) (P : Nat → Bool) (t : Nat) : Nat → Nat → (Nat → Nat → Nat → Option Nat) → Nat → Nat → Nat → Option Nat
  | 0, _, T => T
  | k + 1, r, T => if P r = true then kT p x P t k (r + 1) (up4 T p x r (some t)) else kT p x P t k (r + 1) T
def layF (W : Nat → Nat → Nat → Bool) (S : Nat → Bool) (p a b : Nat) : Nat → Nat → Nat → Bool :=
  if isC p = false ∨ S b = false then up3 W p a (fun i => W p a i || (i == b)) else W
def lw1 (p : Nat) : Nat → Nat → (Nat → Nat → Nat → Bool) → Nat → Nat → Nat → Bool
  | 0, _, W => W
  | k + 1, r, W => lw1 p k (r + 1) (up3 W p r (fun i => i == r))
def lw2 (σ : HS) (lk : Option Nat) (p : Nat) : Nat → Nat → (Nat → Nat → Nat → Bool) → Nat → Nat → Nat → Bool
  | 0, _, W => W
  | k + 1, d, W => if lk = some d then lw2 σ lk p k (d + 1) W else if hOpen σ d p = true then lw2 σ lk p k (d + 1) (layF (layF W (zS σ) p (zF σ d) (zG σ d)) (zS σ) p (zG σ d) (zF σ d)) else lw2 σ lk p k (d + 1) W
def lw3 (σ : HS) (lk : Option Nat) : Nat → Nat → (Nat → Nat → Nat → Bool) → Nat → Nat → Nat → Bool
  | 0, _, W => W
  | k + 1, p, W => lw3 σ lk k (p + 1) (lw2 σ lk p (zM σ) 0 (lw1 p 8 0 W))
def upT {α : Type} (T : Nat → Nat → Nat → α) (i : Nat) (v : α) : Nat → Nat → Nat → α := fun p r m => if p = i / 64 ∧ r = i / 8 % 8 ∧ m = i % 8 then v else T p r m
theorem encT_upT (T : Nat → Nat → Nat → Option Nat) (i : Nat) (o : Option Nat) : upd (encT T) i (iO o) = encT (upT T i o) := by
  funext j
  by_cases hj : j = i
  · subst hj; simp [upd, encT, upT]
  · have h1 : ¬ (j / 64 = i / 64 ∧ j / 8 % 8 = i / 8 % 8 ∧ j % 8 = i % 8) := by omega
    simp [upd, encT, upT, hj, h1]
def s1 : Nat → Nat → (Nat → Nat → Nat → Option Nat) → Nat → Nat → Nat → Option Nat
  | 0, _, T => T
  | k + 1, i, T => s1 k (i + 1) (upT T i none)
abbrev UT : Type := (Nat → Nat → Nat → Bool) × (Nat → Nat → Nat → Option Nat)
def s2 (σ : HS) (p : Nat) : Nat → Nat → UT → UT
  | 0, _, x => x
  | k + 1, r, (U, T) => if r < zN σ then (if zS σ r = true then s2 σ p k (r + 1) (up3 U p r (fun _ => false), T) else s2 σ p k (r + 1) (keepU (up3 U p r (fun _ => false)) p r (fun i => i == r), kT p r (fun i => i == r) 0 8 0 T)) else s2 σ p k (r + 1) (up3 U p r (fun _ => false), T)
def s3 (σ : HS) : Nat → Nat → UT → UT
  | 0, _, x => x
  | k + 1, p, x => s3 σ k (p + 1) (s2 σ p 8 0 x)
def ltNew (W B : Nat → Nat → Nat → Bool) (σ : HS) (p r : Nat) : Nat → Bool := fun i => (if isC p = true then oCat W B p r else oMouse W B (zN σ) p r) i && !B p r i
theorem ltNew_c {W B : Nat → Nat → Nat → Bool} {σ : HS} {p r : Nat} (h : isC p = true) : ltNew W B σ p r = fun i => oCat W B p r i && !B p r i := by unfold ltNew; rw [if_pos h]
theorem ltNew_m {W B : Nat → Nat → Nat → Bool} {σ : HS} {p r : Nat} (h : isC p = false) : ltNew W B σ p r = fun i => oMouse W B (zN σ) p r i && !B p r i := by unfold ltNew; rw [if_neg (by rw [h]; exact Bool.false_ne_true)]
abbrev UTB : Type := (Nat → Nat → Nat → Bool) × (Nat → Nat → Nat → Option Nat) × Bool
def lt2 (W B : Nat → Nat → Nat → Bool) (σ : HS) (t p : Nat) : Nat → Nat → UTB → UTB
  | 0, _, x => x
  | k + 1, r, (U, T, b) => if (∀ i, i < 8 → ltNew W B σ p r i = false) then lt2 W B σ t p k (r + 1) (U, T, b) else if zS σ r = true then lt2 W B σ t p k (r + 1) (U, T, b) else lt2 W B σ t p k (r + 1) (keepU U p r (ltNew W B σ p r), kT p r (ltNew W B σ p r) t 8 0 T, true)
def lt3 (W B : Nat → Nat → Nat → Bool) (σ : HS) (t : Nat) : Nat → Nat → UTB → UTB
  | 0, _, x => x
  | k + 1, p, x => lt3 W B σ t k (p + 1) (lt2 W B σ t p (zN σ) 0 x)
def cpB (U B : Nat → Nat → Nat → Bool) : Nat → Nat → Nat → Bool := fun p r m => if p < 12 then U p r m else B p r m
theorem encW_cpy (U B : Nat → Nat → Nat → Bool) : va_cpy (encW U) (encW B) 0 0 96 = encW (cpB U B) := by
  funext k
  by_cases h : k < 96
  · have h1 : k / 8 < 12 := by omega
    simp only [va_cpy, encW]
    simp [h]
    refine congrArg sb (funext fun m => ?_)
    simp [cpB, h1]
  · have h1 : ¬ k / 8 < 12 := by omega
    simp only [va_cpy, encW]
    simp [h]
    refine congrArg sb (funext fun m => ?_)
    simp [cpB, h1]
def lo (W : Nat → Nat → Nat → Bool) (σ : HS) : Nat → Nat → (Nat → Nat → Nat → Bool) × (Nat → Nat → Nat → Bool) × (Nat → Nat → Nat → Option Nat) × Bool → (Nat → Nat → Nat → Bool) × (Nat → Nat → Nat → Bool) × (Nat → Nat → Nat → Option Nat) × Bool
  | 0, _, x => x
  | k + 1, t, (U, B, T, b) => if b = true then lo W σ k (t + 1) ((lt3 W (cpB U B) σ t 12 0 (U, T, false)).1, cpB U B, (lt3 W (cpB U B) σ t 12 0 (U, T, false)).2.1, (lt3 W (cpB U B) σ t 12 0 (U, T, false)).2.2) else (U, B, T, b)
def lookW (σ : HS) (lk : Option Nat) (ω : OS) : Nat → Nat → Nat → Bool := lw3 σ lk 12 0 (oW ω)
def startUT (σ : HS) (ω : OS) : UT := s3 σ 12 0 (oU ω, s1 768 0 (oT ω))
def lookR (σ : HS) (lk : Option Nat) (ω : OS) : (Nat → Nat → Nat → Bool) × (Nat → Nat → Nat → Bool) × (Nat → Nat → Nat → Option Nat) × Bool := lo (lookW σ lk ω) σ 768 1 ((startUT σ ω).1, oB ω, (startUT σ ω).2, true)

