/-! ===== the chase's own words ===== -/
def tOk (ω : OS) : Prop := ∀ p r m n, p < 12 → r < 8 → m < 8 → oT ω p r m = some n → n ≤ 768
abbrev setC (σ : HS) (C : Nat → Nat) : HS := (zN σ, zM σ, zS σ, C, zF σ, zG σ, zP σ, zT σ, zL σ)
theorem zOk_C {σ : HS} {C : Nat → Nat} (h : zOk σ) (hC : ∀ r, C r ≤ 9) : zOk (zN σ, zM σ, zS σ, C, zF σ, zG σ, zP σ, zT σ, zL σ) := ⟨h.1, h.2.1, h.2.2.1, h.2.2.2.1, h.2.2.2.2.1, h.2.2.2.2.2.1, hC⟩
theorem zOk_room {σ : HS} (h : zOk σ) (h8 : zN σ < 8) (b : Bool) : zOk (zN σ + 1, zM σ, va_up (zS σ) (zN σ) b, zC σ, zF σ, zG σ, zP σ, zT σ, zL σ) := ⟨h8, h.2.1, h.2.2.1, h.2.2.2.1, h.2.2.2.2.1, h.2.2.2.2.2.1, h.2.2.2.2.2.2⟩
theorem up_lt {f : Nat → Nat} {i v k : Nat} (h : ∀ d, f d < k) (hv : v < k) : ∀ d, va_up f i v d < k := by
  intro d
  unfold va_up
  split
  · exact hv
  · exact h d
theorem up_le {f : Nat → Nat} {i v k : Nat} (h : ∀ d, f d ≤ k) (hv : v ≤ k) : ∀ d, va_up f i v d ≤ k := by
  intro d
  unfold va_up
  split
  · exact hv
  · exact h d
theorem zOk_door {σ : HS} (h : zOk σ) (hm : zM σ < 14) {x y pe re : Nat} (hx : x < 8) (hy : y < 8) (hp : pe ≤ 4) (hr : re < 4) : zOk (zN σ, zM σ + 1, zS σ, zC σ, va_up (zF σ) (zM σ) x, va_up (zG σ) (zM σ) y, va_up (zP σ) (zM σ) pe, va_up (zT σ) (zM σ) re, zL σ) := ⟨h.1, hm, up_lt h.2.2.1 hx, up_lt h.2.2.2.1 hy, up_le h.2.2.2.2.1 hp, up_lt h.2.2.2.2.2.1 hr, h.2.2.2.2.2.2⟩
theorem zOk_lock {σ : HS} (h : zOk σ) (L : Nat → Bool) : zOk (zN σ, zM σ, zS σ, zC σ, zF σ, zG σ, zP σ, zT σ, L) := h
theorem hJoinFrom_lt {σ : HS} {a b : Nat} : ∀ k d e, hJoinFrom σ a b k d = some e → e < d + k := by
  intro k
  induction k with
  | zero => intro d e h; cases h
  | succ k ih =>
    intro d e h
    rw [hJoinFrom] at h
    split at h
    · cases h; omega
    · have := ih _ _ h; omega
theorem hJoin_lt {σ : HS} (hσ : zOk σ) {a b : Nat} {e : Nat} (h : hJoin σ a b = some e) : e < zM σ := by
  have := hJoinFrom_lt _ _ _ h
  omega
theorem hJoin_get {σ : HS} (hσ : zOk σ) (a b : Nat) (h : ¬ hJoin σ a b = none) : (hJoin σ a b).getD 0 < 14 := by
  cases hj : hJoin σ a b with
  | none => exact absurd hj h
  | some e => have := hJoin_lt hσ hj; have := hσ.2.1; simp; omega
theorem hJoin_b {σ : HS} (hσ : zOk σ) (a b : Nat) : ∀ n, hJoin σ a b = some n → n < 2 ^ 31 := by
  intro n h
  have := hJoin_lt hσ h
  have := hσ.2.1
  omega
theorem hDist_lt {σ : HS} {b : Nat} : ∀ k n F e, hDist σ b k n F = some e → e < n + k := by
  intro k
  induction k with
  | zero => intro n F e h; cases h
  | succ k ih =>
    intro n F e h
    rw [hDist] at h
    split at h
    · cases h; omega
    · have := ih _ _ _ h; omega
theorem hAway_lt {σ : HS} {a b e : Nat} (h : hAway σ a b = some e) : e < 8 := by
  have := hDist_lt _ _ _ _ h
  omega
theorem hAway_b (σ : HS) (a b : Nat) : ∀ n, hAway σ a b = some n → n < 2 ^ 31 := fun n h => Nat.lt_trans (hAway_lt h) (by decide)
theorem hAway_get (σ : HS) (a b : Nat) : (hAway σ a b).getD 8 ≤ 8 := by
  cases h : hAway σ a b with
  | none => exact Nat.le_refl 8
  | some e => exact Nat.le_of_lt (hAway_lt h)
def hWay (σ : HS) (a b p : Nat) : Bool := (hJoin σ a b).isSome && hOpen σ ((hJoin σ a b).getD 0) p
def hUnL (σ : HS) (nw d : Nat) : Nat → Nat → Option Nat
  | 0, _ => none
  | k + 1, t => if hOpen σ d ((nw + t) % 12) = true then some t else hUnL σ nw d k (t + 1)
def hUntil (σ : HS) (nw d : Nat) : Option Nat := hUnL σ nw d 12 0
def whoF (nw ct mo : Nat) : Nat := if isC nw = true then ct else mo
def bmL (W : Nat → Nat → Nat → Bool) (T : Nat → Nat → Nat → Option Nat) (p0 p1 mo ct : Nat) : Nat → Nat → Nat → Option Nat → Nat
  | 0, _, b, _ => b
  | k + 1, r, b, o => if W p0 mo r = true then (if T p1 ct r = none then r else if ov (T p1 ct r) ≤ ov o then bmL W T p0 p1 mo ct k (r + 1) b o else bmL W T p0 p1 mo ct k (r + 1) r (T p1 ct r)) else bmL W T p0 p1 mo ct k (r + 1) b o
def scL (W : Nat → Nat → Nat → Bool) (T : Nat → Nat → Nat → Option Nat) (p0 p1 mo ct : Nat) : Nat → Nat → Option Nat → Option Nat → Option Nat
  | 0, _, b, _ => b
  | k + 1, r, b, o => if W p0 ct r = true then (if T p1 r mo = none then scL W T p0 p1 mo ct k (r + 1) b o else if b = none then scL W T p0 p1 mo ct k (r + 1) (some r) (T p1 r mo) else if ov o ≤ ov (T p1 r mo) then scL W T p0 p1 mo ct k (r + 1) b o else scL W T p0 p1 mo ct k (r + 1) (some r) (T p1 r mo)) else scL W T p0 p1 mo ct k (r + 1) b o
def ncL (W : Nat → Nat → Nat → Bool) (σ : HS) (p0 mo ct : Nat) : Nat → Nat → Nat → Nat → Nat
  | 0, _, b, _ => b
  | k + 1, r, b, e => if W p0 ct r = true then (if (hAway σ r mo).getD 8 < e then ncL W σ p0 mo ct k (r + 1) r ((hAway σ r mo).getD 8) else ncL W σ p0 mo ct k (r + 1) b e) else ncL W σ p0 mo ct k (r + 1) b e
def bmF (W : Nat → Nat → Nat → Bool) (T : Nat → Nat → Nat → Option Nat) (σ : HS) (nw ct mo : Nat) : Nat := bmL W T ((nw + 0) % 12) ((nw + 1) % 12) mo ct (zN σ) 0 mo none
def scF (W : Nat → Nat → Nat → Bool) (T : Nat → Nat → Nat → Option Nat) (σ : HS) (nw ct mo : Nat) : Option Nat := scL W T ((nw + 0) % 12) ((nw + 1) % 12) mo ct (zN σ) 0 none none
def ncF (W : Nat → Nat → Nat → Bool) (σ : HS) (nw ct mo : Nat) : Nat := ncL W σ ((nw + 0) % 12) mo ct (zN σ) 0 ct 9
def bestF (W : Nat → Nat → Nat → Bool) (T : Nat → Nat → Nat → Option Nat) (σ : HS) (nw ct mo : Nat) : Nat := if isC nw = true then (scF W T σ nw ct mo).getD (ncF W σ nw ct mo) else bmF W T σ nw ct mo
theorem bmL_lt {W : Nat → Nat → Nat → Bool} {T : Nat → Nat → Nat → Option Nat} {p0 p1 mo ct n : Nat} : ∀ k r b o, r + k = n → b < n → bmL W T p0 p1 mo ct k r b o < n := by
  intro k
  induction k with
  | zero => intro r b o _ hb; exact hb
  | succ k ih =>
    intro r b o hr hb
    rw [bmL]
    repeat' split
    · omega
    · exact ih _ _ _ (by omega) hb
    · exact ih _ _ _ (by omega) (by omega)
    · exact ih _ _ _ (by omega) hb
theorem scL_lt {W : Nat → Nat → Nat → Bool} {T : Nat → Nat → Nat → Option Nat} {p0 p1 mo ct n : Nat} : ∀ k r b o, r + k = n → (∀ e, b = some e → e < n) → ∀ e, scL W T p0 p1 mo ct k r b o = some e → e < n := by
  intro k
  induction k with
  | zero => intro r b o _ hb; exact hb
  | succ k ih =>
    intro r b o hr hb
    rw [scL]
    repeat' split
    · exact ih _ _ _ (by omega) hb
    · exact ih _ _ _ (by omega) (by intro e h; cases h; omega)
    · exact ih _ _ _ (by omega) hb
    · exact ih _ _ _ (by omega) (by intro e h; cases h; omega)
    · exact ih _ _ _ (by omega) hb
theorem ncL_lt {W : Nat → Nat → Nat → Bool} {σ : HS} {p0 mo ct n : Nat} : ∀ k r b e, r + k = n → b < n → ncL W σ p0 mo ct k r b e < n := by
  intro k
  induction k with
  | zero => intro r b o _ hb; exact hb
  | succ k ih =>
    intro r b o hr hb
    rw [ncL]
    repeat' split
    · exact ih _ _ _ (by omega) (by omega)
    · exact ih _ _ _ (by omega) hb
    · exact ih _ _ _ (by omega) hb
theorem bestF_lt {W : Nat → Nat → Nat → Bool} {T : Nat → Nat → Nat → Option Nat} {σ : HS} {nw ct mo : Nat} (hc : ct < zN σ) (hm : mo < zN σ) : bestF W T σ nw ct mo < zN σ := by
  unfold bestF
  split
  · cases h : scF W T σ nw ct mo with
    | none => exact ncL_lt _ _ _ _ (by omega) hc
    | some e => exact scL_lt _ _ _ _ (by omega) (by intro e h; cases h) e h
  · exact bmL_lt _ _ _ _ (by omega) hm
def tPair (ω : OS) (σ : HS) (nw pr : Nat) : Option Nat := if pr / 8 = pr % 8 then none else if ¬ pr / 8 < zN σ then none else if ¬ pr % 8 < zN σ then none else oT ω ((nw + 0) % 12) (pr / 8) (pr % 8)
theorem tPair_le {ω : OS} {σ : HS} (hσ : zOk σ) (hT : tOk ω) (nw pr : Nat) : ∀ n, tPair ω σ nw pr = some n → n ≤ 768 := by
  intro n h
  have := hσ.1
  unfold tPair at h
  split at h
  · cases h
  · split at h
    · cases h
    · split at h
      · cases h
      · exact hT _ _ _ _ (by omega) (by omega) (by omega) h
def pcL (ω : OS) (σ : HS) (nw : Nat) : Nat → Nat → Nat → Nat
  | 0, _, c => c
  | k + 1, p, c => if tPair ω σ nw p = none then pcL ω σ nw k (p + 1) c else pcL ω σ nw k (p + 1) (c + 1)
def lcL (ω : OS) (σ : HS) (nw : Nat) : Nat → Nat → Option Nat → Option Nat
  | 0, _, o => o
  | k + 1, p, o => lcL ω σ nw k (p + 1) (omax o (tPair ω σ nw p))
def mtL (ω : OS) (σ : HS) (nw : Nat) : Nat → Nat → Nat → Nat → Nat × Nat
  | 0, _, c, s => (c, s)
  | k + 1, p, c, s => if tPair ω σ nw p = none then mtL ω σ nw k (p + 1) c s else mtL ω σ nw k (p + 1) (c + 1) (s + (tPair ω σ nw p).getD 0)
def snL (ω : OS) (nw ct : Nat) : Nat → Nat → Nat → Nat
  | 0, _, c => c
  | k + 1, r, c => if oT ω ((nw + 0) % 12) ct r = none then snL ω nw ct k (r + 1) (c + 1) else snL ω nw ct k (r + 1) c
def mvCat (nw ct r : Nat) : Nat := if isC nw = true then r else ct
def mvMou (nw mo r : Nat) : Nat := if isC nw = true then mo else r
def eatC (σ : HS) (r : Nat) : Nat → Nat := if zC σ r = 0 then zC σ else va_up (zC σ) r (zC σ r - 1)
def eatE (σ : HS) (r e : Nat) : Nat := if zC σ r = 0 then e else e + 1
def mvK (σ : HS) (nw : Nat) (cg : Bool) (ct mo ea r : Nat) : CS := if mvCat nw ct r = mvMou nw mo r then (nw + 1, false, true, none, none, ea) else (nw + 1, true, cg, some (mvCat nw ct r), some (mvMou nw mo r), if isC nw = true then ea else eatE σ r ea)
def mvC (σ : HS) (nw ct mo r : Nat) : Nat → Nat := if mvCat nw ct r = mvMou nw mo r then zC σ else if isC nw = true then zC σ else eatC σ r
/-- a fixed outlook to begin with: what is looked out doesn't depend on it -/
def ω0 : OS := (fun _ _ _ => false, fun _ _ _ => false, fun _ _ _ => false, fun _ _ _ => none)
def lkT (σ : HS) (lk : Option Nat) (p c m : Nat) : Option Nat := (lookR σ lk ω0).2.2.1 p c m
def bdL (σ : HS) (nw ct mo : Nat) : Nat → Nat → Option Nat → Option Nat → Option Nat
  | 0, _, _, b => b
  | k + 1, d, o, b => if o = none then b else if zL σ d = true then bdL σ nw ct mo k (d + 1) o b else if lkT σ (some d) ((nw + 0) % 12) ct mo = none then bdL σ nw ct mo k (d + 1) (lkT σ (some d) ((nw + 0) % 12) ct mo) (some d) else if ov (lkT σ (some d) ((nw + 0) % 12) ct mo) ≤ ov o then bdL σ nw ct mo k (d + 1) o b else bdL σ nw ct mo k (d + 1) (lkT σ (some d) ((nw + 0) % 12) ct mo) (some d)
def jrL (σ : HS) : Nat → Nat → Int64 → Int64
  | 0, _, d => d
  | k + 1, r, d => jrL σ k (r + 1) ((((d * 31 + aN (zS σ r)) * 31 + (nI (zC σ r)).toInt64) * 31 + (nI (hDoors σ r)).toInt64) * 31 + oN (hAway σ 0 r))
def jdL (σ : HS) (nw : Nat) : Nat → Nat → Int64 → Int64
  | 0, _, d => d
  | k + 1, i, d => jdL σ nw k (i + 1) (((d * 31 + aN (zL σ i)) * 31 + aN (hOpen σ i ((nw + 0) % 12))) * 31 + oN (hUntil σ nw i))
/-- the chase is as its face keeps it: on, both are somewhere in the house -/
def kOk (σ : HS) (κ : CS) : Prop := ko κ = true → ∃ ct mo, kc κ = some ct ∧ km κ = some mo ∧ ct < zN σ ∧ mo < zN σ
theorem kOn_ex {σ : HS} {κ : CS} (h : kOk σ κ) (ho : ko κ = true) : ∃ nw cg ct mo ea, κ = (nw, true, cg, some ct, some mo, ea) ∧ ct < zN σ ∧ mo < zN σ := by
  obtain ⟨ct, mo, h1, h2, h3, h4⟩ := h ho
  obtain ⟨nw, on, cg, c, m, ea⟩ := κ
  dsimp only [ko, kc, km] at ho h1 h2
  subst ho; subst h1; subst h2
  exact ⟨nw, cg, ct, mo, ea, rfl, h3, h4⟩
def plL (σ : HS) (ω : OS) : Nat → Nat → CS → (Nat → Nat) → Nat × CS × (Nat → Nat)
  | 0, k, κ, C => (k, κ, C)
  | f + 1, k, κ, C => if ko κ = true then plL σ ω f (k + 1) (mvK (setC σ C) (kn κ) (kg κ) ((kc κ).getD 0) ((km κ).getD 0) (ke κ) (bestF (oW ω) (oT ω) (setC σ C) (kn κ) ((kc κ).getD 0) ((km κ).getD 0))) (mvC (setC σ C) (kn κ) ((kc κ).getD 0) ((km κ).getD 0) (bestF (oW ω) (oT ω) (setC σ C) (kn κ) ((kc κ).getD 0) ((km κ).getD 0))) else (k, κ, C)
theorem bdL_none {σ : HS} {nw ct mo : Nat} {b : Option Nat} : ∀ k d, bdL σ nw ct mo k d none b = b := by
  intro k d
  cases k with
  | zero => rfl
  | succ k => rw [bdL, if_pos rfl]
theorem whoF_lt {nw ct mo n : Nat} (hc : ct < n) (hm : mo < n) : whoF nw ct mo < n := by
  unfold whoF; split
  · exact hc
  · exact hm
theorem kn_mvK (σ : HS) (nw : Nat) (cg : Bool) (ct mo ea r : Nat) : kn (mvK σ nw cg ct mo ea r) = nw + 1 := by
  unfold mvK; split <;> rfl
theorem mvCat_lt {nw ct r n : Nat} (hc : ct < n) (hr : r < n) : mvCat nw ct r < n := by
  unfold mvCat; split
  · exact hr
  · exact hc
theorem mvMou_lt {nw mo r n : Nat} (hm : mo < n) (hr : r < n) : mvMou nw mo r < n := by
  unfold mvMou; split
  · exact hm
  · exact hr
theorem mvK_ok {σ σ' : HS} {nw ct mo ea r : Nat} {cg : Bool} (hc : ct < zN σ) (hm : mo < zN σ) (hr : r < zN σ) : kOk σ (mvK σ' nw cg ct mo ea r) := by
  intro h
  unfold mvK at h ⊢
  split at h
  · cases h
  · rename_i h2
    rw [if_neg h2]
    exact ⟨_, _, rfl, rfl, mvCat_lt hc hr, mvMou_lt hm hr⟩
theorem eatC_le {σ : HS} {r : Nat} (h : ∀ x, zC σ x ≤ 9) : ∀ x, eatC σ r x ≤ 9 := by
  intro x
  unfold eatC
  split
  · exact h x
  · exact up_le h (by have := h r; omega) x
theorem mvC_le {σ : HS} {nw ct mo r : Nat} (h : ∀ x, zC σ x ≤ 9) : ∀ x, mvC σ nw ct mo r x ≤ 9 := by
  intro x
  unfold mvC
  split
  · exact h x
  · split
    · exact h x
    · exact eatC_le h x

