/-! ===== what the numbers of turns obey ===== -/
theorem sN_succ {σ : HS} {lk : Option Nat} {n p c m : Nat} (h : sN σ lk n p c m = true) : sN σ lk (n + 1) p c m = true := by
  show (sN σ lk n p c m || sStep σ lk (sN σ lk n) p c m) = true
  rw [h]; rfl
theorem sN_mono {σ : HS} {lk : Option Nat} {p c m : Nat} {n k : Nat} (hk : n ≤ k) (h : sN σ lk n p c m = true) : sN σ lk k p c m = true := by
  induction k with
  | zero => rw [Nat.le_zero.mp hk] at h; exact h
  | succ k ih =>
    by_cases h2 : n = k + 1
    · rw [← h2]; exact h
    · exact sN_succ (ih (by omega))
theorem fN_iff {σ : HS} {lk : Option Nat} {p c m : Nat} : ∀ n k, fN σ lk n p c m = some k ↔ k ≤ n ∧ sN σ lk k p c m = true ∧ ∀ j, j < k → sN σ lk j p c m = false := by
  intro n
  induction n with
  | zero =>
    intro k
    rw [fN]
    constructor
    · intro h
      split at h
      · rename_i h2
        cases h
        exact ⟨Nat.le_refl _, h2, fun j hj => absurd hj (Nat.not_lt_zero _)⟩
      · cases h
    · rintro ⟨h1, h2, h3⟩
      have : k = 0 := Nat.le_zero.mp h1
      subst this
      rw [if_pos h2]
  | succ n ih =>
    intro k
    rw [fN]
    by_cases hs : sN σ lk n p c m = true
    · rw [if_pos hs, ih]
      constructor
      · rintro ⟨h1, h2⟩; exact ⟨by omega, h2⟩
      · rintro ⟨h1, h2, h3⟩
        refine ⟨?_, h2, h3⟩
        refine Nat.le_of_lt_succ (Nat.lt_of_le_of_ne h1 (fun h => ?_))
        have := h3 n (by omega)
        rw [hs] at this; cases this
    · rw [if_neg hs]
      constructor
      · intro h
        split at h
        · rename_i h2
          cases h
          refine ⟨Nat.le_refl _, h2, fun j hj => ?_⟩
          cases hj2 : sN σ lk j p c m with
          | false => rfl
          | true => exact absurd (sN_mono (by omega) hj2) hs
        · cases h
      · rintro ⟨h1, h2, h3⟩
        have hk : k = n + 1 := by
          refine Nat.le_antisymm h1 (Nat.lt_of_not_le (fun h => hs (sN_mono h h2)))
        subst hk
        rw [if_pos h2]
theorem fN_none_iff {σ : HS} {lk : Option Nat} {p c m : Nat} (n : Nat) : fN σ lk n p c m = none ↔ sN σ lk n p c m = false := by
  constructor
  · intro h
    cases hs : sN σ lk n p c m with
    | false => rfl
    | true =>
      exfalso
      have : ∀ k, k ≤ n → sN σ lk k p c m = true → False := by
        intro k
        induction k using Nat.strongRecOn with
        | _ k ih =>
          intro hk hs2
          by_cases hall : ∀ j, j < k → sN σ lk j p c m = false
          · have := (fN_iff n k).mpr ⟨hk, hs2, hall⟩
            rw [h] at this; cases this
          · have ⟨j, hj⟩ := Classical.not_forall.mp hall
            have ⟨hj1, hj2⟩ := Classical.not_imp.mp hj
            exact ih j hj1 (by omega) (by simpa using hj2)
      exact this n (Nat.le_refl _) hs
  · exact fN_none n
/-! the rooms of both and the turns are few: by 768 turns nothing new comes -/
theorem countP_lt {α : Type} {f g : α → Bool} : ∀ (l : List α), (∀ x, f x = true → g x = true) → (∃ x, x ∈ l ∧ g x = true ∧ f x = false) → l.countP f + 1 ≤ l.countP g := by
  intro l
  induction l with
  | nil => rintro _ ⟨x, hx, _⟩; cases hx
  | cons a l ih =>
    rintro h ⟨x, hx, hg, hf⟩
    have hle : l.countP f ≤ l.countP g := List.countP_mono_left (fun x _ => h x)
    rw [List.countP_cons, List.countP_cons]
    rcases List.mem_cons.mp hx with rfl | hx
    · rw [if_pos hg, if_neg (by rw [hf]; exact Bool.false_ne_true)]; omega
    · have := ih h ⟨x, hx, hg, hf⟩
      by_cases ha : f a = true
      · rw [if_pos ha, if_pos (h a ha)]; omega
      · rw [if_neg ha]; split <;> omega
def cntS (σ : HS) (lk : Option Nat) (n : Nat) : Nat := (List.range 768).countP (fun i => sN σ lk n (i / 64) (i / 8 % 8) (i % 8))
theorem cntS_lt {σ : HS} {lk : Option Nat} {n : Nat} (h : ¬ agW (sN σ lk (n + 1)) (sN σ lk n)) : cntS σ lk n + 1 ≤ cntS σ lk (n + 1) := by
  refine countP_lt _ (fun i hi => sN_succ hi) ?_
  have ⟨p, h1⟩ := Classical.not_forall.mp h
  have ⟨x, h2⟩ := Classical.not_forall.mp h1
  have ⟨y, h3⟩ := Classical.not_forall.mp h2
  have ⟨hp, h4⟩ := Classical.not_imp.mp h3
  have ⟨hx, h5⟩ := Classical.not_imp.mp h4
  have ⟨hy, h6⟩ := Classical.not_imp.mp h5
  refine ⟨p * 64 + x * 8 + y, List.mem_range.mpr (by omega), ?_⟩
  rw [show (p * 64 + x * 8 + y) / 64 = p by omega, show (p * 64 + x * 8 + y) / 8 % 8 = x by omega, show (p * 64 + x * 8 + y) % 8 = y by omega]
  cases h7 : sN σ lk n p x y with
  | true => rw [h7, sN_succ h7] at h6; exact absurd rfl h6
  | false =>
    rw [h7] at h6
    exact ⟨by simpa using h6, rfl⟩
theorem fix768 (σ : HS) (lk : Option Nat) : agW (sN σ lk 769) (sN σ lk 768) := by
  have hex : ∃ n, n ≤ 768 ∧ agW (sN σ lk (n + 1)) (sN σ lk n) := by
    refine Classical.byContradiction (fun hno => ?_)
    have hall : ∀ n, n ≤ 769 → n ≤ cntS σ lk n := by
      intro n
      induction n with
      | zero => intro _; exact Nat.zero_le _
      | succ n ih =>
        intro hn
        have h1 := ih (by omega)
        have h2 := cntS_lt (σ := σ) (lk := lk) (n := n) (fun h => hno ⟨n, by omega, h⟩)
        omega
    have h1 := hall 769 (Nat.le_refl _)
    have h2 : cntS σ lk 769 ≤ 768 := by
      have := List.countP_le_length (p := fun i => sN σ lk 769 (i / 64) (i / 8 % 8) (i % 8)) (l := List.range 768)
      rw [List.length_range] at this
      exact this
    omega
  obtain ⟨n, hn, hst⟩ := hex
  intro p x y hp hx hy
  have e1 := stab hst (769 - n) p x y hp hx hy
  have e2 := stab hst (768 - n) p x y hp hx hy
  rw [show n + (769 - n) = 769 by omega] at e1
  rw [show n + (768 - n) = 768 by omega] at e2
  rw [e1, e2]
/-- the number of turns, for all turns: V -/
abbrev vT (σ : HS) (p c m : Nat) : Option Nat := fN σ none 768 p c m
theorem vT_0 {σ : HS} {p c m : Nat} (hc : c < zN σ) (hs : zS σ c = false) : vT σ p c m = some 0 ↔ m = c := by
  rw [vT, fN_iff]
  constructor
  · rintro ⟨-, h, -⟩
    simpa [sN, hc, hs] using h
  · rintro rfl
    exact ⟨Nat.zero_le _, by simp [sN, hc, hs], fun j hj => absurd hj (Nat.not_lt_zero _)⟩
theorem sC {σ : HS} {n p c m : Nat} (hp : isC p = true) (hc : c < zN σ) (hs : zS σ c = false) : sN σ none (n + 1) p c m = (sN σ none n p c m || (List.range' 0 8).any (fun r => wayS σ none p c r && sN σ none n (nextP p) r m)) := by
  show (sN σ none n p c m || sStep σ none (sN σ none n) p c m) = _
  unfold sStep
  rw [decide_eq_true hc, hs, if_pos hp]
  rfl
theorem sM {σ : HS} {n p c m : Nat} (hp : isC p = false) (hc : c < zN σ) (hs : zS σ c = false) (hm : m < zN σ) : sN σ none (n + 1) p c m = (sN σ none n p c m || (List.range' 0 8).all (fun i => !(wayS σ none p m i) || sN σ none n (nextP p) c i)) := by
  show (sN σ none n p c m || sStep σ none (sN σ none n) p c m) = _
  unfold sStep
  rw [decide_eq_true hc, hs, if_neg (by rw [hp]; exact Bool.false_ne_true), decide_eq_true hm]
  rfl
theorem mem8 {i : Nat} (h : i < 8) : i ∈ List.range' 0 8 := by simp [List.mem_range']; omega
theorem of8 {i : Nat} (h : i ∈ List.range' 0 8) : i < 8 := by simp [List.mem_range'] at h; omega
/-- the cat goes, and surely catches -/
theorem vT_cat_some {σ : HS} {p c m k : Nat} (hp : isC p = true) (hc : c < zN σ) (hs : zS σ c = false) (h : vT σ p c m = some (k + 1)) : (∃ r, r < 8 ∧ wayS σ none p c r = true ∧ vT σ (nextP p) r m = some k) ∧ ∀ r j, r < 8 → wayS σ none p c r = true → vT σ (nextP p) r m = some j → k ≤ j := by
  obtain ⟨h1, h2, h3⟩ := (fN_iff _ _).mp h
  have low : ∀ r j, r < 8 → wayS σ none p c r = true → sN σ none j (nextP p) r m = true → k ≤ j := by
    intro r j hr hw hj
    refine Nat.le_of_not_lt (fun hlt => ?_)
    have h4 := h3 (j + 1) (by omega)
    rw [sC hp hc hs, Bool.or_eq_false_iff] at h4
    have h5 := h4.2
    rw [← Bool.not_eq_true, List.any_eq_true] at h5
    exact h5 ⟨r, mem8 hr, by rw [hw, hj]; rfl⟩
  refine ⟨?_, fun r j hr hw hj => low r j hr hw ((fN_iff _ _).mp hj).2.1⟩
  have h4 := h3 k (Nat.lt_succ_self _)
  rw [sC hp hc hs, h4, Bool.false_or, List.any_eq_true] at h2
  obtain ⟨r, hr, hx⟩ := h2
  rw [Bool.and_eq_true] at hx
  refine ⟨r, of8 hr, hx.1, (fN_iff _ _).mpr ⟨by omega, hx.2, fun j hj => ?_⟩⟩
  cases hq : sN σ none j (nextP p) r m with
  | false => rfl
  | true => have := low r j (of8 hr) hx.1 hq; omega
theorem vT_cat_none {σ : HS} {p c m : Nat} (hp12 : p < 12) (hc8 : c < 8) (hm8 : m < 8) (hp : isC p = true) (hc : c < zN σ) (hs : zS σ c = false) (h : vT σ p c m = none) : ∀ r, r < 8 → wayS σ none p c r = true → vT σ (nextP p) r m = none := by
  intro r hr hw
  rw [vT, fN_none_iff] at h ⊢
  have h2 := fix768 σ none p c m hp12 hc8 hm8
  rw [h, sC hp hc hs, h, Bool.false_or] at h2
  cases hq : sN σ none 768 (nextP p) r m with
  | false => rfl
  | true =>
    rw [← Bool.not_eq_true, List.any_eq_true] at h2
    exact absurd ⟨r, mem8 hr, by rw [hw, hq]; rfl⟩ h2
theorem vT_mouse_some {σ : HS} {p c m k : Nat} (hp : isC p = false) (hc : c < zN σ) (hs : zS σ c = false) (hm : m < zN σ) (hm8 : m < 8) (h : vT σ p c m = some (k + 1)) : (∀ i, i < 8 → wayS σ none p m i = true → ∃ j, j ≤ k ∧ vT σ (nextP p) c i = some j) ∧ ∃ i, i < 8 ∧ wayS σ none p m i = true ∧ vT σ (nextP p) c i = some k := by
  obtain ⟨h1, h2, h3⟩ := (fN_iff _ _).mp h
  have h4 := h3 k (Nat.lt_succ_self _)
  rw [sM hp hc hs hm, h4, Bool.false_or, List.all_eq_true] at h2
  have all : ∀ i, i < 8 → wayS σ none p m i = true → sN σ none k (nextP p) c i = true := by
    intro i hi hw
    have := h2 i (mem8 hi)
    rw [hw] at this
    simpa using this
  have val : ∀ i, i < 8 → wayS σ none p m i = true → ∃ j, j ≤ k ∧ vT σ (nextP p) c i = some j := by
    intro i hi hw
    cases hv : vT σ (nextP p) c i with
    | none =>
      rw [vT, fN_none_iff] at hv
      rw [sN_mono (by omega) (all i hi hw)] at hv
      cases hv
    | some j =>
      refine ⟨j, ?_, rfl⟩
      obtain ⟨g1, g2, g3⟩ := (fN_iff _ _).mp hv
      refine Nat.le_of_not_lt (fun hlt => ?_)
      have := g3 k hlt
      rw [all i hi hw] at this; cases this
  refine ⟨val, Classical.byContradiction (fun hno => ?_)⟩
  have lt : ∀ i, i < 8 → wayS σ none p m i = true → ∃ j, j < k ∧ vT σ (nextP p) c i = some j := by
    intro i hi hw
    obtain ⟨j, hj, hv⟩ := val i hi hw
    refine ⟨j, Nat.lt_of_le_of_ne hj (fun he => hno ⟨i, hi, hw, by rw [hv, he]⟩), hv⟩
  have hmm : wayS σ none p m m = true := by simp [wayS]
  obtain ⟨j0, hj0, -⟩ := lt m hm8 hmm
  have h5 := h4
  rw [show k = (k - 1) + 1 by omega, sM hp hc hs hm, Bool.or_eq_false_iff] at h5
  have h6 : (List.range' 0 8).all (fun i => !(wayS σ none p m i) || sN σ none (k - 1) (nextP p) c i) = true := by
    rw [List.all_eq_true]
    intro i hi
    cases hw : wayS σ none p m i with
    | false => rfl
    | true =>
      obtain ⟨j, hj, hv⟩ := lt i (of8 hi) hw
      have := sN_mono (k := k - 1) (by omega) ((fN_iff _ _).mp hv).2.1
      rw [this]; rfl
  rw [h6] at h5
  cases h5.2
theorem vT_mouse_none {σ : HS} {p c m : Nat} (hp12 : p < 12) (hc8 : c < 8) (hm8 : m < 8) (hp : isC p = false) (hc : c < zN σ) (hs : zS σ c = false) (hm : m < zN σ) (h : vT σ p c m = none) : ∃ i, i < 8 ∧ wayS σ none p m i = true ∧ vT σ (nextP p) c i = none := by
  rw [vT, fN_none_iff] at h
  have h2 := fix768 σ none p c m hp12 hc8 hm8
  rw [h, sM hp hc hs hm, h, Bool.false_or, ← Bool.not_eq_true, List.all_eq_true] at h2
  refine Classical.byContradiction (fun hno => h2 (fun i hi => ?_))
  cases hw : wayS σ none p m i with
  | false => rfl
  | true =>
    cases hv : sN σ none 768 (nextP p) c i with
    | true => rfl
    | false => exact absurd ⟨i, of8 hi, hw, by rw [vT, fN_none_iff]; exact hv⟩ hno
theorem isC_next {p : Nat} (h : p < 12) : isC (nextP p) = !(isC p) := by
  have : ∀ p, p < 12 → isC (nextP p) = !(isC p) := by decide
  exact this p h
theorem wayS_cat {σ : HS} {p c r : Nat} (hp : isC p = true) (hs : zS σ c = false) (h : wayS σ none p c r = true) : zS σ r = false := by
  unfold wayS at h
  rw [Bool.or_eq_true] at h
  rcases h with h | h
  · rw [beq_iff_eq.mp h]; exact hs
  · obtain ⟨d, -, hd⟩ := List.any_eq_true.mp h
    simp only [wayD, Bool.and_eq_true, hp] at hd
    simpa using hd.2.2.2
theorem wayS_lt {σ : HS} (hf : ∀ d, d < zM σ → zF σ d < zN σ ∧ zG σ d < zN σ) {p x r : Nat} (hx : x < zN σ) (h : wayS σ none p x r = true) : r < zN σ := by
  unfold wayS at h
  rw [Bool.or_eq_true] at h
  rcases h with h | h
  · rw [beq_iff_eq.mp h]; exact hx
  · obtain ⟨d, hd1, hd⟩ := List.any_eq_true.mp h
    have hdm : d < zM σ := by simp [List.mem_range'] at hd1; omega
    simp only [wayD, Bool.and_eq_true, Bool.or_eq_true, beq_iff_eq] at hd
    rcases hd.2.2.1 with h1 | h1
    · rw [← h1.2]; exact (hf d hdm).2
    · rw [← h1.2]; exact (hf d hdm).1
/-- the cat catches in its own turn: odd numbers when it goes, even ones when the mouse does -/
theorem vT_par {σ : HS} (hσ : zOk σ) (hf : ∀ d, d < zM σ → zF σ d < zN σ ∧ zG σ d < zN σ) : ∀ k p c m, p < 12 → c < zN σ → zS σ c = false → m < zN σ → ¬ m = c → vT σ p c m = some k → isC p = isC k := by
  intro k
  induction k with
  | zero =>
    intro p c m hp hc hs hm hne h
    exact absurd ((vT_0 hc hs).mp h) hne
  | succ k ih =>
    intro p c m hp hc hs hm hne h
    have hN := hσ.1
    have hks : isC (k + 1) = !(isC k) := by
      unfold isC
      have : k % 2 = 0 ∨ k % 2 = 1 := by omega
      rcases this with h | h
      · rw [show (k + 1) % 2 = 1 by omega, h]; rfl
      · rw [show (k + 1) % 2 = 0 by omega, h]; rfl
    rw [hks]
    have hnp := nextP_lt hp
    cases hcp : isC p with
    | true =>
      obtain ⟨⟨r, hr, hw, hv⟩, -⟩ := vT_cat_some hcp hc hs h
      have hrs := wayS_cat hcp hs hw
      have hrn := wayS_lt hf hc hw
      by_cases hrm : m = r
      · have h0 : vT σ (nextP p) r m = some 0 := (vT_0 hrn hrs).mpr hrm
        rw [hv] at h0
        cases h0; rfl
      · have := ih (nextP p) r m hnp hrn hrs hm hrm hv
        rw [← this, isC_next hp, hcp]; rfl
    | false =>
      obtain ⟨hall, i, hi, hw, hv⟩ := vT_mouse_some hcp hc hs hm (by omega) h
      have hin := wayS_lt hf hm hw
      by_cases hic : i = c
      · have h0 : vT σ (nextP p) c i = some 0 := (vT_0 hc hs).mpr hic
        rw [hv] at h0
        cases h0
        obtain ⟨j, hj, hv2⟩ := hall m (by omega) (by simp [wayS])
        have : j = 0 := Nat.le_zero.mp hj
        subst this
        exact absurd ((vT_0 hc hs).mp hv2) hne
      · have := ih (nextP p) c i hnp hc hs hin hic hv
        rw [← this, isC_next hp, hcp]; rfl

