/-! ===== p39: what the law of the property asks, in numbers ===== -/
abbrev nV (σ : HS) (nw ct mo : Nat) : Option Nat := vT σ ((nw + 0) % 12) ct mo
theorem nV_next (σ : HS) (nw c m : Nat) : nV σ (nw + 1) c m = vT σ ((nw + 1) % 12) c m := rfl
/-- how a chase stands: who is where, and the house -/
def hOn (σ : HS) (ω : OS) (ct mo : Nat) : Prop := zOk σ ∧ hIn σ ∧ hUq σ ∧ LK σ ω ∧ ct < zN σ ∧ zS σ ct = false ∧ mo < zN σ ∧ ¬ mo = ct
theorem nV_ne0 {σ : HS} {ω : OS} {nw ct mo : Nat} (h : hOn σ ω ct mo) : ¬ nV σ nw ct mo = some 0 := fun q => h.2.2.2.2.2.2.2 ((vT_0 h.2.2.2.2.1 h.2.2.2.2.2.1).mp q)
theorem mvK_on {σ : HS} {nw ct mo ea r : Nat} {cg : Bool} (h : ¬ mvCat nw ct r = mvMou nw mo r) : mvK σ nw cg ct mo ea r = (nw + 1, true, cg, some (mvCat nw ct r), some (mvMou nw mo r), if isC nw = true then ea else eatE σ r ea) := if_neg h
theorem mvK_off {σ : HS} {nw ct mo ea r : Nat} {cg : Bool} (h : mvCat nw ct r = mvMou nw mo r) : mvK σ nw cg ct mo ea r = (nw + 1, false, true, none, none, ea) := if_pos h
/-- playing best, with the number told -/
theorem st_best {σ : HS} {ω : OS} {nw ct mo : Nat} (h : hOn σ ω ct mo) {r : Nat} (hr : r = bestF (oW ω) (oT ω) σ nw ct mo) :
    oW ω ((nw + 0) % 12) (whoF nw ct mo) r = true ∧ r < zN σ ∧ (mvCat nw ct r = mvMou nw mo r ↔ nV σ nw ct mo = some 1) ∧
    (¬ mvCat nw ct r = mvMou nw mo r → zS σ (mvCat nw ct r) = false ∧ mvCat nw ct r < zN σ ∧ mvMou nw mo r < zN σ ∧
      (nV σ nw ct mo = none → nV σ (nw + 1) (mvCat nw ct r) (mvMou nw mo r) = none) ∧ (∀ k, nV σ nw ct mo = some (k + 1) → nV σ (nw + 1) (mvCat nw ct r) (mvMou nw mo r) = some k)) := by
  have h' := h
  obtain ⟨hσ, hf, hu, hL, hct, hs, hmo, hne⟩ := h'
  obtain ⟨h1, h2, h3, h4, h5⟩ := best_step hσ hf hL hct hs hmo hne hr
  have hc2 : mvCat nw ct r < zN σ := mvCat_lt hct h2
  have hm2 : mvMou nw mo r < zN σ := mvMou_lt hmo h2
  refine ⟨h1, h2, ⟨fun q => ?_, fun q => ?_⟩, fun q => ⟨h3, hc2, hm2, fun z => (h4 z).2, fun k z => h5 k z⟩⟩
  · cases hv : nV σ nw ct mo with
    | none => exact absurd q (h4 hv).1
    | some k =>
      cases k with
      | zero => exact absurd hv (nV_ne0 h)
      | succ k =>
        have h6 := h5 k hv
        rw [q, (vT_0 hm2 (by rw [← q]; exact h3)).mpr rfl] at h6
        cases h6
        rfl
  · have h6 := h5 0 q
    exact ((vT_0 hc2 h3).mp h6).symm
theorem st_on {σ : HS} {ω : OS} {nw ct mo : Nat} (h : hOn σ ω ct mo) {r : Nat} (hr : r = bestF (oW ω) (oT ω) σ nw ct mo) (hne : ¬ mvCat nw ct r = mvMou nw mo r) : hOn σ ω (mvCat nw ct r) (mvMou nw mo r) := by
  obtain ⟨-, -, -, h4⟩ := st_best (nw := nw) h hr
  obtain ⟨g1, g2, g3, -, -⟩ := h4 hne
  exact ⟨h.1, h.2.1, h.2.2.1, h.2.2.2.1, g2, g1, g3, fun q => hne q.symm⟩
theorem hOn_C {σ : HS} {ω : OS} {ct mo : Nat} {C : Nat → Nat} (hC : ∀ r, C r ≤ 9) (h : hOn σ ω ct mo) : hOn (setC σ C) ω ct mo :=
  ⟨zOk_C h.1 hC, h.2.1, h.2.2.1, LK_C.mpr h.2.2.2.1, h.2.2.2.2.1, h.2.2.2.2.2.1, h.2.2.2.2.2.2.1, h.2.2.2.2.2.2.2⟩
theorem nV_C {σ : HS} {C : Nat → Nat} {nw c m : Nat} : nV (setC σ C) nw c m = nV σ nw c m := fN_C 768
/-- how the number stands against the one of the chase's beginning -/
def lgI (σ : HS) (nw ct mo : Nat) : Option Nat → Prop
  | none => nV σ nw ct mo = none
  | some k => nw < k ∧ nV σ nw ct mo = some (k - nw)
theorem lgI_C {σ : HS} {C : Nat → Nat} {nw c m : Nat} : ∀ {w : Option Nat}, lgI (setC σ C) nw c m w ↔ lgI σ nw c m w
  | none => by unfold lgI; rw [nV_C]
  | some k => by unfold lgI; rw [nV_C]
theorem lgI_on {σ : HS} {ω : OS} {nw ct mo : Nat} {w : Option Nat} (h : hOn σ ω ct mo) {r : Nat} (hr : r = bestF (oW ω) (oT ω) σ nw ct mo) (hne : ¬ mvCat nw ct r = mvMou nw mo r) (hI : lgI σ nw ct mo w) : lgI σ (nw + 1) (mvCat nw ct r) (mvMou nw mo r) w := by
  obtain ⟨-, -, h3, h4⟩ := st_best (nw := nw) h hr
  obtain ⟨-, -, -, g4, g5⟩ := h4 hne
  cases w with
  | none => exact g4 hI
  | some k =>
    obtain ⟨i1, i2⟩ := hI
    have h1 : ¬ k - nw = 1 := fun q => hne (h3.mpr (by rw [i2, q]))
    refine ⟨by omega, ?_⟩
    exact (g5 (k - nw - 1) (i2.trans (congrArg some (by omega)))).trans (congrArg some (by omega))
theorem lgI_off {σ : HS} {ω : OS} {nw ct mo : Nat} {w : Option Nat} (h : hOn σ ω ct mo) {r : Nat} (hr : r = bestF (oW ω) (oT ω) σ nw ct mo) (he : mvCat nw ct r = mvMou nw mo r) (hI : lgI σ nw ct mo w) : w = some (nw + 1) := by
  obtain ⟨-, -, h3, -⟩ := st_best (nw := nw) h hr
  have h1 := h3.mp he
  cases w with
  | none => rw [show nV σ nw ct mo = none from hI] at h1; cases h1
  | some k =>
    obtain ⟨i1, i2⟩ := hI
    rw [i2] at h1
    have h2 : k - nw = 1 := Option.some.inj h1
    exact congrArg some (by omega)
/-- cheese: what lies in the first rooms -/
def cS (C : Nat → Nat) : Nat → Nat
  | 0 => 0
  | k + 1 => cS C k + C k
theorem cS_same {C E : Nat → Nat} : ∀ n, (∀ i, i < n → C i = E i) → cS C n = cS E n
  | 0, _ => rfl
  | n + 1, h => by show cS C n + C n = cS E n + E n; rw [cS_same n (fun i hi => h i (by omega)), h n (by omega)]
theorem cS_up {C : Nat → Nat} {r v : Nat} : ∀ n, r < n → cS (va_up C r v) n + C r = cS C n + v
  | 0, h => by omega
  | n + 1, h => by
    show cS (va_up C r v) n + va_up C r v n + C r = cS C n + C n + v
    rcases Nat.lt_or_ge r n with q | q
    · have h1 := cS_up (C := C) (v := v) n q
      have h2 : va_up C r v n = C n := by unfold va_up; rw [if_neg (by omega)]
      omega
    · have e : n = r := by omega
      subst e
      have h1 : cS (va_up C n v) n = cS C n := cS_same n (fun i hi => by unfold va_up; rw [if_neg (by omega)])
      have h2 : va_up C n v n = v := by unfold va_up; rw [if_pos rfl]
      omega
theorem cS_le {C : Nat → Nat} (h : ∀ r, C r ≤ 9) : ∀ n, cS C n ≤ 9 * n
  | 0 => Nat.le_refl 0
  | n + 1 => by
    have h1 := cS_le h n
    have h2 := h n
    show cS C n + C n ≤ 9 * (n + 1)
    omega
/-- cheese that is gone was eaten -/
theorem cS_step {σ : HS} {nw ct mo ea r : Nat} {cg : Bool} (hr : r < zN σ) : cS (mvC σ nw ct mo r) (zN σ) + ke (mvK σ nw cg ct mo ea r) = cS (zC σ) (zN σ) + ea := by
  unfold mvC
  by_cases h : mvCat nw ct r = mvMou nw mo r
  · rw [mvK_off h, if_pos h]
  · rw [mvK_on h, if_neg h]
    show _ + (if isC nw = true then ea else eatE σ r ea) = _
    by_cases hc : isC nw = true
    · rw [if_pos hc, if_pos hc]
    · rw [if_neg hc, if_neg hc]
      unfold eatC eatE
      by_cases hz : zC σ r = 0
      · rw [if_pos hz, if_pos hz]
      · rw [if_neg hz, if_neg hz]
        have := cS_up (C := zC σ) (v := zC σ r - 1) (zN σ) hr
        omega
/-- the ways that the law counts -/
def wyL (σ : HS) (p : Nat) (is : Bool) (fr : Nat) : Nat → Nat → Nat → Nat
  | 0, _, c => c
  | k + 1, t, c => if (hWay σ fr t p && !(is && zS σ t)) = true then wyL σ p is fr k (t + 1) (c + 1) else wyL σ p is fr k (t + 1) c
theorem wyL_ge {σ : HS} {p fr : Nat} {is : Bool} : ∀ k t c, c ≤ wyL σ p is fr k t c
  | 0, _, _ => Nat.le_refl _
  | k + 1, t, c => by
    show c ≤ if _ then _ else _
    split
    · exact Nat.le_trans (Nat.le_succ c) (wyL_ge k (t + 1) (c + 1))
    · exact wyL_ge k (t + 1) c
theorem wyL_le {σ : HS} {p fr : Nat} {is : Bool} : ∀ k t c, wyL σ p is fr k t c ≤ c + k
  | 0, _, _ => Nat.le_refl _
  | k + 1, t, c => by
    show (if _ then _ else _) ≤ c + (k + 1)
    split
    · have := wyL_le (σ := σ) (p := p) (fr := fr) (is := is) k (t + 1) (c + 1); omega
    · have := wyL_le (σ := σ) (p := p) (fr := fr) (is := is) k (t + 1) c; omega
theorem wyL_pos {σ : HS} {p fr x : Nat} {is : Bool} (hx : (hWay σ fr x p && !(is && zS σ x)) = true) : ∀ k t c, t ≤ x → x < t + k → c < wyL σ p is fr k t c
  | 0, _, _, _, _ => by omega
  | k + 1, t, c, h1, h2 => by
    show c < if _ then _ else _
    rcases Nat.lt_or_ge t x with q | q
    · split
      · exact Nat.lt_of_lt_of_le (Nat.lt_succ_self c) (wyL_ge k (t + 1) (c + 1))
      · exact wyL_pos hx k (t + 1) c q (by omega)
    · have e : t = x := by omega
      subst e
      rw [if_pos hx]
      exact Nat.lt_of_lt_of_le (Nat.lt_succ_self c) (wyL_ge k (t + 1) (c + 1))
/-- who can go nowhere stays -/
theorem st_stay {σ : HS} {ω : OS} {nw ct mo : Nat} (h : hOn σ ω ct mo) {r : Nat} (hr : r = bestF (oW ω) (oT ω) σ nw ct mo) (hw : wyL σ ((nw + 0) % 12) (isC nw) (whoF nw ct mo) (zN σ) 0 0 = 0) : r = whoF nw ct mo := by
  obtain ⟨h1, h2, -, -⟩ := st_best (nw := nw) h hr
  refine Decidable.byContradiction fun hne => ?_
  have hN := h.1.1
  have hwho : whoF nw ct mo < zN σ := whoF_lt h.2.2.2.2.1 h.2.2.2.2.2.2.1
  have hW : wayS σ none ((nw + 0) % 12) (whoF nw ct mo) r = true := by
    rw [← h.2.2.2.1.1 _ _ _ (by omega) (by omega) (by omega)]
    exact h1
  obtain ⟨g1, g2⟩ := wayS_hWay h.1 h.2.2.1 hW hne
  have g3 : (hWay σ (whoF nw ct mo) r ((nw + 0) % 12) && !(isC nw && zS σ r)) = true := by
    rw [g1]
    cases hc : isC nw with
    | false => rfl
    | true => rw [g2 (by rw [ph0C]; exact hc)]; rfl
  have := wyL_pos g3 (zN σ) 0 0 (by omega) (by omega)
  omega
/-- the number has the parity of who goes -/
theorem st_par {σ : HS} {ω : OS} {nw ct mo k : Nat} (h : hOn σ ω ct mo) (hv : nV σ nw ct mo = some k) : isC nw = isC k := by
  have := vT_par h.1 h.2.1 k ((nw + 0) % 12) ct mo (by omega) h.2.2.2.2.1 h.2.2.2.2.2.1 h.2.2.2.2.2.2.1 h.2.2.2.2.2.2.2 hv
  rw [← this, ph0C]
/-- never caught: it plays on -/
theorem pl_never {σ : HS} {ω : OS} : ∀ (f k nw ct mo ea : Nat) (cg : Bool) (C : Nat → Nat), (∀ r, C r ≤ 9) → hOn σ ω ct mo → nV σ nw ct mo = none →
    (plL σ ω f k (nw, true, cg, some ct, some mo, ea) C).1 = k + f ∧ (∀ r, (plL σ ω f k (nw, true, cg, some ct, some mo, ea) C).2.2 r ≤ 9) ∧ ∃ ct' mo' ea', (plL σ ω f k (nw, true, cg, some ct, some mo, ea) C).2.1 = (nw + f, true, cg, some ct', some mo', ea') ∧ hOn σ ω ct' mo' ∧ nV σ (nw + f) ct' mo' = none := by
  intro f
  induction f with
  | zero => exact fun k nw ct mo ea cg C hC h hv => ⟨rfl, hC, ct, mo, ea, rfl, h, hv⟩
  | succ f ih =>
    intro k nw ct mo ea cg C hC h hv
    have hc := hOn_C hC h
    obtain ⟨r, hr⟩ : ∃ r, r = bestF (oW ω) (oT ω) (setC σ C) nw ct mo := ⟨_, rfl⟩
    obtain ⟨-, -, h3, h4⟩ := st_best (nw := nw) hc hr
    have hv2 : nV (setC σ C) nw ct mo = none := by rw [nV_C]; exact hv
    have hne : ¬ mvCat nw ct r = mvMou nw mo r := fun q => by rw [h3.mp q] at hv2; cases hv2
    obtain ⟨-, -, -, g4, -⟩ := h4 hne
    have hn := g4 hv2
    rw [nV_C] at hn
    have e : plL σ ω (f + 1) k (nw, true, cg, some ct, some mo, ea) C = plL σ ω f (k + 1) (mvK (setC σ C) nw cg ct mo ea r) (mvC (setC σ C) nw ct mo r) := by rw [hr]; rfl
    rw [e, mvK_on hne]
    have hon : hOn σ ω (mvCat nw ct r) (mvMou nw mo r) := by
      have := st_on hc hr hne
      exact ⟨h.1, h.2.1, h.2.2.1, h.2.2.2.1, this.2.2.2.2⟩
    obtain ⟨a1, a2, ct', mo', ea', a3, a4, a5⟩ := ih (k + 1) (nw + 1) (mvCat nw ct r) (mvMou nw mo r) (if isC nw = true then ea else eatE (setC σ C) r ea) cg (mvC (setC σ C) nw ct mo r) (mvC_le hC) hon hn
    refine ⟨by rw [a1]; omega, a2, ct', mo', ea', ?_, a4, ?_⟩
    · rw [a3, show nw + 1 + f = nw + (f + 1) by omega]
    · rw [show nw + (f + 1) = nw + 1 + f by omega]; exact a5
