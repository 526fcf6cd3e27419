/-! ===== playing best ===== -/
theorem scL_spec {W : Nat → Nat → Nat → Bool} {T : Nat → Nat → Nat → Option Nat} {p0 p1 mo ct : Nat} : ∀ k r b o, (∀ e, b = some e → W p0 ct e = true ∧ T p1 e mo = o ∧ ¬ o = none) →
    (scL W T p0 p1 mo ct k r b o = none → b = none ∧ ∀ x, r ≤ x → x < r + k → W p0 ct x = true → T p1 x mo = none) ∧
    (∀ e, scL W T p0 p1 mo ct k r b o = some e → W p0 ct e = true ∧ ¬ T p1 e mo = none ∧ (∀ e0, b = some e0 → ov (T p1 e mo) ≤ ov o) ∧ ∀ x, r ≤ x → x < r + k → W p0 ct x = true → ¬ T p1 x mo = none → ov (T p1 e mo) ≤ ov (T p1 x mo)) := by
  intro k
  induction k with
  | zero =>
    intro r b o hb
    rw [scL]
    refine ⟨fun h => ⟨h, fun x h1 h2 => by omega⟩, fun e h => ?_⟩
    obtain ⟨h1, h2, h3⟩ := hb e h
    exact ⟨h1, by rw [h2]; exact h3, fun _ _ => by rw [h2]; exact Nat.le_refl _, fun x h1 h2 => by omega⟩
  | succ k ih =>
    intro r b o hb
    have skip : (∀ x, x = r → W p0 ct x = true → ¬ T p1 x mo = none → (∀ e, b = some e → ov o ≤ ov (T p1 x mo)) ∧ ¬ b = none) →
        (scL W T p0 p1 mo ct k (r + 1) b o = none → b = none ∧ ∀ x, r ≤ x → x < r + (k + 1) → W p0 ct x = true → T p1 x mo = none) ∧
        (∀ e, scL W T p0 p1 mo ct k (r + 1) b o = some e → W p0 ct e = true ∧ ¬ T p1 e mo = none ∧ (∀ e0, b = some e0 → ov (T p1 e mo) ≤ ov o) ∧ ∀ x, r ≤ x → x < r + (k + 1) → W p0 ct x = true → ¬ T p1 x mo = none → ov (T p1 e mo) ≤ ov (T p1 x mo)) := by
      intro hr
      obtain ⟨i1, i2⟩ := ih (r + 1) b o hb
      refine ⟨fun h => ?_, fun e h => ?_⟩
      · obtain ⟨j1, j2⟩ := i1 h
        refine ⟨j1, fun x h1 h2 h3 => ?_⟩
        by_cases hx : x = r
        · refine Classical.byContradiction (fun h4 => (hr x hx h3 h4).2 j1)
        · exact j2 x (by omega) (by omega) h3
      · obtain ⟨j1, j2, j3, j4⟩ := i2 e h
        refine ⟨j1, j2, j3, fun x h1 h2 h3 h4 => ?_⟩
        by_cases hx : x = r
        · obtain ⟨g1, g2⟩ := hr x hx h3 h4
          cases hbb : b with
          | none => exact absurd hbb g2
          | some e0 => exact Nat.le_trans (j3 e0 hbb) (g1 e0 hbb)
        · exact j4 x (by omega) (by omega) h3 h4
    have take : W p0 ct r = true → ¬ T p1 r mo = none → (∀ e, b = some e → ov (T p1 r mo) ≤ ov o) →
        (scL W T p0 p1 mo ct k (r + 1) (some r) (T p1 r mo) = none → b = none ∧ ∀ x, r ≤ x → x < r + (k + 1) → W p0 ct x = true → T p1 x mo = none) ∧
        (∀ e, scL W T p0 p1 mo ct k (r + 1) (some r) (T p1 r mo) = some e → W p0 ct e = true ∧ ¬ T p1 e mo = none ∧ (∀ e0, b = some e0 → ov (T p1 e mo) ≤ ov o) ∧ ∀ x, r ≤ x → x < r + (k + 1) → W p0 ct x = true → ¬ T p1 x mo = none → ov (T p1 e mo) ≤ ov (T p1 x mo)) := by
      intro hw ht hle
      obtain ⟨i1, i2⟩ := ih (r + 1) (some r) (T p1 r mo) (fun e h => by cases h; exact ⟨hw, rfl, ht⟩)
      refine ⟨fun h => ?_, fun e h => ?_⟩
      · have := (i1 h).1; cases this
      · obtain ⟨j1, j2, j3, j4⟩ := i2 e h
        refine ⟨j1, j2, fun e0 h0 => Nat.le_trans (j3 r rfl) (hle e0 h0), fun x h1 h2 h3 h4 => ?_⟩
        by_cases hx : x = r
        · rw [hx]; exact j3 r rfl
        · exact j4 x (by omega) (by omega) h3 h4
    rw [scL]
    split
    · rename_i hw
      split
      · rename_i ht
        exact skip (fun x hx _ h4 => absurd (hx ▸ ht) h4)
      · rename_i ht
        split
        · rename_i hbn
          exact take hw ht (fun e h => by rw [hbn] at h; cases h)
        · rename_i hbn
          split
          · rename_i hle
            exact skip (fun x hx _ _ => ⟨fun _ _ => hx ▸ hle, hbn⟩)
          · rename_i hle
            exact take hw ht (fun _ _ => by omega)
    · rename_i hw
      exact skip (fun x hx h3 _ => absurd (hx ▸ h3) hw)
theorem bmL_spec {W : Nat → Nat → Nat → Bool} {T : Nat → Nat → Nat → Option Nat} {p0 p1 mo ct : Nat} : ∀ k r b o,
    ((∃ x, r ≤ x ∧ x < r + k ∧ W p0 mo x = true ∧ T p1 ct x = none) → W p0 mo (bmL W T p0 p1 mo ct k r b o) = true ∧ T p1 ct (bmL W T p0 p1 mo ct k r b o) = none) ∧
    ((∀ x, r ≤ x → x < r + k → W p0 mo x = true → ¬ T p1 ct x = none) →
      (bmL W T p0 p1 mo ct k r b o = b ∧ ∀ x, r ≤ x → x < r + k → W p0 mo x = true → ov (T p1 ct x) ≤ ov o) ∨
      (W p0 mo (bmL W T p0 p1 mo ct k r b o) = true ∧ ov o < ov (T p1 ct (bmL W T p0 p1 mo ct k r b o)) ∧ ∀ x, r ≤ x → x < r + k → W p0 mo x = true → ov (T p1 ct x) ≤ ov (T p1 ct (bmL W T p0 p1 mo ct k r b o)))) := by
  intro k
  induction k with
  | zero =>
    intro r b o
    exact ⟨fun ⟨x, h1, h2, _⟩ => by omega, fun _ => Or.inl ⟨rfl, fun x h1 h2 => by omega⟩⟩
  | succ k ih =>
    intro r b o
    rw [bmL]
    by_cases hw : W p0 mo r = true
    · rw [if_pos hw]
      by_cases ht : T p1 ct r = none
      · rw [if_pos ht]
        exact ⟨fun _ => ⟨hw, ht⟩, fun h => absurd ht (h r (Nat.le_refl _) (by omega) hw)⟩
      · rw [if_neg ht]
        have next : ∀ b' o', (∃ x, r ≤ x ∧ x < r + (k + 1) ∧ W p0 mo x = true ∧ T p1 ct x = none) → W p0 mo (bmL W T p0 p1 mo ct k (r + 1) b' o') = true ∧ T p1 ct (bmL W T p0 p1 mo ct k (r + 1) b' o') = none := by
          rintro b' o' ⟨x, h1, h2, h3, h4⟩
          refine (ih (r + 1) b' o').1 ⟨x, ?_, by omega, h3, h4⟩
          have : x ≠ r := fun h => ht (h ▸ h4)
          omega
        by_cases hle : ov (T p1 ct r) ≤ ov o
        · rw [if_pos hle]
          refine ⟨next b o, fun h => ?_⟩
          rcases (ih (r + 1) b o).2 (fun x h1 h2 => h x (by omega) (by omega)) with ⟨g1, g2⟩ | ⟨g1, g2, g3⟩
          · refine Or.inl ⟨g1, fun x h1 h2 h3 => ?_⟩
            by_cases hx : x = r
            · rw [hx]; exact hle
            · exact g2 x (by omega) (by omega) h3
          · refine Or.inr ⟨g1, g2, fun x h1 h2 h3 => ?_⟩
            by_cases hx : x = r
            · rw [hx]; omega
            · exact g3 x (by omega) (by omega) h3
        · rw [if_neg hle]
          refine ⟨next r (T p1 ct r), fun h => Or.inr ?_⟩
          rcases (ih (r + 1) r (T p1 ct r)).2 (fun x h1 h2 => h x (by omega) (by omega)) with ⟨g1, g2⟩ | ⟨g1, g2, g3⟩
          · rw [g1]
            refine ⟨hw, by omega, fun x h1 h2 h3 => ?_⟩
            by_cases hx : x = r
            · rw [hx]; exact Nat.le_refl _
            · exact g2 x (by omega) (by omega) h3
          · refine ⟨g1, by omega, fun x h1 h2 h3 => ?_⟩
            by_cases hx : x = r
            · rw [hx]; omega
            · exact g3 x (by omega) (by omega) h3
    · rw [if_neg hw]
      refine ⟨?_, fun h => ?_⟩
      · rintro ⟨x, h1, h2, h3, h4⟩
        refine (ih (r + 1) b o).1 ⟨x, ?_, by omega, h3, h4⟩
        have : x ≠ r := fun h => hw (h ▸ h3)
        omega
      · have ne : ∀ x, W p0 mo x = true → x ≠ r := fun x h3 h => hw (h ▸ h3)
        rcases (ih (r + 1) b o).2 (fun x h1 h2 => h x (by omega) (by omega)) with ⟨g1, g2⟩ | ⟨g1, g2, g3⟩
        · exact Or.inl ⟨g1, fun x h1 h2 h3 => g2 x (by have := ne x h3; omega) (by omega) h3⟩
        · exact Or.inr ⟨g1, g2, fun x h1 h2 h3 => g3 x (by have := ne x h3; omega) (by omega) h3⟩
theorem ncL_spec {W : Nat → Nat → Nat → Bool} {σ : HS} {p0 mo ct : Nat} : ∀ k r b e, ncL W σ p0 mo ct k r b e = b ∨ W p0 ct (ncL W σ p0 mo ct k r b e) = true := by
  intro k
  induction k with
  | zero => intro r b e; exact Or.inl rfl
  | succ k ih =>
    intro r b e
    rw [ncL]
    split
    · rename_i hw
      split
      · rcases ih (r + 1) r ((hAway σ r mo).getD 8) with h | h
        · rw [h]; exact Or.inr hw
        · exact Or.inr h
      · exact ih _ _ _
    · exact ih _ _ _
/-- what is looked out belongs to this house -/
def LK (σ : HS) (ω : OS) : Prop := agW (oW ω) (wayS σ none) ∧ agT (oT ω) (vT σ)
theorem LK.tOk {σ : HS} {ω : OS} (h : LK σ ω) : tOk ω := by
  intro p r m n hp hr hm he
  rw [h.2 p r m hp hr hm] at he
  exact fN_le _ _ he
theorem ph1 (nw : Nat) : (nw + 1) % 12 = nextP ((nw + 0) % 12) := by
  unfold nextP; split <;> omega
theorem ph0C (nw : Nat) : isC ((nw + 0) % 12) = isC nw := by
  unfold isC
  rw [show (nw + 0) % 12 % 2 = nw % 2 by omega]
theorem ov_some {o : Option Nat} {k : Nat} (h : ov o = k + 1) : o = some k := by
  cases o with
  | none => cases h
  | some n => exact congrArg some (Nat.succ.inj h)
theorem ov_pos {o : Option Nat} (h : ¬ o = none) : 0 < ov o := by
  cases o with
  | none => exact absurd rfl h
  | some n => exact Nat.succ_pos n
/-- doors join rooms of the house -/
def hIn (σ : HS) : Prop := ∀ d, d < zM σ → zF σ d < zN σ ∧ zG σ d < zN σ
/-- whoever plays best goes where it can, and the number falls by one; never stays never -/
theorem best_step {σ : HS} {ω : OS} {nw ct mo : Nat} (hσ : zOk σ) (hf : hIn σ) (hL : LK σ ω) (hct : ct < zN σ) (hs : zS σ ct = false) (hmo : mo < zN σ) (hne : ¬ mo = ct) {r : Nat} (hr : r = bestF (oW ω) (oT ω) σ nw ct mo) :
    oW ω ((nw + 0) % 12) (whoF nw ct mo) r = true ∧ r < zN σ ∧ zS σ (mvCat nw ct r) = false ∧
    (vT σ ((nw + 0) % 12) ct mo = none → ¬ mvCat nw ct r = mvMou nw mo r ∧ vT σ ((nw + 1) % 12) (mvCat nw ct r) (mvMou nw mo r) = none) ∧
    (∀ k, vT σ ((nw + 0) % 12) ct mo = some (k + 1) → vT σ ((nw + 1) % 12) (mvCat nw ct r) (mvMou nw mo r) = some k) := by
  have hN := hσ.1
  have hrn : r < zN σ := by rw [hr]; exact bestF_lt hct hmo
  have hp : (nw + 0) % 12 < 12 := by omega
  have hp1 : (nw + 1) % 12 < 12 := by omega
  cases hc : isC nw with
  | true =>
    have hcp : isC ((nw + 0) % 12) = true := by rw [ph0C]; exact hc
    have e1 : mvCat nw ct r = r := if_pos hc
    have e2 : mvMou nw mo r = mo := if_pos hc
    have e3 : whoF nw ct mo = ct := if_pos hc
    rw [e1, e2, e3]
    obtain ⟨q1, q2⟩ := scL_spec (W := oW ω) (T := oT ω) (p0 := (nw + 0) % 12) (p1 := (nw + 1) % 12) (mo := mo) (ct := ct) (zN σ) 0 none none (fun e h => by cases h)
    have hreach : oW ω ((nw + 0) % 12) ct r = true ∧ (¬ scF (oW ω) (oT ω) σ nw ct mo = none → scF (oW ω) (oT ω) σ nw ct mo = some r) := by
      rw [hr]
      unfold bestF
      rw [if_pos hc]
      cases hq : scF (oW ω) (oT ω) σ nw ct mo with
      | none =>
        refine ⟨?_, fun h => absurd rfl h⟩
        rcases ncL_spec (W := oW ω) (σ := σ) (p0 := (nw + 0) % 12) (mo := mo) (ct := ct) (zN σ) 0 ct 9 with h | h
        · show oW ω ((nw + 0) % 12) ct (ncL (oW ω) σ ((nw + 0) % 12) mo ct (zN σ) 0 ct 9) = true
          rw [h, hL.1 _ _ _ hp (by omega) (by omega)]
          simp [wayS]
        · exact h
      | some e => exact ⟨(q2 e hq).1, fun _ => rfl⟩
    have hway : wayS σ none ((nw + 0) % 12) ct r = true := by rw [← hL.1 _ _ _ hp (by omega) (by omega)]; exact hreach.1
    have hrs := wayS_cat hcp hs hway
    refine ⟨hreach.1, hrn, hrs, fun hv => ?_, fun k hv => ?_⟩
    · have hno := vT_cat_none hp (by omega) (by omega) hcp hct hs hv r (by omega) hway
      rw [← ph1] at hno
      refine ⟨fun h => ?_, hno⟩
      rw [(vT_0 hrn hrs).mpr h.symm] at hno
      cases hno
    · obtain ⟨⟨x, hx, hwx, hvx⟩, hlow⟩ := vT_cat_some hcp hct hs hv
      rw [← ph1] at hvx
      have hxn := wayS_lt hf hct hwx
      have hTx : oT ω ((nw + 1) % 12) x mo = some k := by rw [hL.2 _ _ _ hp1 hx (by omega)]; exact hvx
      have hWx : oW ω ((nw + 0) % 12) ct x = true := by rw [hL.1 _ _ _ hp (by omega) hx]; exact hwx
      have hsome : ¬ scF (oW ω) (oT ω) σ nw ct mo = none := fun h => by
        have := (q1 h).2 x (Nat.zero_le _) (by omega) hWx
        rw [hTx] at this; cases this
      obtain ⟨g1, g2, -, g4⟩ := q2 r (hreach.2 hsome)
      have g5 := g4 x (Nat.zero_le _) (by omega) hWx (by rw [hTx]; exact fun h => by cases h)
      rw [hTx] at g5
      rw [hL.2 _ _ _ hp1 (by omega) (by omega)] at g2 g5
      cases hq : vT σ ((nw + 1) % 12) r mo with
      | none => exact absurd hq g2
      | some j =>
        rw [hq] at g5
        have g6 : j + 1 ≤ k + 1 := g5
        have g7 := hlow r j (by omega) hway (by rw [← ph1]; exact hq)
        rw [show j = k by omega]
  | false =>
    have hcp : isC ((nw + 0) % 12) = false := by rw [ph0C]; exact hc
    have nn : ¬ isC nw = true := nt hc
    have e1 : mvCat nw ct r = ct := if_neg nn
    have e2 : mvMou nw mo r = r := if_neg nn
    have e3 : whoF nw ct mo = mo := if_neg nn
    rw [e1, e2, e3]
    have er : r = bmL (oW ω) (oT ω) ((nw + 0) % 12) ((nw + 1) % 12) mo ct (zN σ) 0 mo none := by
      rw [hr]; unfold bestF; rw [if_neg nn]; rfl
    obtain ⟨q1, q2⟩ := bmL_spec (W := oW ω) (T := oT ω) (p0 := (nw + 0) % 12) (p1 := (nw + 1) % 12) (mo := mo) (ct := ct) (zN σ) 0 mo none
    rw [← er] at q1 q2
    have hWm : oW ω ((nw + 0) % 12) mo mo = true := by rw [hL.1 _ _ _ hp (by omega) (by omega)]; simp [wayS]
    by_cases hex : ∃ x, 0 ≤ x ∧ x < 0 + zN σ ∧ oW ω ((nw + 0) % 12) mo x = true ∧ oT ω ((nw + 1) % 12) ct x = none
    · obtain ⟨g1, g2⟩ := q1 hex
      have hv1 : vT σ ((nw + 1) % 12) ct r = none := by rw [← hL.2 _ _ _ hp1 (by omega) (by omega)]; exact g2
      refine ⟨g1, hrn, hs, fun _ => ⟨fun h => ?_, hv1⟩, fun k hv => ?_⟩
      · rw [(vT_0 hct hs).mpr h.symm] at hv1; cases hv1
      · obtain ⟨hall, -⟩ := vT_mouse_some hcp hct hs hmo (by omega) hv
        obtain ⟨j, -, hj⟩ := hall r (by omega) (by rw [← hL.1 _ _ _ hp (by omega) (by omega)]; exact g1)
        rw [← ph1, hv1] at hj
        cases hj
    · have hall2 : ∀ x, 0 ≤ x → x < 0 + zN σ → oW ω ((nw + 0) % 12) mo x = true → ¬ oT ω ((nw + 1) % 12) ct x = none := fun x h1 h2 h3 h4 => hex ⟨x, h1, h2, h3, h4⟩
      have hgood : oW ω ((nw + 0) % 12) mo r = true ∧ ∀ x, 0 ≤ x → x < 0 + zN σ → oW ω ((nw + 0) % 12) mo x = true → ov (oT ω ((nw + 1) % 12) ct x) ≤ ov (oT ω ((nw + 1) % 12) ct r) := by
        rcases q2 hall2 with ⟨g1, g2⟩ | ⟨g1, -, g3⟩
        · have h1 := g2 mo (Nat.zero_le _) (by omega) hWm
          have h2 := ov_pos (hall2 mo (Nat.zero_le _) (by omega) hWm)
          have h3 : ov (none : Option Nat) = 0 := rfl
          omega
        · exact ⟨g1, g3⟩
      refine ⟨hgood.1, hrn, hs, fun hv => ?_, fun k hv => ?_⟩
      · exfalso
        obtain ⟨i, hi, hw, hvi⟩ := vT_mouse_none hp (by omega) (by omega) hcp hct hs hmo hv
        have hin := wayS_lt hf hmo hw
        rw [← ph1] at hvi
        exact hall2 i (Nat.zero_le _) (by omega) (by rw [hL.1 _ _ _ hp (by omega) hi]; exact hw) (by rw [hL.2 _ _ _ hp1 (by omega) hi]; exact hvi)
      · obtain ⟨hall, i, hi, hw, hvi⟩ := vT_mouse_some hcp hct hs hmo (by omega) hv
        have hin := wayS_lt hf hmo hw
        rw [← ph1] at hvi
        have h1 := hgood.2 i (Nat.zero_le _) (by omega) (by rw [hL.1 _ _ _ hp (by omega) hi]; exact hw)
        rw [hL.2 _ _ _ hp1 (by omega) hi, hvi, hL.2 _ _ _ hp1 (by omega) (by omega)] at h1
        obtain ⟨j, hj, hvj⟩ := hall r (by omega) (by rw [← hL.1 _ _ _ hp (by omega) (by omega)]; exact hgood.1)
        rw [← ph1] at hvj
        rw [hvj] at h1 ⊢
        have h2 : k + 1 ≤ j + 1 := h1
        rw [show j = k by omega]
/-! which doors there are -/
/-- no two doors join the same rooms -/
def hUq (σ : HS) : Prop := ∀ a b d e, d < zM σ → e < zM σ → hJn σ a b d = true → hJn σ a b e = true → d = e
theorem hJoinFrom_some {σ : HS} {a b : Nat} : ∀ k d, (∃ e, d ≤ e ∧ e < d + k ∧ hJn σ a b e = true) → ∃ e, hJoinFrom σ a b k d = some e ∧ hJn σ a b e = true := by
  intro k
  induction k with
  | zero => rintro d ⟨e, h1, h2, _⟩; omega
  | succ k ih =>
    rintro d ⟨e, h1, h2, h3⟩
    rw [hJoinFrom]
    by_cases hd : hJn σ a b d = true
    · rw [if_pos hd]; exact ⟨d, rfl, hd⟩
    · rw [if_neg hd]
      refine ih (d + 1) ⟨e, ?_, by omega, h3⟩
      have : e ≠ d := fun h => hd (h ▸ h3)
      omega
theorem hJoin_none {σ : HS} {a b : Nat} (h : hJoin σ a b = none) : ∀ e, e < zM σ → ¬ hJn σ a b e = true := by
  intro e he hj
  obtain ⟨e', h1, -⟩ := hJoinFrom_some (σ := σ) (a := a) (b := b) (zM σ) 0 ⟨e, Nat.zero_le _, by omega, hj⟩
  unfold hJoin at h
  rw [h] at h1
  cases h1
theorem wayS_hWay {σ : HS} (hσ : zOk σ) (hu : hUq σ) {p x y : Nat} (h : wayS σ none p x y = true) (hne : ¬ y = x) : hWay σ x y p = true ∧ (isC p = true → zS σ y = false) := by
  unfold wayS at h
  rw [Bool.or_eq_true] at h
  rcases h with h | h
  · exact absurd (beq_iff_eq.mp h) hne
  · obtain ⟨d, hd1, hd⟩ := List.any_eq_true.mp h
    have hdm : d < zM σ := by simp [List.mem_range'] at hd1; omega
    simp only [wayD, Bool.and_eq_true, Bool.or_eq_true, beq_iff_eq, Bool.not_eq_true'] at hd
    obtain ⟨-, ho, hj, hsf⟩ := hd
    have hjn : hJn σ x y d = true := by
      simp only [hJn, Bool.or_eq_true, Bool.and_eq_true, beq_iff_eq]
      rcases hj with h1 | h1
      · exact Or.inl h1
      · exact Or.inr ⟨h1.2, h1.1⟩
    obtain ⟨e, he, hje⟩ := hJoinFrom_some (σ := σ) (a := x) (b := y) (zM σ) 0 ⟨d, Nat.zero_le _, by omega, hjn⟩
    have hee : hJoin σ x y = some e := he
    have : d = e := hu x y d e hdm (hJoin_lt hσ hee) hjn hje
    subst this
    refine ⟨?_, fun hc => ?_⟩
    · unfold hWay
      rw [hee]
      simpa using ho
    · rcases hsf with h1 | h1
      · rw [hc] at h1; cases h1
      · exact h1
/-- cheese doesn't count for the ways, nor for the numbers of turns -/
theorem wayS_C {σ : HS} {C : Nat → Nat} {lk : Option Nat} {p x y : Nat} : wayS (setC σ C) lk p x y = wayS σ lk p x y := rfl
theorem sN_C {σ : HS} {C : Nat → Nat} {lk : Option Nat} : ∀ n, sN (setC σ C) lk n = sN σ lk n := by
  intro n
  induction n with
  | zero => rfl
  | succ n ih =>
    funext p c m
    show (sN (setC σ C) lk n p c m || sStep (setC σ C) lk (sN (setC σ C) lk n) p c m) = (sN σ lk n p c m || sStep σ lk (sN σ lk n) p c m)
    rw [ih]
    rfl
theorem fN_C {σ : HS} {C : Nat → Nat} {lk : Option Nat} {p c m : Nat} (n : Nat) : fN (setC σ C) lk n p c m = fN σ lk n p c m := by
  induction n with
  | zero => rfl
  | succ n ih =>
    rw [fN, fN, ih, sN_C n, sN_C (n + 1)]
theorem LK_C {σ : HS} {C : Nat → Nat} {ω : OS} : LK (setC σ C) ω ↔ LK σ ω := by
  have e : vT (setC σ C) = vT σ := by funext p c m; exact fN_C 768
  unfold LK
  rw [e]
  exact Iff.rfl
theorem LK_look {σ : HS} (hσ : zOk σ) (ω : OS) : LK σ (lookW σ none ω, (lookR σ none ω).1, (lookR σ none ω).2.1, (lookR σ none ω).2.2.1) :=
  ⟨fun _ _ y hp hx _ => lookW_eq hp hx y, lookR_fN hσ none ω⟩

