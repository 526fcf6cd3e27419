/-! ===== the mean isn't above the greatest ===== -/
theorem pw_cancel {x y e : Nat} (h : x * 2 ^ e ≤ y * 2 ^ e) : x ≤ y := Nat.le_of_mul_le_mul_right h (Nat.two_pow_pos e)
theorem pw_eq {x y e : Nat} (h : x * 2 ^ e = y * 2 ^ e) : x = y := Nat.eq_of_mul_eq_mul_right (Nat.two_pow_pos e) h
/-- a whole number as sign, coefficient, exponent -/
theorem whole_nat {a : Nat} {s : Bool} {c : Nat} {q : Int} (h : Jvm.FP.Core.Whole (a : Int) (.fin s c q)) : c * 2 ^ q.toNat = a * 2 ^ (-q).toNat ∧ (s = true → c = 0) := by
  have h1 : Jvm.FP.Core.signed s (c * 2 ^ q.toNat) = (a : Int) * ((2 ^ (-q).toNat : Nat) : Int) := h
  have h2 : (a : Int) * ((2 ^ (-q).toNat : Nat) : Int) = ((a * 2 ^ (-q).toNat : Nat) : Int) := (Int.natCast_mul _ _).symm
  rw [h2] at h1
  cases s with
  | false =>
    have h3 : ((c * 2 ^ q.toNat : Nat) : Int) = ((a * 2 ^ (-q).toNat : Nat) : Int) := h1
    exact ⟨Int.ofNat.inj h3, fun h => by cases h⟩
  | true =>
    have h3 : -((c * 2 ^ q.toNat : Nat) : Int) = ((a * 2 ^ (-q).toNat : Nat) : Int) := h1
    have h4 : c * 2 ^ q.toNat = 0 := by omega
    have h5 : a * 2 ^ (-q).toNat = 0 := by omega
    refine ⟨by rw [h4, h5], fun _ => ?_⟩
    rcases Nat.mul_eq_zero.mp h4 with h | h
    · exact h
    · exact absurd h (Nat.ne_of_gt (Nat.two_pow_pos _))
/-- the same, over any exponent below -/
theorem whole_at {a c : Nat} {q e : Int} (h : c * 2 ^ q.toNat = a * 2 ^ (-q).toNat) (he : e ≤ q) (he0 : e ≤ 0) : c * 2 ^ (q - e).toNat = a * 2 ^ (-e).toNat := by
  apply pw_eq (e := (-q).toNat)
  rw [Nat.mul_assoc, ← Nat.pow_add, Nat.mul_assoc, ← Nat.pow_add]
  rw [show (q - e).toNat + (-q).toNat = q.toNat + (-e).toNat by omega, show (-e).toNat + (-q).toNat = (-q).toNat + (-e).toNat by omega, Nat.pow_add, Nat.pow_add, ← Nat.mul_assoc, ← Nat.mul_assoc, h]
theorem mean_le_z {a k g : Nat} (h : a ≤ k * g) {X K G : UInt64} (hX : Jvm.FP.Core.DInt (a : Int) X) (hK : Jvm.FP.Core.DInt (k : Int) K) (hG : Jvm.FP.Core.DInt (g : Int) G) (hk : 0 < k) :
    Jvm.FP.Core.zval Jvm.FP.Core.b64 (Jvm.FP.Core.val64 (Jvm.FP.Core.ddiv X K)) ≤ Jvm.FP.Core.zval Jvm.FP.Core.b64 (Jvm.FP.Core.val64 G) ∧ Jvm.FP.Core.val64 (Jvm.FP.Core.ddiv X K) ≠ .nan ∧ Jvm.FP.Core.val64 G ≠ .nan := by
  have fG := Jvm.FP.Core.val64_fits G
  rw [Jvm.FP.Core.val64_ddiv]
  unfold Jvm.FP.Core.DInt at hX hK hG
  cases eX : Jvm.FP.Core.val64 X with
  | nan => rw [eX] at hX; exact hX.elim
  | inf s => rw [eX] at hX; exact hX.elim
  | fin s c q =>
    cases eK : Jvm.FP.Core.val64 K with
    | nan => rw [eK] at hK; exact hK.elim
    | inf s => rw [eK] at hK; exact hK.elim
    | fin t d r =>
      cases eG : Jvm.FP.Core.val64 G with
      | nan => rw [eG] at hG; exact hG.elim
      | inf s => rw [eG] at hG; exact hG.elim
      | fin u v w =>
        rw [eX] at hX; rw [eK] at hK; rw [eG] at hG fG
        obtain ⟨x1, -⟩ := whole_nat hX
        obtain ⟨k1, k2⟩ := whole_nat hK
        obtain ⟨g1, g2⟩ := whole_nat hG
        have hd : ¬ d = 0 := by
          rintro rfl
          rw [Nat.zero_mul] at k1
          rcases Nat.mul_eq_zero.mp k1.symm with h | h
          · omega
          · exact absurd h (Nat.ne_of_gt (Nat.two_pow_pos _))
        have hqt : Jvm.FP.Core.quotient Jvm.FP.Core.b64 (.fin s c q) (.fin t d r) = Jvm.FP.Core.roundRatio Jvm.FP.Core.b64 (s != t) c d (q - r) := by
          exact if_neg hd
        rw [hqt]
        refine ⟨?_, Jvm.FP.Core.roundRatio_ne_nan _ _ _ _ _, fun h => by cases h⟩
        have hw : Jvm.FP.Core.b64.qmin ≤ w := fG.2.1
        have hq0 : Jvm.FP.Core.b64.qmin < 0 := by decide
        obtain ⟨e0, he⟩ : ∃ e0 : Int, e0 = Jvm.FP.Core.b64.qmin - q.natAbs - r.natAbs - w.natAbs := ⟨_, rfl⟩
        have i1 : e0 ≤ Jvm.FP.Core.b64.qmin := by omega
        have i2 : e0 ≤ q - r := by omega
        have hle : Jvm.FP.Core.zmag Jvm.FP.Core.b64 (Jvm.FP.Core.roundRatio Jvm.FP.Core.b64 (s != t) c d (q - r)) ≤ Jvm.FP.Core.zmag Jvm.FP.Core.b64 (.fin u v w) := by
          refine Jvm.FP.Core.zmag_roundRatio_le Jvm.FP.Core.good_b64 (Nat.pos_of_ne_zero hd) fG (fun h => by cases h) i1 i2 ?_
          rw [← Jvm.FP.Core.units_fin fG i1]
          show c * 2 ^ (q - r - e0).toNat ≤ v * 2 ^ (w - e0).toNat * d
          rw [whole_at g1 (by omega) (by omega)]
          have x2 : c * 2 ^ (q - (r + e0)).toNat = a * 2 ^ (-(r + e0)).toNat := whole_at x1 (by omega) (by omega)
          rw [show q - r - e0 = q - (r + e0) by omega, x2]
          apply pw_cancel (e := r.toNat)
          rw [Nat.mul_assoc, ← Nat.pow_add, show (-(r + e0)).toNat + r.toNat = (-r).toNat + (-e0).toNat by omega, Nat.mul_assoc (g * 2 ^ (-e0).toNat), k1, Nat.pow_add]
          have h2 : a * (2 ^ (-r).toNat * 2 ^ (-e0).toNat) ≤ k * g * (2 ^ (-r).toNat * 2 ^ (-e0).toNat) := Nat.mul_le_mul_right _ h
          refine Nat.le_trans h2 (Nat.le_of_eq ?_)
          ac_rfl
        unfold Jvm.FP.Core.zval
        have hg : Jvm.FP.Core.signed (Jvm.FP.Core.sgn (.fin u v w)) (Jvm.FP.Core.zmag Jvm.FP.Core.b64 (.fin u v w)) = (Jvm.FP.Core.zmag Jvm.FP.Core.b64 (.fin u v w) : Int) := by
          show Jvm.FP.Core.signed u _ = _
          cases u with
          | false => rfl
          | true =>
            have : v = 0 := g2 rfl
            subst this
            show -((0 * 2 ^ (w - Jvm.FP.Core.b64.qmin).toNat : Nat) : Int) = ((0 * 2 ^ (w - Jvm.FP.Core.b64.qmin).toNat : Nat) : Int)
            rw [Nat.zero_mul]; rfl
        rw [hg]
        generalize Jvm.FP.Core.zmag Jvm.FP.Core.b64 (Jvm.FP.Core.roundRatio Jvm.FP.Core.b64 (s != t) c d (q - r)) = z at hle
        generalize Jvm.FP.Core.sgn (Jvm.FP.Core.roundRatio Jvm.FP.Core.b64 (s != t) c d (q - r)) = b
        cases b with
        | false => exact Int.ofNat_le.mpr hle
        | true =>
          show -(z : Int) ≤ _
          omega
theorem dcmp_ngt {X G : UInt64} (h : Jvm.FP.Core.zval Jvm.FP.Core.b64 (Jvm.FP.Core.val64 X) ≤ Jvm.FP.Core.zval Jvm.FP.Core.b64 (Jvm.FP.Core.val64 G)) (nx : Jvm.FP.Core.val64 X ≠ .nan) (ng : Jvm.FP.Core.val64 G ≠ .nan) : ¬ (0 : Int32) < Op.cmpValue (FP.dcmp X G) .l := by
  have e : FP.dcmp X G = some (compare (Jvm.FP.Core.zval Jvm.FP.Core.b64 (Jvm.FP.Core.val64 X)) (Jvm.FP.Core.zval Jvm.FP.Core.b64 (Jvm.FP.Core.val64 G))) := Jvm.FP.Core.order_zval Jvm.FP.Core.good_b64 (Jvm.FP.Core.val64_fits X) (Jvm.FP.Core.val64_fits G) nx ng
  rw [e]
  generalize Jvm.FP.Core.zval Jvm.FP.Core.b64 (Jvm.FP.Core.val64 X) = x at h
  generalize Jvm.FP.Core.zval Jvm.FP.Core.b64 (Jvm.FP.Core.val64 G) = g at h
  rcases Int.lt_or_eq_of_le h with h1 | h1
  · rw [show compare x g = .lt from if_pos h1]; decide
  · subst h1
    rw [show compare x x = .eq from (if_neg (Int.lt_irrefl x)).trans (if_pos rfl)]; decide
/-- the mean of numbers that aren't above g isn't above g -/
theorem mean_le {a k g : Nat} (h : a ≤ k * g) (hk : 0 < k) (ha : a < 2 ^ 31) (hk2 : k < 2 ^ 31) (hg : g < 2 ^ 31) : ¬ (0 : Int32) < Op.cmpValue (FP.dcmp (FP.ddiv (FP.i2d (nI a)) (FP.i2d (nI k))) (FP.i2d (nI g))) .l := by
  have d : ∀ n : Nat, n < 2 ^ 31 → Jvm.FP.Core.DInt (n : Int) (FP.i2d (nI n)) := by
    intro n hn
    have := Jvm.FP.Core.i2d_int (nI n)
    rw [nI_toInt hn] at this
    exact this
  obtain ⟨h1, h2, h3⟩ := mean_le_z h (d a ha) (d k hk2) (d g hg) hk
  exact dcmp_ngt h1 h2 h3
theorem zero_le_d : ¬ (0 : Int32) < Op.cmpValue (FP.dcmp FP.dconst0 (FP.i2d (nI 0))) .l := by decide +kernel
/-! the numbers over all pairs -/
theorem pcL_ge {ω : OS} {σ : HS} {nw : Nat} : ∀ k p c, c ≤ pcL ω σ nw k p c := by
  intro k
  induction k with
  | zero => intro p c; exact Nat.le_refl _
  | succ k ih =>
    intro p c
    rw [pcL]
    split
    · exact ih _ _
    · exact Nat.le_trans (Nat.le_succ c) (ih _ _)
theorem lcL_none {ω : OS} {σ : HS} {nw : Nat} : ∀ k p o c, (lcL ω σ nw k p o = none ↔ o = none ∧ pcL ω σ nw k p c = c) := by
  intro k
  induction k with
  | zero => intro p o c; exact ⟨fun h => ⟨h, rfl⟩, fun h => h.1⟩
  | succ k ih =>
    intro p o c
    rw [lcL, pcL]
    cases ht : tPair ω σ nw p with
    | none =>
      rw [if_pos rfl]
      have : omax o none = o := by
        unfold omax
        rw [if_neg (by show ¬ ov o < 0; omega)]
      rw [this]
      exact ih _ _ _
    | some t =>
      rw [if_neg (fun h => by cases h)]
      have h1 : ¬ omax o (some t) = none := by
        unfold omax
        split
        · exact fun h => by cases h
        · rename_i h
          cases o with
          | none => exact absurd (show 0 < t + 1 by omega) h
          | some n => exact fun h => by cases h
      constructor
      · intro h
        exact absurd ((ih (p + 1) (omax o (some t)) c).mp h).1 h1
      · rintro ⟨-, h⟩
        have := pcL_ge (ω := ω) (σ := σ) (nw := nw) k (p + 1) (c + 1)
        omega
theorem omax_l (a b : Option Nat) : ov a ≤ ov (omax a b) := by unfold omax; split <;> omega
theorem omax_r (a b : Option Nat) : ov b ≤ ov (omax a b) := by unfold omax; split <;> omega
theorem lcL_ge {ω : OS} {σ : HS} {nw : Nat} : ∀ k p o, ov o ≤ ov (lcL ω σ nw k p o) := by
  intro k
  induction k with
  | zero => intro p o; exact Nat.le_refl _
  | succ k ih => intro p o; rw [lcL]; exact Nat.le_trans (omax_l _ _) (ih _ _)
theorem mtL_spec {ω : OS} {σ : HS} {nw : Nat} {g : Nat} : ∀ k p o c s, lcL ω σ nw k p o = some g → s ≤ c * g → (mtL ω σ nw k p c s).1 = pcL ω σ nw k p c ∧ (mtL ω σ nw k p c s).2 ≤ pcL ω σ nw k p c * g := by
  intro k
  induction k with
  | zero => intro p o c s _ h; exact ⟨rfl, h⟩
  | succ k ih =>
    intro p o c s hl h
    rw [lcL] at hl
    rw [mtL, pcL]
    by_cases ht : tPair ω σ nw p = none
    · rw [if_pos ht, if_pos ht]
      exact ih _ _ _ _ hl h
    · rw [if_neg ht, if_neg ht]
      refine ih _ _ _ _ hl ?_
      have h1 := lcL_ge (ω := ω) (σ := σ) (nw := nw) k (p + 1) (omax o (tPair ω σ nw p))
      rw [hl] at h1
      have h2 := omax_r o (tPair ω σ nw p)
      have h3 : (tPair ω σ nw p).getD 0 ≤ g := by
        cases hq : tPair ω σ nw p with
        | none => exact Nat.zero_le _
        | some t =>
          rw [hq] at h2 h1
          have h4 : t + 1 ≤ ov (omax o (some t)) := h2
          have h5 : ov (omax o (some t)) ≤ g + 1 := h1
          show t ≤ g
          omega
      rw [Nat.succ_mul]
      omega
theorem mtL_pc {ω : OS} {σ : HS} {nw : Nat} : ∀ k p c s, (mtL ω σ nw k p c s).1 = pcL ω σ nw k p c := by
  intro k
  induction k with
  | zero => intro p c s; rfl
  | succ k ih => intro p c s; rw [mtL, pcL]; split <;> exact ih _ _ _
theorem pcL_le {ω : OS} {σ : HS} {nw : Nat} : ∀ k p c, pcL ω σ nw k p c ≤ c + k := by
  intro k
  induction k with
  | zero => intro p c; exact Nat.le_refl _
  | succ k ih =>
    intro p c
    rw [pcL]
    split
    · have := ih (p + 1) c; omega
    · have := ih (p + 1) (c + 1); omega

