/-! ===== what class and reference answer on a fresh object ===== -/
theorem dig_fresh : (jdL σ0 (0) ((zM σ0)) 0 (jrL σ0 ((zN σ0)) 0 ((((((((((((((2371 * 31 + ((nI 0).toInt64)) * 31 + ((nI (zN σ0)).toInt64)) * 31 + ((nI (zM σ0)).toInt64)) * 31 + (aN false)) * 31 + (aN false)) * 31 + (oN none)) * 31 + (oN none)) * 31 + ((nI 0).toInt64)) * 31 + (((-1 : Int32)).toInt64)) * 31 + ((nI 0).toInt64)) * 31 + (((-1 : Int32)).toInt64)) * 31 + ((nI (pcL ωz σ0 (0) 64 0 0)).toInt64)) * 31 + (oN (lcL ωz σ0 (0) 64 0 none))) * 31 + (((-1 : Int32)).toInt64))) : Int64) = (((((((((((((2371 * 31 + ((nI 0).toInt64)) * 31 + ((nI 0).toInt64)) * 31 + ((nI 0).toInt64)) * 31 + 0) * 31 + 0) * 31 + (-1)) * 31 + (-1)) * 31 + ((nI 0).toInt64)) * 31 + (((-1 : Int32)).toInt64)) * 31 + ((nI 0).toInt64)) * 31 + (((-1 : Int32)).toInt64)) * 31 + (oN (if 0 = 0 then some 0 else none))) * 31 + (oN (if 1 = 0 then some 0 else none))) * 31 + (((-1 : Int32)).toInt64) := by decide +kernel
theorem pc_fresh : pcL ωz σ0 0 64 0 0 = 0 := by decide +kernel
theorem lc_fresh : lcL ωz σ0 0 64 0 none = none := by decide +kernel
theorem mean_fresh : (if (mtL ωz σ0 0 64 0 0 0).1 = 0 then FP.dconst0 else FP.ddiv (FP.i2d (nI (mtL ωz σ0 0 64 0 0 0).2)) (FP.i2d (nI (mtL ωz σ0 0 64 0 0 0).1))) = FP.dconst0 := if_pos (by decide +kernel)
theorem zOk_0 : zOk σ0 := ⟨by decide, by decide, fun _ => (show (0 : Nat) < 8 by decide), fun _ => (show (0 : Nat) < 8 by decide), fun _ => (show (0 : Nat) ≤ 4 by decide), fun _ => (show (0 : Nat) < 4 by decide), fun _ => (show (0 : Nat) ≤ 9 by decide)⟩
theorem tOk_0 : tOk ωz := by
  intro p r m n _ _ _ h
  have h2 : some 0 = some n := h
  cases h2
  exact Nat.zero_le _
