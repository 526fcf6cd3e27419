/-! ===== what is looked out: it doesn't depend on what lay there before; its numbers are small ===== -/
theorem lookR_T {σ : HS} (hσ : zOk σ) (lk : Option Nat) (ω : OS) {p r m : Nat} (hp : p < 12) (hr : r < 8) (hm : m < 8) : (lookR σ lk ω).2.2.1 p r m = lkT σ lk p r m := sorry
theorem lkT_le {σ : HS} (hσ : zOk σ) {lk : Option Nat} {p r m n : Nat} (hp : p < 12) (hr : r < 8) (hm : m < 8) (h : lkT σ lk p r m = some n) : n ≤ 768 := sorry
