/-! ===== Int32 by its bits: bt x i ===== -/
def bt (x : Int32) (i : Nat) : Bool := x.toBitVec.getLsbD i
theorem b_ext {x y : Int32} (h : ∀ i, i < 32 → bt x i = bt y i) : x = y := Int32.toBitVec_inj.mp (BitVec.eq_of_getLsbD_eq (fun i hi => h i hi))
theorem b_or (x y : Int32) (i : Nat) : bt (x ||| y) i = (bt x i || bt y i) := by unfold bt; rw [Int32.toBitVec_or, BitVec.getLsbD_or]
theorem b_and (x y : Int32) (i : Nat) : bt (x &&& y) i = (bt x i && bt y i) := by unfold bt; rw [Int32.toBitVec_and, BitVec.getLsbD_and]
theorem b_xor (x y : Int32) (i : Nat) : bt (x ^^^ y) i = (bt x i ^^ bt y i) := by unfold bt; rw [Int32.toBitVec_xor, BitVec.getLsbD_xor]
theorem b_big {x : Int32} {i : Nat} (h : 32 ≤ i) : bt x i = false := BitVec.getLsbD_of_ge _ _ h
theorem b_255 (i : Nat) : bt 255 i = decide (i < 8) := by
  rcases Nat.lt_or_ge i 32 with h | h
  · exact (by decide +kernel : ∀ i, i < 32 → bt 255 i = decide (i < 8)) i h
  · rw [b_big h, decide_eq_false (by omega)]
theorem b_65535 (i : Nat) : bt 65535 i = decide (i < 16) := by
  rcases Nat.lt_or_ge i 32 with h | h
  · exact (by decide +kernel : ∀ i, i < 32 → bt 65535 i = decide (i < 16)) i h
  · rw [b_big h, decide_eq_false (by omega)]
theorem b_m1 : ∀ i, i < 32 → bt (-1) i = true := by decide +kernel
theorem b_0 (i : Nat) : bt 0 i = false := BitVec.getLsbD_zero
theorem s_l : ∀ n, n < 32 → ((nI n &&& 31).toBitVec.smod 32).toNat = n := by decide +kernel
theorem s_u : ∀ n, n < 32 → (((nI n).toUInt32 &&& Int32.toUInt32 31).toBitVec % 32).toNat = n := by decide +kernel
theorem b_shl (n : Nat) (hn : n < 32) (x : Int32) {i : Nat} (hi : i < 32) : bt (x <<< (nI n &&& 31)) i = (decide (n ≤ i) && bt x (i - n)) := by
  unfold bt
  rw [Int32.toBitVec_shiftLeft]
  show (x.toBitVec <<< ((nI n &&& 31).toBitVec.smod 32).toNat).getLsbD i = _
  rw [s_l n hn, BitVec.getLsbD_shiftLeft]
  rcases Nat.lt_or_ge i n with h | h
  · simp [h, Nat.not_le.mpr h]
  · simp [hi, h, Nat.not_lt.mpr h]
theorem b_ushr (n : Nat) (hn : n < 32) (x : Int32) (i : Nat) : bt ((x.toUInt32 >>> ((nI n).toUInt32 &&& Int32.toUInt32 31)).toInt32) i = bt x (n + i) := by
  show (x.toUInt32 >>> ((nI n).toUInt32 &&& Int32.toUInt32 31)).toBitVec.getLsbD i = x.toUInt32.toBitVec.getLsbD (n + i)
  rw [UInt32.toBitVec_shiftRight]
  show (x.toUInt32.toBitVec >>> (((nI n).toUInt32 &&& Int32.toUInt32 31).toBitVec % 32).toNat).getLsbD i = _
  rw [s_u n hn, BitVec.getLsbD_ushiftRight]
theorem b_sshr (n : Nat) (hn : n < 32) (x : Int32) {i : Nat} (hi : i < 32) : bt (x >>> (nI n &&& 31)) i = if n + i < 32 then bt x (n + i) else bt x 31 := by
  unfold bt
  rw [Int32.toBitVec_shiftRight]
  show (x.toBitVec.sshiftRight ((nI n &&& 31).toBitVec.smod 32).toNat).getLsbD i = _
  rw [s_l n hn, BitVec.getLsbD_sshiftRight, BitVec.msb_eq_getLsbD_last]
  simp [hi]
theorem b_shl8 (x : Int32) {i : Nat} (hi : i < 32) : bt (x <<< ((8 : Int32) &&& 31)) i = (decide (8 ≤ i) && bt x (i - 8)) := b_shl 8 (by omega) x hi
theorem b_shl16 (x : Int32) {i : Nat} (hi : i < 32) : bt (x <<< ((16 : Int32) &&& 31)) i = (decide (16 ≤ i) && bt x (i - 16)) := b_shl 16 (by omega) x hi
theorem b_shl24 (x : Int32) {i : Nat} (hi : i < 32) : bt (x <<< ((24 : Int32) &&& 31)) i = (decide (24 ≤ i) && bt x (i - 24)) := b_shl 24 (by omega) x hi
theorem b_sshr8 (x : Int32) {i : Nat} (hi : i < 32) : bt (x >>> ((8 : Int32) &&& 31)) i = if 8 + i < 32 then bt x (8 + i) else bt x 31 := b_sshr 8 (by omega) x hi
/-! ===== a set of rooms as an Int32: bits 0 to 7 ===== -/
def sbF : Nat → (Nat → Bool) → BitVec 32
  | 0, _ => 0#32
  | k + 1, P => sbF k P ||| (if P k then BitVec.twoPow 32 k else 0#32)
def sb (P : Nat → Bool) : Int32 := Int32.ofBitVec (sbF 8 P)
theorem sbF_bit (P : Nat → Bool) (i : Nat) (hi : i < 32) : ∀ k, k ≤ 32 → (sbF k P).getLsbD i = (decide (i < k) && P i) := by
  intro k
  induction k with
  | zero => intro _; simp [sbF]
  | succ k ih =>
    intro hk
    rw [sbF, BitVec.getLsbD_or, ih (by omega)]
    rcases Nat.lt_trichotomy i k with h | h | h
    · have h1 : i < k + 1 := by omega
      by_cases hp : P k = true
      · simp [hp, h, h1, BitVec.getLsbD_twoPow]
        intro h2 h3; omega
      · simp [hp, h, h1]
    · subst h
      by_cases hp : P i = true
      · simp [hp, BitVec.getLsbD_twoPow]; omega
      · simp [hp]
    · have h1 : ¬ i < k := by omega
      have h2 : ¬ i < k + 1 := by omega
      by_cases hp : P k = true
      · simp [hp, h1, h2, BitVec.getLsbD_twoPow]
        intro h3 h4; omega
      · simp [hp, h1, h2]
theorem sb_bt (P : Nat → Bool) (i : Nat) (hi : i < 32) : bt (sb P) i = (decide (i < 8) && P i) := by
  show (sbF 8 P).getLsbD i = _
  exact sbF_bit P i hi 8 (by omega)
theorem sb_eq {P Q : Nat → Bool} (h : ∀ i, i < 8 → P i = Q i) : sb P = sb Q := by
  apply b_ext
  intro i hi
  rw [sb_bt P i hi, sb_bt Q i hi]
  by_cases h8 : i < 8
  · simp [h8, h i h8]
  · simp [h8]
theorem sb_or (P Q : Nat → Bool) : sb P ||| sb Q = sb (fun i => P i || Q i) := by
  apply b_ext
  intro i hi
  rw [b_or, sb_bt P i hi, sb_bt Q i hi, sb_bt _ i hi]
  by_cases h8 : i < 8 <;> simp [h8]
theorem sb_and (P Q : Nat → Bool) : sb P &&& sb Q = sb (fun i => P i && Q i) := by
  apply b_ext
  intro i hi
  rw [b_and, sb_bt P i hi, sb_bt Q i hi, sb_bt _ i hi]
  by_cases h8 : i < 8 <;> simp [h8]
theorem sb_andn (P Q : Nat → Bool) : sb P &&& (sb Q ^^^ (-1)) = sb (fun i => P i && !Q i) := by
  apply b_ext
  intro i hi
  rw [b_and, b_xor, sb_bt P i hi, sb_bt Q i hi, sb_bt _ i hi, b_m1 i hi]
  by_cases h8 : i < 8 <;> simp [h8]
theorem sb_0 : sb (fun _ => false) = 0 := by decide +kernel
theorem sb_eq0 (P : Nat → Bool) : sb P = 0 ↔ ∀ i, i < 8 → P i = false := by
  constructor
  · intro h i hi
    have h1 := sb_bt P i (by omega)
    rw [h, b_0] at h1
    simpa [hi] using h1.symm
  · intro h
    rw [← sb_0]
    exact sb_eq h
theorem sb_one : ∀ r, r < 8 → (1 : Int32) <<< (nI r &&& 31) = sb (fun i => i == r) := by decide +kernel
def bI (b : Bool) : Int32 := if b then 1 else 0
theorem bI_t : bI true = 1 := rfl
theorem bI_f : bI false = 0 := rfl
theorem bI_01 (b : Bool) : bI b = 0 ∨ bI b = 1 := by cases b <;> simp [bI]
theorem bI_eq0 {b : Bool} : bI b = 0 ↔ b = false := by cases b <;> decide
theorem bI_eq1 {b : Bool} : bI b = 1 ↔ b = true := by cases b <;> decide
theorem bI_inj {a b : Bool} (h : bI a = bI b) : a = b := by cases a <;> cases b <;> first | rfl | exact absurd h (by decide)
theorem bI_n (b : Bool) : bI b = nI b.toNat := by cases b <;> decide +kernel
theorem bt_1 : ∀ i, i < 32 → bt 1 i = decide (i = 0) := by decide +kernel
theorem sb_holds (P : Nat → Bool) (r : Nat) (hr : r < 8) : (sb P >>> (nI r &&& 31)) &&& 1 = bI (P r) := by
  have key : ∀ (b : Bool), (∀ i, i < 32 → bt (bI b) i = (decide (i = 0) && b)) := by
    intro b; cases b <;> decide +kernel
  apply b_ext
  intro i hi
  rw [b_and, b_sshr r (by omega) _ hi, bt_1 i hi, key (P r) i hi]
  by_cases h0 : i = 0
  · subst h0
    have : r + 0 < 32 := by omega
    rw [if_pos this, sb_bt P _ this]
    simp [hr]
  · simp [h0]
/-! ===== a number of turns: none is never ===== -/
def iO (o : Option Nat) : Int32 := match o with
  | none => -1
  | some n => nI n
theorem iO_none : iO none = -1 := rfl
theorem iO_some (n : Nat) : iO (some n) = nI n := rfl
theorem nI_ne_m1 {n : Nat} (h : n < 2 ^ 31) : nI n ≠ -1 := by
  intro h1
  have h2 := congrArg Int32.toInt h1
  rw [nI_toInt h] at h2
  have h3 : (-1 : Int32).toInt = -1 := by decide +kernel
  rw [h3] at h2
  omega
theorem iO_eq {o : Option Nat} (h : ∀ n, o = some n → n < 2 ^ 31) : iO o = -1 ↔ o = none := by
  cases o with
  | none => simp [iO]
  | some n => simp [iO, nI_ne_m1 (h n rfl)]
theorem nI_mul (a b : Nat) : nI a * nI b = nI (a * b) := (Int32.ofNat_mul a b).symm
theorem nI_sub {a b : Nat} (h : b ≤ a) : nI a - nI b = nI (a - b) := by
  have h1 : nI (a - b) + nI b = nI a := by rw [nI_add, Nat.sub_add_cancel h]
  rw [← h1, Int32.add_sub_cancel]
theorem nI_div {a b : Nat} (ha : a < 2 ^ 31) (hb : b < 2 ^ 31) (h0 : 0 < b) : nI a / nI b = nI (a / b) := by
  apply Int32.toInt_inj.mp
  have hq : a / b < 2 ^ 31 := Nat.lt_of_le_of_lt (Nat.div_le_self a b) ha
  rw [Int32.toInt_div_of_ne_right _ _ (by
    intro h
    exact absurd h (nI_ne_m1 hb)), nI_toInt ha, nI_toInt hb, nI_toInt hq]
  simp [Int.tdiv]
theorem nI_rem {a b : Nat} (ha : a < 2 ^ 31) (hb : b < 2 ^ 31) (h0 : 0 < b) : nI a - nI a / nI b * nI b = nI (a % b) := by
  rw [nI_div ha hb h0, nI_mul, nI_sub (Nat.div_mul_le_self a b)]
  congr 1
  have h1 := Nat.div_add_mod a b
  have h2 : a / b * b = b * (a / b) := Nat.mul_comm _ _
  omega
theorem nI_and1 (a : Nat) (h : a < 2 ^ 31) : nI a &&& 1 = nI (a % 2) := by
  apply b_ext
  intro i hi
  have e : ∀ n, bt (nI n) i = n.testBit i := by
    intro n
    show (BitVec.ofNat 32 n).getLsbD i = _
    rw [BitVec.getLsbD_ofNat]
    simp [hi]
  rw [b_and, e, e, bt_1 i hi]
  cases i with
  | zero => simp
  | succ i => simp [Nat.testBit_succ, show a % 2 / 2 = 0 by omega]

