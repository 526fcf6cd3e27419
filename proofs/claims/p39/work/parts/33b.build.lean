abbrev rws (cI : ClassId) (LR : List Nat) (ρ : Nat → Nat → Int32) : va_W := va_pl LR (fun a => .inl (cI, 5, .inl (ρ a)))
/-- how the house stands while doors are made, and the rows that tell them -/
def bdD (n : Nat) (S : Nat → Bool) (σ : HS) (ω : OS) (f : Nat → Option Nat) (LR : List Nat) (ρ : Nat → Nat → Int32) : Prop :=
  zOk σ ∧ hIn σ ∧ hUq σ ∧ LK σ ω ∧ zN σ = n ∧ (∀ i, i < n → S i = zS σ i) ∧ zS σ 0 = false ∧ (zC σ = fun _ => 0) ∧ ∀ d, d < zM σ → ∃ a, a ∈ LR ∧ f d = some a ∧ ρ a 0 = nI (zF σ d) ∧ ρ a 1 = nI (zG σ d)
theorem bI_and (v w : Bool) : bI v &&& bI w = bI (v && w) := by cases v <;> cases w <;> decide
theorem hJn_f {σ : HS} {x y d : Nat} (h1 : ¬ (zF σ d = x ∧ zG σ d = y)) (h2 : ¬ (zF σ d = y ∧ zG σ d = x)) : hJn σ x y d = false := by
  unfold hJn
  rw [Bool.or_eq_false_iff]
  constructor
  · rw [← Bool.not_eq_true, Bool.and_eq_true, beq_iff_eq, beq_iff_eq]; exact h1
  · rw [← Bool.not_eq_true, Bool.and_eq_true, beq_iff_eq, beq_iff_eq]; exact h2
theorem hJn_iff {σ : HS} {x y d : Nat} : hJn σ x y d = true ↔ (zF σ d = x ∧ zG σ d = y) ∨ (zF σ d = y ∧ zG σ d = x) := by
  unfold hJn
  rw [Bool.or_eq_true, Bool.and_eq_true, Bool.and_eq_true, beq_iff_eq, beq_iff_eq, beq_iff_eq, beq_iff_eq]
theorem hJoinFrom_none {σ : HS} {x y : Nat} : ∀ k d, (∀ e, d ≤ e → e < d + k → hJn σ x y e = false) → hJoinFrom σ x y k d = none
  | 0, _, _ => rfl
  | k + 1, d, h => by
    show (if hJn σ x y d then some d else hJoinFrom σ x y k (d + 1)) = none
    rw [if_neg (by rw [h d (Nat.le_refl d) (by omega)]; exact Bool.false_ne_true)]
    exact hJoinFrom_none k (d + 1) (fun e h1 h2 => h e (by omega) (by omega))
theorem hJoin_none2 {σ : HS} {x y : Nat} (h : ∀ e, e < zM σ → hJn σ x y e = false) : hJoin σ x y = none := hJoinFrom_none (zM σ) 0 (fun e _ h2 => h e (by omega))
abbrev addD (σ : HS) (x y pe re : Nat) : HS := (zN σ, zM σ + 1, zS σ, zC σ, va_up (zF σ) (zM σ) x, va_up (zG σ) (zM σ) y, va_up (zP σ) (zM σ) pe, va_up (zT σ) (zM σ) re, zL σ)
theorem addD_F {σ : HS} {x y pe re d : Nat} : zF (addD σ x y pe re) d = if d = zM σ then x else zF σ d := rfl
theorem addD_G {σ : HS} {x y pe re d : Nat} : zG (addD σ x y pe re) d = if d = zM σ then y else zG σ d := rfl
theorem addD_in {σ : HS} {x y pe re : Nat} (h : hIn σ) (hx : x < zN σ) (hy : y < zN σ) : hIn (addD σ x y pe re) := by
  intro d hd
  have hd' : d < zM σ + 1 := hd
  rw [addD_F, addD_G]
  by_cases q : d = zM σ
  · rw [if_pos q, if_pos q]; exact ⟨hx, hy⟩
  · rw [if_neg q, if_neg q]; exact h d (by omega)
theorem addD_uq {σ : HS} {x y pe re : Nat} (h : hUq σ) (hn : ∀ e, e < zM σ → hJn σ x y e = false) : hUq (addD σ x y pe re) := by
  have old : ∀ a b d, ¬ d = zM σ → hJn (addD σ x y pe re) a b d = true → hJn σ a b d = true := by
    intro a b d q w
    rw [hJn_iff, addD_F, addD_G, if_neg q, if_neg q] at w
    exact hJn_iff.mpr w
  have new : ∀ a b e, hJn (addD σ x y pe re) a b (zM σ) = true → hJn σ a b e = true → hJn σ x y e = true := by
    intro a b e w v
    rw [hJn_iff, addD_F, addD_G, if_pos rfl, if_pos rfl] at w
    rw [hJn_iff] at v ⊢
    rcases w with ⟨rfl, rfl⟩ | ⟨rfl, rfl⟩
    · exact v
    · exact v.symm
  intro a b d e hd he w v
  have hd' : d < zM σ + 1 := hd
  have he' : e < zM σ + 1 := he
  by_cases q1 : d = zM σ
  · by_cases q2 : e = zM σ
    · rw [q1, q2]
    · subst q1
      have := new a b e w (old a b e q2 v)
      rw [hn e (by omega)] at this
      cases this
  · by_cases q2 : e = zM σ
    · subst q2
      have := new a b d v (old a b d q1 w)
      rw [hn d (by omega)] at this
      cases this
    · exact h a b d e (by omega) (by omega) (old a b d q1 w) (old a b e q2 v)
/-- a row of five, as it is written -/
abbrev row5 (x y pe re lk : Int32) : Nat → Int32 := upd (upd (upd (upd (upd (fun _ => 0) 0 x) 1 y) 2 pe) 3 re) 4 lk
theorem bdD_row {n : Nat} {S : Nat → Bool} {σ : HS} {ω ω1 : OS} {f : Nat → Option Nat} {LR : List Nat} {ρ : Nat → Nat → Int32} {x y pe re qa : Nat} {g : Nat → Int32} (h : bdD n S σ ω f LR ρ) (hz : zOk (addD σ x y pe re)) (hx : x < n) (hy : y < n) (hn : ∀ e, e < zM σ → hJn σ x y e = false) (hl : LK (addD σ x y pe re) ω1) (hq : qa ∉ LR) (h0 : g 0 = nI x) (h1 : g 1 = nI y) :
    bdD n S (addD σ x y pe re) ω1 (va_up f (zM σ) (some qa)) (LR ++ [qa]) (va_up ρ qa g) := by
  obtain ⟨i1, i2, i3, i4, i5, i6, i7, i8, i9⟩ := h
  refine ⟨hz, addD_in i2 (by omega) (by omega), addD_uq i3 hn, hl, i5, i6, i7, i8, fun d hd => ?_⟩
  have hd' : d < zM σ + 1 := hd
  rw [addD_F, addD_G]
  by_cases q : d = zM σ
  · refine ⟨qa, by simp, ?_, ?_, ?_⟩
    · unfold va_up; rw [if_pos q]
    · rw [if_pos q]; unfold va_up; rw [if_pos rfl]; exact h0
    · rw [if_pos q]; unfold va_up; rw [if_pos rfl]; exact h1
  · obtain ⟨a, a1, a2, a3, a4⟩ := i9 d (by omega)
    have hne : ¬ a = qa := fun e => hq (e ▸ a1)
    refine ⟨a, List.mem_append_left _ a1, ?_, ?_, ?_⟩
    · unfold va_up; rw [if_neg q]; exact a2
    · rw [if_neg q]; unfold va_up; rw [if_neg hne]; exact a3
    · rw [if_neg q]; unfold va_up; rw [if_neg hne]; exact a4
theorem bdD_lock {n : Nat} {S : Nat → Bool} {σ : HS} {ω ω1 : OS} {f : Nat → Option Nat} {LR : List Nat} {ρ : Nat → Nat → Int32} {L : Nat → Bool} (h : bdD n S σ ω f LR ρ) (hl : LK (zN σ, zM σ, zS σ, zC σ, zF σ, zG σ, zP σ, zT σ, L) ω1) : bdD n S (zN σ, zM σ, zS σ, zC σ, zF σ, zG σ, zP σ, zT σ, L) ω1 f LR ρ :=
  ⟨h.1, h.2.1, h.2.2.1, hl, h.2.2.2.2⟩
theorem rws_push {A : Nat → Prop} {D : va_G} {X : va_W} {cI : ClassId} {LR : List Nat} {ρ : Nat → Nat → Int32} {q : Nat} {g : Nat → Int32} {H : Heap} (hP : va_P D vwCl ((X ++ [(q, .inl (cI, 5, .inl g))]) ++ rws cI LR ρ) H) (hD : va_D A ((X ++ [(q, .inl (cI, 5, .inl g))]) ++ rws cI LR ρ)) : q ∉ LR ∧ va_P D vwCl (X ++ rws cI (LR ++ [q]) (va_up ρ q g)) H ∧ va_D A (X ++ rws cI (LR ++ [q]) (va_up ρ q g)) := by
  have hq : q ∉ LR := va_pl_fresh2 hD.swap
  have e : (X ++ rws cI LR ρ) ++ [(q, .inl (cI, 5, .inl g))] = X ++ rws cI (LR ++ [q]) (va_up ρ q g) := by
    rw [List.append_assoc]
    congr 1
    rw [show (rws cI LR ρ ++ [(q, (.inl (cI, 5, .inl g) : va_E))] : va_W) = _ from va_pl_push hq]
    refine va_pl_congr (fun a => ?_)
    by_cases h : a = q
    · unfold va_up; rw [if_pos h, if_pos h]
    · unfold va_up; rw [if_neg h, if_neg h]
  exact ⟨hq, e ▸ hP.swap, e ▸ hD.swap⟩
set_option maxHeartbeats 4000000 in
set_option maxRecDepth 100000 in
theorem bd_uniq {p : Program} {l : Launch} {e : Env} {s : State} {m : MethodId} {args : Array Value} {below : List Frame} {meth : Method} {c : Code} {b L : Nat} {xs : Nat → Int32} {D : va_G} {cZ cI cR : ClassId} {A : Nat → Prop} {Q : State → Prop} (C : BdC p s m args c b L xs D cZ cI cR A) {a sf n dr : Nat} {o o' q : Nat → Nat} {κ : CS} {ω ω' : OS} {S : Nat → Bool} {σ : HS} {f : Nat → Option Nat} {LR : List Nat} {ρ : Nat → Nat → Int32} {k x y : Nat} {w : Int32} {H : Heap} {locs : List Loc} (hI : bdD n S σ ω f LR ρ) (hn8 : n ≤ 8) (hx8 : x < n) (hy8 : y < n) (hP : va_P D vwCl (pD cZ cI a o o' q κ ω ω' σ ++ wSf cZ sf n S ++ wDr cR dr 14 f ++ rws cI LR ρ) H)
    (K : ∀ (v : Bool) (ls : Array Slot), (v = true → ¬ x = y ∧ ∀ e, e < zM σ → hJn σ x y e = false) → lv_has ls 11 [(9, .int (bI v)), (8, .int (nI y)), (7, .int (nI x)), (6, .int w), (5, .int (nI k)), (4, .int (nI (zM σ))), (3, .ref dr), (0, .ref a), (1, .ref b), (2, .ref sf)] → W p l e (headSpec wsL_build rmB).room s m args below meth c H locs (1 + zM σ) (14 + 5 * zM σ) Q (F0 m 230 ls [])) :
    ∀ (f9 d : Nat) (v : Bool) (ls : Array Slot), zM σ + 1 ≤ d + f9 → d ≤ zM σ → (v = true → ¬ x = y ∧ ∀ e, e < d → hJn σ x y e = false) → lv_has ls 11 [(10, .int (nI d)), (9, .int (bI v)), (8, .int (nI y)), (7, .int (nI x)), (6, .int w), (5, .int (nI k)), (4, .int (nI (zM σ))), (3, .ref dr), (0, .ref a), (1, .ref b), (2, .ref sf)] → W p l e (headSpec wsL_build rmB).room s m args below meth c H locs (1 + zM σ) (14 + 5 * zM σ) Q (F0 m 163 ls []) := by
  intro f9
  induction f9 with
  | zero => intro d v ls h1 h2; exact absurd h1 (by omega)
  | succ f9 ih =>
    intro d v ls hm hdm hv hl
    obtain ⟨hx, hb, hml, hown, hts, hX, hbl, hbA, hL, hA, hZ⟩ := id C
    have hI0 := hI
    obtain ⟨i1, i2, i3, i4, i5, i6, i7, i8, i9⟩ := hI0
    have hzm : zM σ ≤ 14 := i1.2.1
    refine lv_iload hx hb dL_build_163 (lv_at hl 0 rfl) ?_
    refine lv_iload hx hb dL_build_165 (lv_at hl 6 rfl) ?_
    refine rv_ge (tgt := 230) (x := d) (y := zM σ) hx hb (by omega) (by omega) dL_build_167 (by decide) (fun h => ?_) (fun h => ?_)
    · exact K v ls (fun q => ⟨(hv q).1, fun e he => (hv q).2 e (by omega)⟩) (lv_sub hl [1, 2, 3, 4, 5, 6, 7, 8, 9, 10] rfl)
    · obtain ⟨a9, g1, g2, g3, g4⟩ := i9 d h
      obtain ⟨k9, hk9⟩ := va_pl_get (X := pD cZ cI a o o' q κ ω ω' σ ++ wSf cZ sf n S ++ wDr cR dr 14 f) (f := fun a => .inl (cI, 5, .inl (ρ a))) g1
      have hF8 : zF σ d < 8 := i1.2.2.1 d
      have hG8 : zG σ d < 8 := i1.2.2.2.1 d
      have K221 : ∀ u : Bool, (u = true → hJn σ x y d = false) → W p l e (headSpec wsL_build rmB).room s m args below meth c H locs (1 + zM σ) (14 + 5 * zM σ) Q (F0 m 221 ls [.int (bI u), .int (bI v)]) := by
        intro u hu
        refine lv_iand hx hb dL_build_221 ?_
        refine rv_top (bI_and v u) ?_
        refine lv_istore (lv' := [(9, .int (bI (v && u))), (10, .int (nI d)), (8, .int (nI y)), (7, .int (nI x)), (6, .int w), (5, .int (nI k)), (4, .int (nI (zM σ))), (3, .ref dr), (0, .ref a), (1, .ref b), (2, .ref sf)]) hx hb dL_build_222 hl (by decide) rfl (fun ls hl => ?_)
        refine lv_iinc (v := nI (d + 1)) (lv' := [(10, .int (nI (d + 1))), (9, .int (bI (v && u))), (8, .int (nI y)), (7, .int (nI x)), (6, .int w), (5, .int (nI k)), (4, .int (nI (zM σ))), (3, .ref dr), (0, .ref a), (1, .ref b), (2, .ref sf)]) hx hb dL_build_224 hl (k := 1) rfl (nI_add d 1) (by decide) rfl (fun ls hl => ?_)
        refine lv_goto (tgt := 163) hx hb dL_build_227 (by decide) ?_
        refine ih (d + 1) (v && u) ls (by omega) (by omega) (fun q => ?_) hl
        rw [Bool.and_eq_true] at q
        refine ⟨(hv q.1).1, fun e he => ?_⟩
        by_cases h9 : e = d
        · rw [h9]; exact hu q.2
        · exact (hv q.1).2 e (by omega)
      have K220 : W p l e (headSpec wsL_build rmB).room s m args below meth c H locs (1 + zM σ) (14 + 5 * zM σ) Q (F0 m 220 ls [.int (bI v)]) := by
        refine lv_iconst (v := nI 0) hx hb dL_build_220 (by decide) ?_
        refine rv_top (show nI 0 = bI false from rfl) ?_
        exact K221 false (fun q => absurd q Bool.false_ne_true)
      have K216 : hJn σ x y d = false → W p l e (headSpec wsL_build rmB).room s m args below meth c H locs (1 + zM σ) (14 + 5 * zM σ) Q (F0 m 216 ls [.int (bI v)]) := by
        intro hj
        refine lv_iconst (v := nI 1) hx hb dL_build_216 (by decide) ?_
        refine rv_top (show nI 1 = bI true from rfl) ?_
        refine lv_goto (tgt := 221) hx hb dL_build_217 (by decide) ?_
        exact K221 true (fun _ => hj)
      have K194 : ¬ (zF σ d = x ∧ zG σ d = y) → W p l e (headSpec wsL_build rmB).room s m args below meth c H locs (1 + zM σ) (14 + 5 * zM σ) Q (F0 m 194 ls [.int (bI v)]) := by
        intro hn1
        refine lv_aload_n hx hb dL_build_194 rfl (lv_at hl 7 rfl) ?_
        refine lv_iload hx hb dL_build_195 (lv_at hl 0 rfl) ?_
        refine va_ldA hx hb hZ.1 hP 20 2 rfl rfl (by omega) (by decide) g2 dL_build_197 ?_
        refine lv_iconst (v := nI 0) hx hb dL_build_198 (by decide) ?_
        refine rv_iald hx hb hZ.1 hP k9 1 hk9 rfl (r := 0) (by decide) (by decide) (v := nI (zF σ d)) g3 dL_build_199 ?_
        refine lv_iload hx hb dL_build_200 (lv_at hl 2 rfl) ?_
        refine rv_ne (tgt := 216) (x := zF σ d) (y := y) hx hb (by omega) (by omega) dL_build_202 (by decide) (fun h1 => K216 (hJn_f hn1 (fun q => h1 q.1))) (fun h1 => ?_)
        refine lv_aload_n hx hb dL_build_205 rfl (lv_at hl 7 rfl) ?_
        refine lv_iload hx hb dL_build_206 (lv_at hl 0 rfl) ?_
        refine va_ldA hx hb hZ.1 hP 20 2 rfl rfl (by omega) (by decide) g2 dL_build_208 ?_
        refine lv_iconst (v := nI 1) hx hb dL_build_209 (by decide) ?_
        refine rv_iald hx hb hZ.1 hP k9 1 hk9 rfl (r := 1) (by decide) (by decide) (v := nI (zG σ d)) g4 dL_build_210 ?_
        refine lv_iload hx hb dL_build_211 (lv_at hl 3 rfl) ?_
        refine rv_eq (tgt := 220) (x := zG σ d) (y := x) hx hb (by omega) (by omega) dL_build_213 (by decide) (fun _ => K220) (fun h2 => K216 (hJn_f hn1 (fun q => h2 q.2)))
      refine lv_iload hx hb dL_build_170 (lv_at hl 1 rfl) ?_
      refine lv_aload_n hx hb dL_build_172 rfl (lv_at hl 7 rfl) ?_
      refine lv_iload hx hb dL_build_173 (lv_at hl 0 rfl) ?_
      refine va_ldA hx hb hZ.1 hP 20 2 rfl rfl (by omega) (by decide) g2 dL_build_175 ?_
      refine lv_iconst (v := nI 0) hx hb dL_build_176 (by decide) ?_
      refine rv_iald hx hb hZ.1 hP k9 1 hk9 rfl (r := 0) (by decide) (by decide) (v := nI (zF σ d)) g3 dL_build_177 ?_
      refine lv_iload hx hb dL_build_178 (lv_at hl 3 rfl) ?_
      refine rv_ne (tgt := 194) (x := zF σ d) (y := x) hx hb (by omega) (by omega) dL_build_180 (by decide) (fun h1 => K194 (fun q => h1 q.1)) (fun h1 => ?_)
      refine lv_aload_n hx hb dL_build_183 rfl (lv_at hl 7 rfl) ?_
      refine lv_iload hx hb dL_build_184 (lv_at hl 0 rfl) ?_
      refine va_ldA hx hb hZ.1 hP 20 2 rfl rfl (by omega) (by decide) g2 dL_build_186 ?_
      refine lv_iconst (v := nI 1) hx hb dL_build_187 (by decide) ?_
      refine rv_iald hx hb hZ.1 hP k9 1 hk9 rfl (r := 1) (by decide) (by decide) (v := nI (zG σ d)) g4 dL_build_188 ?_
      refine lv_iload hx hb dL_build_189 (lv_at hl 2 rfl) ?_
      refine rv_eq (tgt := 220) (x := zG σ d) (y := y) hx hb (by omega) (by omega) dL_build_191 (by decide) (fun _ => K220) (fun h2 => K194 (fun q => h2 q.2))
