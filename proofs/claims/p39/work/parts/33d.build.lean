set_option maxHeartbeats 4000000 in
set_option maxRecDepth 100000 in
theorem bd_doors {p : Program} {l : Launch} {e : Env} {s : State} {m : MethodId} {args : Array Value} {below : List Frame} {meth : Method} {c : Code} {b L : Nat} {xs : Nat → Int32} {D : va_G} {cZ cI cR : ClassId} {A : Nat → Prop} {Q : State → Prop} (C : BdC p s m args c b L xs D cZ cI cR A) {a sf n dr : Nat} {o o' q : Nat → Nat} {κ : CS} {ω' : OS} {S : Nat → Bool} (hn8 : n ≤ 8) (hn2 : 2 ≤ n)
    (K : ∀ (σ : HS) (ω : OS) (f : Nat → Option Nat) (LR : List Nat) (ρ : Nat → Nat → Int32) (H : Heap) (locs : List Loc) (ls : Array Slot), bdD n S σ ω f LR ρ → va_P D vwCl (pD cZ cI a o o' q κ ω ω' σ ++ wSf cZ sf n S ++ wDr cR dr 14 f ++ rws cI LR ρ) H → va_D A (pD cZ cI a o o' q κ ω ω' σ ++ wSf cZ sf n S ++ wDr cR dr 14 f ++ rws cI LR ρ) → va_S A s.heap H locs → lv_has ls 11 [(4, .int (nI (zM σ))), (3, .ref dr), (0, .ref a), (1, .ref b), (2, .ref sf)] → W p l e (headSpec wsL_build rmB).room s m args below meth c H locs (1 + zM σ) (14 + 5 * zM σ) Q (F0 m 348 ls [])) :
    ∀ (f9 k : Nat) (σ : HS) (ω : OS) (f : Nat → Option Nat) (LR : List Nat) (ρ : Nat → Nat → Int32) (H : Heap) (locs : List Loc) (ls : Array Slot), 19 ≤ k + f9 → k ≤ 18 → bdD n S σ ω f LR ρ → va_P D vwCl (pD cZ cI a o o' q κ ω ω' σ ++ wSf cZ sf n S ++ wDr cR dr 14 f ++ rws cI LR ρ) H → va_D A (pD cZ cI a o o' q κ ω ω' σ ++ wSf cZ sf n S ++ wDr cR dr 14 f ++ rws cI LR ρ) → va_S A s.heap H locs → lv_has ls 11 [(5, .int (nI k)), (4, .int (nI (zM σ))), (3, .ref dr), (0, .ref a), (1, .ref b), (2, .ref sf)] → W p l e (headSpec wsL_build rmB).room s m args below meth c H locs (1 + zM σ) (14 + 5 * zM σ) Q (F0 m 62 ls []) := by
  intro f9
  induction f9 with
  | zero => intro k σ ω f LR ρ H locs ls h1 h2; exact absurd h1 (by omega)
  | succ f9 ih =>
    intro k σ ω f LR ρ H locs ls hm hk18 hI hP hD hS hl
    obtain ⟨hx, hb, hml, hown, hts, hX, hbl, hbA, hL, hA, hZ⟩ := id C
    have hzm : zM σ ≤ 14 := hI.1.2.1
    refine lv_iload hx hb dL_build_62 (lv_at hl 0 rfl) ?_
    refine lv_bipush (v := nI 18) hx hb dL_build_64 (by decide) ?_
    refine rv_ge (tgt := 348) (x := k) (y := 18) hx hb (by omega) (by decide) dL_build_66 (by decide) (fun _ => K σ ω f LR ρ H locs ls hI hP hD hS (lv_sub hl [1, 2, 3, 4, 5] rfl)) (fun hk => ?_)
    refine lv_iload hx hb dL_build_69 (lv_at hl 1 rfl) ?_
    refine lv_bipush (v := nI 14) hx hb dL_build_71 (by decide) ?_
    refine rv_ge (tgt := 348) (x := zM σ) (y := 14) hx hb (by omega) (by decide) dL_build_73 (by decide) (fun _ => K σ ω f LR ρ H locs ls hI hP hD hS (lv_sub hl [1, 2, 3, 4, 5] rfl)) (fun h14 => ?_)
    refine lv_aload_n hx hb dL_build_76 rfl (lv_at hl 4 rfl) ?_
    refine lv_iload hx hb dL_build_77 (lv_at hl 0 rfl) ?_
    refine lv_bipush (v := nI 15) hx hb dL_build_79 (by decide) ?_
    refine rv_rem hx hb (by omega) (by decide) (by decide) dL_build_81 ?_
    refine vp_callSi (va_runS (As := [.ref b, .int (nI (k % 15))]) (rest := []) ⟨hx, hb, hml, hown, hts⟩ (c_L_cell l b L xs (k % 15) (by omega) hL) (va_cwS 2 hts gL_build_L_cell rfl rfl rfl (by decide +kernel) ⟨Nat.le_of_ble_eq_true rfl, Nat.le_of_ble_eq_true rfl⟩) ⟨ScP_blind, ScP_start (hX.kept (hS.2.1 b hbl hbA))⟩ rfl rfl hl.1 rfl (lv_room (Nat.le_of_ble_eq_true rfl)) dL_build_82 ⟨show 1 + zM σ + 0 ≤ 16 by omega, show 14 + 5 * zM σ + 0 ≤ 98 by omega⟩).run (fun r9 hq => ?_)
    subst hq
    refine lv_iload hx hb dL_build_85 (lv_at hl 0 rfl) ?_
    refine lv_bipush (v := nI 15) hx hb dL_build_87 (by decide) ?_
    refine rv_div hx hb (by omega) (by decide) (by decide) dL_build_89 ?_
    refine lv_bipush (v := nI 6) hx hb dL_build_90 (by decide) ?_
    refine rv_mul hx hb dL_build_92 ?_
    refine lv_ishr hx hb dL_build_93 ?_
    refine lv_topi (fun w _ => ?_)
    refine lv_istore (lv' := [(6, .int w), (5, .int (nI k)), (4, .int (nI (zM σ))), (3, .ref dr), (0, .ref a), (1, .ref b), (2, .ref sf)]) hx hb dL_build_94 hl (by decide) rfl (fun ls hl => ?_)
    have K144 : ∀ (x y : Nat), x < n → y < n → ∀ ls : Array Slot, lv_has ls 11 [(7, .int (nI x)), (6, .int w), (5, .int (nI k)), (4, .int (nI (zM σ))), (3, .ref dr), (0, .ref a), (1, .ref b), (2, .ref sf)] → W p l e (headSpec wsL_build rmB).room s m args below meth c H locs (1 + zM σ) (14 + 5 * zM σ) Q (F0 m 144 ls [.int (nI y)]) := by
      intro x y hx8 hy8 ls hl
      refine lv_istore (lv' := [(8, .int (nI y)), (7, .int (nI x)), (6, .int w), (5, .int (nI k)), (4, .int (nI (zM σ))), (3, .ref dr), (0, .ref a), (1, .ref b), (2, .ref sf)]) hx hb dL_build_144 hl (by decide) rfl (fun ls hl => ?_)
      have K158 : ∀ v : Bool, (v = true → ¬ x = y) → W p l e (headSpec wsL_build rmB).room s m args below meth c H locs (1 + zM σ) (14 + 5 * zM σ) Q (F0 m 158 ls [.int (bI v)]) := by
        intro v hv
        refine lv_istore (lv' := [(9, .int (bI v)), (8, .int (nI y)), (7, .int (nI x)), (6, .int w), (5, .int (nI k)), (4, .int (nI (zM σ))), (3, .ref dr), (0, .ref a), (1, .ref b), (2, .ref sf)]) hx hb dL_build_158 hl (by decide) rfl (fun ls hl => ?_)
        refine lv_iconst (v := nI 0) hx hb dL_build_160 (by decide) ?_
        refine lv_istore (lv' := [(10, .int (nI 0)), (9, .int (bI v)), (8, .int (nI y)), (7, .int (nI x)), (6, .int w), (5, .int (nI k)), (4, .int (nI (zM σ))), (3, .ref dr), (0, .ref a), (1, .ref b), (2, .ref sf)]) hx hb dL_build_161 hl (by decide) rfl (fun ls hl => ?_)
        refine bd_uniq C hI hn8 hx8 hy8 hP (fun v ls hv hl => ?_) (zM σ + 1) 0 v ls (by omega) (by omega) (fun q => ⟨hv q, fun e he => absurd he (by omega)⟩) (lv_sub hl [0, 1, 2, 3, 4, 5, 6, 7, 8, 9, 10] rfl)
        refine lv_iload hx hb dL_build_230 (lv_at hl 0 rfl) ?_
        refine rv_ifneB (tgt := 238) hx hb dL_build_232 (by decide) (fun q => ?_) (fun q => ?_)
        · refine bd_make C hI hn8 hx8 hy8 (hv q).1 (hv q).2 h14 hP hD hS (fun σ1 ω1 f1 LR1 ρ1 H locs ls hI1 hz1 hP hD hS hl => ?_) hl
          refine lv_iinc (v := nI (k + 1)) (lv' := [(5, .int (nI (k + 1))), (4, .int (nI (zM σ + 1))), (3, .ref dr), (0, .ref a), (1, .ref b), (2, .ref sf)]) hx hb dL_build_342 hl (k := 0) rfl (nI_add k 1) (by decide) rfl (fun ls hl => ?_)
          refine lv_goto (tgt := 62) hx hb dL_build_345 (by decide) ?_
          rw [← hz1] at hl ⊢
          exact ih (k + 1) σ1 ω1 f1 LR1 ρ1 H locs ls (by omega) (by omega) hI1 hP hD hS hl
        · refine lv_goto (tgt := 342) hx hb dL_build_235 (by decide) ?_
          refine lv_iinc (v := nI (k + 1)) (lv' := [(5, .int (nI (k + 1))), (9, .int (bI v)), (8, .int (nI y)), (7, .int (nI x)), (6, .int w), (4, .int (nI (zM σ))), (3, .ref dr), (0, .ref a), (1, .ref b), (2, .ref sf)]) hx hb dL_build_342 hl (k := 4) rfl (nI_add k 1) (by decide) rfl (fun ls hl => ?_)
          refine lv_goto (tgt := 62) hx hb dL_build_345 (by decide) ?_
          exact ih (k + 1) σ ω f LR ρ H locs ls (by omega) (by omega) hI hP hD hS (lv_sub hl [0, 5, 6, 7, 8, 9] rfl)
      refine lv_iload hx hb dL_build_146 (lv_at hl 1 rfl) ?_
      refine lv_iload hx hb dL_build_148 (lv_at hl 0 rfl) ?_
      refine rv_eq (tgt := 157) (x := x) (y := y) hx hb (by omega) (by omega) dL_build_150 (by decide) (fun _ => ?_) (fun h9 => ?_)
      · refine lv_iconst (v := nI 0) hx hb dL_build_157 (by decide) ?_
        refine rv_top (show nI 0 = bI false from rfl) ?_
        exact K158 false (fun q => absurd q Bool.false_ne_true)
      · refine lv_iconst (v := nI 1) hx hb dL_build_153 (by decide) ?_
        refine rv_top (show nI 1 = bI true from rfl) ?_
        refine lv_goto (tgt := 158) hx hb dL_build_154 (by decide) ?_
        exact K158 true (fun _ => h9)
    have K117 : ∀ x : Nat, x < n → (k < n - 1 → x = k) → W p l e (headSpec wsL_build rmB).room s m args below meth c H locs (1 + zM σ) (14 + 5 * zM σ) Q (F0 m 117 ls [.int (nI x)]) := by
      intro x hx8 hxk
      refine lv_istore (lv' := [(7, .int (nI x)), (6, .int w), (5, .int (nI k)), (4, .int (nI (zM σ))), (3, .ref dr), (0, .ref a), (1, .ref b), (2, .ref sf)]) hx hb dL_build_117 hl (by decide) rfl (fun ls hl => ?_)
      refine lv_iload hx hb dL_build_119 (lv_at hl 2 rfl) ?_
      refine lv_aload_n hx hb dL_build_121 rfl (lv_at hl 7 rfl) ?_
      refine va_alen hx hb hZ.1 hP 19 0 rfl rfl (v := nI n) rfl dL_build_122 ?_
      refine lv_iconst (v := nI 1) hx hb dL_build_123 (by decide) ?_
      refine rv_sub hx hb (by omega) dL_build_124 ?_
      refine rv_ge (tgt := 135) (x := k) (y := n - 1) hx hb (by omega) (by omega) dL_build_125 (by decide) (fun _ => ?_) (fun h9 => ?_)
      · refine lv_iload hx hb dL_build_135 (lv_at hl 1 rfl) ?_
        refine lv_iconst (v := nI 3) hx hb dL_build_137 (by decide) ?_
        refine lv_ishr hx hb dL_build_138 ?_
        refine lv_topi (fun y4 _ => ?_)
        refine lv_aload_n hx hb dL_build_139 rfl (lv_at hl 7 rfl) ?_
        refine va_alen hx hb hZ.1 hP 19 0 rfl rfl (v := nI n) rfl dL_build_140 ?_
        refine vp_callSi (va_runS (As := [.int y4, .int (nI n)]) (rest := []) ⟨hx, hb, hml, hown, hts⟩ (c_L_below l D cZ cI y4 n (by omega) (by omega)) (va_cwS 2 hts gL_build_L_below rfl rfl rfl (by decide +kernel) ⟨Nat.le_of_ble_eq_true rfl, Nat.le_of_ble_eq_true rfl⟩) ⟨RdP_blind, RdP_start (hP.sub (ws' := []) [] rfl) hZ.two⟩ rfl rfl hl.1 rfl (lv_room (Nat.le_of_ble_eq_true rfl)) dL_build_141 ⟨show 1 + zM σ + 0 ≤ 16 by omega, show 14 + 5 * zM σ + 0 ≤ 98 by omega⟩).run (fun r9 hq => ?_)
        subst hq
        exact K144 x (belF y4 n) hx8 (belF_lt y4 (by omega)) ls hl
      · refine lv_iload hx hb dL_build_128 (lv_at hl 2 rfl) ?_
        refine lv_iconst (v := nI 1) hx hb dL_build_130 (by decide) ?_
        refine rv_add hx hb dL_build_131 ?_
        refine lv_goto (tgt := 144) hx hb dL_build_132 (by decide) ?_
        exact K144 x (k + 1) hx8 (by omega) ls hl
    refine lv_iload hx hb dL_build_96 (lv_at hl 1 rfl) ?_
    refine lv_aload_n hx hb dL_build_98 rfl (lv_at hl 6 rfl) ?_
    refine va_alen hx hb hZ.1 hP 19 0 rfl rfl (v := nI n) rfl dL_build_99 ?_
    refine lv_iconst (v := nI 1) hx hb dL_build_100 (by decide) ?_
    refine rv_sub hx hb (by omega) dL_build_101 ?_
    refine rv_ge (tgt := 110) (x := k) (y := n - 1) hx hb (by omega) (by omega) dL_build_102 (by decide) (fun h9 => ?_) (fun h9 => ?_)
    · refine lv_iload hx hb dL_build_110 (lv_at hl 0 rfl) ?_
      refine lv_aload_n hx hb dL_build_112 rfl (lv_at hl 6 rfl) ?_
      refine va_alen hx hb hZ.1 hP 19 0 rfl rfl (v := nI n) rfl dL_build_113 ?_
      refine vp_callSi (va_runS (As := [.int w, .int (nI n)]) (rest := []) ⟨hx, hb, hml, hown, hts⟩ (c_L_below l D cZ cI w n (by omega) (by omega)) (va_cwS 2 hts gL_build_L_below rfl rfl rfl (by decide +kernel) ⟨Nat.le_of_ble_eq_true rfl, Nat.le_of_ble_eq_true rfl⟩) ⟨RdP_blind, RdP_start (hP.sub (ws' := []) [] rfl) hZ.two⟩ rfl rfl hl.1 rfl (lv_room (Nat.le_of_ble_eq_true rfl)) dL_build_114 ⟨show 1 + zM σ + 0 ≤ 16 by omega, show 14 + 5 * zM σ + 0 ≤ 98 by omega⟩).run (fun r9 hq => ?_)
      subst hq
      exact K117 (belF w n) (belF_lt w (by omega)) (fun q => absurd q h9)
    · refine lv_iload hx hb dL_build_105 (lv_at hl 1 rfl) ?_
      refine lv_goto (tgt := 117) hx hb dL_build_107 (by decide) ?_
      exact K117 k (by omega) (fun _ => rfl)
/-- what build answers: the house, the outlook, the rooms' kinds as told, how many doors, the rows -/
abbrev BdU : Type := HS × OS × (Nat → Bool) × (Nat → Option Nat)
def bdOk (n : Nat) (u : BdU) : Prop := zOk u.1 ∧ hIn u.1 ∧ hUq u.1 ∧ LK u.1 u.2.1 ∧ zN u.1 = n ∧ (∀ i, i < n → u.2.2.1 i = zS u.1 i) ∧ zS u.1 0 = false ∧ zC u.1 = fun _ => 0
def BdP (D : va_G) (cZ cI cR : ClassId) (b L : Nat) (xs : Nat → Int32) (av : List Value) (ws : va_W) (sz : Nat) : Array Value → State → Prop := va_Pc av (fun U => U.heap.size = sz ∧ va_P D vwCl ws U.heap ∧ zKR D cZ cI cR U ∧ va_D (fun _ => True) ws ∧ va_X b L xs U U.heap ∧ ∀ (k : Nat) (q : Nat × va_E), ws[k]? = some q → ¬ q.1 = b)
theorem BdP_blind {D : va_G} {cZ cI cR : ClassId} {b L : Nat} {xs : Nat → Int32} {av : List Value} {ws : va_W} {sz : Nat} : FrameBlind (BdP D cZ cI cR b L xs av ws sz) := by
  intro a U g mk h
  obtain ⟨h1, h2, h3, h4, h5, h6, h7⟩ := h
  exact ⟨h1, h2, h3, h4.call, h5, h6.moved (u := U) (U := U.calling g mk a) (Vm.Alike.refl U.vm), h7⟩
theorem BdP_start {D : va_G} {cZ cI cR : ClassId} {b L : Nat} {xs : Nat → Int32} {av : List Value} {ws : va_W} {A : Nat → Prop} {s : State} {H : Heap} (hP : va_P D vwCl ws H) (hD : va_D A ws) (hZ : zKR D cZ cI cR s) (hX : va_X b L xs s H) (hb : ∀ (k : Nat) (q : Nat × va_E), ws[k]? = some q → ¬ q.1 = b) : ∀ U : State, U.heap = H → s.WarmedH U.vm → BdP D cZ cI cR b L xs av ws H.size av.toArray U := by
  intro U hU hW
  refine ⟨rfl, ?_⟩
  show U.heap.size = H.size ∧ va_P D vwCl ws U.heap ∧ zKR D cZ cI cR U ∧ va_D (fun _ => True) ws ∧ va_X b L xs U U.heap ∧ _
  rw [hU]
  exact ⟨rfl, hP, hZ.warm hW, hD.weaken (fun _ _ _ _ => trivial), hX.moved hW.alike, hb⟩
set_option maxHeartbeats 4000000 in
set_option maxRecDepth 100000 in
theorem c_L_build (l : Launch) (D : va_G) (cZ cI cR : ClassId) (b L : Nat) (xs : Nat → Int32) (a sf n : Nat) (o o' q : Nat → Nat) (κ : CS) (ω ω' : OS) (σ : HS) (S : Nat → Bool) (sz : Nat) (hn8 : n ≤ 8) (hn2 : 2 ≤ n) (hL : L < 2 ^ 31) (hσ : zOk σ) (h0 : zN σ = 0) (hm0 : zM σ = 0) (hC : zC σ = fun _ => 0) : Met l yL_build wsL_build rmB (BdP D cZ cI cR b L xs [.ref a, .ref b, .ref sf] (pD cZ cI a o o' q κ ω ω' σ ++ wSf cZ sf n S) sz) (va_Qr (bdOk n) (fun (u : BdU) (ra : Nat) t => va_P D vwCl (pD cZ cI a o o' q κ u.2.1 ω' u.1 ++ wSf cZ sf n u.2.2.1 ++ wDr cR ra (zM u.1) u.2.2.2) t.heap ∧ va_D (va_A (pD cZ cI a o o' q κ ω ω' σ ++ wSf cZ sf n S) sz) (pD cZ cI a o o' q κ u.2.1 ω' u.1 ++ wSf cZ sf n u.2.2.1 ++ wDr cR ra (zM u.1) u.2.2.2)) (va_A (pD cZ cI a o o' q κ ω ω' σ ++ wSf cZ sf n S) sz)) 16 98 (va_A (pD cZ cI a o o' q κ ω ω' σ ++ wSf cZ sf n S) sz) := by
  refine Met.ofW (cc := cL_build) (maxL := 11) (ret := (some (.array (.array .int)))) (by decide) rfl ?_
  intro p e s m args below meth c s₁ B hml hv
  obtain ⟨rfl, hsz, hP, hZ, hD0, hX, hnb⟩ := hv
  have hx := B.exec
  have hb := B.bytes
  have hr := B.returns
  have hts := atoms_spec (ws := wsL_build) B.pre
  have hown : s.vm.findClass RL = some m.cls := findClass_of_methodNamed B.named
  have hlocks := B.notSynchronized
  subst hsz
  have hbl : b < s.heap.size := by obtain ⟨scr, h1, -⟩ := hX; exact (Array.getElem?_eq_some_iff.mp h1).1
  have hbA : ¬ va_A (pD cZ cI a o o' q κ ω ω' σ ++ wSf cZ sf n S) s.heap.size b := by
    intro h
    rcases h with ⟨k, e, h⟩ | h
    · exact hnb k (b, e) h rfl
    · omega
  have hD := hD0.self (sz := s.heap.size)
  generalize hAe : va_A (pD cZ cI a o o' q κ ω ω' σ ++ wSf cZ sf n S) s.heap.size = A at hD hbA ⊢
  have hA : ∀ q : Nat, s.heap.size ≤ q → A q := fun q h => by rw [← hAe]; exact Or.inr h
  have hS : va_S A s.heap s.heap [] := va_S.rf
  have C : BdC p s m ([.ref a, .ref b, .ref sf] : List Value).toArray c b L xs D cZ cI cR A := ⟨hx, hb, hml, hown, hts, hX, hbl, hbA, hL, hA, hZ⟩
  have hl := lv_entry ([.ref a, .ref b, .ref sf]) (n := 11) (Nat.le_of_ble_eq_true rfl)
  rw [lg_entry_eq]
  generalize (lg_sl ([.ref a, .ref b, .ref sf]) ++ List.replicate (11 - (lg_sl ([.ref a, .ref b, .ref sf])).length) Slot.unset).toArray = ls at hl ⊢
  have hl : lv_has ls 11 [(0, .ref a), (1, .ref b), (2, .ref sf)] := hl
  refine lv_iconst (v := nI 0) hx hb dL_build_0 (by decide) ?_
  refine lv_istore_n (lv' := [(3, .int (nI 0)), (0, .ref a), (1, .ref b), (2, .ref sf)]) hx hb dL_build_1 rfl hl (by decide) rfl (fun ls hl => ?_)
  refine bd_rooms C hn8 (fun σ ω S H locs ls hI hzn hP hD hS hl => ?_) (n + 1) 0 σ ω S s.heap [] ls (by omega) (by omega) h0 ⟨hσ, hm0, fun i hi => absurd hi (by omega), fun h => absurd h (by omega), hC⟩ hP hD hS hl
  obtain ⟨i1, i2, i3, i4, i5⟩ := hI
  obtain ⟨i6, i7⟩ := i4 (by omega)
  refine lv_bipush (v := nI 14) hx hb dL_build_50 (by decide) ?_
  refine va_newA hx hb hown (hts (.classLink RL 25 "[I") (by decide +kernel)) hZ.over hZ.nm hP hD hS hA (N' := 14) (by decide) (Nat.le_of_ble_eq_true rfl) (Nat.le_of_ble_eq_true rfl) dL_build_52 (fun dr H hP hD hS => ?_)
  refine lv_astore_n (lv' := [(3, .ref dr), (0, .ref a), (1, .ref b), (2, .ref sf)]) hx hb dL_build_55 rfl hl (by decide) rfl (fun ls hl => ?_)
  refine lv_iconst (v := nI 0) hx hb dL_build_56 (by decide) ?_
  refine lv_istore (lv' := [(4, .int (nI 0)), (3, .ref dr), (0, .ref a), (1, .ref b), (2, .ref sf)]) hx hb dL_build_57 hl (by decide) rfl (fun ls hl => ?_)
  refine lv_iconst (v := nI 0) hx hb dL_build_59 (by decide) ?_
  refine lv_istore (lv' := [(5, .int (nI 0)), (4, .int (nI 0)), (3, .ref dr), (0, .ref a), (1, .ref b), (2, .ref sf)]) hx hb dL_build_60 hl (by decide) rfl (fun ls hl => ?_)
  have hl : lv_has ls 11 [(5, .int (nI 0)), (4, .int (nI (zM σ))), (3, .ref dr), (0, .ref a), (1, .ref b), (2, .ref sf)] := by rw [i2]; exact hl
  refine W.widen (k := 1 + zM σ) (n := 14 + 5 * zM σ) (by omega) (by omega) ?_
  refine bd_doors C hn8 hn2 (S := S) (dr := dr) (fun σ ω f LR ρ H locs ls hI hP hD hS hl => ?_) 19 0 σ ω (fun _ => none) [] (fun _ _ => 0) H locs ls (by omega) (by omega) ⟨i1, fun d hd => absurd hd (by omega), fun a b d e hd => absurd hd (by omega), i6, hzn, fun i hi => i3 i (by omega), i7, i5, fun d hd => absurd hd (by omega)⟩ (by rw [show rws cI [] (fun _ _ => 0) = [] from rfl, List.append_nil]; exact hP) (by rw [show rws cI [] (fun _ _ => 0) = [] from rfl, List.append_nil]; exact hD) hS hl
  obtain ⟨j1, j2, j3, j4, j5, j6, j7, j8, j9⟩ := hI
  have hzm : zM σ ≤ 14 := j1.2.1
  refine lv_iload hx hb dL_build_348 (lv_at hl 0 rfl) ?_
  refine va_newA hx hb hown (hts (.classLink RL 25 "[I") (by decide +kernel)) hZ.over hZ.nm hP hD hS hA (N' := zM σ) (by omega) (show 1 + zM σ + 1 ≤ 16 by omega) (show 14 + 5 * zM σ + zM σ ≤ 98 by omega) dL_build_350 (fun ra H hP hD hS => ?_)
  refine W.widen (k := 16) (n := 98) (by omega) (by omega) ?_
  replace hP := hP.swap
  replace hD := hD.swap
  refine lv_astore (lv' := [(5, .ref ra), (4, .int (nI (zM σ))), (3, .ref dr), (0, .ref a), (1, .ref b), (2, .ref sf)]) hx hb dL_build_353 hl (by decide) rfl (fun ls hl => ?_)
  refine lv_aload_n hx hb dL_build_355 rfl (lv_at hl 2 rfl) ?_
  refine lv_iconst (v := nI 0) hx hb dL_build_356 (by decide) ?_
  refine lv_aload hx hb dL_build_357 (lv_at hl 0 rfl) ?_
  refine lv_iconst (v := nI 0) hx hb dL_build_359 (by decide) ?_
  refine lv_iload hx hb dL_build_360 (lv_at hl 1 rfl) ?_
  refine va_cpA hx hb (hml.trans hl.1.symm) hown (hts (.methodLink RL 35 arraycopyName) (by decide +kernel)) (hts (.native arraycopyName) (by decide +kernel)) (hts (.static arraycopyName) (by decide +kernel)) (hts (.initialized "java/lang/System") (by decide +kernel)) hZ.1 hP hD hS 20 21 2 rfl rfl rfl hZ.arr (N := zM σ) (by omega) (by omega) (Nat.le_refl _) (fun i hi y hy => ?_) (Nat.le_of_ble_eq_true rfl) (Nat.le_of_ble_eq_true rfl) dL_build_362 (fun H locs hP hD hS => ?_)
  · obtain ⟨a9, g1, g2, -, -⟩ := j9 i hi
    rw [hy] at g2
    cases g2
    obtain ⟨k9, hk9⟩ := va_pl_get (X := (pD cZ cI a o o' q κ ω ω' σ ++ wSf cZ sf n S ++ wDr cR dr 14 f) ++ [(ra, .inl (cR, zM σ, .inr (.inr (.inr (.inr (fun _ => none))))))]) (f := fun a => .inl (cI, 5, .inl (ρ a))) g1
    exact ⟨k9, 5, ρ y, hk9⟩
  refine lv_aload hx hb dL_build_365 (lv_at hl 0 rfl) ?_
  have hP9 := hP.sub (ws' := pD cZ cI a o o' q κ ω ω' σ ++ wSf cZ sf n S ++ wDr cR ra (zM σ) (va_cpy f (fun _ => none) 0 0 (zM σ))) [0, 1, 2, 3, 4, 5, 6, 7, 8, 9, 10, 11, 12, 13, 14, 15, 16, 17, 18, 19, 21] rfl
  have hD9 := hD.sub (ws' := pD cZ cI a o o' q κ ω ω' σ ++ wSf cZ sf n S ++ wDr cR ra (zM σ) (va_cpy f (fun _ => none) 0 0 (zM σ))) [0, 1, 2, 3, 4, 5, 6, 7, 8, 9, 10, 11, 12, 13, 14, 15, 16, 17, 18, 19, 21] (by decide) rfl
  exact W.aret hx hb hr (Or.inr ⟨_, rfl⟩) (Or.inr ⟨ra, rfl⟩) (fun t ht hW => ⟨⟨(σ, ω, S, va_cpy f (fun _ => none) 0 0 (zM σ)), ra, rfl, ⟨j1, j2, j3, j4, j5, j6, j7, j8⟩, by rw [ht]; exact hP9, hD9⟩, hS.F ht⟩) hS.2.2 dL_build_367
