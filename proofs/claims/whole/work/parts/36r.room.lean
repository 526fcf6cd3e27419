/-! ===== THE ROOM: the claim fails at every start that it speaks of whose script is that one, where the machine has the room to go on ===== -/
def scr9 (K : Nat) : List Int32 := (List.range (15 + 5 * K)).map sc
theorem scr9_len (K : Nat) : (scr9 K).length = 15 + 5 * K := by rw [scr9, List.length_map, List.length_range]
/-- so many play(60): their rows alone are more than the claim's room -/
def K9 : Nat := room_1.slots / 46080 + 1
theorem K9_lt : 15 + 5 * K9 < 2 ^ 22 := Nat.le_of_ble_eq_true rfl
theorem K9_N : 15 + 5 * K9 ≤ 2560 := Nat.le_of_ble_eq_true rfl
theorem K9_room : room_1.slots < 46080 * K9 := Nat.le_of_ble_eq_true rfl
set_option maxHeartbeats 4000000 in
theorem lR_walk (l : Launch) (b : Addr) : MetFree l x (headSpec (Jvm.Cond.code x code maxLocals ret :: tables_1) (R9 K9)) (fun args s => args = #[.ref b] ∧ s.IntsAt b (scr9 K9)) (fun _ _ _ _ _ => True) (fun _ s o t => lR_Q K9 s o t) := by
  refine MetFree.of_bodyS (code := code) (maxLocals := maxLocals) (ret := ret) (by decide) ?_ ?_
  · intro args s m h hn
    obtain ⟨meth, c, h1, h2, h3, h4, h5, h6, -, -⟩ := Cond.code_spec hn (atoms_spec (ws := Jvm.Cond.code x code maxLocals ret :: tables_1) h _ List.mem_cons_self)
    exact ⟨meth, c, h1, h2, h3, h4, h5, h6⟩
  · intro p e s m args below meth c s₁ B hml0 hP _
    obtain ⟨rfl, hx⟩ := hP
    obtain ⟨scr, harrAt, hlist, hof, hsmall⟩ := hx
    obtain ⟨hcb, hkn, -, -⟩ := State.arrayAt?_spec harrAt
    have hown : s.vm.findClass R_lawR = some m.cls := findClass_of_methodNamed B.named
    have hts0 : ∀ c ∈ (Jvm.Cond.code x code maxLocals ret :: tables_1), c.before #[Value.ref b] s = true := atoms_spec (ws := Jvm.Cond.code x code maxLocals ret :: tables_1) B.pre
    have hts : ∀ w ∈ lw_tbl, w.before #[Value.ref b] s = true := k2_hts_sels lw_privs (fun w hw => hts0 w (List.mem_cons_of_mem _ hw)) lw_privs_ok
    have hml : c.maxLocals = 9 := B.maxLocals_eq (hts0 _ List.mem_cons_self)
    have X₀ : Stand p l e (R9 K9) s m #[Value.ref b] below meth c s₁ [] 0 0 := Stand.of_body B
    have hh0 : s₁.heap = s.heap := by rw [B.state]; rfl
    have hsz : scr.slots.size = 15 + 5 * K9 := by rw [← Array.length_toList, hlist, List.length_map, scr9_len]
    have hval : ∀ j : Nat, j < 15 + 5 * K9 → scr.slots[j]? = some (.int (sc j)) := fun j hj => by
      rw [← Array.getElem?_toList, hlist, scr9, List.getElem?_map, List.getElem?_map, List.getElem?_range hj]
      rfl
    have hbl : b < s.heap.size := (Array.getElem?_eq_some_iff.mp hcb).1
    have hX : va_X b (15 + 5 * K9) sc s s.heap := ⟨scr, hcb, hof, hkn, hsz, hval⟩
    have K : W p l e (R9 K9) s m #[Value.ref b] below meth c s₁.heap [] 0 0 (lR_Z K9 below s) (entryFrame m ([Value.ref b] : List Value).toArray 9) := by
      rw [hh0]
      exact whole_startR l K9 K9_lt (Nat.succ_le_succ (Nat.zero_le _)) ⟨B.exec, B.bytes, B.returns, hml, hown, hts, hX, hbl, B.notSynchronized⟩
    obtain ⟨t, a1, o, b1, b2, b3⟩ := K s₁ rfl X₀
    exact ⟨t, o, a1, b1, b2, b3⟩
/-- THE ROOM: of every start of the claim whose script is two addRoom(false), begin(0, 1) and K9 times play(60), on a machine that has room to go on, what is claimed is false -/
theorem room_false (l : Launch) (hflags : l.flags = flags0) (hL : Lists l classFile x code maxLocals ret tables_1 room_1) {p : Program} {e : Env} {s : State} {m : MethodId} {args : Array Value} {below : List Frame} (ha : l.admits e) (hc : FairCas e.choices) (hk : FairClock e.choices)
    (hf : s.frames = Frame.invoking m args :: below) (hfit : argsFit s.vm m args = true) (hheap : heapFits s = true) (h1 : (headSpec (Cond.code x code maxLocals ret :: tables_1) room_1).applies x e.platform s = true) (h9 : (headSpec (Cond.code x code maxLocals ret :: tables_1) (R9 K9)).applies x e.platform s = true)
    (hpre : Calls_1 p.tables e args s ∧ rest_1 p.tables e args s ∧ Pre_1 p.tables e args s) (b : Addr) (hb : args = #[.ref b]) (hs : s.IntsAt b (scr9 K9)) : ¬ Claimed_1_1 := by
  intro hC
  obtain ⟨n, o, w1, r1, e1, hP⟩ := hC l hflags hL trivial p e ha hc hk s m args below hf hfit hheap h1 hpre
  obtain ⟨k, o', w2, r2, e2, hQ⟩ := lR_walk l b p e ha hc hk s m args below hf ((Spec.applies_iff_loose hf).mp h9).1 ⟨hb, hs⟩ trivial
  have hnk : n = k := by
    rcases Nat.lt_trichotomy n k with h | h | h
    · exact absurd (w2 n h) e1.not_within
    · exact h
    · exact absurd (w1 k h) e2.not_within
  subst hnk
  obtain ⟨-, ⟨-, -, -, -, -, -, hF, -⟩, -⟩ := hP
  have h3 : (((stepsAlone p.tables e n s).heap.toList.drop s.heap.size).map (fun c : Cell => c.slots.size)).sum ≤ room_1.slots := hF
  have h4 := hQ.2
  have h5 := K9_room
  omega
