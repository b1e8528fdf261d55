/-! The core: what is known of the tables at every method (kk), three kinds of contract (Ri, Rl: a reader; Ci, Cl, Cv: a writer), how one is proved (.of) and how it is called. -/
abbrev kG : Type := va_G × (ClassId × ClassId × ClassId × ClassId)
abbrev kTy (G : kG) : List (ClassId × FieldType) := [(G.2.1, .int), (G.2.2.1, .long), (G.2.2.2.1, .boolean), (G.2.2.2.2, .object "HorizonPeaks$Notches")]
abbrev kn0 : Cond := .methodLinkNest RX7 11 yX5_init RX7
abbrev kn1 : Cond := .methodLinkNest RX7 18 yX1_init RX7
abbrev kn2 : Cond := .methodLinkNest RX7 28 yX3_init RX7
abbrev kn3 : Cond := .methodLinkNest RX4 17 yX3_init RX7
abbrev kn4 : Cond := .methodLinkNest RX6 11 yX2_init RX7
abbrev kn5 : Cond := .methodLinkNest RX7 51 yX0_init RX7
abbrev kn6 : Cond := .methodLinkNest RX1 51 yX7_pointOf RX7
def kN (U : State) : Prop := va_Nw kn0 U ∧ va_Nw kn1 U ∧ va_Nw kn2 U ∧ va_Nw kn3 U ∧ va_Nw kn4 U ∧ va_Nw kn5 U ∧ va_Nw kn6 U
def kk (G : kG) (U : State) : Prop := va_K G.1 vwCl (kTy G) U ∧ va_AO "HorizonPeaks$Notches" U ∧ kN U
theorem kk.K {G : kG} {U : State} (h : kk G U) : va_K G.1 vwCl (kTy G) U := h.1
theorem kk.warm {G : kG} {s U : State} (hW : s.WarmedH U.vm) (h : kk G s) : kk G U :=
  ⟨va_K.moved hW.alike h.1, va_AO.moved hW.alike h.2.1, va_Nw.warmM hW h.2.2.1, va_Nw.warmM hW h.2.2.2.1, va_Nw.warmM hW h.2.2.2.2.1, va_Nw.warmM hW h.2.2.2.2.2.1, va_Nw.warmM hW h.2.2.2.2.2.2.1, va_Nw.warmM hW h.2.2.2.2.2.2.2.1, va_Nw.warmM hW h.2.2.2.2.2.2.2.2⟩
theorem kk.same {G : kG} {s U : State} (e : s.vm = U.vm) (h : kk G s) : kk G U :=
  ⟨va_K.moved (by rw [e]; exact Vm.Alike.refl _) h.1, va_AO.moved (by rw [e]; exact Vm.Alike.refl _) h.2.1, va_Nw.same rfl e h.2.2.1, va_Nw.same rfl e h.2.2.2.1, va_Nw.same rfl e h.2.2.2.2.1, va_Nw.same rfl e h.2.2.2.2.2.1, va_Nw.same rfl e h.2.2.2.2.2.2.1, va_Nw.same rfl e h.2.2.2.2.2.2.2.1, va_Nw.same rfl e h.2.2.2.2.2.2.2.2⟩
/-- cells: an int array, a long array, a boolean array, an array of Notches, an object -/
abbrev aI (G : kG) (a n : Nat) (f : Nat → Int32) : Nat × va_E := (a, .inl (G.2.1, n, .inl f))
abbrev aJ (G : kG) (a n : Nat) (f : Nat → Int64) : Nat × va_E := (a, .inl (G.2.2.1, n, .inr (.inl f)))
abbrev aZ (G : kG) (a n : Nat) (f : Nat → Int32) : Nat × va_E := (a, .inl (G.2.2.2.1, n, .inl f))
abbrev aN (G : kG) (a n : Nat) (f : Nat → Option Nat) : Nat × va_E := (a, .inl (G.2.2.2.2, n, .inr (.inr (.inr (.inr f)))))
abbrev oB (a ci : Nat) (fs : List Value) : Nat × va_E := (a, .inr (ci, fs))
/-! readers -/
abbrev rPre (G : kG) (W0 : va_W) (av : List Value) : Array Value → State → Prop := va_Pc av (fun U => va_P G.1 vwCl W0 U.heap ∧ kk G U)
def Ri (l : Launch) (G : kG) (y : MethodName) (ws : List Cond) (rm : Room) (av : List Value) (W0 : va_W) (post : Int32 → Prop) : Prop := Met l y ws rm (rPre G W0 av) (vp_Si post) 0 0 (fun _ => False)
def Rl (l : Launch) (G : kG) (y : MethodName) (ws : List Cond) (rm : Room) (av : List Value) (W0 : va_W) (post : Int64 → Prop) : Prop := Met l y ws rm (rPre G W0 av) (vp_Sl post) 0 0 (fun _ => False)
theorem Ri.of {l : Launch} {G : kG} {y : MethodName} {ws ws' : List Cond} {rm : Room} {av : List Value} {W0 : va_W} {post : Int32 → Prop} {cc : ByteArray} {maxL : Nat} {rty : FieldType} (hy : plainName y.cls = true) (hw : ws = Cond.code y cc maxL (some rty) :: ws') (hav : (lg_sl av).length ≤ maxL)
    (body : ∀ (p : Program) (e : Env) (s : State) (m : MethodId) (below : List Frame) (meth : Method) (c : Code) (Q : State → Prop), p.tables.exec = Jvm.exec → c.code = cc → (∀ w ∈ ws, w.before av.toArray s = true) → s.vm.findClass y.cls = some m.cls → c.maxLocals = maxL → va_P G.1 vwCl W0 s.heap → kk G s →
      (∀ (v : Int32) (pc : Nat) (ls : Array Slot), post v → narrow rty (.int v) = .int v → decode cc pc = .ok (.ireturn, 1) → W p l e rm s m av.toArray below meth c s.heap [] 0 0 Q (F0 m pc ls [.int v])) →
      ∀ ls : Array Slot, lv_has ls maxL (lv_args 0 av) → W p l e rm s m av.toArray below meth c s.heap [] 0 0 Q (F0 m 0 ls [])) : Ri l G y ws rm av W0 post := by
  refine Met.ofW hy hw ?_
  intro p e s m args below meth c s₁ B hml hv
  obtain ⟨rfl, hP, hK⟩ := hv
  have hl := lv_entry av (n := maxL) hav
  rw [lg_entry_eq]
  refine body p e s m below meth c _ B.exec B.bytes (atoms_spec (ws := ws) B.pre) (findClass_of_methodNamed B.named) hml hP hK ?_ _ hl
  intro v pc ls hp hn hdg
  exact W.zret B.exec B.bytes B.returns hn (fun t ht hW => ⟨v, rfl, hp, ht⟩) (fun q h => absurd h List.not_mem_nil) hdg
theorem Rl.of {l : Launch} {G : kG} {y : MethodName} {ws ws' : List Cond} {rm : Room} {av : List Value} {W0 : va_W} {post : Int64 → Prop} {cc : ByteArray} {maxL : Nat} (hy : plainName y.cls = true) (hw : ws = Cond.code y cc maxL (some .long) :: ws') (hav : (lg_sl av).length ≤ maxL)
    (body : ∀ (p : Program) (e : Env) (s : State) (m : MethodId) (below : List Frame) (meth : Method) (c : Code) (Q : State → Prop), p.tables.exec = Jvm.exec → c.code = cc → (∀ w ∈ ws, w.before av.toArray s = true) → s.vm.findClass y.cls = some m.cls → c.maxLocals = maxL → va_P G.1 vwCl W0 s.heap → kk G s →
      (∀ (v : Int64) (pc : Nat) (ls : Array Slot), post v → decode cc pc = .ok (.lreturn, 1) → W p l e rm s m av.toArray below meth c s.heap [] 0 0 Q (F0 m pc ls [.long v])) →
      ∀ ls : Array Slot, lv_has ls maxL (lv_args 0 av) → W p l e rm s m av.toArray below meth c s.heap [] 0 0 Q (F0 m 0 ls [])) : Rl l G y ws rm av W0 post := by
  refine Met.ofW hy hw ?_
  intro p e s m args below meth c s₁ B hml hv
  obtain ⟨rfl, hP, hK⟩ := hv
  have hl := lv_entry av (n := maxL) hav
  rw [lg_entry_eq]
  refine body p e s m below meth c _ B.exec B.bytes (atoms_spec (ws := ws) B.pre) (findClass_of_methodNamed B.named) hml hP hK ?_ _ hl
  intro v pc ls hp hdg
  exact W.lret B.exec B.bytes B.returns (fun t ht hW => ⟨v, rfl, hp, ht⟩) (fun q h => absurd h List.not_mem_nil) hdg
theorem rPre_blind {G : kG} {W0 : va_W} {av : List Value} : FrameBlind (rPre G W0 av) := fun a U g mk h => ⟨h.1, h.2.1, h.2.2.same (U := U.calling g mk a) rfl⟩
theorem rPre_V {G : kG} {s : State} {H : Heap} {ws wc : va_W} {b : Addr} {As : List Value} {C : String} {T : u_T} {N : Nat} {fs : List Value} (hK : kk G s) (hP : va_P G.1 vwCl ws H) (isC : List Nat) (hC : isC.filterMap (fun i => ws[i]?) = wc) (q0 ci : Nat) (hc : vwCl[ci]? = some (C, T, N)) (he : wc[q0]? = some (b, .inr (ci, fs))) : PreV s H C b (rPre G wc (.ref b :: As)) As :=
  ⟨rPre_blind, va_recv (q := (C, T, N)) hK.1 (hP.sub isC hC) hc he, fun U hU hW => ⟨rfl, by rw [hU]; exact hP.sub isC hC, hK.warm hW⟩⟩
theorem rPre_S {G : kG} {s : State} {H : Heap} {ws wc : va_W} {As : List Value} (hK : kk G s) (hP : va_P G.1 vwCl ws H) (isC : List Nat) (hC : isC.filterMap (fun i => ws[i]?) = wc) : PreS s H (rPre G wc As) As :=
  ⟨rPre_blind, fun U hU hW => ⟨rfl, by rw [hU]; exact hP.sub isC hC, hK.warm hW⟩⟩
section RD
variable {p : Program} {l : Launch} {e : Env} {R : Room} {s : State} {m : MethodId} {args : Array Value} {below : List Frame} {meth : Method} {c : Code} {H : Heap} {locs : List Loc} {cells slots : Nat} {Q : State → Prop} {cc : ByteArray} {pc : Nat} {ls : Array Slot} {rest st0 : List Value}
theorem rd_i {post : Int32 → Prop} {a : Array Value} (hr : va_Run p l e R s m args below meth c H locs cells slots 0 0 (F0 m pc ls st0) rest (vp_Si post a) (fun _ => False))
    (k : ∀ r : Int32, post r → W p l e R s m args below meth c H locs cells slots Q (F0 m (pc + 3) ls (.int r :: rest))) : W p l e R s m args below meth c H locs cells slots Q (F0 m pc ls st0) := by
  intro T hT X
  obtain ⟨v, st₀, t, T', L, h0, X', hL, e1, e2, ⟨r, hv, hp, hh⟩, st⟩ := hr T hT X
  cases hv
  obtain ⟨t2, a1, b1⟩ := k r hp T' (by rw [e1, hh, h0]) (Stand.forget X' (fun q h => (hL q h).elim))
  exact ⟨t2, st t2 a1, b1⟩
theorem rd_l {post : Int64 → Prop} {a : Array Value} (hr : va_Run p l e R s m args below meth c H locs cells slots 0 0 (F0 m pc ls st0) rest (vp_Sl post a) (fun _ => False))
    (k : ∀ r : Int64, post r → W p l e R s m args below meth c H locs cells slots Q (F0 m (pc + 3) ls (.long r :: rest))) : W p l e R s m args below meth c H locs cells slots Q (F0 m pc ls st0) := by
  intro T hT X
  obtain ⟨v, st₀, t, T', L, h0, X', hL, e1, e2, ⟨r, hv, hp, hh⟩, st⟩ := hr T hT X
  cases hv
  obtain ⟨t2, a1, b1⟩ := k r hp T' (by rw [e1, hh, h0]) (Stand.forget X' (fun q h => (hL q h).elim))
  exact ⟨t2, st t2 a1, b1⟩
end RD
/-! writers -/
abbrev cPre (G : kG) (sz : Nat) (W0 : va_W) (av : List Value) : Array Value → State → Prop := va_Pc av (fun U => U.heap.size = sz ∧ va_P G.1 vwCl W0 U.heap ∧ kk G U ∧ va_D (fun _ => True) W0)
abbrev cB {S : Type} (G : kG) (sz : Nat) (W0 : va_W) (W1 : S → va_W) : S → State → Prop := fun u t => va_P G.1 vwCl (W1 u) t.heap ∧ va_D (va_A W0 sz) (W1 u)
def Ci {S : Type} (l : Launch) (G : kG) (y : MethodName) (ws : List Cond) (rm : Room) (av : List Value) (W0 : va_W) (post : Int32 → S → Prop) (W1 : S → va_W) : Prop := ∀ sz : Nat, Met l y ws rm (cPre G sz W0 av) (va_Qi post (cB G sz W0 W1) (va_A W0 sz)) 0 0 (va_A W0 sz)
def Cl {S : Type} (l : Launch) (G : kG) (y : MethodName) (ws : List Cond) (rm : Room) (av : List Value) (W0 : va_W) (post : Int64 → S → Prop) (W1 : S → va_W) : Prop := ∀ sz : Nat, Met l y ws rm (cPre G sz W0 av) (va_Ql post (cB G sz W0 W1) (va_A W0 sz)) 0 0 (va_A W0 sz)
def Cv {S : Type} (l : Launch) (G : kG) (y : MethodName) (ws : List Cond) (rm : Room) (av : List Value) (W0 : va_W) (post : S → Prop) (W1 : S → va_W) (mc ms : Nat) : Prop := ∀ sz : Nat, Met l y ws rm (cPre G sz W0 av) (va_Qv post (cB G sz W0 W1) (va_A W0 sz)) mc ms (va_A W0 sz)
theorem Ci.of {S : Type} {l : Launch} {G : kG} {y : MethodName} {ws ws' : List Cond} {rm : Room} {av : List Value} {W0 : va_W} {post : Int32 → S → Prop} {W1 : S → va_W} {cc : ByteArray} {maxL : Nat} {rty : FieldType} (hy : plainName y.cls = true) (hw : ws = Cond.code y cc maxL (some rty) :: ws') (hav : (lg_sl av).length ≤ maxL)
    (body : ∀ (p : Program) (e : Env) (s : State) (m : MethodId) (below : List Frame) (meth : Method) (c : Code) (Q : State → Prop) (A : Nat → Prop), p.tables.exec = Jvm.exec → c.code = cc → (∀ w ∈ ws, w.before av.toArray s = true) → s.vm.findClass y.cls = some m.cls → c.maxLocals = maxL → (∀ q : Nat, s.heap.size ≤ q → A q) → kk G s → va_P G.1 vwCl W0 s.heap → va_D A W0 → va_S A s.heap s.heap [] →
      (∀ (v : Int32) (u : S) (pc : Nat) (ls : Array Slot) (H : Heap) (locs : List Loc), post v u → narrow rty (.int v) = .int v → va_P G.1 vwCl (W1 u) H → va_D A (W1 u) → va_S A s.heap H locs → decode cc pc = .ok (.ireturn, 1) → W p l e rm s m av.toArray below meth c H locs 0 0 Q (F0 m pc ls [.int v])) →
      ∀ ls : Array Slot, lv_has ls maxL (lv_args 0 av) → W p l e rm s m av.toArray below meth c s.heap [] 0 0 Q (F0 m 0 ls [])) : Ci l G y ws rm av W0 post W1 := by
  intro sz
  refine Met.ofW hy hw ?_
  intro p e s m args below meth c s₁ B hml hv
  obtain ⟨rfl, rfl, hP, hK, hD0⟩ := hv
  have hl := lv_entry av (n := maxL) hav
  rw [lg_entry_eq]
  refine body p e s m below meth c _ _ B.exec B.bytes (atoms_spec (ws := ws) B.pre) (findClass_of_methodNamed B.named) hml (fun q h => Or.inr h) hK hP (hD0.self (sz := s.heap.size)) va_S.rf ?_ _ hl
  intro v u pc ls H locs hp hn hP1 hD1 hS1 hdg
  exact W.zret B.exec B.bytes B.returns hn (fun t ht hW => ⟨⟨v, u, rfl, hp, by rw [ht]; exact hP1, hD1⟩, hS1.F ht⟩) hS1.2.2 hdg
theorem Cl.of {S : Type} {l : Launch} {G : kG} {y : MethodName} {ws ws' : List Cond} {rm : Room} {av : List Value} {W0 : va_W} {post : Int64 → S → Prop} {W1 : S → va_W} {cc : ByteArray} {maxL : Nat} (hy : plainName y.cls = true) (hw : ws = Cond.code y cc maxL (some .long) :: ws') (hav : (lg_sl av).length ≤ maxL)
    (body : ∀ (p : Program) (e : Env) (s : State) (m : MethodId) (below : List Frame) (meth : Method) (c : Code) (Q : State → Prop) (A : Nat → Prop), p.tables.exec = Jvm.exec → c.code = cc → (∀ w ∈ ws, w.before av.toArray s = true) → s.vm.findClass y.cls = some m.cls → c.maxLocals = maxL → (∀ q : Nat, s.heap.size ≤ q → A q) → kk G s → va_P G.1 vwCl W0 s.heap → va_D A W0 → va_S A s.heap s.heap [] →
      (∀ (v : Int64) (u : S) (pc : Nat) (ls : Array Slot) (H : Heap) (locs : List Loc), post v u → va_P G.1 vwCl (W1 u) H → va_D A (W1 u) → va_S A s.heap H locs → decode cc pc = .ok (.lreturn, 1) → W p l e rm s m av.toArray below meth c H locs 0 0 Q (F0 m pc ls [.long v])) →
      ∀ ls : Array Slot, lv_has ls maxL (lv_args 0 av) → W p l e rm s m av.toArray below meth c s.heap [] 0 0 Q (F0 m 0 ls [])) : Cl l G y ws rm av W0 post W1 := by
  intro sz
  refine Met.ofW hy hw ?_
  intro p e s m args below meth c s₁ B hml hv
  obtain ⟨rfl, rfl, hP, hK, hD0⟩ := hv
  have hl := lv_entry av (n := maxL) hav
  rw [lg_entry_eq]
  refine body p e s m below meth c _ _ B.exec B.bytes (atoms_spec (ws := ws) B.pre) (findClass_of_methodNamed B.named) hml (fun q h => Or.inr h) hK hP (hD0.self (sz := s.heap.size)) va_S.rf ?_ _ hl
  intro v u pc ls H locs hp hP1 hD1 hS1 hdg
  exact W.lret B.exec B.bytes B.returns (fun t ht hW => ⟨⟨v, u, rfl, hp, by rw [ht]; exact hP1, hD1⟩, hS1.F ht⟩) hS1.2.2 hdg
theorem Cv.of {S : Type} {l : Launch} {G : kG} {y : MethodName} {ws ws' : List Cond} {rm : Room} {av : List Value} {W0 : va_W} {post : S → Prop} {W1 : S → va_W} {mc ms : Nat} {cc : ByteArray} {maxL : Nat} (hy : plainName y.cls = true) (hw : ws = Cond.code y cc maxL none :: ws') (hav : (lg_sl av).length ≤ maxL)
    (body : ∀ (p : Program) (e : Env) (s : State) (m : MethodId) (below : List Frame) (meth : Method) (c : Code) (Q : State → Prop) (A : Nat → Prop), p.tables.exec = Jvm.exec → c.code = cc → (∀ w ∈ ws, w.before av.toArray s = true) → s.vm.findClass y.cls = some m.cls → c.maxLocals = maxL → meth.name = y.name → (∀ q : Nat, s.heap.size ≤ q → A q) → kk G s → va_P G.1 vwCl W0 s.heap → va_D A W0 → va_S A s.heap s.heap [] →
      (∀ (u : S) (pc : Nat) (ls : Array Slot) (H : Heap) (locs : List Loc), post u → va_P G.1 vwCl (W1 u) H → va_D A (W1 u) → va_S A s.heap H locs → decode cc pc = .ok (.return_, 1) → W p l e rm s m av.toArray below meth c H locs mc ms Q (F0 m pc ls [])) →
      ∀ ls : Array Slot, lv_has ls maxL (lv_args 0 av) → W p l e rm s m av.toArray below meth c s.heap [] 0 0 Q (F0 m 0 ls [])) : Cv l G y ws rm av W0 post W1 mc ms := by
  intro sz
  refine Met.ofW hy hw ?_
  intro p e s m args below meth c s₁ B hml hv
  obtain ⟨rfl, rfl, hP, hK, hD0⟩ := hv
  have hl := lv_entry av (n := maxL) hav
  rw [lg_entry_eq]
  refine body p e s m below meth c _ _ B.exec B.bytes (atoms_spec (ws := ws) B.pre) (findClass_of_methodNamed B.named) hml (name_of_methodNamed B.named B.method).1 (fun q h => Or.inr h) hK hP (hD0.self (sz := s.heap.size)) va_S.rf ?_ _ hl
  intro u pc ls H locs hp hP1 hD1 hS1 hdg
  exact W.vret B.exec B.bytes B.returns (fun t ht hW => ⟨⟨u, rfl, hp, by rw [ht]; exact hP1, hD1⟩, hS1.F ht⟩) hS1.2.2 hdg
theorem cPre_blind {G : kG} {sz : Nat} {W0 : va_W} {av : List Value} : FrameBlind (cPre G sz W0 av) := fun a U g mk h => ⟨h.1, h.2.1, h.2.2.1, h.2.2.2.1.same (U := U.calling g mk a) rfl, h.2.2.2.2⟩
theorem sub_PP {G : kG} {A : Nat → Prop} {ws wc : va_W} {H : Heap} (hP : va_P G.1 vwCl ws H) (isC : List Nat) (hC : isC.map (fun i => ws[i]?) = wc.map some) : va_P G.1 vwCl wc H := by
  intro k q hk
  have h1 : (isC.map (fun i => ws[i]?))[k]? = some (some q) := by rw [hC, List.getElem?_map, hk]; rfl
  rw [List.getElem?_map] at h1
  cases hi : isC[k]? with
  | none => rw [hi] at h1; cases h1
  | some i =>
    rw [hi] at h1
    exact hP i q (Option.some.inj h1)
theorem cPre_S {G : kG} {s : State} {H : Heap} {A : Nat → Prop} {ws wc : va_W} {As : List Value} (hK : kk G s) (hP : va_P G.1 vwCl ws H) (hD : va_D A ws) (isC : List Nat) (hn : va_nd isC = true) (hC : isC.map (fun i => ws[i]?) = wc.map some) : PreS s H (cPre G H.size wc As) As :=
  ⟨cPre_blind, fun U hU hW => ⟨rfl, by rw [hU], by rw [hU]; exact sub_PP (A := A) hP isC hC, hK.warm hW, (hD.sub isC hn hC).weaken (fun _ _ _ _ => trivial)⟩⟩
theorem cPre_V {G : kG} {s : State} {H : Heap} {A : Nat → Prop} {ws wc : va_W} {b : Addr} {As : List Value} {C : String} {T : u_T} {N : Nat} {fs : List Value} (hK : kk G s) (hP : va_P G.1 vwCl ws H) (hD : va_D A ws) (isC : List Nat) (hn : va_nd isC = true) (hC : isC.map (fun i => ws[i]?) = wc.map some) (q0 ci : Nat) (hc : vwCl[ci]? = some (C, T, N)) (he : wc[q0]? = some (b, .inr (ci, fs))) : PreV s H C b (cPre G H.size wc (.ref b :: As)) As :=
  ⟨cPre_blind, va_recv (q := (C, T, N)) hK.1 (sub_PP (A := A) hP isC hC) hc he, (cPre_S (As := .ref b :: As) hK hP hD isC hn hC).2⟩
section CA
variable {p : Program} {l : Launch} {e : Env} {R : Room} {s : State} {m : MethodId} {args : Array Value} {below : List Frame} {meth : Method} {c : Code} {H : Heap} {locs : List Loc} {cells slots mc ms : Nat} {Q : State → Prop} {cc : ByteArray} {pc : Nat} {ls : Array Slot} {rest st0 : List Value} {G : kG} {A : Nat → Prop} {H0 : Heap} {ws wc wr : va_W} {a : Array Value}
theorem ca_i {S : Type} {post : Int32 → S → Prop} {W1 : S → va_W} (hr : va_Run p l e R s m args below meth c H locs cells slots mc ms (F0 m pc ls st0) rest (va_Qi post (cB G H.size wc W1) (va_A wc H.size) a) (va_A wc H.size)) (hP : va_P G.1 vwCl ws H) (hD : va_D A ws) (hS : va_S A H0 H locs) (hA : ∀ q, H0.size ≤ q → A q) (isC isR : List Nat) (hC : isC.map (fun i => ws[i]?) = wc.map some) (hR : isR.map (fun i => ws[i]?) = wr.map some) (hn : va_nd isR = true) (hdis : ∀ i ∈ isR, i ∉ isC) (isB : List Nat) (wb : S → va_W) (hnB : va_nd isB = true) (hB : ∀ u, isB.map (fun i => (wr ++ W1 u)[i]?) = (wb u).map some)
    (k : ∀ (r : Int32) (u : S) (H1 : Heap) (locs1 : List Loc), post r u → va_P G.1 vwCl (wb u) H1 → va_D A (wb u) → va_S A H0 H1 locs1 → W p l e R s m args below meth c H1 locs1 (cells + mc) (slots + ms) Q (F0 m (pc + 3) ls (.int r :: rest))) : W p l e R s m args below meth c H locs cells slots Q (F0 m pc ls st0) := by
  have hF := va_free (wc := wc) hD hS hA isC hC
  refine va_calli hr hS (fun q _ h => hF q h) hF (fun r u t H1 locs1 ht hvm hw hB1 hz1 hk1 hS1 => ?_)
  obtain ⟨hP1, hD1⟩ := hB1
  rw [ht] at hP1
  obtain ⟨hP2, hD2⟩ := va_join hP hD isC isR hC hR hn hdis hk1 hF hP1 hD1
  exact k r u H1 locs1 hw (sub_PP (A := A) hP2 isB (hB u)) (hD2.sub isB hnB (hB u)) hS1
theorem ca_l {S : Type} {post : Int64 → S → Prop} {W1 : S → va_W} (hr : va_Run p l e R s m args below meth c H locs cells slots mc ms (F0 m pc ls st0) rest (va_Ql post (cB G H.size wc W1) (va_A wc H.size) a) (va_A wc H.size)) (hP : va_P G.1 vwCl ws H) (hD : va_D A ws) (hS : va_S A H0 H locs) (hA : ∀ q, H0.size ≤ q → A q) (isC isR : List Nat) (hC : isC.map (fun i => ws[i]?) = wc.map some) (hR : isR.map (fun i => ws[i]?) = wr.map some) (hn : va_nd isR = true) (hdis : ∀ i ∈ isR, i ∉ isC) (isB : List Nat) (wb : S → va_W) (hnB : va_nd isB = true) (hB : ∀ u, isB.map (fun i => (wr ++ W1 u)[i]?) = (wb u).map some)
    (k : ∀ (r : Int64) (u : S) (H1 : Heap) (locs1 : List Loc), post r u → va_P G.1 vwCl (wb u) H1 → va_D A (wb u) → va_S A H0 H1 locs1 → W p l e R s m args below meth c H1 locs1 (cells + mc) (slots + ms) Q (F0 m (pc + 3) ls (.long r :: rest))) : W p l e R s m args below meth c H locs cells slots Q (F0 m pc ls st0) := by
  have hF := va_free (wc := wc) hD hS hA isC hC
  refine va_calll hr hS (fun q _ h => hF q h) hF (fun r u t H1 locs1 ht hvm hw hB1 hz1 hk1 hS1 => ?_)
  obtain ⟨hP1, hD1⟩ := hB1
  rw [ht] at hP1
  obtain ⟨hP2, hD2⟩ := va_join hP hD isC isR hC hR hn hdis hk1 hF hP1 hD1
  exact k r u H1 locs1 hw (sub_PP (A := A) hP2 isB (hB u)) (hD2.sub isB hnB (hB u)) hS1
theorem ca_v {S : Type} {post : S → Prop} {W1 : S → va_W} (hr : va_Run p l e R s m args below meth c H locs cells slots mc ms (F0 m pc ls st0) rest (va_Qv post (cB G H.size wc W1) (va_A wc H.size) a) (va_A wc H.size)) (hP : va_P G.1 vwCl ws H) (hD : va_D A ws) (hS : va_S A H0 H locs) (hA : ∀ q, H0.size ≤ q → A q) (isC isR : List Nat) (hC : isC.map (fun i => ws[i]?) = wc.map some) (hR : isR.map (fun i => ws[i]?) = wr.map some) (hn : va_nd isR = true) (hdis : ∀ i ∈ isR, i ∉ isC) (isB : List Nat) (wb : S → va_W) (hnB : va_nd isB = true) (hB : ∀ u, isB.map (fun i => (wr ++ W1 u)[i]?) = (wb u).map some)
    (k : ∀ (u : S) (H1 : Heap) (locs1 : List Loc), post u → va_P G.1 vwCl (wb u) H1 → va_D A (wb u) → va_S A H0 H1 locs1 → W p l e R s m args below meth c H1 locs1 (cells + mc) (slots + ms) Q (F0 m (pc + 3) ls rest)) : W p l e R s m args below meth c H locs cells slots Q (F0 m pc ls st0) := by
  have hF := va_free (wc := wc) hD hS hA isC hC
  refine va_callv hr hS (fun q _ h => hF q h) hF (fun u t H1 locs1 ht hvm hw hB1 hz1 hk1 hS1 => ?_)
  obtain ⟨hP1, hD1⟩ := hB1
  rw [ht] at hP1
  obtain ⟨hP2, hD2⟩ := va_join hP hD isC isR hC hR hn hdis hk1 hF hP1 hD1
  exact k u H1 locs1 hw (sub_PP (A := A) hP2 isB (hB u)) (hD2.sub isB hnB (hB u)) hS1
end CA
/-! booleans as ints -/
def b2i (b : Bool) : Int32 := if b then 1 else 0
theorem b2i_0 {b : Bool} : b2i b = 0 ↔ b = false := by cases b <;> decide
theorem b2i_n0 {b : Bool} : ¬ b2i b = 0 ↔ b = true := by cases b <;> decide
theorem b2i_t : b2i true = 1 := rfl
theorem b2i_f : b2i false = 0 := rfl
theorem b2i_nar (b : Bool) : narrow .boolean (.int (b2i b)) = .int (b2i b) := by cases b <;> rfl
theorem b2i_and (b : Bool) : b2i b &&& 1 = b2i b := by cases b <;> decide
