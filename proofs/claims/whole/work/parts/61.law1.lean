/-! THE CLAIM OUT OF ONE WALK OF THE LAW'S BODY. Your part is whole_start (and what it stands on); all else here is the same for every law, but numbers. -/
def R_law : String := "HorizonPeaksLaw"
def lw_P (b : Addr) (xs : List Int32) (args : Array Value) (s : State) : Prop := args = #[.ref b] ∧ s.IntsAt b xs ∧ xs.length ≤ 3072 ∧ (Jvm.Cond.and given_1 narrow_1).before args s = true
def lw_Q (_ : Array Value) (s : State) (o : Outcome) (t : State) : Prop := o = .returned (some (.int 1)) ∧ Framed s o t [] 600000 7302250
def lw_Z (below : List Frame) (a : Array Value) (s : State) : State → Prop := fun t => ∃ o, t.status = .running ∧ Ended t below o ∧ lw_Q a s o t
/-- the law's own end, with 1 on the stack, nothing written that was there before, its room as the claim has it -/
theorem lw_ret {p : Program} {l : Launch} {e : Env} {s : State} {m : MethodId} {below : List Frame} {meth : Method} {c : Code} {b : Nat} (hx : p.tables.exec = Jvm.exec) (hb : c.code = code) (hr : meth.sig.returnType = ret) (hlocks : meth.locks = false) {pc : Nat} {H : Heap} {ls : Array Slot} (hdg : decode code pc = .ok (.ireturn, 1)) : W p l e room_1 s m #[Value.ref b] below meth c H [] 600000 7302250 (lw_Z below #[Value.ref b] s) (F0 m pc ls [.int 1]) := by
  intro T hT X
  obtain ⟨fs, hret, hrun, hended, hW, hframe⟩ := X.leave (v := some (.int 1)) (hlocks := hlocks) (fun h => by rw [hr] at h; cases h)
  have hmeth' : T.vm.method? m = some meth := X.method'
  refine ⟨T.setFrames fs, ?_, .returned (some (.int 1)), hrun, hended, rfl, ⟨_, rfl⟩, hW, hframe⟩
  jvm_step X.here [X.here.top, hx, hb, hdg, hmeth', hr, ret, narrow_b1]
  (try refine ⟨rfl, ?_⟩); (try refine ⟨rfl, ?_⟩)
  first | (intro acts; rw [hret _ acts rfl rfl rfl]) | rw [hret _ _ rfl rfl rfl]
  exact Steps.refl _
/-- what holds at the law's entry: the machine, the code, the tables' words (any of lw_tbl by 'hts w (by decide +kernel)'), the script of L ints xs at the cell b, what the Statement gives of the start (any of its parts by flat_of_before) -/
def lw_At (p : Program) (s : State) (m : MethodId) (meth : Method) (c : Code) (b L : Nat) (xs : Nat → Int32) : Prop :=
  p.tables.exec = Jvm.exec ∧ c.code = code ∧ meth.sig.returnType = ret ∧ c.maxLocals = 4 ∧ s.vm.findClass R_law = some m.cls ∧ (∀ w ∈ lw_tbl, w.before #[Value.ref b] s = true) ∧ va_X b L xs s s.heap ∧ b < s.heap.size ∧ meth.locks = false ∧ (Jvm.Cond.and given_1 narrow_1).before #[Value.ref b] s = true
theorem nd_R (G : kG) (h : Nat) (a : Nat → Nat) (X : XS) (h' : Nat) (q : Nat → Nat) (M : MS) : va_nd ((List.range (MW G h' q M).length).map (fun i => (XW G h a X).length + i)) = true := by rw [XW_len, MW_len]; decide
theorem nd_L (G : kG) (h : Nat) (a : Nat → Nat) (X : XS) : va_nd (List.range (XW G h a X).length) = true := by rw [XW_len]; decide
theorem ca_Rv {p : Program} {l : Launch} {e : Env} {R : Room} {s : State} {m : MethodId} {args : Array Value} {below : List Frame} {meth : Method} {c : Code} {H : Heap} {locs : List Loc} {cells slots mc ms : Nat} {Q : State → Prop} {pc : Nat} {ls : Array Slot} {rest st0 : List Value} {G : kG} {A : Nat → Prop} {H0 : Heap} {wx wm : va_W} {a : Array Value} {S : Type} {post : S → Prop} {W1 : S → va_W} (hr : va_Run p l e R s m args below meth c H locs cells slots mc ms (F0 m pc ls st0) rest (va_Qv post (cB G H.size wm W1) (va_A wm H.size) a) (va_A wm H.size)) (hP : va_P G.1 vwCl (wx ++ wm) H) (hD : va_D A (wx ++ wm)) (hS : va_S A H0 H locs) (hA : ∀ q, H0.size ≤ q → A q) (hnR : va_nd (List.range wx.length) = true)
    (k : ∀ (u : S) (H1 : Heap) (locs1 : List Loc), post u → va_P G.1 vwCl (wx ++ W1 u) H1 → va_D A (wx ++ W1 u) → va_S A H0 H1 locs1 → W p l e R s m args below meth c H1 locs1 (cells + mc) (slots + ms) Q (F0 m (pc + 3) ls rest)) : W p l e R s m args below meth c H locs cells slots Q (F0 m pc ls st0) := by
  have hF := va_free (wc := wm) hD hS hA ((List.range wm.length).map (fun i => wx.length + i)) rng_r
  refine va_callv hr hS (fun q _ h => hF q h) hF (fun u t H1 locs1 ht hvm hw hB1 hz1 hk1 hS1 => ?_)
  obtain ⟨hP1, hD1⟩ := hB1
  rw [ht] at hP1
  obtain ⟨hP2, hD2⟩ := va_join hP hD ((List.range wm.length).map (fun i => wx.length + i)) (List.range wx.length) rng_r rng_l hnR (fun i h1 h2 => by
    obtain ⟨j, _, rfl⟩ := List.mem_map.mp h2
    have := List.mem_range.mp h1
    omega) hk1 hF hP1 hD1
  exact k u H1 locs1 hw hP2 hD2 hS1
theorem wh_one {Pp : Nat → Bool} {x y r r' : Int32} (h1 : (whOk x y = true → ∃ w0, RK Pp 4096 x.toNatClampNeg w0 ∧ r = (if w0 = -9 then -9 else pPart w0 y)) ∧ (whOk x y = false → r = -1)) (h2 : (whOk x y = true → ∃ w0, RK Pp 4096 x.toNatClampNeg w0 ∧ r' = (if w0 = -9 then -9 else pPart w0 y)) ∧ (whOk x y = false → r' = -1)) : r = r' := by
  cases e : whOk x y with
  | false => exact (h1.2 e).trans (h2.2 e).symm
  | true =>
    obtain ⟨w, a1, a2⟩ := h1.1 e
    obtain ⟨w', b1, b2⟩ := h2.1 e
    rw [a2, b2, RK_one a1 b1]
theorem bs_one {s : Nat → Int} {x r r' : Int32} (h1 : (bsOk x = true → bsQ s 4096 x r) ∧ (bsOk x = false → r = -1)) (h2 : (bsOk x = true → bsQ s 4096 x r') ∧ (bsOk x = false → r' = -1)) : r = r' := by
  cases e : bsOk x with
  | false => exact (h1.2 e).trans (h2.2 e).symm
  | true => exact bsQ_one (h1.1 e) (h2.1 e)
theorem sw28 (x : Int32) : x = 0 ∨ x = 1 ∨ x = 2 ∨ x = 3 ∨ x = 4 ∨ x = 5 ∨ x = 6 ∨ x = 7 ∨ x = 8 ∨ x = 9 ∨ x = 10 ∨ x = 11 ∨ x = 12 ∨ x = 13 ∨ x = 14 ∨ x = 15 ∨ x = 16 ∨ x = 17 ∨ x = 18 ∨ x = 19 ∨ x = 20 ∨ x = 21 ∨ x = 22 ∨ x = 23 ∨ x = 24 ∨ x = 25 ∨ x = 26 ∨ x = 27 ∨ (x.toInt < 0 ∨ 27 < x.toInt) := by
  rcases Int.lt_or_le x.toInt 0 with h | h
  · exact .inr (.inr (.inr (.inr (.inr (.inr (.inr (.inr (.inr (.inr (.inr (.inr (.inr (.inr (.inr (.inr (.inr (.inr (.inr (.inr (.inr (.inr (.inr (.inr (.inr (.inr (.inr (.inr (.inl h))))))))))))))))))))))))))))
  · rcases Int.lt_or_le 27 x.toInt with g | g
    · exact .inr (.inr (.inr (.inr (.inr (.inr (.inr (.inr (.inr (.inr (.inr (.inr (.inr (.inr (.inr (.inr (.inr (.inr (.inr (.inr (.inr (.inr (.inr (.inr (.inr (.inr (.inr (.inr (.inr g))))))))))))))))))))))))))))
    · have e : x.toInt = 0 ∨ x.toInt = 1 ∨ x.toInt = 2 ∨ x.toInt = 3 ∨ x.toInt = 4 ∨ x.toInt = 5 ∨ x.toInt = 6 ∨ x.toInt = 7 ∨ x.toInt = 8 ∨ x.toInt = 9 ∨ x.toInt = 10 ∨ x.toInt = 11 ∨ x.toInt = 12 ∨ x.toInt = 13 ∨ x.toInt = 14 ∨ x.toInt = 15 ∨ x.toInt = 16 ∨ x.toInt = 17 ∨ x.toInt = 18 ∨ x.toInt = 19 ∨ x.toInt = 20 ∨ x.toInt = 21 ∨ x.toInt = 22 ∨ x.toInt = 23 ∨ x.toInt = 24 ∨ x.toInt = 25 ∨ x.toInt = 26 ∨ x.toInt = 27 := by omega
      rcases e with e | e | e | e | e | e | e | e | e | e | e | e | e | e | e | e | e | e | e | e | e | e | e | e | e | e | e | e
      · exact .inl (sw_int (k := 0) (by decide) e)
      · exact .inr (.inl (sw_int (k := 1) (by decide) e))
      · exact .inr (.inr (.inl (sw_int (k := 2) (by decide) e)))
      · exact .inr (.inr (.inr (.inl (sw_int (k := 3) (by decide) e))))
      · exact .inr (.inr (.inr (.inr (.inl (sw_int (k := 4) (by decide) e)))))
      · exact .inr (.inr (.inr (.inr (.inr (.inl (sw_int (k := 5) (by decide) e))))))
      · exact .inr (.inr (.inr (.inr (.inr (.inr (.inl (sw_int (k := 6) (by decide) e)))))))
      · exact .inr (.inr (.inr (.inr (.inr (.inr (.inr (.inl (sw_int (k := 7) (by decide) e))))))))
      · exact .inr (.inr (.inr (.inr (.inr (.inr (.inr (.inr (.inl (sw_int (k := 8) (by decide) e)))))))))
      · exact .inr (.inr (.inr (.inr (.inr (.inr (.inr (.inr (.inr (.inl (sw_int (k := 9) (by decide) e))))))))))
      · exact .inr (.inr (.inr (.inr (.inr (.inr (.inr (.inr (.inr (.inr (.inl (sw_int (k := 10) (by decide) e)))))))))))
      · exact .inr (.inr (.inr (.inr (.inr (.inr (.inr (.inr (.inr (.inr (.inr (.inl (sw_int (k := 11) (by decide) e))))))))))))
      · exact .inr (.inr (.inr (.inr (.inr (.inr (.inr (.inr (.inr (.inr (.inr (.inr (.inl (sw_int (k := 12) (by decide) e)))))))))))))
      · exact .inr (.inr (.inr (.inr (.inr (.inr (.inr (.inr (.inr (.inr (.inr (.inr (.inr (.inl (sw_int (k := 13) (by decide) e))))))))))))))
      · exact .inr (.inr (.inr (.inr (.inr (.inr (.inr (.inr (.inr (.inr (.inr (.inr (.inr (.inr (.inl (sw_int (k := 14) (by decide) e)))))))))))))))
      · exact .inr (.inr (.inr (.inr (.inr (.inr (.inr (.inr (.inr (.inr (.inr (.inr (.inr (.inr (.inr (.inl (sw_int (k := 15) (by decide) e))))))))))))))))
      · exact .inr (.inr (.inr (.inr (.inr (.inr (.inr (.inr (.inr (.inr (.inr (.inr (.inr (.inr (.inr (.inr (.inl (sw_int (k := 16) (by decide) e)))))))))))))))))
      · exact .inr (.inr (.inr (.inr (.inr (.inr (.inr (.inr (.inr (.inr (.inr (.inr (.inr (.inr (.inr (.inr (.inr (.inl (sw_int (k := 17) (by decide) e))))))))))))))))))
      · exact .inr (.inr (.inr (.inr (.inr (.inr (.inr (.inr (.inr (.inr (.inr (.inr (.inr (.inr (.inr (.inr (.inr (.inr (.inl (sw_int (k := 18) (by decide) e)))))))))))))))))))
      · exact .inr (.inr (.inr (.inr (.inr (.inr (.inr (.inr (.inr (.inr (.inr (.inr (.inr (.inr (.inr (.inr (.inr (.inr (.inr (.inl (sw_int (k := 19) (by decide) e))))))))))))))))))))
      · exact .inr (.inr (.inr (.inr (.inr (.inr (.inr (.inr (.inr (.inr (.inr (.inr (.inr (.inr (.inr (.inr (.inr (.inr (.inr (.inr (.inl (sw_int (k := 20) (by decide) e)))))))))))))))))))))
      · exact .inr (.inr (.inr (.inr (.inr (.inr (.inr (.inr (.inr (.inr (.inr (.inr (.inr (.inr (.inr (.inr (.inr (.inr (.inr (.inr (.inr (.inl (sw_int (k := 21) (by decide) e))))))))))))))))))))))
      · exact .inr (.inr (.inr (.inr (.inr (.inr (.inr (.inr (.inr (.inr (.inr (.inr (.inr (.inr (.inr (.inr (.inr (.inr (.inr (.inr (.inr (.inr (.inl (sw_int (k := 22) (by decide) e)))))))))))))))))))))))
      · exact .inr (.inr (.inr (.inr (.inr (.inr (.inr (.inr (.inr (.inr (.inr (.inr (.inr (.inr (.inr (.inr (.inr (.inr (.inr (.inr (.inr (.inr (.inr (.inl (sw_int (k := 23) (by decide) e))))))))))))))))))))))))
      · exact .inr (.inr (.inr (.inr (.inr (.inr (.inr (.inr (.inr (.inr (.inr (.inr (.inr (.inr (.inr (.inr (.inr (.inr (.inr (.inr (.inr (.inr (.inr (.inr (.inl (sw_int (k := 24) (by decide) e)))))))))))))))))))))))))
      · exact .inr (.inr (.inr (.inr (.inr (.inr (.inr (.inr (.inr (.inr (.inr (.inr (.inr (.inr (.inr (.inr (.inr (.inr (.inr (.inr (.inr (.inr (.inr (.inr (.inr (.inl (sw_int (k := 25) (by decide) e))))))))))))))))))))))))))
      · exact .inr (.inr (.inr (.inr (.inr (.inr (.inr (.inr (.inr (.inr (.inr (.inr (.inr (.inr (.inr (.inr (.inr (.inr (.inr (.inr (.inr (.inr (.inr (.inr (.inr (.inr (.inl (sw_int (k := 26) (by decide) e)))))))))))))))))))))))))))
      · exact .inr (.inr (.inr (.inr (.inr (.inr (.inr (.inr (.inr (.inr (.inr (.inr (.inr (.inr (.inr (.inr (.inr (.inr (.inr (.inr (.inr (.inr (.inr (.inr (.inr (.inr (.inr (.inl (sw_int (k := 27) (by decide) e))))))))))))))))))))))))))))
def LG (p : Program) (l : Launch) (e : Env) (s : State) (m : MethodId) (below : List Frame) (meth : Method) (c : Code) (b : Nat) (G : kG) (hA : Nat) (a : Nat → Nat) (hM : Nat) (q : Nat → Nat) (i : Nat) (Q : State → Prop) (pc : Nat) : Prop :=
  ∀ (A : AS) (X : XS) (M : MS) (H : Heap) (locs : List Loc) (ls : Array Slot), XI A X → MI A M → va_P G.1 vwCl (XW G hA a X ++ MW G hM q M) H → va_D (fun q : Nat => s.heap.size ≤ q) (XW G hA a X ++ MW G hM q M) → va_S (fun q : Nat => s.heap.size ≤ q) s.heap H locs → lv_has ls 4 [(0, .ref b), (1, .ref hA), (2, .ref hM), (3, .int (nI i))] → W p l e room_1 s m #[Value.ref b] below meth c H locs 103 7015 Q (F0 m pc ls [])
