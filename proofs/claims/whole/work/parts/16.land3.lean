def preP (σ : PS) (k : Nat) : PS := (k, zx σ, zy σ, zz σ, 0, za σ, zb σ, 1)
def preR (σ : PS) (k : Nat) : PS := (zn σ, zx σ, zy σ, zz σ, k, za σ, zb σ, 1)
theorem updN_self (f : Nat → Nat) (k : Nat) : updN f k (f k) = f := funext fun j => by
  by_cases e : j = k
  · rw [e, updN_s]
  · rw [updN_n e]
theorem addP_pre (σ : PS) (k : Nat) : addP (preP σ k) (zx σ k) (zy σ k) (zz σ k) = preP σ (k + 1) := by
  show (k + 1, updN (zx σ) k (zx σ k), updN (zy σ) k (zy σ k), updN (zz σ) k (zz σ k), 0, za σ, zb σ, 1) = _
  rw [updN_self, updN_self, updN_self]
  rfl
theorem addR_pre (σ : PS) (k : Nat) : addR (preR σ k) (za σ k) (zb σ k) = preR σ (k + 1) := by
  show (zn σ, zx σ, zy σ, zz σ, k + 1, updN (za σ) k (za σ k), updN (zb σ) k (zb σ k), 1) = _
  rw [updN_self, updN_self]
  rfl
theorem free_at {σ : PS} {k : Nat} (h : okPS σ) (hk : k < zn σ) : pAtN (zx σ) (zy σ) k (zx σ k * 8 + zy σ k) = false := anyB_no.mpr (fun j hj => by simpa using h.2.2.2.2.2 j k hj hk)
theorem arL_full {σ : PS} {xs ys hs fs ss pk : Nat → Int32} (h : arL (preR σ (zm σ)) xs ys hs fs ss pk) : arL σ xs ys hs fs ss pk := h
/-- a strict order in which of two unlike ones one is ahead -/
def SO (g : Nat → Nat → Bool) (n : Nat) : Prop := (∀ p q, p < n → q < n → p ≠ q → g p q = !g q p) ∧ (∀ p q r, p < n → q < n → r < n → g p q = true → g q r = true → g p r = true)
/-- o lists those below n that f has, as g goes -/
def Pan (f : Nat → Bool) (g : Nat → Nat → Bool) (n many : Nat) (o : Nat → Nat) : Prop := (∀ a, a < many → o a < n ∧ f (o a) = true) ∧ (∀ p, p < n → f p = true → ∃ a, a < many ∧ o a = p) ∧ (∀ a b, a < b → b < many → g (o a) (o b) = true)
theorem Pan.skip {f : Nat → Bool} {g : Nat → Nat → Bool} {n many : Nat} {o : Nat → Nat} (h : Pan f g n many o) (hf : f n = false) : Pan f g (n + 1) many o :=
  ⟨fun a ha => ⟨Nat.lt_succ_of_lt (h.1 a ha).1, (h.1 a ha).2⟩, fun p hp hfp => h.2.1 p (by
    rcases Nat.lt_succ_iff_lt_or_eq.mp hp with q | q
    · exact q
    · rw [q, hf] at hfp; cases hfp) hfp, h.2.2⟩
def insN (o : Nat → Nat) (at_ p : Nat) : Nat → Nat := fun j => if j < at_ then o j else if j = at_ then p else o (j - 1)
theorem Pan.ins {f : Nat → Bool} {g : Nat → Nat → Bool} {N n many k : Nat} {o : Nat → Nat} (hs : SO g N) (hn : n < N) (h : Pan f g n many o) (hf : f n = true) (hk : k ≤ many) (h1 : ∀ j, k ≤ j → j < many → g n (o j) = true) (h2 : k = 0 ∨ g n (o (k - 1)) = false) : Pan f g (n + 1) (many + 1) (insN o k n) := by
  obtain ⟨a1, a2, a3⟩ := h
  have lo : ∀ j, j < k → g (o j) n = true := by
    intro j hj
    have hjm : j < many := by omega
    have b1 := (a1 j hjm).1
    have b2 : g n (o (k - 1)) = false := h2.resolve_left (by omega)
    have b3 := (a1 (k - 1) (by omega)).1
    have b4 : g (o (k - 1)) n = true := by
      have := hs.1 n (o (k - 1)) hn (by omega) (by omega)
      rw [b2] at this
      revert this
      cases g (o (k - 1)) n <;> decide
    by_cases e : j = k - 1
    · rw [e]; exact b4
    · exact hs.2 _ _ _ (by omega) (by omega) hn (a3 j (k - 1) (by omega) (by omega)) b4
  refine ⟨?_, ?_, ?_⟩
  · intro a ha
    unfold insN
    by_cases c1 : a < k
    · rw [if_pos c1]; exact ⟨Nat.lt_succ_of_lt (a1 a (by omega)).1, (a1 a (by omega)).2⟩
    · rw [if_neg c1]
      by_cases c2 : a = k
      · rw [if_pos c2]; exact ⟨Nat.lt_succ_self n, hf⟩
      · rw [if_neg c2]; exact ⟨Nat.lt_succ_of_lt (a1 (a - 1) (by omega)).1, (a1 (a - 1) (by omega)).2⟩
  · intro p hp hfp
    rcases Nat.lt_succ_iff_lt_or_eq.mp hp with q | q
    · obtain ⟨a, ha, e⟩ := a2 p q hfp
      by_cases c1 : a < k
      · exact ⟨a, by omega, by unfold insN; rw [if_pos c1]; exact e⟩
      · exact ⟨a + 1, by omega, by unfold insN; rw [if_neg (by omega), if_neg (by omega)]; exact e⟩
    · exact ⟨k, by omega, by unfold insN; rw [if_neg (by omega), if_pos rfl]; exact q.symm⟩
  · intro a b hab hb
    unfold insN
    by_cases c1 : b < k
    · rw [if_pos c1, if_pos (by omega)]; exact a3 a b hab (by omega)
    · rw [if_neg c1]
      by_cases c2 : b = k
      · rw [if_pos c2, if_pos (by omega)]; exact lo a (by omega)
      · rw [if_neg c2]
        by_cases c3 : a < k
        · rw [if_pos c3]; exact a3 a (b - 1) (by omega) (by omega)
        · rw [if_neg c3]
          by_cases c4 : a = k
          · rw [if_pos c4]; exact h1 (b - 1) (by omega) (by omega)
          · rw [if_neg c4]; exact a3 (a - 1) (b - 1) (by omega) (by omega)
def fvis (vis : Nat → Int32) (pt p : Nat) : Bool := !decide (vis pt >>> (nI p &&& 31) &&& 1 = 0)
theorem tr_ins {g : Nat → Int32} {o : Nat → Nat} {many a k : Nat} (h1 : ∀ j, j < a → g j = nI (o j)) (h2 : ∀ j, a ≤ j → j < many → g (j + 1) = nI (o j)) (ha : a ≤ many) : ∀ j, j < many + 1 → upd g a (nI k) j = nI (insN o a k j) := by
  intro j hj
  unfold insN
  by_cases c1 : j < a
  · rw [if_pos c1, pk_un (by omega)]; exact h1 j c1
  · rw [if_neg c1]
    by_cases c2 : j = a
    · rw [if_pos c2, c2, pk_us]
    · rw [if_neg c2, pk_un c2]
      have := h2 (j - 1) (by omega) (by omega)
      rw [show j - 1 + 1 = j by omega] at this
      exact this
theorem pk_m1s {a : Nat} (h : 0 < a) : nI a + Int32.ofInt (-1) = nI (a - 1) := sb_m1 h
abbrev rX1_become : Room := { frames := 3, cells := 0, slots := 0, locals := 66 }
set_option maxHeartbeats 4000000 in
set_option maxRecDepth 100000 in
theorem c_X1_become (l : Launch) (G : kG) (h : Nat) (v : Nat → Int32) (q : Nat → Nat) (xs : Nat → Int32) (ys : Nat → Int32) (hs : Nat → Int32) (fs : Nat → Int32) (ss : Nat → Int32) (pk : Nat → Int32) (h2 : Nat) (v2 : Nat → Int32) (q2 : Nat → Nat) (oxs : Nat → Int32) (oys : Nat → Int32) (ohs : Nat → Int32) (ofs : Nat → Int32) (oss : Nat → Int32) (opk : Nat → Int32) (σ : PS) (hok : okPS σ) (hob : obL σ v2) (har : arL σ oxs oys ohs ofs oss opk) : Cv l G yX1_become wsX1_become rX1_become [.ref h, .ref h2] [oB h 1 (oF1 v q), aI G (q 0) 10 xs, aI G (q 1) 10 ys, aI G (q 2) 10 hs, aI G (q 4) 8 fs, aI G (q 5) 8 ss, aZ G (q 8) 64 pk, oB h2 1 (oF1 v2 q2), aI G (q2 0) 10 oxs, aI G (q2 1) 10 oys, aI G (q2 2) 10 ohs, aI G (q2 4) 8 ofs, aI G (q2 5) 8 oss] (fun (u : (Nat → Int32) × (Nat → Int32) × (Nat → Int32) × (Nat → Int32) × (Nat → Int32) × (Nat → Int32) × (Nat → Int32)) => obL σ u.1 ∧ arL σ u.2.1 u.2.2.1 u.2.2.2.1 u.2.2.2.2.1 u.2.2.2.2.2.1 u.2.2.2.2.2.2) (fun u => [oB h 1 (oF1 u.1 q), aI G (q 0) 10 u.2.1, aI G (q 1) 10 u.2.2.1, aI G (q 2) 10 u.2.2.2.1, aI G (q 4) 8 u.2.2.2.2.1, aI G (q 5) 8 u.2.2.2.2.2.1, aZ G (q 8) 64 u.2.2.2.2.2.2, oB h2 1 (oF1 v2 q2), aI G (q2 0) 10 oxs, aI G (q2 1) 10 oys, aI G (q2 2) 10 ohs, aI G (q2 4) 8 ofs, aI G (q2 5) 8 oss]) 0 0 := by
  refine Cv.of (cc := cX1_become) (maxL := 3) (by decide) rfl (Nat.le_of_ble_eq_true rfl) ?_
  intro pM eM sM mM bM tM cM Q A hx hb hts hown hml hnm hA hK hP hD hS hret ls hl
  have hown : sM.vm.findClass RX1 = some mM.cls := hown
  have hl : lv_has ls 3 [(0, .ref h), (1, .ref h2)] := hl
  have hin1 : ∀ w ∈ u_ws RX1 TX1 11, w ∈ wsX1_become := by decide +kernel
  have f41 := hts (.fieldLink RX1 41 "HorizonPeaks$Land" "peaks" "I") (by decide +kernel)
  have f9 := hts (.fieldLink RX1 9 "HorizonPeaks$Land" "xs" "[I") (by decide +kernel)
  have f15 := hts (.fieldLink RX1 15 "HorizonPeaks$Land" "ys" "[I") (by decide +kernel)
  have f18 := hts (.fieldLink RX1 18 "HorizonPeaks$Land" "highs" "[I") (by decide +kernel)
  have f44 := hts (.fieldLink RX1 44 "HorizonPeaks$Land" "ridges" "I") (by decide +kernel)
  have f21 := hts (.fieldLink RX1 21 "HorizonPeaks$Land" "firsts" "[I") (by decide +kernel)
  have f24 := hts (.fieldLink RX1 24 "HorizonPeaks$Land" "seconds" "[I") (by decide +kernel)
  have f27 := hts (.fieldLink RX1 27 "HorizonPeaks$Land" "slack" "I") (by decide +kernel)
  have hn10 := hok.1
  have hm8 := hok.2.1
  refine lv_aload_n hx hb dX1_become_0 rfl (lv_at hl 0 rfl) ?_
  refine ca_v (wr := [aI G (q 0) 10 xs, aI G (q 1) 10 ys, aI G (q 2) 10 hs, aI G (q 4) 8 fs, aI G (q 5) 8 ss, oB h2 1 (oF1 v2 q2), aI G (q2 0) 10 oxs, aI G (q2 1) 10 oys, aI G (q2 2) 10 ohs, aI G (q2 4) 8 ofs, aI G (q2 5) 8 oss]) (va_runV (As := []) (rest := []) ⟨hx, hb, hml, hown, hts⟩ ((c_X1_empty l G h v q pk) _) (cwV 0 hts gX1_become_X1_empty rfl rfl rfl (by decide +kernel) ⟨Nat.le_of_ble_eq_true rfl, Nat.le_of_ble_eq_true rfl⟩) (cPre_V hK hP hD [0, 6] (by decide) rfl 0 1 rfl rfl) rfl rfl hl.1 rfl (lv_room (Nat.le_of_ble_eq_true rfl)) dX1_become_1 ⟨Nat.zero_le _, Nat.zero_le _⟩) hP hD hS hA [0, 6] [1, 2, 3, 4, 5, 7, 8, 9, 10, 11, 12] rfl rfl (by decide) (by decide) [11, 0, 1, 2, 3, 4, 12, 5, 6, 7, 8, 9, 10] (fun u_1 => [oB h 1 (oF1 (upd (upd (upd v 3 0) 6 0) 7 1) q), aI G (q 0) 10 xs, aI G (q 1) 10 ys, aI G (q 2) 10 hs, aI G (q 4) 8 fs, aI G (q 5) 8 ss, aZ G (q 8) 64 u_1, oB h2 1 (oF1 v2 q2), aI G (q2 0) 10 oxs, aI G (q2 1) 10 oys, aI G (q2 2) 10 ohs, aI G (q2 4) 8 ofs, aI G (q2 5) 8 oss]) (by decide) (fun _ => rfl) (fun u_1 H locs q_1 hP hD hS => ?_)
  have q_1 : ∀ i, i < 64 → u_1 i = 0 := q_1
  have hP : va_P G.1 vwCl [oB h 1 (oF1 (upd (upd (upd v 3 0) 6 0) 7 1) q), aI G (q 0) 10 xs, aI G (q 1) 10 ys, aI G (q 2) 10 hs, aI G (q 4) 8 fs, aI G (q 5) 8 ss, aZ G (q 8) 64 u_1, oB h2 1 (oF1 v2 q2), aI G (q2 0) 10 oxs, aI G (q2 1) 10 oys, aI G (q2 2) 10 ohs, aI G (q2 4) 8 ofs, aI G (q2 5) 8 oss] H := hP
  have hD : va_D A [oB h 1 (oF1 (upd (upd (upd v 3 0) 6 0) 7 1) q), aI G (q 0) 10 xs, aI G (q 1) 10 ys, aI G (q 2) 10 hs, aI G (q 4) 8 fs, aI G (q 5) 8 ss, aZ G (q 8) 64 u_1, oB h2 1 (oF1 v2 q2), aI G (q2 0) 10 oxs, aI G (q2 1) 10 oys, aI G (q2 2) 10 ohs, aI G (q2 4) 8 ofs, aI G (q2 5) 8 oss] := hD
  refine lv_iconst (v := 0) hx hb dX1_become_4 (by decide) ?_
  refine lv_istore_n (lv' := [(2, .int 0), (0, .ref h), (1, .ref h2)]) hx hb dX1_become_5 rfl hl (by decide) rfl (fun ls hl => ?_)
  have loop_6 : ∀ (nF : Nat) (w : Nat → Int32) (xs1 : Nat → Int32) (ys1 : Nat → Int32) (hs1 : Nat → Int32) (pk1 : Nat → Int32) (k : Nat), (zn σ - k) < nF → (k ≤ zn σ) → (w 3 = nI k ∧ w 6 = 0 ∧ w 7 = 1) → (arL (preP σ k) xs1 ys1 hs1 fs ss pk1) → ∀ (H : Heap) (locs : List Loc), va_P G.1 vwCl [oB h 1 (oF1 w q), aI G (q 0) 10 xs1, aI G (q 1) 10 ys1, aI G (q 2) 10 hs1, aI G (q 4) 8 fs, aI G (q 5) 8 ss, aZ G (q 8) 64 pk1, oB h2 1 (oF1 v2 q2), aI G (q2 0) 10 oxs, aI G (q2 1) 10 oys, aI G (q2 2) 10 ohs, aI G (q2 4) 8 ofs, aI G (q2 5) 8 oss] H → va_D A [oB h 1 (oF1 w q), aI G (q 0) 10 xs1, aI G (q 1) 10 ys1, aI G (q 2) 10 hs1, aI G (q 4) 8 fs, aI G (q 5) 8 ss, aZ G (q 8) 64 pk1, oB h2 1 (oF1 v2 q2), aI G (q2 0) 10 oxs, aI G (q2 1) 10 oys, aI G (q2 2) 10 ohs, aI G (q2 4) 8 ofs, aI G (q2 5) 8 oss] → va_S A sM.heap H locs → ∀ (ls : Array Slot), lv_has ls 3 [(2, .int (nI k)), (0, .ref h), (1, .ref h2)] → W pM l eM rX1_become sM mM [.ref h, .ref h2].toArray bM tM cM H locs 0 0 Q (F0 mM 6 ls []) := by
    intro nF
    induction nF with
    | zero => intro w xs1 ys1 hs1 pk1 k hmF; exact absurd hmF (Nat.not_lt_zero _)
    | succ nF ih6 =>
      intro w xs1 ys1 hs1 pk1 k hmF hk hw ha H locs hP hD hS ls hl
      refine lv_iload_n hx hb dX1_become_6 rfl (lv_at hl 0 rfl) ?_
      refine lv_aload_n hx hb dX1_become_7 rfl (lv_at hl 2 rfl) ?_
      refine va_get (D := G.1) (ci := 1) (v := .int (v2 3)) (C := RX1) (T := TX1) (N := 11) hx hb hts hin1 hown hK.1 hP 7 rfl rfl 3 (by decide) f41 (fun _ h9 => h9) rfl dX1_become_8 ?_
      refine top_i (y := nI (zn σ)) (hob.1) ?_
      refine lv_icmp_ge (tgt := 42) hx hb dX1_become_11 (by decide) (fun c_11 => ?_) (fun c_11 => ?_)
      · have c_11 : (zn σ) ≤ k := (c_le (a := zn σ) (b := k) rfl rfl (by omega) (by omega)).mp c_11
        refine lv_iconst (v := 0) hx hb dX1_become_42 (by decide) ?_
        refine lv_istore_n (lv' := [(2, .int 0), (0, .ref h), (1, .ref h2)]) hx hb dX1_become_43 rfl hl (by decide) rfl (fun ls hl => ?_)
        have loop_44 : ∀ (nF : Nat) (w2 : Nat → Int32) (fs2 : Nat → Int32) (ss2 : Nat → Int32) (k2 : Nat), (zm σ - k2) < nF → (k2 ≤ zm σ) → (w2 3 = nI (zn σ) ∧ w2 6 = nI k2 ∧ w2 7 = 1) → (arL (preR σ k2) xs1 ys1 hs1 fs2 ss2 pk1) → ∀ (H : Heap) (locs : List Loc), va_P G.1 vwCl [oB h 1 (oF1 w2 q), aI G (q 0) 10 xs1, aI G (q 1) 10 ys1, aI G (q 2) 10 hs1, aI G (q 4) 8 fs2, aI G (q 5) 8 ss2, aZ G (q 8) 64 pk1, oB h2 1 (oF1 v2 q2), aI G (q2 0) 10 oxs, aI G (q2 1) 10 oys, aI G (q2 2) 10 ohs, aI G (q2 4) 8 ofs, aI G (q2 5) 8 oss] H → va_D A [oB h 1 (oF1 w2 q), aI G (q 0) 10 xs1, aI G (q 1) 10 ys1, aI G (q 2) 10 hs1, aI G (q 4) 8 fs2, aI G (q 5) 8 ss2, aZ G (q 8) 64 pk1, oB h2 1 (oF1 v2 q2), aI G (q2 0) 10 oxs, aI G (q2 1) 10 oys, aI G (q2 2) 10 ohs, aI G (q2 4) 8 ofs, aI G (q2 5) 8 oss] → va_S A sM.heap H locs → ∀ (ls : Array Slot), lv_has ls 3 [(2, .int (nI k2)), (0, .ref h), (1, .ref h2)] → W pM l eM rX1_become sM mM [.ref h, .ref h2].toArray bM tM cM H locs 0 0 Q (F0 mM 44 ls []) := by
          intro nF
          induction nF with
          | zero => intro w2 fs2 ss2 k2 hmF; exact absurd hmF (Nat.not_lt_zero _)
          | succ nF ih44 =>
            intro w2 fs2 ss2 k2 hmF hk2 hw2 ha2 H locs hP hD hS ls hl
            refine lv_iload_n hx hb dX1_become_44 rfl (lv_at hl 0 rfl) ?_
            refine lv_aload_n hx hb dX1_become_45 rfl (lv_at hl 2 rfl) ?_
            refine va_get (D := G.1) (ci := 1) (v := .int (v2 6)) (C := RX1) (T := TX1) (N := 11) hx hb hts hin1 hown hK.1 hP 7 rfl rfl 6 (by decide) f44 (fun _ h9 => h9) rfl dX1_become_46 ?_
            refine top_i (y := nI (zm σ)) (hob.2.1) ?_
            refine lv_icmp_ge (tgt := 74) hx hb dX1_become_49 (by decide) (fun c_49 => ?_) (fun c_49 => ?_)
            · have c_49 : (zm σ) ≤ k2 := (c_le (a := zm σ) (b := k2) rfl rfl (by omega) (by omega)).mp c_49
              refine lv_aload_n hx hb dX1_become_74 rfl (lv_at hl 1 rfl) ?_
              refine lv_aload_n hx hb dX1_become_75 rfl (lv_at hl 2 rfl) ?_
              refine va_get (D := G.1) (ci := 1) (v := .int (v2 7)) (C := RX1) (T := TX1) (N := 11) hx hb hts hin1 hown hK.1 hP 7 rfl rfl 7 (by decide) f27 (fun _ h9 => h9) rfl dX1_become_76 ?_
              refine va_put (D := G.1) (ci := 1) (v := .int (v2 7)) (ty := .int) (C := RX1) (T := TX1) (N := 11) hx hb hts hin1 tyX1 tyX1_ok nmX1 hown hK.1 hP hD hS 0 rfl rfl 7 (by decide) f27 (fun _ h9 => h9) rfl (by decide +kernel) rfl rfl (Nat.le_of_ble_eq_true rfl) dX1_become_79 (fun H locs hP hD hS => ?_)
              have hP : va_P G.1 vwCl [oB h 1 (oF1 (upd w2 7 (v2 7)) q), aI G (q 0) 10 xs1, aI G (q 1) 10 ys1, aI G (q 2) 10 hs1, aI G (q 4) 8 fs2, aI G (q 5) 8 ss2, aZ G (q 8) 64 pk1, oB h2 1 (oF1 v2 q2), aI G (q2 0) 10 oxs, aI G (q2 1) 10 oys, aI G (q2 2) 10 ohs, aI G (q2 4) 8 ofs, aI G (q2 5) 8 oss] H := hP
              have hD : va_D A [oB h 1 (oF1 (upd w2 7 (v2 7)) q), aI G (q 0) 10 xs1, aI G (q 1) 10 ys1, aI G (q 2) 10 hs1, aI G (q 4) 8 fs2, aI G (q 5) 8 ss2, aZ G (q 8) 64 pk1, oB h2 1 (oF1 v2 q2), aI G (q2 0) 10 oxs, aI G (q2 1) 10 oys, aI G (q2 2) 10 ohs, aI G (q2 4) 8 ofs, aI G (q2 5) 8 oss] := hD
              have hpost : obL σ (upd w2 7 (v2 7), xs1, ys1, hs1, fs2, ss2, pk1).1 ∧ arL σ (upd w2 7 (v2 7), xs1, ys1, hs1, fs2, ss2, pk1).2.1 (upd w2 7 (v2 7), xs1, ys1, hs1, fs2, ss2, pk1).2.2.1 (upd w2 7 (v2 7), xs1, ys1, hs1, fs2, ss2, pk1).2.2.2.1 (upd w2 7 (v2 7), xs1, ys1, hs1, fs2, ss2, pk1).2.2.2.2.1 (upd w2 7 (v2 7), xs1, ys1, hs1, fs2, ss2, pk1).2.2.2.2.2.1 (upd w2 7 (v2 7), xs1, ys1, hs1, fs2, ss2, pk1).2.2.2.2.2.2 := by
                have e : k2 = zm σ := by omega
                subst e
                exact ⟨⟨hw2.1, hw2.2.1, hob.2.2⟩, arL_full ha2⟩
              exact hret (upd w2 7 (v2 7), xs1, ys1, hs1, fs2, ss2, pk1) _ _ _ _ (hpost) hP hD hS dX1_become_82
            · have c_49 : ¬ (zm σ) ≤ k2 := fun hne => c_49 ((c_le (a := zm σ) (b := k2) rfl rfl (by omega) (by omega)).mpr hne)
              have c_49b : k2 < zm σ := by omega
              refine lv_aload_n hx hb dX1_become_52 rfl (lv_at hl 1 rfl) ?_
              refine lv_aload_n hx hb dX1_become_53 rfl (lv_at hl 2 rfl) ?_
              refine va_get (D := G.1) (ci := 1) (v := .ref (q2 4)) (C := RX1) (T := TX1) (N := 11) hx hb hts hin1 hown hK.1 hP 7 rfl rfl 4 (by decide) f21 (fun _ h9 => h9) rfl dX1_become_54 ?_
              refine lv_iload_n hx hb dX1_become_57 rfl (lv_at hl 0 rfl) ?_
              refine al_i hx hb hK.1 hP 11 0 rfl rfl (j := k2) (by omega) (Nat.le_of_ble_eq_true rfl) dX1_become_58 ?_
              refine top_i (y := nI (za σ k2)) ((har.2.1 k2 c_49b).1) ?_
              refine lv_aload_n hx hb dX1_become_59 rfl (lv_at hl 2 rfl) ?_
              refine va_get (D := G.1) (ci := 1) (v := .ref (q2 5)) (C := RX1) (T := TX1) (N := 11) hx hb hts hin1 hown hK.1 hP 7 rfl rfl 5 (by decide) f24 (fun _ h9 => h9) rfl dX1_become_60 ?_
              refine lv_iload_n hx hb dX1_become_63 rfl (lv_at hl 0 rfl) ?_
              refine al_i hx hb hK.1 hP 12 0 rfl rfl (j := k2) (by omega) (Nat.le_of_ble_eq_true rfl) dX1_become_64 ?_
              refine top_i (y := nI (zb σ k2)) ((har.2.1 k2 c_49b).2) ?_
              refine ca_v (wr := [aI G (q 0) 10 xs1, aI G (q 1) 10 ys1, aI G (q 2) 10 hs1, aZ G (q 8) 64 pk1, oB h2 1 (oF1 v2 q2), aI G (q2 0) 10 oxs, aI G (q2 1) 10 oys, aI G (q2 2) 10 ohs, aI G (q2 4) 8 ofs, aI G (q2 5) 8 oss]) (va_runV (As := [.int (nI (za σ k2)), .int (nI (zb σ k2))]) (rest := []) ⟨hx, hb, hml, hown, hts⟩ ((c_X1_addRidge l G h w2 q fs2 ss2 (zn σ) k2 (za σ k2) (zb σ k2) (hw2.1) (hn10) (hw2.2.1) (by omega) ((hok.2.2.2.2.1 k2 c_49b).1) ((hok.2.2.2.2.1 k2 c_49b).2.1)) _) (cwV 2 hts gX1_become_X1_addRidge rfl rfl rfl (by decide +kernel) ⟨Nat.le_of_ble_eq_true rfl, Nat.le_of_ble_eq_true rfl⟩) (cPre_V hK hP hD [0, 4, 5] (by decide) rfl 0 1 rfl rfl) rfl rfl hl.1 rfl (lv_room (Nat.le_of_ble_eq_true rfl)) dX1_become_65 ⟨Nat.zero_le _, Nat.zero_le _⟩) hP hD hS hA [0, 4, 5] [1, 2, 3, 6, 7, 8, 9, 10, 11, 12] rfl rfl (by decide) (by decide) [10, 0, 1, 2, 11, 12, 3, 4, 5, 6, 7, 8, 9] (fun u_65 => [oB h 1 (oF1 (upd w2 6 (nI (k2 + 1))) q), aI G (q 0) 10 xs1, aI G (q 1) 10 ys1, aI G (q 2) 10 hs1, aI G (q 4) 8 (upd fs2 k2 (nI (za σ k2))), aI G (q 5) 8 (upd ss2 k2 (nI (zb σ k2))), aZ G (q 8) 64 pk1, oB h2 1 (oF1 v2 q2), aI G (q2 0) 10 oxs, aI G (q2 1) 10 oys, aI G (q2 2) 10 ohs, aI G (q2 4) 8 ofs, aI G (q2 5) 8 oss]) (by decide) (fun _ => rfl) (fun u_65 H locs q_65 hP hD hS => ?_)
              have hP : va_P G.1 vwCl [oB h 1 (oF1 (upd w2 6 (nI (k2 + 1))) q), aI G (q 0) 10 xs1, aI G (q 1) 10 ys1, aI G (q 2) 10 hs1, aI G (q 4) 8 (upd fs2 k2 (nI (za σ k2))), aI G (q 5) 8 (upd ss2 k2 (nI (zb σ k2))), aZ G (q 8) 64 pk1, oB h2 1 (oF1 v2 q2), aI G (q2 0) 10 oxs, aI G (q2 1) 10 oys, aI G (q2 2) 10 ohs, aI G (q2 4) 8 ofs, aI G (q2 5) 8 oss] H := hP
              have hD : va_D A [oB h 1 (oF1 (upd w2 6 (nI (k2 + 1))) q), aI G (q 0) 10 xs1, aI G (q 1) 10 ys1, aI G (q 2) 10 hs1, aI G (q 4) 8 (upd fs2 k2 (nI (za σ k2))), aI G (q 5) 8 (upd ss2 k2 (nI (zb σ k2))), aZ G (q 8) 64 pk1, oB h2 1 (oF1 v2 q2), aI G (q2 0) 10 oxs, aI G (q2 1) 10 oys, aI G (q2 2) 10 ohs, aI G (q2 4) 8 ofs, aI G (q2 5) 8 oss] := hD
              refine lv_iinc (v := nI (k2 + 1)) (lv' := [(2, .int (nI (k2 + 1))), (0, .ref h), (1, .ref h2)]) hx hb dX1_become_68 hl (k := 0) rfl (inc_nI _ 1) (by decide) rfl (fun ls hl => ?_)
              refine lv_goto (tgt := 44) hx hb dX1_become_71 (by decide) ?_
              exact ih44 (upd w2 6 (nI (k2 + 1))) (upd fs2 k2 (nI (za σ k2))) (upd ss2 k2 (nI (zb σ k2))) (k2 + 1) (by omega) (by omega) (⟨hw2.1, rfl, hw2.2.2⟩) (by rw [← addR_pre σ k2]; exact arL_R (σ := preR σ k2) ha2) _ _ hP hD hS _ (lv_sub hl [0, 1, 2] rfl)
        exact loop_44 _ w fs ss 0 (Nat.lt_succ_self _) (Nat.zero_le _) (⟨by rw [hw.1, show k = zn σ by omega], hw.2.1, hw.2.2⟩) (by have := ha; rw [show k = zn σ by omega] at this; exact this) _ _ hP hD hS _ (lv_sub hl [0, 1, 2] rfl)
      · have c_11 : ¬ (zn σ) ≤ k := fun hne => c_11 ((c_le (a := zn σ) (b := k) rfl rfl (by omega) (by omega)).mpr hne)
        have c_11b : k < zn σ := by omega
        refine lv_aload_n hx hb dX1_become_14 rfl (lv_at hl 1 rfl) ?_
        refine lv_aload_n hx hb dX1_become_15 rfl (lv_at hl 2 rfl) ?_
        refine va_get (D := G.1) (ci := 1) (v := .ref (q2 0)) (C := RX1) (T := TX1) (N := 11) hx hb hts hin1 hown hK.1 hP 7 rfl rfl 0 (by decide) f9 (fun _ h9 => h9) rfl dX1_become_16 ?_
        refine lv_iload_n hx hb dX1_become_19 rfl (lv_at hl 0 rfl) ?_
        refine al_i hx hb hK.1 hP 8 0 rfl rfl (j := k) (by omega) (Nat.le_of_ble_eq_true rfl) dX1_become_20 ?_
        refine top_i (y := nI (zx σ k)) ((har.1 k c_11b).1) ?_
        refine lv_aload_n hx hb dX1_become_21 rfl (lv_at hl 2 rfl) ?_
        refine va_get (D := G.1) (ci := 1) (v := .ref (q2 1)) (C := RX1) (T := TX1) (N := 11) hx hb hts hin1 hown hK.1 hP 7 rfl rfl 1 (by decide) f15 (fun _ h9 => h9) rfl dX1_become_22 ?_
        refine lv_iload_n hx hb dX1_become_25 rfl (lv_at hl 0 rfl) ?_
        refine al_i hx hb hK.1 hP 9 0 rfl rfl (j := k) (by omega) (Nat.le_of_ble_eq_true rfl) dX1_become_26 ?_
        refine top_i (y := nI (zy σ k)) ((har.1 k c_11b).2.1) ?_
        refine lv_aload_n hx hb dX1_become_27 rfl (lv_at hl 2 rfl) ?_
        refine va_get (D := G.1) (ci := 1) (v := .ref (q2 2)) (C := RX1) (T := TX1) (N := 11) hx hb hts hin1 hown hK.1 hP 7 rfl rfl 2 (by decide) f18 (fun _ h9 => h9) rfl dX1_become_28 ?_
        refine lv_iload_n hx hb dX1_become_31 rfl (lv_at hl 0 rfl) ?_
        refine al_i hx hb hK.1 hP 10 0 rfl rfl (j := k) (by omega) (Nat.le_of_ble_eq_true rfl) dX1_become_32 ?_
        refine top_i (y := nI (zz σ k)) ((har.1 k c_11b).2.2) ?_
        refine ca_v (wr := [aI G (q 4) 8 fs, aI G (q 5) 8 ss, oB h2 1 (oF1 v2 q2), aI G (q2 0) 10 oxs, aI G (q2 1) 10 oys, aI G (q2 2) 10 ohs, aI G (q2 4) 8 ofs, aI G (q2 5) 8 oss]) (va_runV (As := [.int (nI (zx σ k)), .int (nI (zy σ k)), .int (nI (zz σ k))]) (rest := []) ⟨hx, hb, hml, hown, hts⟩ ((c_X1_addPeak l G h w q xs1 ys1 hs1 pk1 k (zx σ k) (zy σ k) (nI (zz σ k)) (hw.1) (by omega) ((hok.2.2.2.1 k c_11b).1) ((hok.2.2.2.1 k c_11b).2.1) (by rw [ha.2.2 _ (by have := hok.2.2.2.1 k c_11b; omega)]; show b2i (pAtN (zx σ) (zy σ) k _) = 0; rw [free_at hok c_11b]; rfl)) _) (cwV 3 hts gX1_become_X1_addPeak rfl rfl rfl (by decide +kernel) ⟨Nat.le_of_ble_eq_true rfl, Nat.le_of_ble_eq_true rfl⟩) (cPre_V hK hP hD [0, 1, 2, 3, 6] (by decide) rfl 0 1 rfl rfl) rfl rfl hl.1 rfl (lv_room (Nat.le_of_ble_eq_true rfl)) dX1_become_33 ⟨Nat.zero_le _, Nat.zero_le _⟩) hP hD hS hA [0, 1, 2, 3, 6] [4, 5, 7, 8, 9, 10, 11, 12] rfl rfl (by decide) (by decide) [8, 9, 10, 11, 0, 1, 12, 2, 3, 4, 5, 6, 7] (fun u_33 => [oB h 1 (oF1 (upd w 3 (nI (k + 1))) q), aI G (q 0) 10 (upd xs1 k (nI (zx σ k))), aI G (q 1) 10 (upd ys1 k (nI (zy σ k))), aI G (q 2) 10 (upd hs1 k (nI (zz σ k))), aI G (q 4) 8 fs, aI G (q 5) 8 ss, aZ G (q 8) 64 (upd pk1 ((zx σ k) * 8 + (zy σ k)) 1), oB h2 1 (oF1 v2 q2), aI G (q2 0) 10 oxs, aI G (q2 1) 10 oys, aI G (q2 2) 10 ohs, aI G (q2 4) 8 ofs, aI G (q2 5) 8 oss]) (by decide) (fun _ => rfl) (fun u_33 H locs q_33 hP hD hS => ?_)
        have hP : va_P G.1 vwCl [oB h 1 (oF1 (upd w 3 (nI (k + 1))) q), aI G (q 0) 10 (upd xs1 k (nI (zx σ k))), aI G (q 1) 10 (upd ys1 k (nI (zy σ k))), aI G (q 2) 10 (upd hs1 k (nI (zz σ k))), aI G (q 4) 8 fs, aI G (q 5) 8 ss, aZ G (q 8) 64 (upd pk1 ((zx σ k) * 8 + (zy σ k)) 1), oB h2 1 (oF1 v2 q2), aI G (q2 0) 10 oxs, aI G (q2 1) 10 oys, aI G (q2 2) 10 ohs, aI G (q2 4) 8 ofs, aI G (q2 5) 8 oss] H := hP
        have hD : va_D A [oB h 1 (oF1 (upd w 3 (nI (k + 1))) q), aI G (q 0) 10 (upd xs1 k (nI (zx σ k))), aI G (q 1) 10 (upd ys1 k (nI (zy σ k))), aI G (q 2) 10 (upd hs1 k (nI (zz σ k))), aI G (q 4) 8 fs, aI G (q 5) 8 ss, aZ G (q 8) 64 (upd pk1 ((zx σ k) * 8 + (zy σ k)) 1), oB h2 1 (oF1 v2 q2), aI G (q2 0) 10 oxs, aI G (q2 1) 10 oys, aI G (q2 2) 10 ohs, aI G (q2 4) 8 ofs, aI G (q2 5) 8 oss] := hD
        refine lv_iinc (v := nI (k + 1)) (lv' := [(2, .int (nI (k + 1))), (0, .ref h), (1, .ref h2)]) hx hb dX1_become_36 hl (k := 0) rfl (inc_nI _ 1) (by decide) rfl (fun ls hl => ?_)
        refine lv_goto (tgt := 6) hx hb dX1_become_39 (by decide) ?_
        exact ih6 (upd w 3 (nI (k + 1))) (upd xs1 k (nI (zx σ k))) (upd ys1 k (nI (zy σ k))) (upd hs1 k (nI (zz σ k))) (upd pk1 ((zx σ k) * 8 + (zy σ k)) 1) (k + 1) (by omega) (by omega) (⟨rfl, hw.2⟩) (by rw [← addP_pre σ k]; exact arL_P (σ := preP σ k) ha (hok.2.2.2.1 k c_11b).1 (hok.2.2.2.1 k c_11b).2.1) _ _ hP hD hS _ (lv_sub hl [0, 1, 2] rfl)
  exact loop_6 _ (upd (upd (upd v 3 0) 6 0) 7 1) xs ys hs u_1 0 (Nat.lt_succ_self _) (Nat.zero_le _) (⟨rfl, rfl, rfl⟩) (⟨fun p hp => absurd hp (Nat.not_lt_zero p), fun p hp => absurd hp (Nat.not_lt_zero p), q_1⟩) _ _ hP hD hS _ (lv_sub hl [0, 1, 2] rfl)

abbrev rX1_turnRound : Room := { frames := 3, cells := 0, slots := 0, locals := 70 }
set_option maxHeartbeats 4000000 in
set_option maxRecDepth 100000 in
theorem c_X1_turnRound (l : Launch) (G : kG) (h : Nat) (v : Nat → Int32) (q : Nat → Nat) (xs : Nat → Int32) (ys : Nat → Int32) (vis : Nat → Int32) (od : Nat → Int32) (n : Nat) (pt : Nat) (hpt : pt < 64) (hv : v 3 = nI n) (hn : n ≤ 10) (hso : SO (gahead xs ys pt) n) : Ci l G yX1_turnRound wsX1_turnRound rX1_turnRound [.ref h, .int (nI pt)] [oB h 1 (oF1 v q), aI G (q 0) 10 xs, aI G (q 1) 10 ys, aI G (q 9) 64 vis, aI G (q 10) 10 od] (fun r (u : Nat → Int32) => ∃ mY oY, r = nI mY ∧ mY ≤ n ∧ (∀ a, a < mY → u a = nI (oY a)) ∧ Pan (fvis vis pt) (gahead xs ys pt) n mY oY) (fun u => [oB h 1 (oF1 v q), aI G (q 0) 10 xs, aI G (q 1) 10 ys, aI G (q 9) 64 vis, aI G (q 10) 10 u]) := by
  refine Ci.of (cc := cX1_turnRound) (maxL := 5) (by decide) rfl (Nat.le_of_ble_eq_true rfl) ?_
  intro pM eM sM mM bM tM cM Q A hx hb hts hown hml hA hK hP hD hS hret ls hl
  have hown : sM.vm.findClass RX1 = some mM.cls := hown
  have hl : lv_has ls 5 [(0, .ref h), (1, .int (nI pt))] := hl
  have hin1 : ∀ w ∈ u_ws RX1 TX1 11, w ∈ wsX1_turnRound := by decide +kernel
  have f41 := hts (.fieldLink RX1 41 "HorizonPeaks$Land" "peaks" "I") (by decide +kernel)
  have f38 := hts (.fieldLink RX1 38 "HorizonPeaks$Land" "order" "[I") (by decide +kernel)
  refine lv_iconst (v := 0) hx hb dX1_turnRound_0 (by decide) ?_
  refine lv_istore_n (lv' := [(2, .int 0), (0, .ref h), (1, .int (nI pt))]) hx hb dX1_turnRound_1 rfl hl (by decide) rfl (fun ls hl => ?_)
  refine lv_iconst (v := 0) hx hb dX1_turnRound_2 (by decide) ?_
  refine lv_istore_n (lv' := [(3, .int 0), (2, .int 0), (0, .ref h), (1, .int (nI pt))]) hx hb dX1_turnRound_3 rfl hl (by decide) rfl (fun ls hl => ?_)
  have loop_4 : ∀ (nF : Nat) (f : Nat → Int32) (o : Nat → Nat) (k : Nat) (many : Nat), (n - k) < nF → (k ≤ n) → (many ≤ k) → (Pan (fvis vis pt) (gahead xs ys pt) k many o) → (∀ a, a < many → f a = nI (o a)) → ∀ (H : Heap) (locs : List Loc), va_P G.1 vwCl [oB h 1 (oF1 v q), aI G (q 0) 10 xs, aI G (q 1) 10 ys, aI G (q 9) 64 vis, aI G (q 10) 10 f] H → va_D A [oB h 1 (oF1 v q), aI G (q 0) 10 xs, aI G (q 1) 10 ys, aI G (q 9) 64 vis, aI G (q 10) 10 f] → va_S A sM.heap H locs → ∀ (ls : Array Slot), lv_has ls 5 [(3, .int (nI k)), (2, .int (nI many)), (0, .ref h), (1, .int (nI pt))] → W pM l eM rX1_turnRound sM mM [.ref h, .int (nI pt)].toArray bM tM cM H locs 0 0 Q (F0 mM 4 ls []) := by
    intro nF
    induction nF with
    | zero => intro f o k many hmF; exact absurd hmF (Nat.not_lt_zero _)
    | succ nF ih4 =>
      intro f o k many hmF hk hmk hp1 hf1 H locs hP hD hS ls hl
      refine lv_iload_n hx hb dX1_turnRound_4 rfl (lv_at hl 0 rfl) ?_
      refine lv_aload_n hx hb dX1_turnRound_5 rfl (lv_at hl 2 rfl) ?_
      refine va_get (D := G.1) (ci := 1) (v := .int (v 3)) (C := RX1) (T := TX1) (N := 11) hx hb hts hin1 hown hK.1 hP 0 rfl rfl 3 (by decide) f41 (fun _ h9 => h9) rfl dX1_turnRound_6 ?_
      refine top_i (y := nI n) (hv) ?_
      refine lv_icmp_ge (tgt := 86) hx hb dX1_turnRound_9 (by decide) (fun c_9 => ?_) (fun c_9 => ?_)
      · have c_9 : n ≤ k := (c_le (a := n) (b := k) rfl rfl (by omega) (by omega)).mp c_9
        refine lv_iload_n hx hb dX1_turnRound_86 rfl (lv_at hl 1 rfl) ?_
        have hpost : ∃ mY oY, (nI many) = nI mY ∧ mY ≤ n ∧ (∀ a, a < mY → f a = nI (oY a)) ∧ Pan (fvis vis pt) (gahead xs ys pt) n mY oY := by
          have e : k = n := by omega
          subst e
          exact ⟨many, o, rfl, hmk, hf1, hp1⟩
        exact hret _ f _ _ _ _ (hpost) (rfl) hP hD hS dX1_turnRound_87
      · have c_9 : ¬ n ≤ k := fun hne => c_9 ((c_le (a := n) (b := k) rfl rfl (by omega) (by omega)).mpr hne)
        refine lv_aload_n hx hb dX1_turnRound_12 rfl (lv_at hl 2 rfl) ?_
        refine lv_iload_n hx hb dX1_turnRound_13 rfl (lv_at hl 3 rfl) ?_
        refine lv_iload_n hx hb dX1_turnRound_14 rfl (lv_at hl 0 rfl) ?_
        refine rd_i (va_runV (As := [.int (nI pt), .int (nI k)]) (rest := []) ⟨hx, hb, hml, hown, hts⟩ (c_X1_isInSight l G h v q vis pt (nI k) (hpt)) (cwV 2 hts gX1_turnRound_X1_isInSight rfl rfl rfl (by decide +kernel) ⟨Nat.le_of_ble_eq_true rfl, Nat.le_of_ble_eq_true rfl⟩) (rPre_V hK hP [0, 3] rfl 0 1 rfl rfl) rfl rfl hl.1 rfl (lv_room (Nat.le_of_ble_eq_true rfl)) dX1_turnRound_15 ⟨Nat.zero_le _, Nat.zero_le _⟩) (fun r_15 q_15 => ?_)
        obtain rfl : r_15 = b2i (!decide (vis pt >>> ((nI k) &&& 31) &&& 1 = 0)) := q_15
        refine lv_if_eq (tgt := 80) hx hb dX1_turnRound_18 (by decide) (fun c_18 => ?_) (fun c_18 => ?_)
        · have c_18 : (!decide (vis pt >>> ((nI k) &&& 31) &&& 1 = 0)) = false := b2i_0.mp c_18
          refine lv_iinc (v := nI (k + 1)) (lv' := [(3, .int (nI (k + 1))), (2, .int (nI many)), (0, .ref h), (1, .int (nI pt))]) hx hb dX1_turnRound_80 hl (k := 0) rfl (inc_nI _ 1) (by decide) rfl (fun ls hl => ?_)
          refine lv_goto (tgt := 4) hx hb dX1_turnRound_83 (by decide) ?_
          exact ih4 f o (k + 1) many (by omega) (by omega) (by omega) (Pan.skip hp1 c_18) (hf1) _ _ hP hD hS _ (lv_sub hl [0, 1, 2, 3] rfl)
        · have c_18 : (!decide (vis pt >>> ((nI k) &&& 31) &&& 1 = 0)) = true := b2i_n0.mp c_18
          refine lv_iload_n hx hb dX1_turnRound_21 rfl (lv_at hl 1 rfl) ?_
          refine lv_istore (lv' := [(4, .int (nI many)), (3, .int (nI k)), (2, .int (nI many)), (0, .ref h), (1, .int (nI pt))]) hx hb dX1_turnRound_22 hl (by decide) rfl (fun ls hl => ?_)
          have loop_24 : ∀ (nF : Nat) (g : Nat → Int32) (a : Nat), a < nF → (a ≤ many) → (∀ j, j < a → g j = nI (o j)) → (∀ j, a ≤ j → j < many → g (j + 1) = nI (o j)) → (∀ j, a ≤ j → j < many → gahead xs ys pt k (o j) = true) → ∀ (H : Heap) (locs : List Loc), va_P G.1 vwCl [oB h 1 (oF1 v q), aI G (q 0) 10 xs, aI G (q 1) 10 ys, aI G (q 9) 64 vis, aI G (q 10) 10 g] H → va_D A [oB h 1 (oF1 v q), aI G (q 0) 10 xs, aI G (q 1) 10 ys, aI G (q 9) 64 vis, aI G (q 10) 10 g] → va_S A sM.heap H locs → ∀ (ls : Array Slot), lv_has ls 5 [(4, .int (nI a)), (3, .int (nI k)), (2, .int (nI many)), (0, .ref h), (1, .int (nI pt))] → W pM l eM rX1_turnRound sM mM [.ref h, .int (nI pt)].toArray bM tM cM H locs 0 0 Q (F0 mM 24 ls []) := by
            intro nF
            induction nF with
            | zero => intro g a hmF; exact absurd hmF (Nat.not_lt_zero _)
            | succ nF ih24 =>
              intro g a hmF ham hg1 hg2 hg3 H locs hP hD hS ls hl
              refine lv_iload hx hb dX1_turnRound_24 (lv_at hl 0 rfl) ?_
              refine lv_if_le (tgt := 69) hx hb dX1_turnRound_26 (by decide) (fun c_26 => ?_) (fun c_26 => ?_)
              · have c_26 : a ≤ 0 := (c_le (a := a) (b := 0) rfl rfl (by omega) (by omega)).mp c_26
                refine lv_aload_n hx hb dX1_turnRound_69 rfl (lv_at hl 3 rfl) ?_
                refine va_get (D := G.1) (ci := 1) (v := .ref (q 10)) (C := RX1) (T := TX1) (N := 11) hx hb hts hin1 hown hK.1 hP 0 rfl rfl 10 (by decide) f38 (fun _ h9 => h9) rfl dX1_turnRound_70 ?_
                refine lv_iload hx hb dX1_turnRound_73 (lv_at hl 0 rfl) ?_
                refine lv_iload_n hx hb dX1_turnRound_75 rfl (lv_at hl 1 rfl) ?_
                refine as_i hx hb hK.1 hP hD hS 4 0 rfl rfl (j := a) (by omega) (Nat.le_of_ble_eq_true rfl) dX1_turnRound_76 (fun H locs hP hD hS => ?_)
                have hP : va_P G.1 vwCl [oB h 1 (oF1 v q), aI G (q 0) 10 xs, aI G (q 1) 10 ys, aI G (q 9) 64 vis, aI G (q 10) 10 (upd g a (nI k))] H := hP
                have hD : va_D A [oB h 1 (oF1 v q), aI G (q 0) 10 xs, aI G (q 1) 10 ys, aI G (q 9) 64 vis, aI G (q 10) 10 (upd g a (nI k))] := hD
                refine lv_iinc (v := nI (many + 1)) (lv' := [(2, .int (nI (many + 1))), (4, .int (nI a)), (3, .int (nI k)), (0, .ref h), (1, .int (nI pt))]) hx hb dX1_turnRound_77 hl (k := 2) rfl (inc_nI _ 1) (by decide) rfl (fun ls hl => ?_)
                refine lv_iinc (v := nI (k + 1)) (lv' := [(3, .int (nI (k + 1))), (2, .int (nI (many + 1))), (4, .int (nI a)), (0, .ref h), (1, .int (nI pt))]) hx hb dX1_turnRound_80 hl (k := 2) rfl (inc_nI _ 1) (by decide) rfl (fun ls hl => ?_)
                refine lv_goto (tgt := 4) hx hb dX1_turnRound_83 (by decide) ?_
                exact ih4 (upd g a (nI k)) (insN o a k) (k + 1) (many + 1) (by omega) (by omega) (by omega) (Pan.ins hso (by omega) hp1 c_18 (by omega) hg3 (Or.inl (by omega))) (tr_ins hg1 hg2 (by omega)) _ _ hP hD hS _ (lv_sub hl [0, 1, 3, 4] rfl)
              · have c_26 : ¬ a ≤ 0 := fun hne => c_26 ((c_le (a := a) (b := 0) rfl rfl (by omega) (by omega)).mpr hne)
                refine lv_aload_n hx hb dX1_turnRound_29 rfl (lv_at hl 3 rfl) ?_
                refine lv_iload_n hx hb dX1_turnRound_30 rfl (lv_at hl 4 rfl) ?_
                refine lv_iload_n hx hb dX1_turnRound_31 rfl (lv_at hl 1 rfl) ?_
                refine lv_aload_n hx hb dX1_turnRound_32 rfl (lv_at hl 3 rfl) ?_
                refine va_get (D := G.1) (ci := 1) (v := .ref (q 10)) (C := RX1) (T := TX1) (N := 11) hx hb hts hin1 hown hK.1 hP 0 rfl rfl 10 (by decide) f38 (fun _ h9 => h9) rfl dX1_turnRound_33 ?_
                refine lv_iload hx hb dX1_turnRound_36 (lv_at hl 0 rfl) ?_
                refine lv_iconst (v := 1) hx hb dX1_turnRound_38 (by decide) ?_
                refine lv_isub hx hb dX1_turnRound_39 ?_
                refine top_i (y := nI (a - 1)) (pk_sub (b := 1) (by omega)) ?_
                refine al_i hx hb hK.1 hP 4 0 rfl rfl (j := a - 1) (by omega) (Nat.le_of_ble_eq_true rfl) dX1_turnRound_40 ?_
                refine top_i (y := nI (o (a - 1))) (hg1 (a - 1) (by omega)) ?_
                refine rd_i (va_runV (As := [.int (nI pt), .int (nI k), .int (nI (o (a - 1)))]) (rest := []) ⟨hx, hb, hml, hown, hts⟩ (c_X1_isAhead l G h v q xs ys pt k (o (a - 1)) (hpt) (by omega) (by have := (hp1.1 (a - 1) (by omega)).1; omega)) (cwV 3 hts gX1_turnRound_X1_isAhead rfl rfl rfl (by decide +kernel) ⟨Nat.le_of_ble_eq_true rfl, Nat.le_of_ble_eq_true rfl⟩) (rPre_V hK hP [0, 1, 2] rfl 0 1 rfl rfl) rfl rfl hl.1 rfl (lv_room (Nat.le_of_ble_eq_true rfl)) dX1_turnRound_41 ⟨Nat.zero_le _, Nat.zero_le _⟩) (fun r_41 q_41 => ?_)
                obtain rfl : r_41 = b2i (gahead xs ys pt k (o (a - 1))) := q_41
                refine lv_if_eq (tgt := 69) hx hb dX1_turnRound_44 (by decide) (fun c_44 => ?_) (fun c_44 => ?_)
                · have c_44 : (gahead xs ys pt k (o (a - 1))) = false := b2i_0.mp c_44
                  refine lv_aload_n hx hb dX1_turnRound_69 rfl (lv_at hl 3 rfl) ?_
                  refine va_get (D := G.1) (ci := 1) (v := .ref (q 10)) (C := RX1) (T := TX1) (N := 11) hx hb hts hin1 hown hK.1 hP 0 rfl rfl 10 (by decide) f38 (fun _ h9 => h9) rfl dX1_turnRound_70 ?_
                  refine lv_iload hx hb dX1_turnRound_73 (lv_at hl 0 rfl) ?_
                  refine lv_iload_n hx hb dX1_turnRound_75 rfl (lv_at hl 1 rfl) ?_
                  refine as_i hx hb hK.1 hP hD hS 4 0 rfl rfl (j := a) (by omega) (Nat.le_of_ble_eq_true rfl) dX1_turnRound_76 (fun H locs hP hD hS => ?_)
                  have hP : va_P G.1 vwCl [oB h 1 (oF1 v q), aI G (q 0) 10 xs, aI G (q 1) 10 ys, aI G (q 9) 64 vis, aI G (q 10) 10 (upd g a (nI k))] H := hP
                  have hD : va_D A [oB h 1 (oF1 v q), aI G (q 0) 10 xs, aI G (q 1) 10 ys, aI G (q 9) 64 vis, aI G (q 10) 10 (upd g a (nI k))] := hD
                  refine lv_iinc (v := nI (many + 1)) (lv' := [(2, .int (nI (many + 1))), (4, .int (nI a)), (3, .int (nI k)), (0, .ref h), (1, .int (nI pt))]) hx hb dX1_turnRound_77 hl (k := 2) rfl (inc_nI _ 1) (by decide) rfl (fun ls hl => ?_)
                  refine lv_iinc (v := nI (k + 1)) (lv' := [(3, .int (nI (k + 1))), (2, .int (nI (many + 1))), (4, .int (nI a)), (0, .ref h), (1, .int (nI pt))]) hx hb dX1_turnRound_80 hl (k := 2) rfl (inc_nI _ 1) (by decide) rfl (fun ls hl => ?_)
                  refine lv_goto (tgt := 4) hx hb dX1_turnRound_83 (by decide) ?_
                  have hc44 : gahead xs ys pt k (o (a - 1)) = false := c_44
                  exact ih4 (upd g a (nI k)) (insN o a k) (k + 1) (many + 1) (by omega) (by omega) (by omega) (Pan.ins hso (by omega) hp1 c_18 (by omega) hg3 (Or.inr hc44)) (tr_ins hg1 hg2 (by omega)) _ _ hP hD hS _ (lv_sub hl [0, 1, 3, 4] rfl)
                · have c_44 : (gahead xs ys pt k (o (a - 1))) = true := b2i_n0.mp c_44
                  refine lv_aload_n hx hb dX1_turnRound_47 rfl (lv_at hl 3 rfl) ?_
                  refine va_get (D := G.1) (ci := 1) (v := .ref (q 10)) (C := RX1) (T := TX1) (N := 11) hx hb hts hin1 hown hK.1 hP 0 rfl rfl 10 (by decide) f38 (fun _ h9 => h9) rfl dX1_turnRound_48 ?_
                  refine lv_iload hx hb dX1_turnRound_51 (lv_at hl 0 rfl) ?_
                  refine lv_aload_n hx hb dX1_turnRound_53 rfl (lv_at hl 3 rfl) ?_
                  refine va_get (D := G.1) (ci := 1) (v := .ref (q 10)) (C := RX1) (T := TX1) (N := 11) hx hb hts hin1 hown hK.1 hP 0 rfl rfl 10 (by decide) f38 (fun _ h9 => h9) rfl dX1_turnRound_54 ?_
                  refine lv_iload hx hb dX1_turnRound_57 (lv_at hl 0 rfl) ?_
                  refine lv_iconst (v := 1) hx hb dX1_turnRound_59 (by decide) ?_
                  refine lv_isub hx hb dX1_turnRound_60 ?_
                  refine top_i (y := nI (a - 1)) (pk_sub (b := 1) (by omega)) ?_
                  refine al_i hx hb hK.1 hP 4 0 rfl rfl (j := a - 1) (by omega) (Nat.le_of_ble_eq_true rfl) dX1_turnRound_61 ?_
                  refine top_i (y := nI (o (a - 1))) (hg1 (a - 1) (by omega)) ?_
                  refine as_i hx hb hK.1 hP hD hS 4 0 rfl rfl (j := a) (by omega) (Nat.le_of_ble_eq_true rfl) dX1_turnRound_62 (fun H locs hP hD hS => ?_)
                  have hP : va_P G.1 vwCl [oB h 1 (oF1 v q), aI G (q 0) 10 xs, aI G (q 1) 10 ys, aI G (q 9) 64 vis, aI G (q 10) 10 (upd g a (nI (o (a - 1))))] H := hP
                  have hD : va_D A [oB h 1 (oF1 v q), aI G (q 0) 10 xs, aI G (q 1) 10 ys, aI G (q 9) 64 vis, aI G (q 10) 10 (upd g a (nI (o (a - 1))))] := hD
                  refine lv_iinc (v := nI (a - 1)) (lv' := [(4, .int (nI (a - 1))), (3, .int (nI k)), (2, .int (nI many)), (0, .ref h), (1, .int (nI pt))]) hx hb dX1_turnRound_63 hl (k := 0) rfl (pk_m1s (by omega)) (by decide) rfl (fun ls hl => ?_)
                  refine lv_goto (tgt := 24) hx hb dX1_turnRound_66 (by decide) ?_
                  exact ih24 (upd g a (nI (o (a - 1)))) (a - 1) (by omega) (by omega) (fun j h => by rw [pk_un (by omega)]; exact hg1 j (by omega)) (fun j h h2 => if e : j = a - 1 then by rw [e, show a - 1 + 1 = a by omega, pk_us] else by rw [pk_un (by omega)]; exact hg2 j (by omega) h2) (fun j h h2 => if e : j = a - 1 then by rw [e]; exact c_44 else hg3 j (by omega) h2) _ _ hP hD hS _ (lv_sub hl [0, 1, 2, 3, 4] rfl)
          exact loop_24 _ f many (Nat.lt_succ_self _) (Nat.le_refl _) (hf1) (fun j h1 h2 => absurd h1 (by omega)) (fun j h1 h2 => absurd h1 (by omega)) _ _ hP hD hS _ (lv_sub hl [0, 1, 2, 3, 4] rfl)
  exact loop_4 _ od (fun _ => 0) 0 0 (Nat.lt_succ_self _) (Nat.zero_le _) (Nat.le_refl _) (⟨fun a ha => absurd ha (Nat.not_lt_zero a), fun a ha => absurd ha (Nat.not_lt_zero a), fun a b _ hb => absurd hb (Nat.not_lt_zero b)⟩) (fun a ha => absurd ha (Nat.not_lt_zero a)) _ _ hP hD hS _ (lv_sub hl [0, 1, 2, 3] rfl)
