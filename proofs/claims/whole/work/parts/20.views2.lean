theorem fE_ns {sh : Nat → Bool} {ht : Nat → Int32} {be : Nat → Nat} {zs : Nat → Int32} {nb : Nat → Nat} {sl k p j : Nat} (h : sh p = false) : fE sh ht be zs nb sl k p j = false := by simp [fE, h]
theorem fE_na {sh : Nat → Bool} {ht : Nat → Int32} {be : Nat → Nat} {zs : Nat → Int32} {nb : Nat → Nat} {sl k p j : Nat} (h : nI sl < iabs (ht p - zs k)) : fE sh ht be zs nb sl k p j = false := by simp [fE, h]
theorem fE_al {sh : Nat → Bool} {ht : Nat → Int32} {be : Nat → Nat} {zs : Nat → Int32} {nb : Nat → Nat} {sl k p j : Nat} (h : sh p = true) (h2 : ¬ nI sl < iabs (ht p - zs k)) : fE sh ht be zs nb sl k p j = lkB (be p) (nb k) sl j := by simp [fE, h, h2]
theorem st_new {g : Nat → Nat → Bool} {lk : Nat → Int64} {X : Int64} {k p j : Nat} (hX : lb X j = g k p) : lb (vp_updL lk (k * 10 + p) X (k * 10 + p)) j = g k p := by rw [pk_uLs]; exact hX
theorem st_old {lk : Nat → Int64} {X : Int64} {i i' j : Nat} (h : i' ≠ i) {b : Bool} (e : lb (lk i') j = b) : lb (vp_updL lk i X i') j = b := by rw [pk_uLn h]; exact e
def KVs (s : Nat → Int) (nn V : Nat) (v sco : Nat → Int32) : Prop := (∀ w, w < V → sco w = Int32.ofInt (s w)) ∧ v 5 = nI (fb_ct (fun w => decide (s w = nn)) V) ∧ ((v 7 = -1 ∧ v 6 = -9 ∧ ∀ w, w < V → s w ≤ -1) ∨ ∃ b, b < V ∧ v 6 = nI b ∧ v 7 = Int32.ofInt (s b) ∧ -1 < s b ∧ ∀ w, w < V → s w ≤ s b ∧ (w < b → s w < s b))
theorem oI_eq {a : Int} {n : Nat} (h1 : -1 ≤ a) (h2 : a ≤ 8) (hn : n ≤ 8) : Int32.ofInt a = nI n ↔ a = n := by
  constructor
  · intro h
    have := congrArg Int32.toInt h
    rw [fb_ofI (by omega) (by omega), nI_toInt (by omega)] at this
    exact this
  · intro h
    refine Int32.toInt_inj.mp ?_
    rw [fb_ofI (by omega) (by omega), nI_toInt (by omega)]
    exact h
theorem oI_le {a b : Int} (h1 : -1 ≤ a) (h2 : a ≤ 8) (h3 : -1 ≤ b) (h4 : b ≤ 8) : Int32.ofInt a ≤ Int32.ofInt b ↔ a ≤ b := by
  rw [Int32.le_iff_toInt_le, fb_ofI (by omega) (by omega), fb_ofI (by omega) (by omega)]
theorem oI_m1 : (-1 : Int32) = Int32.ofInt (-1) := by decide
theorem KVs_step {s : Nat → Int} {nn V : Nat} {v v' sco : Nat → Int32} (hs : ∀ w, w ≤ V → -1 ≤ s w ∧ s w ≤ 8) (hnn : nn ≤ 8) (h : KVs s nn V v sco)
    (h5 : v' 5 = if s V = nn then v 5 + 1 else v 5) (h67 : (Int32.ofInt (s V) ≤ v 7 ∧ v' 6 = v 6 ∧ v' 7 = v 7) ∨ (¬ Int32.ofInt (s V) ≤ v 7 ∧ v' 6 = nI V ∧ v' 7 = Int32.ofInt (s V))) : KVs s nn (V + 1) v' (upd sco V (Int32.ofInt (s V))) := by
  obtain ⟨a1, a2, a3⟩ := h
  refine ⟨?_, ?_, ?_⟩
  · intro w hw
    by_cases e : w = V
    · rw [e, pk_us]
    · rw [pk_un e]; exact a1 w (by omega)
  · rw [h5, fb_ct_succ, a2]
    by_cases c : s V = nn
    · rw [if_pos c, if_pos (by simp [c]), nI_1]
    · rw [if_neg c, if_neg (by simp [c]), Nat.add_zero]
  · have hV := hs V (Nat.le_refl V)
    rcases a3 with ⟨b1, b2, b3⟩ | ⟨b, b1, b2, b3, b4, b5⟩
    · rcases h67 with ⟨c1, c2, c3⟩ | ⟨c1, c2, c3⟩
      · rw [b1, oI_m1, oI_le hV.1 hV.2 (by omega) (by omega)] at c1
        exact Or.inl ⟨by rw [c3, b1], by rw [c2, b2], fun w hw => (Nat.lt_succ_iff_lt_or_eq.mp hw).elim (b3 w) (fun e => by rw [e]; exact c1)⟩
      · rw [b1, oI_m1, oI_le hV.1 hV.2 (by omega) (by omega)] at c1
        refine Or.inr ⟨V, by omega, c2, c3, by omega, fun w hw => ?_⟩
        rcases Nat.lt_succ_iff_lt_or_eq.mp hw with q | q
        · have := b3 w q; exact ⟨by omega, fun _ => by omega⟩
        · rw [q]; exact ⟨by omega, fun h => by omega⟩
    · have hb := hs b (by omega)
      rcases h67 with ⟨c1, c2, c3⟩ | ⟨c1, c2, c3⟩
      · rw [b3, oI_le hV.1 hV.2 hb.1 hb.2] at c1
        refine Or.inr ⟨b, by omega, by rw [c2, b2], by rw [c3, b3], b4, fun w hw => ?_⟩
        rcases Nat.lt_succ_iff_lt_or_eq.mp hw with q | q
        · exact b5 w q
        · rw [q]; exact ⟨c1, fun h => by omega⟩
      · rw [b3, oI_le hV.1 hV.2 hb.1 hb.2] at c1
        refine Or.inr ⟨V, by omega, c2, c3, by omega, fun w hw => ?_⟩
        rcases Nat.lt_succ_iff_lt_or_eq.mp hw with q | q
        · have := (b5 w q).1; exact ⟨by omega, fun _ => by omega⟩
        · rw [q]; exact ⟨by omega, fun h => by omega⟩
theorem KVs_0 {s : Nat → Int} {nn : Nat} {v sco : Nat → Int32} (h5 : v 5 = 0) (h6 : v 6 = -9) (h7 : v 7 = -1) : KVs s nn 0 v sco := ⟨fun w h => absurd h (Nat.not_lt_zero w), h5, Or.inl ⟨h7, h6, fun w h => absurd h (Nat.not_lt_zero w)⟩⟩
noncomputable def sV (vis pk xs ys hs zs : Nat → Int32) (be : Nat → Nat → Nat) (nb : Nat → Nat) (sl n nn : Nat) (lf : Int32) (w : Nat) : Int :=
  if pk (w / 64) = 0 then (sc (fun k p => decide (p < n) && fE (shB vis lf (w / 64)) (gstand xs ys hs (w / 64)) (be (w / 64)) zs nb sl k p (w % 64)) nn : Int) else -1
theorem sV_rng (vis pk xs ys hs zs : Nat → Int32) (be : Nat → Nat → Nat) (nb : Nat → Nat) (sl n nn : Nat) (lf : Int32) (hnn : nn ≤ 8) (w : Nat) : -1 ≤ sV vis pk xs ys hs zs be nb sl n nn lf w ∧ sV vis pk xs ys hs zs be nb sl n nn lf w ≤ 8 := by
  unfold sV
  split
  · have := sc_le (fun k p => decide (p < n) && fE (shB vis lf (w / 64)) (gstand xs ys hs (w / 64)) (be (w / 64)) zs nb sl k p (w % 64)) nn
    omega
  · omega
theorem oI_nat (n : Nat) : Int32.ofInt (n : Int) = nI n := rfl
theorem sV_at {vis pk xs ys hs zs : Nat → Int32} {be : Nat → Nat → Nat} {nb : Nat → Nat} {sl n nn : Nat} {lf : Int32} {pt j : Nat} (hj : j < 64) (h : pk pt = 0) : sV vis pk xs ys hs zs be nb sl n nn lf (pt * 64 + j) = (sc (fun k p => decide (p < n) && fE (shB vis lf pt) (gstand xs ys hs pt) (be pt) zs nb sl k p j) nn : Int) := by
  unfold sV
  rw [show (pt * 64 + j) / 64 = pt by omega, show (pt * 64 + j) % 64 = j by omega, if_pos h]
theorem sV_no {vis pk xs ys hs zs : Nat → Int32} {be : Nat → Nat → Nat} {nb : Nat → Nat} {sl n nn : Nat} {lf : Int32} {pt j : Nat} (hj : j < 64) (h : ¬ pk pt = 0) : sV vis pk xs ys hs zs be nb sl n nn lf (pt * 64 + j) = -1 := by
  unfold sV
  rw [show (pt * 64 + j) / 64 = pt by omega, if_neg h]
abbrev rX6_standAt : Room := { frames := 3, cells := 0, slots := 0, locals := 67 }
set_option maxHeartbeats 4000000 in
set_option maxRecDepth 100000 in
theorem c_X6_standAt (l : Launch) (G : kG) (h : Nat) (v : Nat → Int32) (q : Nat → Nat) (lk : Nat → Int64) (v1 : Nat → Int32) (q1 : Nat → Nat) (xs : Nat → Int32) (ys : Nat → Int32) (hs : Nat → Int32) (vis : Nat → Int32) (v3 : Nat → Int32) (q3 : Nat → Nat) (bs : Nat → Int32) (zs : Nat → Int32) (be : Nat → Nat) (nb : Nat → Nat) (n : Nat) (nn : Nat) (sl : Nat) (pt : Nat) (lf : Int32) (hpt : pt < 64) (hn1 : v1 3 = nI n) (hn : n ≤ 10) (hsl : v1 7 = nI sl) (hsl3 : sl ≤ 3) (hn3 : v3 2 = nI nn) (hnn : nn ≤ 8) (hN : ∀ k, k < nn → bs k = nI (nb k) ∧ nb k < 64) (hB : ∀ p, p < n → gbear (gx xs pt p) (gy ys pt p) = nI (be p) ∧ be p < 64) : Cl l G yX6_standAt wsX6_standAt rX6_standAt [.ref h, .int (nI pt), .int lf] [oB h 6 (oF6 v q), aJ G (q 8) 80 lk, oB (q 0) 1 (oF1 v1 q1), aI G (q1 0) 10 xs, aI G (q1 1) 10 ys, aI G (q1 2) 10 hs, aI G (q1 9) 64 vis, oB (q 1) 3 (oF3 v3 q3), aI G (q3 0) 8 bs, aI G (q3 1) 8 zs] (fun r (u : Nat → Int64) => ∀ j, j < 64 → lb r j = anyB (fun p => anyB (fun k => fE (shB vis lf pt) (gstand xs ys hs pt) be zs nb sl k p j) nn) n ∧ ∀ k p, k < nn → p < n → lb (u (k * 10 + p)) j = fE (shB vis lf pt) (gstand xs ys hs pt) be zs nb sl k p j) (fun u => [oB h 6 (oF6 v q), aJ G (q 8) 80 u, oB (q 0) 1 (oF1 v1 q1), aI G (q1 0) 10 xs, aI G (q1 1) 10 ys, aI G (q1 2) 10 hs, aI G (q1 9) 64 vis, oB (q 1) 3 (oF3 v3 q3), aI G (q3 0) 8 bs, aI G (q3 1) 8 zs]) := by
  refine Cl.of (cc := cX6_standAt) (maxL := 14) (by decide) rfl (Nat.le_of_ble_eq_true rfl) ?_
  intro pM eM sM mM bM tM cM Q A hx hb hts hown hml hA hK hP hD hS hret ls hl
  have hown : sM.vm.findClass RX6 = some mM.cls := hown
  have hl : lv_has ls 14 [(0, .ref h), (1, .int (nI pt)), (2, .int lf)] := hl
  have hin1 : ∀ w ∈ u_ws RX1 TX1 11, w ∈ wsX6_standAt := by decide +kernel
  have hin3 : ∀ w ∈ u_ws RX3 TX3 3, w ∈ wsX6_standAt := by decide +kernel
  have hin6 : ∀ w ∈ u_ws RX6 TX6 10, w ∈ wsX6_standAt := by decide +kernel
  have f29 := hts (.fieldLink RX6 29 "HorizonPeaks$Views" "land" "LHorizonPeaks$Land;") (by decide +kernel)
  have f37 := hts (.fieldLink RX6 37 "HorizonPeaks$Land" "inSight" "[I") (by decide +kernel)
  have f42 := hts (.fieldLink RX6 42 "HorizonPeaks$Land" "peaks" "I") (by decide +kernel)
  have f33 := hts (.fieldLink RX6 33 "HorizonPeaks$Views" "notches" "LHorizonPeaks$Notches;") (by decide +kernel)
  have f53 := hts (.fieldLink RX6 53 "HorizonPeaks$Notches" "size" "I") (by decide +kernel)
  have f58 := hts (.fieldLink RX6 58 "HorizonPeaks$Notches" "heights" "[I") (by decide +kernel)
  have f67 := hts (.fieldLink RX6 67 "HorizonPeaks$Land" "slack" "I") (by decide +kernel)
  have f70 := hts (.fieldLink RX6 70 "HorizonPeaks$Notches" "bearings" "[I") (by decide +kernel)
  have f22 := hts (.fieldLink RX6 22 "HorizonPeaks$Views" "looks" "[J") (by decide +kernel)
  refine lv_lconst (v := 0) hx hb dX6_standAt_0 (by decide) ?_
  refine lv_lstore_n (lv' := [(3, .long 0), (0, .ref h), (1, .int (nI pt)), (2, .int lf)]) hx hb dX6_standAt_1 rfl hl (by decide) rfl (fun ls hl => ?_)
  refine lv_aload_n hx hb dX6_standAt_2 rfl (lv_at hl 1 rfl) ?_
  refine va_get (D := G.1) (ci := 6) (v := .ref (q 0)) (C := RX6) (T := TX6) (N := 10) hx hb hts hin6 hown hK.1 hP 0 rfl rfl 0 (by decide) f29 (fun _ h9 => h9) rfl dX6_standAt_3 ?_
  refine va_get (D := G.1) (ci := 1) (v := .ref (q1 9)) (C := RX1) (T := TX1) (N := 11) hx hb hts hin1 hown hK.1 hP 2 rfl rfl 9 (by decide) f37 (fun _ h9 => h9) rfl dX6_standAt_6 ?_
  refine lv_iload_n hx hb dX6_standAt_9 rfl (lv_at hl 2 rfl) ?_
  refine al_i hx hb hK.1 hP 6 0 rfl rfl (j := pt) (by omega) (Nat.le_of_ble_eq_true rfl) dX6_standAt_10 ?_
  refine lv_iload_n hx hb dX6_standAt_11 rfl (lv_at hl 3 rfl) ?_
  refine lv_iand hx hb dX6_standAt_12 ?_
  refine lv_istore (lv' := [(5, .int ((vis pt) &&& lf)), (3, .long 0), (0, .ref h), (1, .int (nI pt)), (2, .int lf)]) hx hb dX6_standAt_13 hl (by decide) rfl (fun ls hl => ?_)
  refine lv_iconst (v := 0) hx hb dX6_standAt_15 (by decide) ?_
  refine lv_istore (lv' := [(6, .int 0), (5, .int ((vis pt) &&& lf)), (3, .long 0), (0, .ref h), (1, .int (nI pt)), (2, .int lf)]) hx hb dX6_standAt_16 hl (by decide) rfl (fun ls hl => ?_)
  have loop_18 : ∀ (nF : Nat) (z : Int64) (lk1 : Nat → Int64) (p : Nat), (n - p) < nF → (p ≤ n) → (∀ j, j < 64 → lb z j = anyB (fun p => anyB (fun k => fE (shB vis lf pt) (gstand xs ys hs pt) be zs nb sl k p j) nn) p) → (∀ a b, a < nn → b < p → ∀ j, j < 64 → lb (lk1 (a * 10 + b)) j = fE (shB vis lf pt) (gstand xs ys hs pt) be zs nb sl a b j) → ∀ (H : Heap) (locs : List Loc), va_P G.1 vwCl [oB h 6 (oF6 v q), aJ G (q 8) 80 lk1, oB (q 0) 1 (oF1 v1 q1), aI G (q1 0) 10 xs, aI G (q1 1) 10 ys, aI G (q1 2) 10 hs, aI G (q1 9) 64 vis, oB (q 1) 3 (oF3 v3 q3), aI G (q3 0) 8 bs, aI G (q3 1) 8 zs] H → va_D A [oB h 6 (oF6 v q), aJ G (q 8) 80 lk1, oB (q 0) 1 (oF1 v1 q1), aI G (q1 0) 10 xs, aI G (q1 1) 10 ys, aI G (q1 2) 10 hs, aI G (q1 9) 64 vis, oB (q 1) 3 (oF3 v3 q3), aI G (q3 0) 8 bs, aI G (q3 1) 8 zs] → va_S A sM.heap H locs → ∀ (ls : Array Slot), lv_has ls 14 [(6, .int (nI p)), (5, .int ((vis pt) &&& lf)), (3, .long z), (0, .ref h), (1, .int (nI pt)), (2, .int lf)] → W pM l eM rX6_standAt sM mM [.ref h, .int (nI pt), .int lf].toArray bM tM cM H locs 0 0 Q (F0 mM 18 ls []) := by
    intro nF
    induction nF with
    | zero => intro z lk1 p hmF; exact absurd hmF (Nat.not_lt_zero _)
    | succ nF ih18 =>
      intro z lk1 p hmF hp hz hl1 H locs hP hD hS ls hl
      refine lv_iload hx hb dX6_standAt_18 (lv_at hl 0 rfl) ?_
      refine lv_aload_n hx hb dX6_standAt_20 rfl (lv_at hl 3 rfl) ?_
      refine va_get (D := G.1) (ci := 6) (v := .ref (q 0)) (C := RX6) (T := TX6) (N := 10) hx hb hts hin6 hown hK.1 hP 0 rfl rfl 0 (by decide) f29 (fun _ h9 => h9) rfl dX6_standAt_21 ?_
      refine va_get (D := G.1) (ci := 1) (v := .int (v1 3)) (C := RX1) (T := TX1) (N := 11) hx hb hts hin1 hown hK.1 hP 2 rfl rfl 3 (by decide) f42 (fun _ h9 => h9) rfl dX6_standAt_24 ?_
      refine top_i (y := nI n) (hn1) ?_
      refine lv_icmp_ge (tgt := 202) hx hb dX6_standAt_27 (by decide) (fun c_27 => ?_) (fun c_27 => ?_)
      · have c_27 : n ≤ p := (c_le (a := n) (b := p) rfl rfl (by omega) (by omega)).mp c_27
        refine lv_lload_n hx hb dX6_standAt_202 rfl (lv_at hl 2 rfl) ?_
        have hpost : ∀ j, j < 64 → lb z j = anyB (fun p => anyB (fun k => fE (shB vis lf pt) (gstand xs ys hs pt) be zs nb sl k p j) nn) n ∧ ∀ k p, k < nn → p < n → lb (lk1 (k * 10 + p)) j = fE (shB vis lf pt) (gstand xs ys hs pt) be zs nb sl k p j := by
          have e : p = n := by omega
          subst e
          exact fun j hj => ⟨hz j hj, fun k p hk hp => hl1 k p hk hp j hj⟩
        exact hret _ lk1 _ _ _ _ (hpost) hP hD hS dX6_standAt_203
      · have c_27 : ¬ n ≤ p := fun hne => c_27 ((c_le (a := n) (b := p) rfl rfl (by omega) (by omega)).mpr hne)
        refine lv_iload hx hb dX6_standAt_30 (lv_at hl 1 rfl) ?_
        refine lv_iload hx hb dX6_standAt_32 (lv_at hl 0 rfl) ?_
        refine lv_ishr hx hb dX6_standAt_34 ?_
        refine lv_iconst (v := 1) hx hb dX6_standAt_35 (by decide) ?_
        refine lv_iand hx hb dX6_standAt_36 ?_
        refine lv_if_eq (tgt := 44) hx hb dX6_standAt_37 (by decide) (fun c_37 => ?_) (fun c_37 => ?_)
        · refine lv_iconst (v := 0) hx hb dX6_standAt_44 (by decide) ?_
          refine lv_istore (lv' := [(7, .int 0), (6, .int (nI p)), (5, .int ((vis pt) &&& lf)), (3, .long z), (0, .ref h), (1, .int (nI pt)), (2, .int lf)]) hx hb dX6_standAt_45 hl (by decide) rfl (fun ls hl => ?_)
          refine lv_iload hx hb dX6_standAt_47 (lv_at hl 0 rfl) ?_
          refine lv_if_eq (tgt := 65) hx hb dX6_standAt_49 (by decide) (fun c_49 => ?_) (fun c_49 => ?_)
          · refine lv_iconst (v := 0) hx hb dX6_standAt_65 (by decide) ?_
            refine lv_istore (lv' := [(8, .int 0), (7, .int 0), (6, .int (nI p)), (5, .int ((vis pt) &&& lf)), (3, .long z), (0, .ref h), (1, .int (nI pt)), (2, .int lf)]) hx hb dX6_standAt_66 hl (by decide) rfl (fun ls hl => ?_)
            refine lv_iload hx hb dX6_standAt_68 (lv_at hl 1 rfl) ?_
            refine lv_if_eq (tgt := 86) hx hb dX6_standAt_70 (by decide) (fun c_70 => ?_) (fun c_70 => ?_)
            · refine lv_iconst (v := 0) hx hb dX6_standAt_86 (by decide) ?_
              refine lv_istore (lv' := [(9, .int 0), (8, .int 0), (7, .int 0), (6, .int (nI p)), (5, .int ((vis pt) &&& lf)), (3, .long z), (0, .ref h), (1, .int (nI pt)), (2, .int lf)]) hx hb dX6_standAt_87 hl (by decide) rfl (fun ls hl => ?_)
              refine lv_iconst (v := 0) hx hb dX6_standAt_89 (by decide) ?_
              refine lv_istore (lv' := [(10, .int 0), (9, .int 0), (8, .int 0), (7, .int 0), (6, .int (nI p)), (5, .int ((vis pt) &&& lf)), (3, .long z), (0, .ref h), (1, .int (nI pt)), (2, .int lf)]) hx hb dX6_standAt_90 hl (by decide) rfl (fun ls hl => ?_)
              have loop_92 : ∀ (nF : Nat) (z2 : Int64) (lk2 : Nat → Int64) (k : Nat), (nn - k) < nF → (k ≤ nn) → (∀ j, j < 64 → lb z2 j = (anyB (fun p => anyB (fun k => fE (shB vis lf pt) (gstand xs ys hs pt) be zs nb sl k p j) nn) p || anyB (fun k => fE (shB vis lf pt) (gstand xs ys hs pt) be zs nb sl k p j) k)) → (∀ a b, a < nn → b < p → ∀ j, j < 64 → lb (lk2 (a * 10 + b)) j = fE (shB vis lf pt) (gstand xs ys hs pt) be zs nb sl a b j) → (∀ a, a < k → ∀ j, j < 64 → lb (lk2 (a * 10 + p)) j = fE (shB vis lf pt) (gstand xs ys hs pt) be zs nb sl a p j) → ∀ (H : Heap) (locs : List Loc), va_P G.1 vwCl [oB h 6 (oF6 v q), aJ G (q 8) 80 lk2, oB (q 0) 1 (oF1 v1 q1), aI G (q1 0) 10 xs, aI G (q1 1) 10 ys, aI G (q1 2) 10 hs, aI G (q1 9) 64 vis, oB (q 1) 3 (oF3 v3 q3), aI G (q3 0) 8 bs, aI G (q3 1) 8 zs] H → va_D A [oB h 6 (oF6 v q), aJ G (q 8) 80 lk2, oB (q 0) 1 (oF1 v1 q1), aI G (q1 0) 10 xs, aI G (q1 1) 10 ys, aI G (q1 2) 10 hs, aI G (q1 9) 64 vis, oB (q 1) 3 (oF3 v3 q3), aI G (q3 0) 8 bs, aI G (q3 1) 8 zs] → va_S A sM.heap H locs → ∀ (ls : Array Slot), lv_has ls 14 [(10, .int (nI k)), (9, .int 0), (8, .int 0), (7, .int 0), (6, .int (nI p)), (5, .int ((vis pt) &&& lf)), (3, .long z2), (0, .ref h), (1, .int (nI pt)), (2, .int lf)] → W pM l eM rX6_standAt sM mM [.ref h, .int (nI pt), .int lf].toArray bM tM cM H locs 0 0 Q (F0 mM 92 ls []) := by
                intro nF
                induction nF with
                | zero => intro z2 lk2 k hmF; exact absurd hmF (Nat.not_lt_zero _)
                | succ nF ih92 =>
                  intro z2 lk2 k hmF hk hz2 hl2 hl3 H locs hP hD hS ls hl
                  refine lv_iload hx hb dX6_standAt_92 (lv_at hl 0 rfl) ?_
                  refine lv_aload_n hx hb dX6_standAt_94 rfl (lv_at hl 7 rfl) ?_
                  refine va_get (D := G.1) (ci := 6) (v := .ref (q 1)) (C := RX6) (T := TX6) (N := 10) hx hb hts hin6 hown hK.1 hP 0 rfl rfl 1 (by decide) f33 (fun _ h9 => h9) rfl dX6_standAt_95 ?_
                  refine va_get (D := G.1) (ci := 3) (v := .int (v3 2)) (C := RX3) (T := TX3) (N := 3) hx hb hts hin3 hown hK.1 hP 7 rfl rfl 2 (by decide) f53 (fun _ h9 => h9) rfl dX6_standAt_98 ?_
                  refine top_i (y := nI nn) (hn3) ?_
                  refine lv_icmp_ge (tgt := 196) hx hb dX6_standAt_101 (by decide) (fun c_101 => ?_) (fun c_101 => ?_)
                  · have c_101 : nn ≤ k := (c_le (a := nn) (b := k) rfl rfl (by omega) (by omega)).mp c_101
                    refine lv_iinc (v := nI (p + 1)) (lv' := [(6, .int (nI (p + 1))), (10, .int (nI k)), (9, .int 0), (8, .int 0), (7, .int 0), (5, .int ((vis pt) &&& lf)), (3, .long z2), (0, .ref h), (1, .int (nI pt)), (2, .int lf)]) hx hb dX6_standAt_196 hl (k := 4) rfl (inc_nI _ 1) (by decide) rfl (fun ls hl => ?_)
                    refine lv_goto (tgt := 18) hx hb dX6_standAt_199 (by decide) ?_
                    exact ih18 z2 lk2 (p + 1) (by omega) (by omega) (fun j hj => by rw [hz2 j hj, show k = nn by omega]; rfl) (fun a b ha hb j hj => if e : b = p then by rw [e]; exact hl3 a (by omega) j hj else hl2 a b ha (by omega) j hj) _ _ hP hD hS _ (lv_sub hl [0, 5, 6, 7, 8, 9] rfl)
                  · have c_101 : ¬ nn ≤ k := fun hne => c_101 ((c_le (a := nn) (b := k) rfl rfl (by omega) (by omega)).mpr hne)
                    refine lv_iload hx hb dX6_standAt_104 (lv_at hl 3 rfl) ?_
                    refine lv_if_eq (tgt := 139) hx hb dX6_standAt_106 (by decide) (fun c_106 => ?_) (fun c_106 => ?_)
                    · refine lv_iconst (v := 0) hx hb dX6_standAt_139 (by decide) ?_
                      refine lv_istore (lv' := [(11, .int 0), (10, .int (nI k)), (9, .int 0), (8, .int 0), (7, .int 0), (6, .int (nI p)), (5, .int ((vis pt) &&& lf)), (3, .long z2), (0, .ref h), (1, .int (nI pt)), (2, .int lf)]) hx hb dX6_standAt_140 hl (by decide) rfl (fun ls hl => ?_)
                      refine lv_iload hx hb dX6_standAt_142 (lv_at hl 0 rfl) ?_
                      refine lv_if_eq (tgt := 167) hx hb dX6_standAt_144 (by decide) (fun c_144 => ?_) (fun c_144 => ?_)
                      · refine lv_lconst (v := 0) hx hb dX6_standAt_167 (by decide) ?_
                        refine lv_lstore (lv' := [(12, .long 0), (11, .int 0), (10, .int (nI k)), (9, .int 0), (8, .int 0), (7, .int 0), (6, .int (nI p)), (5, .int ((vis pt) &&& lf)), (3, .long z2), (0, .ref h), (1, .int (nI pt)), (2, .int lf)]) hx hb dX6_standAt_168 hl (by decide) rfl (fun ls hl => ?_)
                        refine lv_aload_n hx hb dX6_standAt_170 rfl (lv_at hl 9 rfl) ?_
                        refine va_get (D := G.1) (ci := 6) (v := .ref (q 8)) (C := RX6) (T := TX6) (N := 10) hx hb hts hin6 hown hK.1 hP 0 rfl rfl 8 (by decide) f22 (fun _ h9 => h9) rfl dX6_standAt_171 ?_
                        refine lv_iload hx hb dX6_standAt_174 (lv_at hl 2 rfl) ?_
                        refine lv_bipush (v := 10) hx hb dX6_standAt_176 (by decide) ?_
                        refine lv_imul hx hb dX6_standAt_178 ?_
                        refine lv_iload hx hb dX6_standAt_179 (lv_at hl 6 rfl) ?_
                        refine lv_iadd hx hb dX6_standAt_181 ?_
                        refine top_i (y := nI (k * 10 + p)) (mul10 k p) ?_
                        refine lv_lload hx hb dX6_standAt_182 (lv_at hl 0 rfl) ?_
                        refine as_l hx hb hK.1 hP hD hS 1 1 rfl rfl (j := k * 10 + p) (by omega) (Nat.le_of_ble_eq_true rfl) dX6_standAt_184 (fun H locs hP hD hS => ?_)
                        have hP : va_P G.1 vwCl [oB h 6 (oF6 v q), aJ G (q 8) 80 (vp_updL lk2 (k * 10 + p) 0), oB (q 0) 1 (oF1 v1 q1), aI G (q1 0) 10 xs, aI G (q1 1) 10 ys, aI G (q1 2) 10 hs, aI G (q1 9) 64 vis, oB (q 1) 3 (oF3 v3 q3), aI G (q3 0) 8 bs, aI G (q3 1) 8 zs] H := hP
                        have hD : va_D A [oB h 6 (oF6 v q), aJ G (q 8) 80 (vp_updL lk2 (k * 10 + p) 0), oB (q 0) 1 (oF1 v1 q1), aI G (q1 0) 10 xs, aI G (q1 1) 10 ys, aI G (q1 2) 10 hs, aI G (q1 9) 64 vis, oB (q 1) 3 (oF3 v3 q3), aI G (q3 0) 8 bs, aI G (q3 1) 8 zs] := hD
                        refine lv_lload_n hx hb dX6_standAt_185 rfl (lv_at hl 8 rfl) ?_
                        refine lv_lload hx hb dX6_standAt_186 (lv_at hl 0 rfl) ?_
                        refine lv_lor hx hb dX6_standAt_188 ?_
                        refine lv_lstore_n (lv' := [(3, .long (z2 ||| 0)), (12, .long 0), (11, .int 0), (10, .int (nI k)), (9, .int 0), (8, .int 0), (7, .int 0), (6, .int (nI p)), (5, .int ((vis pt) &&& lf)), (0, .ref h), (1, .int (nI pt)), (2, .int lf)]) hx hb dX6_standAt_189 rfl hl (by decide) rfl (fun ls hl => ?_)
                        refine lv_iinc (v := nI (k + 1)) (lv' := [(10, .int (nI (k + 1))), (3, .long (z2 ||| 0)), (12, .long 0), (11, .int 0), (9, .int 0), (8, .int 0), (7, .int 0), (6, .int (nI p)), (5, .int ((vis pt) &&& lf)), (0, .ref h), (1, .int (nI pt)), (2, .int lf)]) hx hb dX6_standAt_190 hl (k := 3) rfl (inc_nI _ 1) (by decide) rfl (fun ls hl => ?_)
                        refine lv_goto (tgt := 92) hx hb dX6_standAt_193 (by decide) ?_
                        have hX : ∀ j, j < 64 → lb (0) j = fE (shB vis lf pt) (gstand xs ys hs pt) be zs nb sl k p j := fun j hj => by rw [fE_ns (by simp [shB, c_37]), lb_0]
                        exact ih92 (z2 ||| 0) (vp_updL lk2 (k * 10 + p) 0) (k + 1) (by omega) (by omega) (fun j hj => by rw [lb_or, hz2 j hj, hX j hj, anyB, Bool.or_assoc]) (fun a b ha hb j hj => st_old (by omega) (hl2 a b ha hb j hj)) (fun a ha j hj => if e : a = k then by rw [e]; exact st_new (g := fun k p => fE (shB vis lf pt) (gstand xs ys hs pt) be zs nb sl k p j) (hX j hj) else st_old (by omega) (hl3 a (by omega) j hj)) _ _ hP hD hS _ (lv_sub hl [0, 4, 5, 6, 7, 8, 1, 9, 10, 11] rfl)
                      · exfalso
                        revert c_144
                        decide
                    · exfalso
                      revert c_106
                      decide
              exact loop_92 _ z lk1 0 (Nat.lt_succ_self _) (Nat.zero_le _) (fun j hj => by rw [hz j hj]; exact (Bool.or_false _).symm) (hl1) (fun a ha => absurd ha (Nat.not_lt_zero a)) _ _ hP hD hS _ (lv_sub hl [0, 1, 2, 3, 4, 5, 6, 7, 8, 9] rfl)
            · exfalso
              revert c_70
              decide
          · exfalso
            revert c_49
            decide
        · refine lv_iconst (v := 1) hx hb dX6_standAt_40 (by decide) ?_
          refine lv_goto (tgt := 45) hx hb dX6_standAt_41 (by decide) ?_
          refine lv_istore (lv' := [(7, .int 1), (6, .int (nI p)), (5, .int ((vis pt) &&& lf)), (3, .long z), (0, .ref h), (1, .int (nI pt)), (2, .int lf)]) hx hb dX6_standAt_45 hl (by decide) rfl (fun ls hl => ?_)
          refine lv_iload hx hb dX6_standAt_47 (lv_at hl 0 rfl) ?_
          refine lv_if_eq (tgt := 65) hx hb dX6_standAt_49 (by decide) (fun c_49 => ?_) (fun c_49 => ?_)
          · exfalso
            revert c_49
            decide
          · refine lv_aload_n hx hb dX6_standAt_52 rfl (lv_at hl 4 rfl) ?_
            refine va_get (D := G.1) (ci := 6) (v := .ref (q 0)) (C := RX6) (T := TX6) (N := 10) hx hb hts hin6 hown hK.1 hP 0 rfl rfl 0 (by decide) f29 (fun _ h9 => h9) rfl dX6_standAt_53 ?_
            refine lv_iload_n hx hb dX6_standAt_56 rfl (lv_at hl 5 rfl) ?_
            refine lv_iload hx hb dX6_standAt_57 (lv_at hl 1 rfl) ?_
            refine rd_i (va_runV (As := [.int (nI pt), .int (nI p)]) (rest := []) ⟨hx, hb, hml, hown, hts⟩ (c_X1_bearingFrom l G (q 0) v1 q1 xs ys pt p (hpt) (by omega)) (cwV 2 hts gX6_standAt_X1_bearingFrom rfl rfl rfl (by decide +kernel) ⟨Nat.le_of_ble_eq_true rfl, Nat.le_of_ble_eq_true rfl⟩) (rPre_V hK hP [2, 3, 4] rfl 0 1 rfl rfl) rfl rfl hl.1 rfl (lv_room (Nat.le_of_ble_eq_true rfl)) dX6_standAt_59 ⟨Nat.zero_le _, Nat.zero_le _⟩) (fun r_59 q_59 => ?_)
            obtain rfl : r_59 = gbear (gx xs pt p) (gy ys pt p) := q_59
            refine top_i (y := nI (be p)) ((hB p (by omega)).1) ?_
            refine lv_goto (tgt := 66) hx hb dX6_standAt_62 (by decide) ?_
            refine lv_istore (lv' := [(8, .int (nI (be p))), (7, .int 1), (6, .int (nI p)), (5, .int ((vis pt) &&& lf)), (3, .long z), (0, .ref h), (1, .int (nI pt)), (2, .int lf)]) hx hb dX6_standAt_66 hl (by decide) rfl (fun ls hl => ?_)
            refine lv_iload hx hb dX6_standAt_68 (lv_at hl 1 rfl) ?_
            refine lv_if_eq (tgt := 86) hx hb dX6_standAt_70 (by decide) (fun c_70 => ?_) (fun c_70 => ?_)
            · exfalso
              revert c_70
              decide
            · refine lv_aload_n hx hb dX6_standAt_73 rfl (lv_at hl 5 rfl) ?_
              refine va_get (D := G.1) (ci := 6) (v := .ref (q 0)) (C := RX6) (T := TX6) (N := 10) hx hb hts hin6 hown hK.1 hP 0 rfl rfl 0 (by decide) f29 (fun _ h9 => h9) rfl dX6_standAt_74 ?_
              refine lv_iload_n hx hb dX6_standAt_77 rfl (lv_at hl 6 rfl) ?_
              refine lv_iload hx hb dX6_standAt_78 (lv_at hl 2 rfl) ?_
              refine rd_i (va_runV (As := [.int (nI pt), .int (nI p)]) (rest := []) ⟨hx, hb, hml, hown, hts⟩ (c_X1_heightFrom l G (q 0) v1 q1 xs ys hs pt p (hpt) (by omega)) (cwV 2 hts gX6_standAt_X1_heightFrom rfl rfl rfl (by decide +kernel) ⟨Nat.le_of_ble_eq_true rfl, Nat.le_of_ble_eq_true rfl⟩) (rPre_V hK hP [2, 3, 4, 5] rfl 0 1 rfl rfl) rfl rfl hl.1 rfl (lv_room (Nat.le_of_ble_eq_true rfl)) dX6_standAt_80 ⟨Nat.zero_le _, Nat.zero_le _⟩) (fun r_80 q_80 => ?_)
              obtain rfl : r_80 = gstand xs ys hs pt p := q_80
              refine lv_goto (tgt := 87) hx hb dX6_standAt_83 (by decide) ?_
              refine lv_istore (lv' := [(9, .int (gstand xs ys hs pt p)), (8, .int (nI (be p))), (7, .int 1), (6, .int (nI p)), (5, .int ((vis pt) &&& lf)), (3, .long z), (0, .ref h), (1, .int (nI pt)), (2, .int lf)]) hx hb dX6_standAt_87 hl (by decide) rfl (fun ls hl => ?_)
              refine lv_iconst (v := 0) hx hb dX6_standAt_89 (by decide) ?_
              refine lv_istore (lv' := [(10, .int 0), (9, .int (gstand xs ys hs pt p)), (8, .int (nI (be p))), (7, .int 1), (6, .int (nI p)), (5, .int ((vis pt) &&& lf)), (3, .long z), (0, .ref h), (1, .int (nI pt)), (2, .int lf)]) hx hb dX6_standAt_90 hl (by decide) rfl (fun ls hl => ?_)
              have loop_92 : ∀ (nF : Nat) (z2 : Int64) (lk2 : Nat → Int64) (k : Nat), (nn - k) < nF → (k ≤ nn) → (∀ j, j < 64 → lb z2 j = (anyB (fun p => anyB (fun k => fE (shB vis lf pt) (gstand xs ys hs pt) be zs nb sl k p j) nn) p || anyB (fun k => fE (shB vis lf pt) (gstand xs ys hs pt) be zs nb sl k p j) k)) → (∀ a b, a < nn → b < p → ∀ j, j < 64 → lb (lk2 (a * 10 + b)) j = fE (shB vis lf pt) (gstand xs ys hs pt) be zs nb sl a b j) → (∀ a, a < k → ∀ j, j < 64 → lb (lk2 (a * 10 + p)) j = fE (shB vis lf pt) (gstand xs ys hs pt) be zs nb sl a p j) → ∀ (H : Heap) (locs : List Loc), va_P G.1 vwCl [oB h 6 (oF6 v q), aJ G (q 8) 80 lk2, oB (q 0) 1 (oF1 v1 q1), aI G (q1 0) 10 xs, aI G (q1 1) 10 ys, aI G (q1 2) 10 hs, aI G (q1 9) 64 vis, oB (q 1) 3 (oF3 v3 q3), aI G (q3 0) 8 bs, aI G (q3 1) 8 zs] H → va_D A [oB h 6 (oF6 v q), aJ G (q 8) 80 lk2, oB (q 0) 1 (oF1 v1 q1), aI G (q1 0) 10 xs, aI G (q1 1) 10 ys, aI G (q1 2) 10 hs, aI G (q1 9) 64 vis, oB (q 1) 3 (oF3 v3 q3), aI G (q3 0) 8 bs, aI G (q3 1) 8 zs] → va_S A sM.heap H locs → ∀ (ls : Array Slot), lv_has ls 14 [(10, .int (nI k)), (9, .int (gstand xs ys hs pt p)), (8, .int (nI (be p))), (7, .int 1), (6, .int (nI p)), (5, .int ((vis pt) &&& lf)), (3, .long z2), (0, .ref h), (1, .int (nI pt)), (2, .int lf)] → W pM l eM rX6_standAt sM mM [.ref h, .int (nI pt), .int lf].toArray bM tM cM H locs 0 0 Q (F0 mM 92 ls []) := by
                intro nF
                induction nF with
                | zero => intro z2 lk2 k hmF; exact absurd hmF (Nat.not_lt_zero _)
                | succ nF ih92 =>
                  intro z2 lk2 k hmF hk hz2 hl2 hl3 H locs hP hD hS ls hl
                  refine lv_iload hx hb dX6_standAt_92 (lv_at hl 0 rfl) ?_
                  refine lv_aload_n hx hb dX6_standAt_94 rfl (lv_at hl 7 rfl) ?_
                  refine va_get (D := G.1) (ci := 6) (v := .ref (q 1)) (C := RX6) (T := TX6) (N := 10) hx hb hts hin6 hown hK.1 hP 0 rfl rfl 1 (by decide) f33 (fun _ h9 => h9) rfl dX6_standAt_95 ?_
                  refine va_get (D := G.1) (ci := 3) (v := .int (v3 2)) (C := RX3) (T := TX3) (N := 3) hx hb hts hin3 hown hK.1 hP 7 rfl rfl 2 (by decide) f53 (fun _ h9 => h9) rfl dX6_standAt_98 ?_
                  refine top_i (y := nI nn) (hn3) ?_
                  refine lv_icmp_ge (tgt := 196) hx hb dX6_standAt_101 (by decide) (fun c_101 => ?_) (fun c_101 => ?_)
                  · have c_101 : nn ≤ k := (c_le (a := nn) (b := k) rfl rfl (by omega) (by omega)).mp c_101
                    refine lv_iinc (v := nI (p + 1)) (lv' := [(6, .int (nI (p + 1))), (10, .int (nI k)), (9, .int (gstand xs ys hs pt p)), (8, .int (nI (be p))), (7, .int 1), (5, .int ((vis pt) &&& lf)), (3, .long z2), (0, .ref h), (1, .int (nI pt)), (2, .int lf)]) hx hb dX6_standAt_196 hl (k := 4) rfl (inc_nI _ 1) (by decide) rfl (fun ls hl => ?_)
                    refine lv_goto (tgt := 18) hx hb dX6_standAt_199 (by decide) ?_
                    exact ih18 z2 lk2 (p + 1) (by omega) (by omega) (fun j hj => by rw [hz2 j hj, show k = nn by omega]; rfl) (fun a b ha hb j hj => if e : b = p then by rw [e]; exact hl3 a (by omega) j hj else hl2 a b ha (by omega) j hj) _ _ hP hD hS _ (lv_sub hl [0, 5, 6, 7, 8, 9] rfl)
                  · have c_101 : ¬ nn ≤ k := fun hne => c_101 ((c_le (a := nn) (b := k) rfl rfl (by omega) (by omega)).mpr hne)
                    refine lv_iload hx hb dX6_standAt_104 (lv_at hl 3 rfl) ?_
                    refine lv_if_eq (tgt := 139) hx hb dX6_standAt_106 (by decide) (fun c_106 => ?_) (fun c_106 => ?_)
                    · exfalso
                      revert c_106
                      decide
                    · refine lv_iload hx hb dX6_standAt_109 (lv_at hl 1 rfl) ?_
                      refine lv_aload_n hx hb dX6_standAt_111 rfl (lv_at hl 7 rfl) ?_
                      refine va_get (D := G.1) (ci := 6) (v := .ref (q 1)) (C := RX6) (T := TX6) (N := 10) hx hb hts hin6 hown hK.1 hP 0 rfl rfl 1 (by decide) f33 (fun _ h9 => h9) rfl dX6_standAt_112 ?_
                      refine va_get (D := G.1) (ci := 3) (v := .ref (q3 1)) (C := RX3) (T := TX3) (N := 3) hx hb hts hin3 hown hK.1 hP 7 rfl rfl 1 (by decide) f58 (fun _ h9 => h9) rfl dX6_standAt_115 ?_
                      refine lv_iload hx hb dX6_standAt_118 (lv_at hl 0 rfl) ?_
                      refine al_i hx hb hK.1 hP 9 0 rfl rfl (j := k) (by omega) (Nat.le_of_ble_eq_true rfl) dX6_standAt_120 ?_
                      refine lv_isub hx hb dX6_standAt_121 ?_
                      refine va_mabs hx hb (hml.trans hl.1.symm) hown (hts (.methodLink RX6 61 Lib.Math.abs.name) (by decide +kernel)) (hts (.static Lib.Math.abs.name) (by decide +kernel)) (hts (.initialized "java/lang/Math") (by decide +kernel)) (hts (.code Lib.Math.abs.name Lib.Math.abs.code 1 (some .int)) (by decide +kernel)) (Nat.le_of_ble_eq_true rfl) (Nat.le_of_ble_eq_true rfl) (Nat.zero_le _) (Nat.zero_le _) dX6_standAt_122 ?_
                      refine top_i (y := iabs ((gstand xs ys hs pt p) - (zs k))) rfl ?_
                      refine lv_aload_n hx hb dX6_standAt_125 rfl (lv_at hl 7 rfl) ?_
                      refine va_get (D := G.1) (ci := 6) (v := .ref (q 0)) (C := RX6) (T := TX6) (N := 10) hx hb hts hin6 hown hK.1 hP 0 rfl rfl 0 (by decide) f29 (fun _ h9 => h9) rfl dX6_standAt_126 ?_
                      refine va_get (D := G.1) (ci := 1) (v := .int (v1 7)) (C := RX1) (T := TX1) (N := 11) hx hb hts hin1 hown hK.1 hP 2 rfl rfl 7 (by decide) f67 (fun _ h9 => h9) rfl dX6_standAt_129 ?_
                      refine top_i (y := nI sl) (hsl) ?_
                      refine lv_icmp_gt (tgt := 139) hx hb dX6_standAt_132 (by decide) (fun c_132 => ?_) (fun c_132 => ?_)
                      · refine lv_iconst (v := 0) hx hb dX6_standAt_139 (by decide) ?_
                        refine lv_istore (lv' := [(11, .int 0), (10, .int (nI k)), (9, .int (gstand xs ys hs pt p)), (8, .int (nI (be p))), (7, .int 1), (6, .int (nI p)), (5, .int ((vis pt) &&& lf)), (3, .long z2), (0, .ref h), (1, .int (nI pt)), (2, .int lf)]) hx hb dX6_standAt_140 hl (by decide) rfl (fun ls hl => ?_)
                        refine lv_iload hx hb dX6_standAt_142 (lv_at hl 0 rfl) ?_
                        refine lv_if_eq (tgt := 167) hx hb dX6_standAt_144 (by decide) (fun c_144 => ?_) (fun c_144 => ?_)
                        · refine lv_lconst (v := 0) hx hb dX6_standAt_167 (by decide) ?_
                          refine lv_lstore (lv' := [(12, .long 0), (11, .int 0), (10, .int (nI k)), (9, .int (gstand xs ys hs pt p)), (8, .int (nI (be p))), (7, .int 1), (6, .int (nI p)), (5, .int ((vis pt) &&& lf)), (3, .long z2), (0, .ref h), (1, .int (nI pt)), (2, .int lf)]) hx hb dX6_standAt_168 hl (by decide) rfl (fun ls hl => ?_)
                          refine lv_aload_n hx hb dX6_standAt_170 rfl (lv_at hl 9 rfl) ?_
                          refine va_get (D := G.1) (ci := 6) (v := .ref (q 8)) (C := RX6) (T := TX6) (N := 10) hx hb hts hin6 hown hK.1 hP 0 rfl rfl 8 (by decide) f22 (fun _ h9 => h9) rfl dX6_standAt_171 ?_
                          refine lv_iload hx hb dX6_standAt_174 (lv_at hl 2 rfl) ?_
                          refine lv_bipush (v := 10) hx hb dX6_standAt_176 (by decide) ?_
                          refine lv_imul hx hb dX6_standAt_178 ?_
                          refine lv_iload hx hb dX6_standAt_179 (lv_at hl 6 rfl) ?_
                          refine lv_iadd hx hb dX6_standAt_181 ?_
                          refine top_i (y := nI (k * 10 + p)) (mul10 k p) ?_
                          refine lv_lload hx hb dX6_standAt_182 (lv_at hl 0 rfl) ?_
                          refine as_l hx hb hK.1 hP hD hS 1 1 rfl rfl (j := k * 10 + p) (by omega) (Nat.le_of_ble_eq_true rfl) dX6_standAt_184 (fun H locs hP hD hS => ?_)
                          have hP : va_P G.1 vwCl [oB h 6 (oF6 v q), aJ G (q 8) 80 (vp_updL lk2 (k * 10 + p) 0), oB (q 0) 1 (oF1 v1 q1), aI G (q1 0) 10 xs, aI G (q1 1) 10 ys, aI G (q1 2) 10 hs, aI G (q1 9) 64 vis, oB (q 1) 3 (oF3 v3 q3), aI G (q3 0) 8 bs, aI G (q3 1) 8 zs] H := hP
                          have hD : va_D A [oB h 6 (oF6 v q), aJ G (q 8) 80 (vp_updL lk2 (k * 10 + p) 0), oB (q 0) 1 (oF1 v1 q1), aI G (q1 0) 10 xs, aI G (q1 1) 10 ys, aI G (q1 2) 10 hs, aI G (q1 9) 64 vis, oB (q 1) 3 (oF3 v3 q3), aI G (q3 0) 8 bs, aI G (q3 1) 8 zs] := hD
                          refine lv_lload_n hx hb dX6_standAt_185 rfl (lv_at hl 8 rfl) ?_
                          refine lv_lload hx hb dX6_standAt_186 (lv_at hl 0 rfl) ?_
                          refine lv_lor hx hb dX6_standAt_188 ?_
                          refine lv_lstore_n (lv' := [(3, .long (z2 ||| 0)), (12, .long 0), (11, .int 0), (10, .int (nI k)), (9, .int (gstand xs ys hs pt p)), (8, .int (nI (be p))), (7, .int 1), (6, .int (nI p)), (5, .int ((vis pt) &&& lf)), (0, .ref h), (1, .int (nI pt)), (2, .int lf)]) hx hb dX6_standAt_189 rfl hl (by decide) rfl (fun ls hl => ?_)
                          refine lv_iinc (v := nI (k + 1)) (lv' := [(10, .int (nI (k + 1))), (3, .long (z2 ||| 0)), (12, .long 0), (11, .int 0), (9, .int (gstand xs ys hs pt p)), (8, .int (nI (be p))), (7, .int 1), (6, .int (nI p)), (5, .int ((vis pt) &&& lf)), (0, .ref h), (1, .int (nI pt)), (2, .int lf)]) hx hb dX6_standAt_190 hl (k := 3) rfl (inc_nI _ 1) (by decide) rfl (fun ls hl => ?_)
                          refine lv_goto (tgt := 92) hx hb dX6_standAt_193 (by decide) ?_
                          have hX : ∀ j, j < 64 → lb (0) j = fE (shB vis lf pt) (gstand xs ys hs pt) be zs nb sl k p j := fun j hj => by rw [fE_na c_132, lb_0]
                          exact ih92 (z2 ||| 0) (vp_updL lk2 (k * 10 + p) 0) (k + 1) (by omega) (by omega) (fun j hj => by rw [lb_or, hz2 j hj, hX j hj, anyB, Bool.or_assoc]) (fun a b ha hb j hj => st_old (by omega) (hl2 a b ha hb j hj)) (fun a ha j hj => if e : a = k then by rw [e]; exact st_new (g := fun k p => fE (shB vis lf pt) (gstand xs ys hs pt) be zs nb sl k p j) (hX j hj) else st_old (by omega) (hl3 a (by omega) j hj)) _ _ hP hD hS _ (lv_sub hl [0, 4, 5, 6, 7, 8, 1, 9, 10, 11] rfl)
                        · exfalso
                          revert c_144
                          decide
                      · refine lv_iconst (v := 1) hx hb dX6_standAt_135 (by decide) ?_
                        refine lv_goto (tgt := 140) hx hb dX6_standAt_136 (by decide) ?_
                        refine lv_istore (lv' := [(11, .int 1), (10, .int (nI k)), (9, .int (gstand xs ys hs pt p)), (8, .int (nI (be p))), (7, .int 1), (6, .int (nI p)), (5, .int ((vis pt) &&& lf)), (3, .long z2), (0, .ref h), (1, .int (nI pt)), (2, .int lf)]) hx hb dX6_standAt_140 hl (by decide) rfl (fun ls hl => ?_)
                        refine lv_iload hx hb dX6_standAt_142 (lv_at hl 0 rfl) ?_
                        refine lv_if_eq (tgt := 167) hx hb dX6_standAt_144 (by decide) (fun c_144 => ?_) (fun c_144 => ?_)
                        · exfalso
                          revert c_144
                          decide
                        · refine lv_aload_n hx hb dX6_standAt_147 rfl (lv_at hl 8 rfl) ?_
                          refine lv_iload hx hb dX6_standAt_148 (lv_at hl 3 rfl) ?_
                          refine lv_aload_n hx hb dX6_standAt_150 rfl (lv_at hl 8 rfl) ?_
                          refine va_get (D := G.1) (ci := 6) (v := .ref (q 1)) (C := RX6) (T := TX6) (N := 10) hx hb hts hin6 hown hK.1 hP 0 rfl rfl 1 (by decide) f33 (fun _ h9 => h9) rfl dX6_standAt_151 ?_
                          refine va_get (D := G.1) (ci := 3) (v := .ref (q3 0)) (C := RX3) (T := TX3) (N := 3) hx hb hts hin3 hown hK.1 hP 7 rfl rfl 0 (by decide) f70 (fun _ h9 => h9) rfl dX6_standAt_154 ?_
                          refine lv_iload hx hb dX6_standAt_157 (lv_at hl 1 rfl) ?_
                          refine al_i hx hb hK.1 hP 8 0 rfl rfl (j := k) (by omega) (Nat.le_of_ble_eq_true rfl) dX6_standAt_159 ?_
                          refine top_i (y := nI (nb k)) ((hN k (by omega)).1) ?_
                          refine lv_isub hx hb dX6_standAt_160 ?_
                          refine rd_l (va_runV (As := [.int ((nI (be p)) - (nI (nb k)))]) (rest := []) ⟨hx, hb, hml, hown, hts⟩ (c_X6_looksAbout l G h v q v1 q1 (be p) (nb k) sl (hsl) (hsl3) ((hB p (by omega)).2) ((hN k (by omega)).2)) (cwV 1 hts gX6_standAt_X6_looksAbout rfl rfl rfl (by decide +kernel) ⟨Nat.le_of_ble_eq_true rfl, Nat.le_of_ble_eq_true rfl⟩) (rPre_V hK hP [0, 2] rfl 0 6 rfl rfl) rfl rfl hl.1 rfl (lv_room (Nat.le_of_ble_eq_true rfl)) dX6_standAt_161 ⟨Nat.zero_le _, Nat.zero_le _⟩) (fun r_161 q_161 => ?_)
                          have q_161 : ∀ j, j < 64 → lb r_161 j = lkB (be p) (nb k) sl j := q_161
                          refine lv_goto (tgt := 168) hx hb dX6_standAt_164 (by decide) ?_
                          refine lv_lstore (lv' := [(12, .long r_161), (11, .int 1), (10, .int (nI k)), (9, .int (gstand xs ys hs pt p)), (8, .int (nI (be p))), (7, .int 1), (6, .int (nI p)), (5, .int ((vis pt) &&& lf)), (3, .long z2), (0, .ref h), (1, .int (nI pt)), (2, .int lf)]) hx hb dX6_standAt_168 hl (by decide) rfl (fun ls hl => ?_)
                          refine lv_aload_n hx hb dX6_standAt_170 rfl (lv_at hl 9 rfl) ?_
                          refine va_get (D := G.1) (ci := 6) (v := .ref (q 8)) (C := RX6) (T := TX6) (N := 10) hx hb hts hin6 hown hK.1 hP 0 rfl rfl 8 (by decide) f22 (fun _ h9 => h9) rfl dX6_standAt_171 ?_
                          refine lv_iload hx hb dX6_standAt_174 (lv_at hl 2 rfl) ?_
                          refine lv_bipush (v := 10) hx hb dX6_standAt_176 (by decide) ?_
                          refine lv_imul hx hb dX6_standAt_178 ?_
                          refine lv_iload hx hb dX6_standAt_179 (lv_at hl 6 rfl) ?_
                          refine lv_iadd hx hb dX6_standAt_181 ?_
                          refine top_i (y := nI (k * 10 + p)) (mul10 k p) ?_
                          refine lv_lload hx hb dX6_standAt_182 (lv_at hl 0 rfl) ?_
                          refine as_l hx hb hK.1 hP hD hS 1 1 rfl rfl (j := k * 10 + p) (by omega) (Nat.le_of_ble_eq_true rfl) dX6_standAt_184 (fun H locs hP hD hS => ?_)
                          have hP : va_P G.1 vwCl [oB h 6 (oF6 v q), aJ G (q 8) 80 (vp_updL lk2 (k * 10 + p) r_161), oB (q 0) 1 (oF1 v1 q1), aI G (q1 0) 10 xs, aI G (q1 1) 10 ys, aI G (q1 2) 10 hs, aI G (q1 9) 64 vis, oB (q 1) 3 (oF3 v3 q3), aI G (q3 0) 8 bs, aI G (q3 1) 8 zs] H := hP
                          have hD : va_D A [oB h 6 (oF6 v q), aJ G (q 8) 80 (vp_updL lk2 (k * 10 + p) r_161), oB (q 0) 1 (oF1 v1 q1), aI G (q1 0) 10 xs, aI G (q1 1) 10 ys, aI G (q1 2) 10 hs, aI G (q1 9) 64 vis, oB (q 1) 3 (oF3 v3 q3), aI G (q3 0) 8 bs, aI G (q3 1) 8 zs] := hD
                          refine lv_lload_n hx hb dX6_standAt_185 rfl (lv_at hl 8 rfl) ?_
                          refine lv_lload hx hb dX6_standAt_186 (lv_at hl 0 rfl) ?_
                          refine lv_lor hx hb dX6_standAt_188 ?_
                          refine lv_lstore_n (lv' := [(3, .long (z2 ||| r_161)), (12, .long r_161), (11, .int 1), (10, .int (nI k)), (9, .int (gstand xs ys hs pt p)), (8, .int (nI (be p))), (7, .int 1), (6, .int (nI p)), (5, .int ((vis pt) &&& lf)), (0, .ref h), (1, .int (nI pt)), (2, .int lf)]) hx hb dX6_standAt_189 rfl hl (by decide) rfl (fun ls hl => ?_)
                          refine lv_iinc (v := nI (k + 1)) (lv' := [(10, .int (nI (k + 1))), (3, .long (z2 ||| r_161)), (12, .long r_161), (11, .int 1), (9, .int (gstand xs ys hs pt p)), (8, .int (nI (be p))), (7, .int 1), (6, .int (nI p)), (5, .int ((vis pt) &&& lf)), (0, .ref h), (1, .int (nI pt)), (2, .int lf)]) hx hb dX6_standAt_190 hl (k := 3) rfl (inc_nI _ 1) (by decide) rfl (fun ls hl => ?_)
                          refine lv_goto (tgt := 92) hx hb dX6_standAt_193 (by decide) ?_
                          have hX : ∀ j, j < 64 → lb (r_161) j = fE (shB vis lf pt) (gstand xs ys hs pt) be zs nb sl k p j := fun j hj => by rw [fE_al (by simp [shB, c_37]) c_132]; exact q_161 j hj
                          exact ih92 (z2 ||| r_161) (vp_updL lk2 (k * 10 + p) r_161) (k + 1) (by omega) (by omega) (fun j hj => by rw [lb_or, hz2 j hj, hX j hj, anyB, Bool.or_assoc]) (fun a b ha hb j hj => st_old (by omega) (hl2 a b ha hb j hj)) (fun a ha j hj => if e : a = k then by rw [e]; exact st_new (g := fun k p => fE (shB vis lf pt) (gstand xs ys hs pt) be zs nb sl k p j) (hX j hj) else st_old (by omega) (hl3 a (by omega) j hj)) _ _ hP hD hS _ (lv_sub hl [0, 4, 5, 6, 7, 8, 1, 9, 10, 11] rfl)
              exact loop_92 _ z lk1 0 (Nat.lt_succ_self _) (Nat.zero_le _) (fun j hj => by rw [hz j hj]; exact (Bool.or_false _).symm) (hl1) (fun a ha => absurd ha (Nat.not_lt_zero a)) _ _ hP hD hS _ (lv_sub hl [0, 1, 2, 3, 4, 5, 6, 7, 8, 9] rfl)
  exact loop_18 _ 0 lk 0 (Nat.lt_succ_self _) (Nat.zero_le _) (fun j _ => lb_0 j) (fun a b _ hb => absurd hb (Nat.not_lt_zero b)) _ _ hP hD hS _ (lv_sub hl [0, 1, 2, 3, 4, 5] rfl)

abbrev rX6_scoreWith : Room := { frames := 14, cells := 0, slots := 0, locals := 333 }
set_option maxHeartbeats 4000000 in
set_option maxRecDepth 100000 in
theorem c_X6_scoreWith (l : Launch) (G : kG) (h : Nat) (v : Nat → Int32) (q : Nat → Nat) (lk : Nat → Int64) (v1 : Nat → Int32) (q1 : Nat → Nat) (xs : Nat → Int32) (ys : Nat → Int32) (hs : Nat → Int32) (vis : Nat → Int32) (v3 : Nat → Int32) (q3 : Nat → Nat) (bs : Nat → Int32) (zs : Nat → Int32) (v2 : Nat → Int32) (q2 : Nat → Nat) (rw : Nat → Int32) (ow : Nat → Int32) (be : Nat → Nat) (nb : Nat → Nat) (n : Nat) (nn : Nat) (sl : Nat) (pt : Nat) (j : Nat) (lf : Int32) (hpt : pt < 64) (hn1 : v1 3 = nI n) (hn : n ≤ 10) (hsl : v1 7 = nI sl) (hsl3 : sl ≤ 3) (hn3 : v3 2 = nI nn) (hnn : nn ≤ 8) (hN : ∀ k, k < nn → bs k = nI (nb k) ∧ nb k < 64) (hB : ∀ p, p < n → gbear (gx xs pt p) (gy ys pt p) = nI (be p) ∧ be p < 64) (hj : j < 64) : Ci l G yX6_scoreWith wsX6_scoreWith rX6_scoreWith [.ref h, .int (nI pt), .int (nI j), .int lf] [oB h 6 (oF6 v q), aJ G (q 8) 80 lk, oB (q 0) 1 (oF1 v1 q1), aI G (q1 0) 10 xs, aI G (q1 1) 10 ys, aI G (q1 2) 10 hs, aI G (q1 9) 64 vis, oB (q 1) 3 (oF3 v3 q3), aI G (q3 0) 8 bs, aI G (q3 1) 8 zs, oB (q 2) 2 (oF2 v2 q2), aI G (q2 0) 8 rw, aI G (q2 1) 10 ow] (fun r (u : (Nat → Int64) × (Nat → Int32) × (Nat → Int32) × (Nat → Int32)) => r = nI (sc (fun k p => decide (p < n) && fE (shB vis lf pt) (gstand xs ys hs pt) be zs nb sl k p j) nn)) (fun u => [oB h 6 (oF6 v q), aJ G (q 8) 80 u.1, oB (q 0) 1 (oF1 v1 q1), aI G (q1 0) 10 xs, aI G (q1 1) 10 ys, aI G (q1 2) 10 hs, aI G (q1 9) 64 vis, oB (q 1) 3 (oF3 v3 q3), aI G (q3 0) 8 bs, aI G (q3 1) 8 zs, oB (q 2) 2 (oF2 u.2.1 q2), aI G (q2 0) 8 u.2.2.1, aI G (q2 1) 10 u.2.2.2]) := by
  refine Ci.of (cc := cX6_scoreWith) (maxL := 4) (by decide) rfl (Nat.le_of_ble_eq_true rfl) ?_
  intro pM eM sM mM bM tM cM Q A hx hb hts hown hml hA hK hP hD hS hret ls hl
  have hown : sM.vm.findClass RX6 = some mM.cls := hown
  have hl : lv_has ls 4 [(0, .ref h), (1, .int (nI pt)), (2, .int (nI j)), (3, .int lf)] := hl
  refine lv_aload_n hx hb dX6_scoreWith_0 rfl (lv_at hl 0 rfl) ?_
  refine lv_iload_n hx hb dX6_scoreWith_1 rfl (lv_at hl 1 rfl) ?_
  refine lv_iload_n hx hb dX6_scoreWith_2 rfl (lv_at hl 3 rfl) ?_
  refine ca_l (wr := [oB (q 2) 2 (oF2 v2 q2), aI G (q2 0) 8 rw, aI G (q2 1) 10 ow]) (va_runV (As := [.int (nI pt), .int lf]) (rest := []) ⟨hx, hb, hml, hown, hts⟩ ((c_X6_standAt l G h v q lk v1 q1 xs ys hs vis v3 q3 bs zs be nb n nn sl pt lf (hpt) (hn1) (hn) (hsl) (hsl3) (hn3) (hnn) (hN) (hB)) _) (cwV 2 hts gX6_scoreWith_X6_standAt rfl rfl rfl (by decide +kernel) ⟨Nat.le_of_ble_eq_true rfl, Nat.le_of_ble_eq_true rfl⟩) (cPre_V hK hP hD [0, 1, 2, 3, 4, 5, 6, 7, 8, 9] (by decide) rfl 0 6 rfl rfl) rfl rfl hl.1 rfl (lv_room (Nat.le_of_ble_eq_true rfl)) dX6_scoreWith_3 ⟨Nat.zero_le _, Nat.zero_le _⟩) hP hD hS hA [0, 1, 2, 3, 4, 5, 6, 7, 8, 9] [10, 11, 12] rfl rfl (by decide) (by decide) [3, 4, 5, 6, 7, 8, 9, 10, 11, 12, 0, 1, 2] (fun u_3 => [oB h 6 (oF6 v q), aJ G (q 8) 80 u_3, oB (q 0) 1 (oF1 v1 q1), aI G (q1 0) 10 xs, aI G (q1 1) 10 ys, aI G (q1 2) 10 hs, aI G (q1 9) 64 vis, oB (q 1) 3 (oF3 v3 q3), aI G (q3 0) 8 bs, aI G (q3 1) 8 zs, oB (q 2) 2 (oF2 v2 q2), aI G (q2 0) 8 rw, aI G (q2 1) 10 ow]) (by decide) (fun _ => rfl) (fun r_3 u_3 H locs q_3 hP hD hS => ?_)
  have q_3 : ∀ j, j < 64 → lb r_3 j = anyB (fun p => anyB (fun k => fE (shB vis lf pt) (gstand xs ys hs pt) be zs nb sl k p j) nn) n ∧ ∀ k p, k < nn → p < n → lb (u_3 (k * 10 + p)) j = fE (shB vis lf pt) (gstand xs ys hs pt) be zs nb sl k p j := q_3
  have hP : va_P G.1 vwCl [oB h 6 (oF6 v q), aJ G (q 8) 80 u_3, oB (q 0) 1 (oF1 v1 q1), aI G (q1 0) 10 xs, aI G (q1 1) 10 ys, aI G (q1 2) 10 hs, aI G (q1 9) 64 vis, oB (q 1) 3 (oF3 v3 q3), aI G (q3 0) 8 bs, aI G (q3 1) 8 zs, oB (q 2) 2 (oF2 v2 q2), aI G (q2 0) 8 rw, aI G (q2 1) 10 ow] H := hP
  have hD : va_D A [oB h 6 (oF6 v q), aJ G (q 8) 80 u_3, oB (q 0) 1 (oF1 v1 q1), aI G (q1 0) 10 xs, aI G (q1 1) 10 ys, aI G (q1 2) 10 hs, aI G (q1 9) 64 vis, oB (q 1) 3 (oF3 v3 q3), aI G (q3 0) 8 bs, aI G (q3 1) 8 zs, oB (q 2) 2 (oF2 v2 q2), aI G (q2 0) 8 rw, aI G (q2 1) 10 ow] := hD
  refine lv_iload_n hx hb dX6_scoreWith_6 rfl (lv_at hl 2 rfl) ?_
  refine rd_i (va_runS (As := [.long r_3, .int (nI j)]) (rest := []) ⟨hx, hb, hml, hown, hts⟩ (c_X6_isAmong l G r_3 j (hj)) (va_cwS 2 hts gX6_scoreWith_X6_isAmong rfl rfl rfl (by decide +kernel) ⟨Nat.le_of_ble_eq_true rfl, Nat.le_of_ble_eq_true rfl⟩) (rPre_S hK hP [] rfl) rfl rfl hl.1 rfl (lv_room (Nat.le_of_ble_eq_true rfl)) dX6_scoreWith_7 ⟨Nat.zero_le _, Nat.zero_le _⟩) (fun r_7 q_7 => ?_)
  obtain rfl : r_7 = b2i (lb r_3 j) := q_7
  refine lv_if_eq (tgt := 21) hx hb dX6_scoreWith_10 (by decide) (fun c_10 => ?_) (fun c_10 => ?_)
  · have c_10 : (lb r_3 j) = false := b2i_0.mp c_10
    refine lv_iconst (v := 0) hx hb dX6_scoreWith_21 (by decide) ?_
    have hpost : 0 = nI (sc (fun k p => decide (p < n) && fE (shB vis lf pt) (gstand xs ys hs pt) be zs nb sl k p j) nn) := by
      have hz : sc (fun k p => decide (p < n) && fE (shB vis lf pt) (gstand xs ys hs pt) be zs nb sl k p j) nn = 0 := sc_none (fun k p hk hp => by
        by_cases c : p < n
        · have h1 := c_10
          rw [(q_3 j hj).1] at h1
          have h2 := anyB_no.mp (anyB_no.mp h1 p c) k hk
          simp [c, h2]
        · simp [c])
      rw [hz]
      rfl
    exact hret _ (u_3, v2, rw, ow) _ _ _ _ (hpost) (rfl) hP hD hS dX6_scoreWith_22
  · have c_10 : (lb r_3 j) = true := b2i_n0.mp c_10
    refine lv_aload_n hx hb dX6_scoreWith_13 rfl (lv_at hl 0 rfl) ?_
    refine lv_iload_n hx hb dX6_scoreWith_14 rfl (lv_at hl 2 rfl) ?_
    refine ca_i (wr := [aI G (q1 0) 10 xs, aI G (q1 1) 10 ys, aI G (q1 2) 10 hs, aI G (q1 9) 64 vis, aI G (q3 0) 8 bs, aI G (q3 1) 8 zs]) (va_runV (As := [.int (nI j)]) (rest := []) ⟨hx, hb, hml, hown, hts⟩ ((c_X6_scoreOf l G h v q u_3 v1 q1 v3 q3 v2 q2 rw ow n nn j (hn1) (hn) (hn3) (hnn) (hj)) _) (cwV 1 hts gX6_scoreWith_X6_scoreOf rfl rfl rfl (by decide +kernel) ⟨Nat.le_of_ble_eq_true rfl, Nat.le_of_ble_eq_true rfl⟩) (cPre_V hK hP hD [0, 1, 2, 7, 10, 11, 12] (by decide) rfl 0 6 rfl rfl) rfl rfl hl.1 rfl (lv_room (Nat.le_of_ble_eq_true rfl)) dX6_scoreWith_15 ⟨Nat.zero_le _, Nat.zero_le _⟩) hP hD hS hA [0, 1, 2, 7, 10, 11, 12] [3, 4, 5, 6, 8, 9] rfl rfl (by decide) (by decide) [6, 7, 8, 0, 1, 2, 3, 9, 4, 5, 10, 11, 12] (fun u_15 => [oB h 6 (oF6 v q), aJ G (q 8) 80 u_3, oB (q 0) 1 (oF1 v1 q1), aI G (q1 0) 10 xs, aI G (q1 1) 10 ys, aI G (q1 2) 10 hs, aI G (q1 9) 64 vis, oB (q 1) 3 (oF3 v3 q3), aI G (q3 0) 8 bs, aI G (q3 1) 8 zs, oB (q 2) 2 (oF2 u_15.1 q2), aI G (q2 0) 8 u_15.2.1, aI G (q2 1) 10 u_15.2.2]) (by decide) (fun _ => rfl) (fun r_15 u_15 H locs q_15 hP hD hS => ?_)
    obtain rfl : r_15 = nI (sc (fun k p => decide (p < n) && lb (u_3 (k * 10 + p)) j) nn) := q_15
    have hP : va_P G.1 vwCl [oB h 6 (oF6 v q), aJ G (q 8) 80 u_3, oB (q 0) 1 (oF1 v1 q1), aI G (q1 0) 10 xs, aI G (q1 1) 10 ys, aI G (q1 2) 10 hs, aI G (q1 9) 64 vis, oB (q 1) 3 (oF3 v3 q3), aI G (q3 0) 8 bs, aI G (q3 1) 8 zs, oB (q 2) 2 (oF2 u_15.1 q2), aI G (q2 0) 8 u_15.2.1, aI G (q2 1) 10 u_15.2.2] H := hP
    have hD : va_D A [oB h 6 (oF6 v q), aJ G (q 8) 80 u_3, oB (q 0) 1 (oF1 v1 q1), aI G (q1 0) 10 xs, aI G (q1 1) 10 ys, aI G (q1 2) 10 hs, aI G (q1 9) 64 vis, oB (q 1) 3 (oF3 v3 q3), aI G (q3 0) 8 bs, aI G (q3 1) 8 zs, oB (q 2) 2 (oF2 u_15.1 q2), aI G (q2 0) 8 u_15.2.1, aI G (q2 1) 10 u_15.2.2] := hD
    refine lv_goto (tgt := 22) hx hb dX6_scoreWith_18 (by decide) ?_
    have hpost : (nI (sc (fun k p => decide (p < n) && lb (u_3 (k * 10 + p)) j) nn)) = nI (sc (fun k p => decide (p < n) && fE (shB vis lf pt) (gstand xs ys hs pt) be zs nb sl k p j) nn) := by
      congr 1
      refine sc_cong (fun k p hk hp => ?_)
      by_cases c : p < n
      · rw [(q_3 j hj).2 k p hk c]
      · simp [c]
    exact hret _ (u_3, u_15.1, u_15.2.1, u_15.2.2) _ _ _ _ (hpost) (rfl) hP hD hS dX6_scoreWith_22

abbrev rX6_enter : Room := { frames := 0, cells := 0, slots := 0, locals := 0 }
set_option maxHeartbeats 4000000 in
set_option maxRecDepth 100000 in
theorem c_X6_enter (l : Launch) (G : kG) (h : Nat) (v : Nat → Int32) (q : Nat → Nat) (sco : Nat → Int32) (v3 : Nat → Int32) (q3 : Nat → Nat) (s : Nat → Int) (nn : Nat) (w : Nat) (hn3 : v3 2 = nI nn) (hnn : nn ≤ 8) (hw : w < 4096) (hs : ∀ x, x ≤ w → -1 ≤ s x ∧ s x ≤ 8) (hKV : KVs s nn w v sco) : Cv l G yX6_enter wsX6_enter rX6_enter [.ref h, .int (nI w), .int (Int32.ofInt (s w))] [oB h 6 (oF6 v q), aI G (q 3) 4096 sco, oB (q 1) 3 (oF3 v3 q3)] (fun (u : Nat → Int32) => KVs s nn (w + 1) u (upd sco w (Int32.ofInt (s w))) ∧ u 4 = v 4) (fun u => [oB h 6 (oF6 u q), aI G (q 3) 4096 (upd sco w (Int32.ofInt (s w))), oB (q 1) 3 (oF3 v3 q3)]) 0 0 := by
  refine Cv.of (cc := cX6_enter) (maxL := 3) (by decide) rfl (Nat.le_of_ble_eq_true rfl) ?_
  intro pM eM sM mM bM tM cM Q A hx hb hts hown hml hnm hA hK hP hD hS hret ls hl
  have hown : sM.vm.findClass RX6 = some mM.cls := hown
  have hl : lv_has ls 3 [(0, .ref h), (1, .int (nI w)), (2, .int (Int32.ofInt (s w)))] := hl
  have hin3 : ∀ w ∈ u_ws RX3 TX3 3, w ∈ wsX6_enter := by decide +kernel
  have hin6 : ∀ w ∈ u_ws RX6 TX6 10, w ∈ wsX6_enter := by decide +kernel
  have f18 := hts (.fieldLink RX6 18 "HorizonPeaks$Views" "scores" "[I") (by decide +kernel)
  have f33 := hts (.fieldLink RX6 33 "HorizonPeaks$Views" "notches" "LHorizonPeaks$Notches;") (by decide +kernel)
  have f53 := hts (.fieldLink RX6 53 "HorizonPeaks$Notches" "size" "I") (by decide +kernel)
  have f108 := hts (.fieldLink RX6 108 "HorizonPeaks$Views" "wholeViews" "I") (by decide +kernel)
  have f114 := hts (.fieldLink RX6 114 "HorizonPeaks$Views" "bestScore" "I") (by decide +kernel)
  have f111 := hts (.fieldLink RX6 111 "HorizonPeaks$Views" "bestView" "I") (by decide +kernel)
  refine lv_aload_n hx hb dX6_enter_0 rfl (lv_at hl 0 rfl) ?_
  refine va_get (D := G.1) (ci := 6) (v := .ref (q 3)) (C := RX6) (T := TX6) (N := 10) hx hb hts hin6 hown hK.1 hP 0 rfl rfl 3 (by decide) f18 (fun _ h9 => h9) rfl dX6_enter_1 ?_
  refine lv_iload_n hx hb dX6_enter_4 rfl (lv_at hl 1 rfl) ?_
  refine lv_iload_n hx hb dX6_enter_5 rfl (lv_at hl 2 rfl) ?_
  refine as_i hx hb hK.1 hP hD hS 1 0 rfl rfl (j := w) (by omega) (Nat.le_of_ble_eq_true rfl) dX6_enter_6 (fun H locs hP hD hS => ?_)
  have hP : va_P G.1 vwCl [oB h 6 (oF6 v q), aI G (q 3) 4096 (upd sco w (Int32.ofInt (s w))), oB (q 1) 3 (oF3 v3 q3)] H := hP
  have hD : va_D A [oB h 6 (oF6 v q), aI G (q 3) 4096 (upd sco w (Int32.ofInt (s w))), oB (q 1) 3 (oF3 v3 q3)] := hD
  refine lv_iload_n hx hb dX6_enter_7 rfl (lv_at hl 2 rfl) ?_
  refine lv_aload_n hx hb dX6_enter_8 rfl (lv_at hl 0 rfl) ?_
  refine va_get (D := G.1) (ci := 6) (v := .ref (q 1)) (C := RX6) (T := TX6) (N := 10) hx hb hts hin6 hown hK.1 hP 0 rfl rfl 1 (by decide) f33 (fun _ h9 => h9) rfl dX6_enter_9 ?_
  refine va_get (D := G.1) (ci := 3) (v := .int (v3 2)) (C := RX3) (T := TX3) (N := 3) hx hb hts hin3 hown hK.1 hP 2 rfl rfl 2 (by decide) f53 (fun _ h9 => h9) rfl dX6_enter_12 ?_
  refine top_i (y := nI nn) (hn3) ?_
  refine lv_icmp_ne (tgt := 28) hx hb dX6_enter_15 (by decide) (fun c_15 => ?_) (fun c_15 => ?_)
  · refine lv_iload_n hx hb dX6_enter_28 rfl (lv_at hl 2 rfl) ?_
    refine lv_aload_n hx hb dX6_enter_29 rfl (lv_at hl 0 rfl) ?_
    refine va_get (D := G.1) (ci := 6) (v := .int (v 7)) (C := RX6) (T := TX6) (N := 10) hx hb hts hin6 hown hK.1 hP 0 rfl rfl 7 (by decide) f114 (fun _ h9 => h9) rfl dX6_enter_30 ?_
    refine lv_icmp_le (tgt := 46) hx hb dX6_enter_33 (by decide) (fun c_33 => ?_) (fun c_33 => ?_)
    · have hpost : KVs s nn (w + 1) v (upd sco w (Int32.ofInt (s w))) ∧ v 4 = v 4 := by
        refine ⟨KVs_step hs hnn hKV ?_ ?_, rfl⟩
        · by_cases c : s w = nn
          · first | (rw [if_pos c]; done) | (rw [if_pos c]; rfl) | exact absurd ((oI_eq (hs w (Nat.le_refl w)).1 (hs w (Nat.le_refl w)).2 hnn).mpr c) c_15
          · first | (rw [if_neg c]; done) | (rw [if_neg c]; rfl) | exact absurd ((oI_eq (hs w (Nat.le_refl w)).1 (hs w (Nat.le_refl w)).2 hnn).mp c_15) c
        · first | exact Or.inl ⟨c_33, rfl, rfl⟩ | exact Or.inr ⟨c_33, rfl, rfl⟩
      exact hret v _ _ _ _ (hpost) hP hD hS dX6_enter_46
    · refine lv_aload_n hx hb dX6_enter_36 rfl (lv_at hl 0 rfl) ?_
      refine lv_iload_n hx hb dX6_enter_37 rfl (lv_at hl 1 rfl) ?_
      refine va_put (D := G.1) (ci := 6) (v := .int (nI w)) (ty := .int) (C := RX6) (T := TX6) (N := 10) hx hb hts hin6 tyX6 tyX6_ok nmX6 hown hK.1 hP hD hS 0 rfl rfl 6 (by decide) f111 (fun _ h9 => h9) rfl (by decide +kernel) rfl rfl (Nat.le_of_ble_eq_true rfl) dX6_enter_38 (fun H locs hP hD hS => ?_)
      have hP : va_P G.1 vwCl [oB h 6 (oF6 (upd v 6 (nI w)) q), aI G (q 3) 4096 (upd sco w (Int32.ofInt (s w))), oB (q 1) 3 (oF3 v3 q3)] H := hP
      have hD : va_D A [oB h 6 (oF6 (upd v 6 (nI w)) q), aI G (q 3) 4096 (upd sco w (Int32.ofInt (s w))), oB (q 1) 3 (oF3 v3 q3)] := hD
      refine lv_aload_n hx hb dX6_enter_41 rfl (lv_at hl 0 rfl) ?_
      refine lv_iload_n hx hb dX6_enter_42 rfl (lv_at hl 2 rfl) ?_
      refine va_put (D := G.1) (ci := 6) (v := .int (Int32.ofInt (s w))) (ty := .int) (C := RX6) (T := TX6) (N := 10) hx hb hts hin6 tyX6 tyX6_ok nmX6 hown hK.1 hP hD hS 0 rfl rfl 7 (by decide) f114 (fun _ h9 => h9) rfl (by decide +kernel) rfl rfl (Nat.le_of_ble_eq_true rfl) dX6_enter_43 (fun H locs hP hD hS => ?_)
      have hP : va_P G.1 vwCl [oB h 6 (oF6 (upd (upd v 6 (nI w)) 7 (Int32.ofInt (s w))) q), aI G (q 3) 4096 (upd sco w (Int32.ofInt (s w))), oB (q 1) 3 (oF3 v3 q3)] H := hP
      have hD : va_D A [oB h 6 (oF6 (upd (upd v 6 (nI w)) 7 (Int32.ofInt (s w))) q), aI G (q 3) 4096 (upd sco w (Int32.ofInt (s w))), oB (q 1) 3 (oF3 v3 q3)] := hD
      have hpost : KVs s nn (w + 1) (upd (upd v 6 (nI w)) 7 (Int32.ofInt (s w))) (upd sco w (Int32.ofInt (s w))) ∧ (upd (upd v 6 (nI w)) 7 (Int32.ofInt (s w))) 4 = v 4 := by
        refine ⟨KVs_step hs hnn hKV ?_ ?_, rfl⟩
        · by_cases c : s w = nn
          · first | (rw [if_pos c]; done) | (rw [if_pos c]; rfl) | exact absurd ((oI_eq (hs w (Nat.le_refl w)).1 (hs w (Nat.le_refl w)).2 hnn).mpr c) c_15
          · first | (rw [if_neg c]; done) | (rw [if_neg c]; rfl) | exact absurd ((oI_eq (hs w (Nat.le_refl w)).1 (hs w (Nat.le_refl w)).2 hnn).mp c_15) c
        · first | exact Or.inl ⟨c_33, rfl, rfl⟩ | exact Or.inr ⟨c_33, rfl, rfl⟩
      exact hret (upd (upd v 6 (nI w)) 7 (Int32.ofInt (s w))) _ _ _ _ (hpost) hP hD hS dX6_enter_46
  · refine lv_aload_n hx hb dX6_enter_18 rfl (lv_at hl 0 rfl) ?_
    refine lv_dup hx hb dX6_enter_19 rfl ?_
    refine va_get (D := G.1) (ci := 6) (v := .int (v 5)) (C := RX6) (T := TX6) (N := 10) hx hb hts hin6 hown hK.1 hP 0 rfl rfl 5 (by decide) f108 (fun _ h9 => h9) rfl dX6_enter_20 ?_
    refine lv_iconst (v := 1) hx hb dX6_enter_23 (by decide) ?_
    refine lv_iadd hx hb dX6_enter_24 ?_
    refine va_put (D := G.1) (ci := 6) (v := .int ((v 5) + 1)) (ty := .int) (C := RX6) (T := TX6) (N := 10) hx hb hts hin6 tyX6 tyX6_ok nmX6 hown hK.1 hP hD hS 0 rfl rfl 5 (by decide) f108 (fun _ h9 => h9) rfl (by decide +kernel) rfl rfl (Nat.le_of_ble_eq_true rfl) dX6_enter_25 (fun H locs hP hD hS => ?_)
    have hP : va_P G.1 vwCl [oB h 6 (oF6 (upd v 5 ((v 5) + 1)) q), aI G (q 3) 4096 (upd sco w (Int32.ofInt (s w))), oB (q 1) 3 (oF3 v3 q3)] H := hP
    have hD : va_D A [oB h 6 (oF6 (upd v 5 ((v 5) + 1)) q), aI G (q 3) 4096 (upd sco w (Int32.ofInt (s w))), oB (q 1) 3 (oF3 v3 q3)] := hD
    refine lv_iload_n hx hb dX6_enter_28 rfl (lv_at hl 2 rfl) ?_
    refine lv_aload_n hx hb dX6_enter_29 rfl (lv_at hl 0 rfl) ?_
    refine va_get (D := G.1) (ci := 6) (v := .int (v 7)) (C := RX6) (T := TX6) (N := 10) hx hb hts hin6 hown hK.1 hP 0 rfl rfl 7 (by decide) f114 (fun _ h9 => h9) rfl dX6_enter_30 ?_
    refine lv_icmp_le (tgt := 46) hx hb dX6_enter_33 (by decide) (fun c_33 => ?_) (fun c_33 => ?_)
    · have hpost : KVs s nn (w + 1) (upd v 5 ((v 5) + 1)) (upd sco w (Int32.ofInt (s w))) ∧ (upd v 5 ((v 5) + 1)) 4 = v 4 := by
        refine ⟨KVs_step hs hnn hKV ?_ ?_, rfl⟩
        · by_cases c : s w = nn
          · first | (rw [if_pos c]; done) | (rw [if_pos c]; rfl) | exact absurd ((oI_eq (hs w (Nat.le_refl w)).1 (hs w (Nat.le_refl w)).2 hnn).mpr c) c_15
          · first | (rw [if_neg c]; done) | (rw [if_neg c]; rfl) | exact absurd ((oI_eq (hs w (Nat.le_refl w)).1 (hs w (Nat.le_refl w)).2 hnn).mp c_15) c
        · first | exact Or.inl ⟨c_33, rfl, rfl⟩ | exact Or.inr ⟨c_33, rfl, rfl⟩
      exact hret (upd v 5 ((v 5) + 1)) _ _ _ _ (hpost) hP hD hS dX6_enter_46
    · refine lv_aload_n hx hb dX6_enter_36 rfl (lv_at hl 0 rfl) ?_
      refine lv_iload_n hx hb dX6_enter_37 rfl (lv_at hl 1 rfl) ?_
      refine va_put (D := G.1) (ci := 6) (v := .int (nI w)) (ty := .int) (C := RX6) (T := TX6) (N := 10) hx hb hts hin6 tyX6 tyX6_ok nmX6 hown hK.1 hP hD hS 0 rfl rfl 6 (by decide) f111 (fun _ h9 => h9) rfl (by decide +kernel) rfl rfl (Nat.le_of_ble_eq_true rfl) dX6_enter_38 (fun H locs hP hD hS => ?_)
      have hP : va_P G.1 vwCl [oB h 6 (oF6 (upd (upd v 5 ((v 5) + 1)) 6 (nI w)) q), aI G (q 3) 4096 (upd sco w (Int32.ofInt (s w))), oB (q 1) 3 (oF3 v3 q3)] H := hP
      have hD : va_D A [oB h 6 (oF6 (upd (upd v 5 ((v 5) + 1)) 6 (nI w)) q), aI G (q 3) 4096 (upd sco w (Int32.ofInt (s w))), oB (q 1) 3 (oF3 v3 q3)] := hD
      refine lv_aload_n hx hb dX6_enter_41 rfl (lv_at hl 0 rfl) ?_
      refine lv_iload_n hx hb dX6_enter_42 rfl (lv_at hl 2 rfl) ?_
      refine va_put (D := G.1) (ci := 6) (v := .int (Int32.ofInt (s w))) (ty := .int) (C := RX6) (T := TX6) (N := 10) hx hb hts hin6 tyX6 tyX6_ok nmX6 hown hK.1 hP hD hS 0 rfl rfl 7 (by decide) f114 (fun _ h9 => h9) rfl (by decide +kernel) rfl rfl (Nat.le_of_ble_eq_true rfl) dX6_enter_43 (fun H locs hP hD hS => ?_)
      have hP : va_P G.1 vwCl [oB h 6 (oF6 (upd (upd (upd v 5 ((v 5) + 1)) 6 (nI w)) 7 (Int32.ofInt (s w))) q), aI G (q 3) 4096 (upd sco w (Int32.ofInt (s w))), oB (q 1) 3 (oF3 v3 q3)] H := hP
      have hD : va_D A [oB h 6 (oF6 (upd (upd (upd v 5 ((v 5) + 1)) 6 (nI w)) 7 (Int32.ofInt (s w))) q), aI G (q 3) 4096 (upd sco w (Int32.ofInt (s w))), oB (q 1) 3 (oF3 v3 q3)] := hD
      have hpost : KVs s nn (w + 1) (upd (upd (upd v 5 ((v 5) + 1)) 6 (nI w)) 7 (Int32.ofInt (s w))) (upd sco w (Int32.ofInt (s w))) ∧ (upd (upd (upd v 5 ((v 5) + 1)) 6 (nI w)) 7 (Int32.ofInt (s w))) 4 = v 4 := by
        refine ⟨KVs_step hs hnn hKV ?_ ?_, rfl⟩
        · by_cases c : s w = nn
          · first | (rw [if_pos c]; done) | (rw [if_pos c]; rfl) | exact absurd ((oI_eq (hs w (Nat.le_refl w)).1 (hs w (Nat.le_refl w)).2 hnn).mpr c) c_15
          · first | (rw [if_neg c]; done) | (rw [if_neg c]; rfl) | exact absurd ((oI_eq (hs w (Nat.le_refl w)).1 (hs w (Nat.le_refl w)).2 hnn).mp c_15) c
        · first | exact Or.inl ⟨c_33, rfl, rfl⟩ | exact Or.inr ⟨c_33, rfl, rfl⟩
      exact hret (upd (upd (upd v 5 ((v 5) + 1)) 6 (nI w)) 7 (Int32.ofInt (s w))) _ _ _ _ (hpost) hP hD hS dX6_enter_46

abbrev rX6_know : Room := { frames := 14, cells := 0, slots := 0, locals := 333 }
set_option maxHeartbeats 4000000 in
set_option maxRecDepth 100000 in
theorem c_X6_know (l : Launch) (G : kG) (h : Nat) (v : Nat → Int32) (q : Nat → Nat) (sco : Nat → Int32) (lk : Nat → Int64) (v1 : Nat → Int32) (q1 : Nat → Nat) (xs : Nat → Int32) (ys : Nat → Int32) (hs : Nat → Int32) (pk : Nat → Int32) (vis : Nat → Int32) (v3 : Nat → Int32) (q3 : Nat → Nat) (bs : Nat → Int32) (zs : Nat → Int32) (v2 : Nat → Int32) (q2 : Nat → Nat) (rw : Nat → Int32) (ow : Nat → Int32) (be : Nat → Nat → Nat) (nb : Nat → Nat) (n : Nat) (nn : Nat) (sl : Nat) (hn1 : v1 3 = nI n) (hn : n ≤ 10) (hsl : v1 7 = nI sl) (hsl3 : sl ≤ 3) (hn3 : v3 2 = nI nn) (hnn : nn ≤ 8) (hN : ∀ k, k < nn → bs k = nI (nb k) ∧ nb k < 64) (hB : ∀ pt, pt < 64 → pk pt = 0 → ∀ p, p < n → gbear (gx xs pt p) (gy ys pt p) = nI (be pt p) ∧ be pt p < 64) (hkn : v 4 = 0 ∨ (v 4 = 1 ∧ KVs (sV vis pk xs ys hs zs be nb sl n nn (1 <<< (nI n &&& 31) - 1)) nn 4096 v sco)) : Cv l G yX6_know wsX6_know rX6_know [.ref h] [oB h 6 (oF6 v q), aI G (q 3) 4096 sco, aJ G (q 8) 80 lk, oB (q 0) 1 (oF1 v1 q1), aI G (q1 0) 10 xs, aI G (q1 1) 10 ys, aI G (q1 2) 10 hs, aZ G (q1 8) 64 pk, aI G (q1 9) 64 vis, oB (q 1) 3 (oF3 v3 q3), aI G (q3 0) 8 bs, aI G (q3 1) 8 zs, oB (q 2) 2 (oF2 v2 q2), aI G (q2 0) 8 rw, aI G (q2 1) 10 ow] (fun (u : (Nat → Int32) × (Nat → Int32) × (Nat → Int64) × (Nat → Int32) × (Nat → Int32) × (Nat → Int32)) => u.1 4 = 1 ∧ KVs (sV vis pk xs ys hs zs be nb sl n nn (1 <<< (nI n &&& 31) - 1)) nn 4096 u.1 u.2.1) (fun u => [oB h 6 (oF6 u.1 q), aI G (q 3) 4096 u.2.1, aJ G (q 8) 80 u.2.2.1, oB (q 0) 1 (oF1 v1 q1), aI G (q1 0) 10 xs, aI G (q1 1) 10 ys, aI G (q1 2) 10 hs, aZ G (q1 8) 64 pk, aI G (q1 9) 64 vis, oB (q 1) 3 (oF3 v3 q3), aI G (q3 0) 8 bs, aI G (q3 1) 8 zs, oB (q 2) 2 (oF2 u.2.2.2.1 q2), aI G (q2 0) 8 u.2.2.2.2.1, aI G (q2 1) 10 u.2.2.2.2.2]) 0 0 := by
  refine Cv.of (cc := cX6_know) (maxL := 7) (by decide) rfl (Nat.le_of_ble_eq_true rfl) ?_
  intro pM eM sM mM bM tM cM Q A hx hb hts hown hml hnm hA hK hP hD hS hret ls hl
  have hown : sM.vm.findClass RX6 = some mM.cls := hown
  have hl : lv_has ls 7 [(0, .ref h)] := hl
  have hin1 : ∀ w ∈ u_ws RX1 TX1 11, w ∈ wsX6_know := by decide +kernel
  have hin6 : ∀ w ∈ u_ws RX6 TX6 10, w ∈ wsX6_know := by decide +kernel
  have f104 := hts (.fieldLink RX6 104 "HorizonPeaks$Views" "known" "Z") (by decide +kernel)
  have f108 := hts (.fieldLink RX6 108 "HorizonPeaks$Views" "wholeViews" "I") (by decide +kernel)
  have f111 := hts (.fieldLink RX6 111 "HorizonPeaks$Views" "bestView" "I") (by decide +kernel)
  have f114 := hts (.fieldLink RX6 114 "HorizonPeaks$Views" "bestScore" "I") (by decide +kernel)
  have f29 := hts (.fieldLink RX6 29 "HorizonPeaks$Views" "land" "LHorizonPeaks$Land;") (by decide +kernel)
  have f117 := hts (.fieldLink RX6 117 "HorizonPeaks$Land" "peakAt" "[Z") (by decide +kernel)
  refine lv_aload_n hx hb dX6_know_0 rfl (lv_at hl 0 rfl) ?_
  refine va_get (D := G.1) (ci := 6) (v := .int (v 4)) (C := RX6) (T := TX6) (N := 10) hx hb hts hin6 hown hK.1 hP 0 rfl rfl 4 (by decide) f104 (fun _ h9 => h9) rfl dX6_know_1 ?_
  refine lv_if_eq (tgt := 8) hx hb dX6_know_4 (by decide) (fun c_4 => ?_) (fun c_4 => ?_)
  · have hk0 := c_4
    refine lv_aload_n hx hb dX6_know_8 rfl (lv_at hl 0 rfl) ?_
    refine lv_iconst (v := 1) hx hb dX6_know_9 (by decide) ?_
    refine va_put (D := G.1) (ci := 6) (v := .int 1) (ty := .boolean) (C := RX6) (T := TX6) (N := 10) hx hb hts hin6 tyX6 tyX6_ok nmX6 hown hK.1 hP hD hS 0 rfl rfl 4 (by decide) f104 (fun _ h9 => h9) rfl (by decide +kernel) rfl rfl (Nat.le_of_ble_eq_true rfl) dX6_know_10 (fun H locs hP hD hS => ?_)
    have hP : va_P G.1 vwCl [oB h 6 (oF6 (upd v 4 1) q), aI G (q 3) 4096 sco, aJ G (q 8) 80 lk, oB (q 0) 1 (oF1 v1 q1), aI G (q1 0) 10 xs, aI G (q1 1) 10 ys, aI G (q1 2) 10 hs, aZ G (q1 8) 64 pk, aI G (q1 9) 64 vis, oB (q 1) 3 (oF3 v3 q3), aI G (q3 0) 8 bs, aI G (q3 1) 8 zs, oB (q 2) 2 (oF2 v2 q2), aI G (q2 0) 8 rw, aI G (q2 1) 10 ow] H := hP
    have hD : va_D A [oB h 6 (oF6 (upd v 4 1) q), aI G (q 3) 4096 sco, aJ G (q 8) 80 lk, oB (q 0) 1 (oF1 v1 q1), aI G (q1 0) 10 xs, aI G (q1 1) 10 ys, aI G (q1 2) 10 hs, aZ G (q1 8) 64 pk, aI G (q1 9) 64 vis, oB (q 1) 3 (oF3 v3 q3), aI G (q3 0) 8 bs, aI G (q3 1) 8 zs, oB (q 2) 2 (oF2 v2 q2), aI G (q2 0) 8 rw, aI G (q2 1) 10 ow] := hD
    refine lv_aload_n hx hb dX6_know_13 rfl (lv_at hl 0 rfl) ?_
    refine lv_iconst (v := 0) hx hb dX6_know_14 (by decide) ?_
    refine va_put (D := G.1) (ci := 6) (v := .int 0) (ty := .int) (C := RX6) (T := TX6) (N := 10) hx hb hts hin6 tyX6 tyX6_ok nmX6 hown hK.1 hP hD hS 0 rfl rfl 5 (by decide) f108 (fun _ h9 => h9) rfl (by decide +kernel) rfl rfl (Nat.le_of_ble_eq_true rfl) dX6_know_15 (fun H locs hP hD hS => ?_)
    have hP : va_P G.1 vwCl [oB h 6 (oF6 (upd (upd v 4 1) 5 0) q), aI G (q 3) 4096 sco, aJ G (q 8) 80 lk, oB (q 0) 1 (oF1 v1 q1), aI G (q1 0) 10 xs, aI G (q1 1) 10 ys, aI G (q1 2) 10 hs, aZ G (q1 8) 64 pk, aI G (q1 9) 64 vis, oB (q 1) 3 (oF3 v3 q3), aI G (q3 0) 8 bs, aI G (q3 1) 8 zs, oB (q 2) 2 (oF2 v2 q2), aI G (q2 0) 8 rw, aI G (q2 1) 10 ow] H := hP
    have hD : va_D A [oB h 6 (oF6 (upd (upd v 4 1) 5 0) q), aI G (q 3) 4096 sco, aJ G (q 8) 80 lk, oB (q 0) 1 (oF1 v1 q1), aI G (q1 0) 10 xs, aI G (q1 1) 10 ys, aI G (q1 2) 10 hs, aZ G (q1 8) 64 pk, aI G (q1 9) 64 vis, oB (q 1) 3 (oF3 v3 q3), aI G (q3 0) 8 bs, aI G (q3 1) 8 zs, oB (q 2) 2 (oF2 v2 q2), aI G (q2 0) 8 rw, aI G (q2 1) 10 ow] := hD
    refine lv_aload_n hx hb dX6_know_18 rfl (lv_at hl 0 rfl) ?_
    refine lv_bipush (v := -9) hx hb dX6_know_19 (by decide) ?_
    refine va_put (D := G.1) (ci := 6) (v := .int (-9)) (ty := .int) (C := RX6) (T := TX6) (N := 10) hx hb hts hin6 tyX6 tyX6_ok nmX6 hown hK.1 hP hD hS 0 rfl rfl 6 (by decide) f111 (fun _ h9 => h9) rfl (by decide +kernel) rfl rfl (Nat.le_of_ble_eq_true rfl) dX6_know_21 (fun H locs hP hD hS => ?_)
    have hP : va_P G.1 vwCl [oB h 6 (oF6 (upd (upd (upd v 4 1) 5 0) 6 (-9)) q), aI G (q 3) 4096 sco, aJ G (q 8) 80 lk, oB (q 0) 1 (oF1 v1 q1), aI G (q1 0) 10 xs, aI G (q1 1) 10 ys, aI G (q1 2) 10 hs, aZ G (q1 8) 64 pk, aI G (q1 9) 64 vis, oB (q 1) 3 (oF3 v3 q3), aI G (q3 0) 8 bs, aI G (q3 1) 8 zs, oB (q 2) 2 (oF2 v2 q2), aI G (q2 0) 8 rw, aI G (q2 1) 10 ow] H := hP
    have hD : va_D A [oB h 6 (oF6 (upd (upd (upd v 4 1) 5 0) 6 (-9)) q), aI G (q 3) 4096 sco, aJ G (q 8) 80 lk, oB (q 0) 1 (oF1 v1 q1), aI G (q1 0) 10 xs, aI G (q1 1) 10 ys, aI G (q1 2) 10 hs, aZ G (q1 8) 64 pk, aI G (q1 9) 64 vis, oB (q 1) 3 (oF3 v3 q3), aI G (q3 0) 8 bs, aI G (q3 1) 8 zs, oB (q 2) 2 (oF2 v2 q2), aI G (q2 0) 8 rw, aI G (q2 1) 10 ow] := hD
    refine lv_aload_n hx hb dX6_know_24 rfl (lv_at hl 0 rfl) ?_
    refine lv_iconst (v := -1) hx hb dX6_know_25 (by decide) ?_
    refine va_put (D := G.1) (ci := 6) (v := .int (-1)) (ty := .int) (C := RX6) (T := TX6) (N := 10) hx hb hts hin6 tyX6 tyX6_ok nmX6 hown hK.1 hP hD hS 0 rfl rfl 7 (by decide) f114 (fun _ h9 => h9) rfl (by decide +kernel) rfl rfl (Nat.le_of_ble_eq_true rfl) dX6_know_26 (fun H locs hP hD hS => ?_)
    have hP : va_P G.1 vwCl [oB h 6 (oF6 (upd (upd (upd (upd v 4 1) 5 0) 6 (-9)) 7 (-1)) q), aI G (q 3) 4096 sco, aJ G (q 8) 80 lk, oB (q 0) 1 (oF1 v1 q1), aI G (q1 0) 10 xs, aI G (q1 1) 10 ys, aI G (q1 2) 10 hs, aZ G (q1 8) 64 pk, aI G (q1 9) 64 vis, oB (q 1) 3 (oF3 v3 q3), aI G (q3 0) 8 bs, aI G (q3 1) 8 zs, oB (q 2) 2 (oF2 v2 q2), aI G (q2 0) 8 rw, aI G (q2 1) 10 ow] H := hP
    have hD : va_D A [oB h 6 (oF6 (upd (upd (upd (upd v 4 1) 5 0) 6 (-9)) 7 (-1)) q), aI G (q 3) 4096 sco, aJ G (q 8) 80 lk, oB (q 0) 1 (oF1 v1 q1), aI G (q1 0) 10 xs, aI G (q1 1) 10 ys, aI G (q1 2) 10 hs, aZ G (q1 8) 64 pk, aI G (q1 9) 64 vis, oB (q 1) 3 (oF3 v3 q3), aI G (q3 0) 8 bs, aI G (q3 1) 8 zs, oB (q 2) 2 (oF2 v2 q2), aI G (q2 0) 8 rw, aI G (q2 1) 10 ow] := hD
    refine lv_iconst (v := 0) hx hb dX6_know_29 (by decide) ?_
    refine lv_istore_n (lv' := [(1, .int 0), (0, .ref h)]) hx hb dX6_know_30 rfl hl (by decide) rfl (fun ls hl => ?_)
    have loop_31 : ∀ (nF : Nat) (w1 : Nat → Int32) (sco1 : Nat → Int32) (lk1 : Nat → Int64) (m1 : Nat → Int32) (rw1 : Nat → Int32) (ow1 : Nat → Int32) (a : Nat), (64 - a) < nF → (a ≤ 64) → (KVs (sV vis pk xs ys hs zs be nb sl n nn (1 <<< (nI n &&& 31) - 1)) nn (a * 64) w1 sco1) → (w1 4 = 1) → ∀ (H : Heap) (locs : List Loc), va_P G.1 vwCl [oB h 6 (oF6 w1 q), aI G (q 3) 4096 sco1, aJ G (q 8) 80 lk1, oB (q 0) 1 (oF1 v1 q1), aI G (q1 0) 10 xs, aI G (q1 1) 10 ys, aI G (q1 2) 10 hs, aZ G (q1 8) 64 pk, aI G (q1 9) 64 vis, oB (q 1) 3 (oF3 v3 q3), aI G (q3 0) 8 bs, aI G (q3 1) 8 zs, oB (q 2) 2 (oF2 m1 q2), aI G (q2 0) 8 rw1, aI G (q2 1) 10 ow1] H → va_D A [oB h 6 (oF6 w1 q), aI G (q 3) 4096 sco1, aJ G (q 8) 80 lk1, oB (q 0) 1 (oF1 v1 q1), aI G (q1 0) 10 xs, aI G (q1 1) 10 ys, aI G (q1 2) 10 hs, aZ G (q1 8) 64 pk, aI G (q1 9) 64 vis, oB (q 1) 3 (oF3 v3 q3), aI G (q3 0) 8 bs, aI G (q3 1) 8 zs, oB (q 2) 2 (oF2 m1 q2), aI G (q2 0) 8 rw1, aI G (q2 1) 10 ow1] → va_S A sM.heap H locs → ∀ (ls : Array Slot), lv_has ls 7 [(1, .int (nI a)), (0, .ref h)] → W pM l eM rX6_know sM mM [.ref h].toArray bM tM cM H locs 0 0 Q (F0 mM 31 ls []) := by
      intro nF
      induction nF with
      | zero => intro w1 sco1 lk1 m1 rw1 ow1 a hmF; exact absurd hmF (Nat.not_lt_zero _)
      | succ nF ih31 =>
        intro w1 sco1 lk1 m1 rw1 ow1 a hmF ha hK1 h41 H locs hP hD hS ls hl
        refine lv_iload_n hx hb dX6_know_31 rfl (lv_at hl 0 rfl) ?_
        refine lv_bipush (v := 64) hx hb dX6_know_32 (by decide) ?_
        refine lv_icmp_ge (tgt := 140) hx hb dX6_know_34 (by decide) (fun c_34 => ?_) (fun c_34 => ?_)
        · have c_34 : 64 ≤ a := (c_le (a := 64) (b := a) rfl rfl (by omega) (by omega)).mp c_34
          have hpost : (w1, sco1, lk1, m1, rw1, ow1).1 4 = 1 ∧ KVs (sV vis pk xs ys hs zs be nb sl n nn (1 <<< (nI n &&& 31) - 1)) nn 4096 (w1, sco1, lk1, m1, rw1, ow1).1 (w1, sco1, lk1, m1, rw1, ow1).2.1 := by
            have e : a = 64 := by omega
            subst e
            exact ⟨h41, hK1⟩
          exact hret (w1, sco1, lk1, m1, rw1, ow1) _ _ _ _ (hpost) hP hD hS dX6_know_140
        · have c_34 : ¬ 64 ≤ a := fun hne => c_34 ((c_le (a := 64) (b := a) rfl rfl (by omega) (by omega)).mpr hne)
          refine lv_aload_n hx hb dX6_know_37 rfl (lv_at hl 1 rfl) ?_
          refine va_get (D := G.1) (ci := 6) (v := .ref (q 0)) (C := RX6) (T := TX6) (N := 10) hx hb hts hin6 hown hK.1 hP 0 rfl rfl 0 (by decide) f29 (fun _ h9 => h9) rfl dX6_know_38 ?_
          refine va_get (D := G.1) (ci := 1) (v := .ref (q1 8)) (C := RX1) (T := TX1) (N := 11) hx hb hts hin1 hown hK.1 hP 3 rfl rfl 8 (by decide) f117 (fun _ h9 => h9) rfl dX6_know_41 ?_
          refine lv_iload_n hx hb dX6_know_44 rfl (lv_at hl 0 rfl) ?_
          refine al_z hx hb hK.1 hP 7 2 rfl rfl (j := a) (by omega) (Nat.le_of_ble_eq_true rfl) dX6_know_45 ?_
          refine lv_if_ne (tgt := 53) hx hb dX6_know_46 (by decide) (fun c_46 => ?_) (fun c_46 => ?_)
          · refine lv_iconst (v := 0) hx hb dX6_know_53 (by decide) ?_
            refine lv_istore_n (lv' := [(2, .int 0), (1, .int (nI a)), (0, .ref h)]) hx hb dX6_know_54 rfl hl (by decide) rfl (fun ls hl => ?_)
            refine lv_iload_n hx hb dX6_know_55 rfl (lv_at hl 0 rfl) ?_
            refine lv_if_eq (tgt := 74) hx hb dX6_know_56 (by decide) (fun c_56 => ?_) (fun c_56 => ?_)
            · refine lv_lconst (v := 0) hx hb dX6_know_74 (by decide) ?_
              refine lv_lstore_n (lv' := [(3, .long 0), (2, .int 0), (1, .int (nI a)), (0, .ref h)]) hx hb dX6_know_75 rfl hl (by decide) rfl (fun ls hl => ?_)
              refine lv_iconst (v := 0) hx hb dX6_know_76 (by decide) ?_
              refine lv_istore (lv' := [(5, .int 0), (3, .long 0), (2, .int 0), (1, .int (nI a)), (0, .ref h)]) hx hb dX6_know_77 hl (by decide) rfl (fun ls hl => ?_)
              have loop_79 : ∀ (nF : Nat) (w2 : Nat → Int32) (sco2 : Nat → Int32) (m2 : Nat → Int32) (rw2 : Nat → Int32) (ow2 : Nat → Int32) (j : Nat), (64 - j) < nF → (j ≤ 64) → (KVs (sV vis pk xs ys hs zs be nb sl n nn (1 <<< (nI n &&& 31) - 1)) nn (a * 64 + j) w2 sco2) → (w2 4 = 1) → ∀ (H : Heap) (locs : List Loc), va_P G.1 vwCl [oB h 6 (oF6 w2 q), aI G (q 3) 4096 sco2, aJ G (q 8) 80 lk1, oB (q 0) 1 (oF1 v1 q1), aI G (q1 0) 10 xs, aI G (q1 1) 10 ys, aI G (q1 2) 10 hs, aZ G (q1 8) 64 pk, aI G (q1 9) 64 vis, oB (q 1) 3 (oF3 v3 q3), aI G (q3 0) 8 bs, aI G (q3 1) 8 zs, oB (q 2) 2 (oF2 m2 q2), aI G (q2 0) 8 rw2, aI G (q2 1) 10 ow2] H → va_D A [oB h 6 (oF6 w2 q), aI G (q 3) 4096 sco2, aJ G (q 8) 80 lk1, oB (q 0) 1 (oF1 v1 q1), aI G (q1 0) 10 xs, aI G (q1 1) 10 ys, aI G (q1 2) 10 hs, aZ G (q1 8) 64 pk, aI G (q1 9) 64 vis, oB (q 1) 3 (oF3 v3 q3), aI G (q3 0) 8 bs, aI G (q3 1) 8 zs, oB (q 2) 2 (oF2 m2 q2), aI G (q2 0) 8 rw2, aI G (q2 1) 10 ow2] → va_S A sM.heap H locs → ∀ (ls : Array Slot), lv_has ls 7 [(5, .int (nI j)), (3, .long 0), (2, .int 0), (1, .int (nI a)), (0, .ref h)] → W pM l eM rX6_know sM mM [.ref h].toArray bM tM cM H locs 0 0 Q (F0 mM 79 ls []) := by
                intro nF
                induction nF with
                | zero => intro w2 sco2 m2 rw2 ow2 j hmF; exact absurd hmF (Nat.not_lt_zero _)
                | succ nF ih79 =>
                  intro w2 sco2 m2 rw2 ow2 j hmF hj hK2 h42 H locs hP hD hS ls hl
                  refine lv_iload hx hb dX6_know_79 (lv_at hl 0 rfl) ?_
                  refine lv_bipush (v := 64) hx hb dX6_know_81 (by decide) ?_
                  refine lv_icmp_ge (tgt := 134) hx hb dX6_know_83 (by decide) (fun c_83 => ?_) (fun c_83 => ?_)
                  · have c_83 : 64 ≤ j := (c_le (a := 64) (b := j) rfl rfl (by omega) (by omega)).mp c_83
                    refine lv_iinc (v := nI (a + 1)) (lv' := [(1, .int (nI (a + 1))), (5, .int (nI j)), (3, .long 0), (2, .int 0), (0, .ref h)]) hx hb dX6_know_134 hl (k := 3) rfl (inc_nI _ 1) (by decide) rfl (fun ls hl => ?_)
                    refine lv_goto (tgt := 31) hx hb dX6_know_137 (by decide) ?_
                    exact ih31 w2 sco2 lk1 m2 rw2 ow2 (a + 1) (by omega) (by omega) (by rw [show j = 64 by omega] at hK2; rw [show (a + 1) * 64 = a * 64 + 64 by omega]; exact hK2) (h42) _ _ hP hD hS _ (lv_sub hl [0, 4] rfl)
                  · have c_83 : ¬ 64 ≤ j := fun hne => c_83 ((c_le (a := 64) (b := j) rfl rfl (by omega) (by omega)).mpr hne)
                    refine lv_iload_n hx hb dX6_know_86 rfl (lv_at hl 2 rfl) ?_
                    refine lv_if_eq (tgt := 94) hx hb dX6_know_87 (by decide) (fun c_87 => ?_) (fun c_87 => ?_)
                    · refine lv_iconst (v := -1) hx hb dX6_know_94 (by decide) ?_
                      refine lv_istore (lv' := [(6, .int (-1)), (5, .int (nI j)), (3, .long 0), (2, .int 0), (1, .int (nI a)), (0, .ref h)]) hx hb dX6_know_95 hl (by decide) rfl (fun ls hl => ?_)
                      refine lv_aload_n hx hb dX6_know_97 rfl (lv_at hl 5 rfl) ?_
                      refine lv_iload_n hx hb dX6_know_98 rfl (lv_at hl 4 rfl) ?_
                      refine lv_bipush (v := 64) hx hb dX6_know_99 (by decide) ?_
                      refine lv_imul hx hb dX6_know_101 ?_
                      refine lv_iload hx hb dX6_know_102 (lv_at hl 1 rfl) ?_
                      refine lv_iadd hx hb dX6_know_104 ?_
                      refine top_i (y := nI (a * 64 + j)) (mul64 a j) ?_
                      refine lv_lload_n hx hb dX6_know_105 rfl (lv_at hl 2 rfl) ?_
                      refine lv_iload hx hb dX6_know_106 (lv_at hl 1 rfl) ?_
                      refine rd_i (va_runS (As := [.long 0, .int (nI j)]) (rest := [.int (nI (a * 64 + j)), .ref h]) ⟨hx, hb, hml, hown, hts⟩ (c_X6_isAmong l G 0 j (by omega)) (va_cwS 2 hts gX6_know_X6_isAmong rfl rfl rfl (by decide +kernel) ⟨Nat.le_of_ble_eq_true rfl, Nat.le_of_ble_eq_true rfl⟩) (rPre_S hK hP [] rfl) rfl rfl hl.1 rfl (lv_room (Nat.le_of_ble_eq_true rfl)) dX6_know_108 ⟨Nat.zero_le _, Nat.zero_le _⟩) (fun r_108 q_108 => ?_)
                      obtain rfl : r_108 = b2i (lb 0 j) := q_108
                      refine lv_if_eq (tgt := 123) hx hb dX6_know_111 (by decide) (fun c_111 => ?_) (fun c_111 => ?_)
                      · have c_111 : (lb 0 j) = false := b2i_0.mp c_111
                        refine lv_iload hx hb dX6_know_123 (lv_at hl 0 rfl) ?_
                        have hsv : (-1 : Int32) = Int32.ofInt (sV vis pk xs ys hs zs be nb sl n nn (1 <<< (nI n &&& 31) - 1) (a * 64 + j)) := by
                          rw [sV_no (pt := a) (j := j) (by omega) c_46]; exact oI_m1
                        refine top_i (y := Int32.ofInt (sV vis pk xs ys hs zs be nb sl n nn (1 <<< (nI n &&& 31) - 1) (a * 64 + j))) hsv ?_
                        refine ca_v (wr := [aJ G (q 8) 80 lk1, oB (q 0) 1 (oF1 v1 q1), aI G (q1 0) 10 xs, aI G (q1 1) 10 ys, aI G (q1 2) 10 hs, aZ G (q1 8) 64 pk, aI G (q1 9) 64 vis, aI G (q3 0) 8 bs, aI G (q3 1) 8 zs, oB (q 2) 2 (oF2 m2 q2), aI G (q2 0) 8 rw2, aI G (q2 1) 10 ow2]) (va_runV (As := [.int (nI (a * 64 + j)), .int (Int32.ofInt (sV vis pk xs ys hs zs be nb sl n nn (1 <<< (nI n &&& 31) - 1) (a * 64 + j)))]) (rest := []) ⟨hx, hb, hml, hown, hts⟩ ((c_X6_enter l G h w2 q sco2 v3 q3 (sV vis pk xs ys hs zs be nb sl n nn (1 <<< (nI n &&& 31) - 1)) nn (a * 64 + j) (hn3) (hnn) (by omega) (fun x _ => sV_rng _ _ _ _ _ _ _ _ _ _ _ _ hnn x) (hK2)) _) (cwV 2 hts gX6_know_X6_enter rfl rfl rfl (by decide +kernel) ⟨Nat.le_of_ble_eq_true rfl, Nat.le_of_ble_eq_true rfl⟩) (cPre_V hK hP hD [0, 1, 9] (by decide) rfl 0 6 rfl rfl) rfl rfl hl.1 rfl (lv_room (Nat.le_of_ble_eq_true rfl)) dX6_know_125 ⟨Nat.zero_le _, Nat.zero_le _⟩) hP hD hS hA [0, 1, 9] [2, 3, 4, 5, 6, 7, 8, 10, 11, 12, 13, 14] rfl rfl (by decide) (by decide) [12, 13, 0, 1, 2, 3, 4, 5, 6, 14, 7, 8, 9, 10, 11] (fun u_125 => [oB h 6 (oF6 u_125 q), aI G (q 3) 4096 (upd sco2 (a * 64 + j) (Int32.ofInt ((sV vis pk xs ys hs zs be nb sl n nn (1 <<< (nI n &&& 31) - 1)) (a * 64 + j)))), aJ G (q 8) 80 lk1, oB (q 0) 1 (oF1 v1 q1), aI G (q1 0) 10 xs, aI G (q1 1) 10 ys, aI G (q1 2) 10 hs, aZ G (q1 8) 64 pk, aI G (q1 9) 64 vis, oB (q 1) 3 (oF3 v3 q3), aI G (q3 0) 8 bs, aI G (q3 1) 8 zs, oB (q 2) 2 (oF2 m2 q2), aI G (q2 0) 8 rw2, aI G (q2 1) 10 ow2]) (by decide) (fun _ => rfl) (fun u_125 H locs q_125 hP hD hS => ?_)
                        have q_125 : KVs (sV vis pk xs ys hs zs be nb sl n nn (1 <<< (nI n &&& 31) - 1)) nn ((a * 64 + j) + 1) u_125 (upd sco2 (a * 64 + j) (Int32.ofInt ((sV vis pk xs ys hs zs be nb sl n nn (1 <<< (nI n &&& 31) - 1)) (a * 64 + j)))) ∧ u_125 4 = w2 4 := q_125
                        have hP : va_P G.1 vwCl [oB h 6 (oF6 u_125 q), aI G (q 3) 4096 (upd sco2 (a * 64 + j) (Int32.ofInt ((sV vis pk xs ys hs zs be nb sl n nn (1 <<< (nI n &&& 31) - 1)) (a * 64 + j)))), aJ G (q 8) 80 lk1, oB (q 0) 1 (oF1 v1 q1), aI G (q1 0) 10 xs, aI G (q1 1) 10 ys, aI G (q1 2) 10 hs, aZ G (q1 8) 64 pk, aI G (q1 9) 64 vis, oB (q 1) 3 (oF3 v3 q3), aI G (q3 0) 8 bs, aI G (q3 1) 8 zs, oB (q 2) 2 (oF2 m2 q2), aI G (q2 0) 8 rw2, aI G (q2 1) 10 ow2] H := hP
                        have hD : va_D A [oB h 6 (oF6 u_125 q), aI G (q 3) 4096 (upd sco2 (a * 64 + j) (Int32.ofInt ((sV vis pk xs ys hs zs be nb sl n nn (1 <<< (nI n &&& 31) - 1)) (a * 64 + j)))), aJ G (q 8) 80 lk1, oB (q 0) 1 (oF1 v1 q1), aI G (q1 0) 10 xs, aI G (q1 1) 10 ys, aI G (q1 2) 10 hs, aZ G (q1 8) 64 pk, aI G (q1 9) 64 vis, oB (q 1) 3 (oF3 v3 q3), aI G (q3 0) 8 bs, aI G (q3 1) 8 zs, oB (q 2) 2 (oF2 m2 q2), aI G (q2 0) 8 rw2, aI G (q2 1) 10 ow2] := hD
                        refine lv_iinc (v := nI (j + 1)) (lv' := [(5, .int (nI (j + 1))), (6, .int (-1)), (3, .long 0), (2, .int 0), (1, .int (nI a)), (0, .ref h)]) hx hb dX6_know_128 hl (k := 1) rfl (inc_nI _ 1) (by decide) rfl (fun ls hl => ?_)
                        refine lv_goto (tgt := 79) hx hb dX6_know_131 (by decide) ?_
                        exact ih79 u_125 (upd sco2 (a * 64 + j) (Int32.ofInt ((sV vis pk xs ys hs zs be nb sl n nn (1 <<< (nI n &&& 31) - 1)) (a * 64 + j)))) m2 rw2 ow2 (j + 1) (by omega) (by omega) (q_125.1) (q_125.2.trans h42) _ _ hP hD hS _ (lv_sub hl [0, 2, 3, 4, 5] rfl)
                      · have c_111 : (lb 0 j) = true := b2i_n0.mp c_111
                        refine lv_aload_n hx hb dX6_know_114 rfl (lv_at hl 5 rfl) ?_
                        refine lv_iload hx hb dX6_know_115 (lv_at hl 1 rfl) ?_
                        exact absurd c_111 (by rw [lb_0]; decide)
                    · exfalso
                      revert c_87
                      decide
              exact loop_79 _ w1 sco1 m1 rw1 ow1 0 (Nat.lt_succ_self _) (Nat.zero_le _) (hK1) (h41) _ _ hP hD hS _ (lv_sub hl [0, 1, 2, 3, 4] rfl)
            · exfalso
              revert c_56
              decide
          · refine lv_iconst (v := 1) hx hb dX6_know_49 (by decide) ?_
            refine lv_goto (tgt := 54) hx hb dX6_know_50 (by decide) ?_
            refine lv_istore_n (lv' := [(2, .int 1), (1, .int (nI a)), (0, .ref h)]) hx hb dX6_know_54 rfl hl (by decide) rfl (fun ls hl => ?_)
            refine lv_iload_n hx hb dX6_know_55 rfl (lv_at hl 0 rfl) ?_
            refine lv_if_eq (tgt := 74) hx hb dX6_know_56 (by decide) (fun c_56 => ?_) (fun c_56 => ?_)
            · exfalso
              revert c_56
              decide
            · refine lv_aload_n hx hb dX6_know_59 rfl (lv_at hl 2 rfl) ?_
              refine lv_iload_n hx hb dX6_know_60 rfl (lv_at hl 1 rfl) ?_
              refine lv_aload_n hx hb dX6_know_61 rfl (lv_at hl 2 rfl) ?_
              refine va_get (D := G.1) (ci := 6) (v := .ref (q 0)) (C := RX6) (T := TX6) (N := 10) hx hb hts hin6 hown hK.1 hP 0 rfl rfl 0 (by decide) f29 (fun _ h9 => h9) rfl dX6_know_62 ?_
              refine rd_i (va_runV (As := []) (rest := [.int (nI a), .ref h]) ⟨hx, hb, hml, hown, hts⟩ (c_X1_allPeaks l G (q 0) v1 q1) (cwV 0 hts gX6_know_X1_allPeaks rfl rfl rfl (by decide +kernel) ⟨Nat.le_of_ble_eq_true rfl, Nat.le_of_ble_eq_true rfl⟩) (rPre_V hK hP [3] rfl 0 1 rfl rfl) rfl rfl hl.1 rfl (lv_room (Nat.le_of_ble_eq_true rfl)) dX6_know_65 ⟨Nat.zero_le _, Nat.zero_le _⟩) (fun r_65 q_65 => ?_)
              obtain rfl : r_65 = 1 <<< (v1 3 &&& 31) - 1 := q_65
              refine top_i (y := 1 <<< (nI n &&& 31) - 1) (by rw [hn1]) ?_
              refine ca_l (wr := [aI G (q 3) 4096 sco1, aZ G (q1 8) 64 pk, oB (q 2) 2 (oF2 m1 q2), aI G (q2 0) 8 rw1, aI G (q2 1) 10 ow1]) (va_runV (As := [.int (nI a), .int (1 <<< (nI n &&& 31) - 1)]) (rest := []) ⟨hx, hb, hml, hown, hts⟩ ((c_X6_standAt l G h w1 q lk1 v1 q1 xs ys hs vis v3 q3 bs zs (be a) nb n nn sl a (1 <<< (nI n &&& 31) - 1) (by omega) (hn1) (hn) (hsl) (hsl3) (hn3) (hnn) (hN) (hB a (by omega) c_46)) _) (cwV 2 hts gX6_know_X6_standAt rfl rfl rfl (by decide +kernel) ⟨Nat.le_of_ble_eq_true rfl, Nat.le_of_ble_eq_true rfl⟩) (cPre_V hK hP hD [0, 2, 3, 4, 5, 6, 8, 9, 10, 11] (by decide) rfl 0 6 rfl rfl) rfl rfl hl.1 rfl (lv_room (Nat.le_of_ble_eq_true rfl)) dX6_know_68 ⟨Nat.zero_le _, Nat.zero_le _⟩) hP hD hS hA [0, 2, 3, 4, 5, 6, 8, 9, 10, 11] [1, 7, 12, 13, 14] rfl rfl (by decide) (by decide) [5, 0, 6, 7, 8, 9, 10, 1, 11, 12, 13, 14, 2, 3, 4] (fun u_68 => [oB h 6 (oF6 w1 q), aI G (q 3) 4096 sco1, aJ G (q 8) 80 u_68, oB (q 0) 1 (oF1 v1 q1), aI G (q1 0) 10 xs, aI G (q1 1) 10 ys, aI G (q1 2) 10 hs, aZ G (q1 8) 64 pk, aI G (q1 9) 64 vis, oB (q 1) 3 (oF3 v3 q3), aI G (q3 0) 8 bs, aI G (q3 1) 8 zs, oB (q 2) 2 (oF2 m1 q2), aI G (q2 0) 8 rw1, aI G (q2 1) 10 ow1]) (by decide) (fun _ => rfl) (fun r_68 u_68 H locs q_68 hP hD hS => ?_)
              have q_68 : ∀ j, j < 64 → lb r_68 j = anyB (fun p => anyB (fun k => fE (shB vis (1 <<< (nI n &&& 31) - 1) a) (gstand xs ys hs a) (be a) zs nb sl k p j) nn) n ∧ ∀ k p, k < nn → p < n → lb (u_68 (k * 10 + p)) j = fE (shB vis (1 <<< (nI n &&& 31) - 1) a) (gstand xs ys hs a) (be a) zs nb sl k p j := q_68
              have hP : va_P G.1 vwCl [oB h 6 (oF6 w1 q), aI G (q 3) 4096 sco1, aJ G (q 8) 80 u_68, oB (q 0) 1 (oF1 v1 q1), aI G (q1 0) 10 xs, aI G (q1 1) 10 ys, aI G (q1 2) 10 hs, aZ G (q1 8) 64 pk, aI G (q1 9) 64 vis, oB (q 1) 3 (oF3 v3 q3), aI G (q3 0) 8 bs, aI G (q3 1) 8 zs, oB (q 2) 2 (oF2 m1 q2), aI G (q2 0) 8 rw1, aI G (q2 1) 10 ow1] H := hP
              have hD : va_D A [oB h 6 (oF6 w1 q), aI G (q 3) 4096 sco1, aJ G (q 8) 80 u_68, oB (q 0) 1 (oF1 v1 q1), aI G (q1 0) 10 xs, aI G (q1 1) 10 ys, aI G (q1 2) 10 hs, aZ G (q1 8) 64 pk, aI G (q1 9) 64 vis, oB (q 1) 3 (oF3 v3 q3), aI G (q3 0) 8 bs, aI G (q3 1) 8 zs, oB (q 2) 2 (oF2 m1 q2), aI G (q2 0) 8 rw1, aI G (q2 1) 10 ow1] := hD
              refine lv_goto (tgt := 75) hx hb dX6_know_71 (by decide) ?_
              refine lv_lstore_n (lv' := [(3, .long r_68), (2, .int 1), (1, .int (nI a)), (0, .ref h)]) hx hb dX6_know_75 rfl hl (by decide) rfl (fun ls hl => ?_)
              refine lv_iconst (v := 0) hx hb dX6_know_76 (by decide) ?_
              refine lv_istore (lv' := [(5, .int 0), (3, .long r_68), (2, .int 1), (1, .int (nI a)), (0, .ref h)]) hx hb dX6_know_77 hl (by decide) rfl (fun ls hl => ?_)
              have loop_79 : ∀ (nF : Nat) (w2 : Nat → Int32) (sco2 : Nat → Int32) (m2 : Nat → Int32) (rw2 : Nat → Int32) (ow2 : Nat → Int32) (j : Nat), (64 - j) < nF → (j ≤ 64) → (KVs (sV vis pk xs ys hs zs be nb sl n nn (1 <<< (nI n &&& 31) - 1)) nn (a * 64 + j) w2 sco2) → (w2 4 = 1) → ∀ (H : Heap) (locs : List Loc), va_P G.1 vwCl [oB h 6 (oF6 w2 q), aI G (q 3) 4096 sco2, aJ G (q 8) 80 u_68, oB (q 0) 1 (oF1 v1 q1), aI G (q1 0) 10 xs, aI G (q1 1) 10 ys, aI G (q1 2) 10 hs, aZ G (q1 8) 64 pk, aI G (q1 9) 64 vis, oB (q 1) 3 (oF3 v3 q3), aI G (q3 0) 8 bs, aI G (q3 1) 8 zs, oB (q 2) 2 (oF2 m2 q2), aI G (q2 0) 8 rw2, aI G (q2 1) 10 ow2] H → va_D A [oB h 6 (oF6 w2 q), aI G (q 3) 4096 sco2, aJ G (q 8) 80 u_68, oB (q 0) 1 (oF1 v1 q1), aI G (q1 0) 10 xs, aI G (q1 1) 10 ys, aI G (q1 2) 10 hs, aZ G (q1 8) 64 pk, aI G (q1 9) 64 vis, oB (q 1) 3 (oF3 v3 q3), aI G (q3 0) 8 bs, aI G (q3 1) 8 zs, oB (q 2) 2 (oF2 m2 q2), aI G (q2 0) 8 rw2, aI G (q2 1) 10 ow2] → va_S A sM.heap H locs → ∀ (ls : Array Slot), lv_has ls 7 [(5, .int (nI j)), (3, .long r_68), (2, .int 1), (1, .int (nI a)), (0, .ref h)] → W pM l eM rX6_know sM mM [.ref h].toArray bM tM cM H locs 0 0 Q (F0 mM 79 ls []) := by
                intro nF
                induction nF with
                | zero => intro w2 sco2 m2 rw2 ow2 j hmF; exact absurd hmF (Nat.not_lt_zero _)
                | succ nF ih79 =>
                  intro w2 sco2 m2 rw2 ow2 j hmF hj hK2 h42 H locs hP hD hS ls hl
                  refine lv_iload hx hb dX6_know_79 (lv_at hl 0 rfl) ?_
                  refine lv_bipush (v := 64) hx hb dX6_know_81 (by decide) ?_
                  refine lv_icmp_ge (tgt := 134) hx hb dX6_know_83 (by decide) (fun c_83 => ?_) (fun c_83 => ?_)
                  · have c_83 : 64 ≤ j := (c_le (a := 64) (b := j) rfl rfl (by omega) (by omega)).mp c_83
                    refine lv_iinc (v := nI (a + 1)) (lv' := [(1, .int (nI (a + 1))), (5, .int (nI j)), (3, .long r_68), (2, .int 1), (0, .ref h)]) hx hb dX6_know_134 hl (k := 3) rfl (inc_nI _ 1) (by decide) rfl (fun ls hl => ?_)
                    refine lv_goto (tgt := 31) hx hb dX6_know_137 (by decide) ?_
                    exact ih31 w2 sco2 u_68 m2 rw2 ow2 (a + 1) (by omega) (by omega) (by rw [show j = 64 by omega] at hK2; rw [show (a + 1) * 64 = a * 64 + 64 by omega]; exact hK2) (h42) _ _ hP hD hS _ (lv_sub hl [0, 4] rfl)
                  · have c_83 : ¬ 64 ≤ j := fun hne => c_83 ((c_le (a := 64) (b := j) rfl rfl (by omega) (by omega)).mpr hne)
                    refine lv_iload_n hx hb dX6_know_86 rfl (lv_at hl 2 rfl) ?_
                    refine lv_if_eq (tgt := 94) hx hb dX6_know_87 (by decide) (fun c_87 => ?_) (fun c_87 => ?_)
                    · exfalso
                      revert c_87
                      decide
                    · refine lv_iconst (v := 0) hx hb dX6_know_90 (by decide) ?_
                      refine lv_goto (tgt := 95) hx hb dX6_know_91 (by decide) ?_
                      refine lv_istore (lv' := [(6, .int 0), (5, .int (nI j)), (3, .long r_68), (2, .int 1), (1, .int (nI a)), (0, .ref h)]) hx hb dX6_know_95 hl (by decide) rfl (fun ls hl => ?_)
                      refine lv_aload_n hx hb dX6_know_97 rfl (lv_at hl 5 rfl) ?_
                      refine lv_iload_n hx hb dX6_know_98 rfl (lv_at hl 4 rfl) ?_
                      refine lv_bipush (v := 64) hx hb dX6_know_99 (by decide) ?_
                      refine lv_imul hx hb dX6_know_101 ?_
                      refine lv_iload hx hb dX6_know_102 (lv_at hl 1 rfl) ?_
                      refine lv_iadd hx hb dX6_know_104 ?_
                      refine top_i (y := nI (a * 64 + j)) (mul64 a j) ?_
                      refine lv_lload_n hx hb dX6_know_105 rfl (lv_at hl 2 rfl) ?_
                      refine lv_iload hx hb dX6_know_106 (lv_at hl 1 rfl) ?_
                      refine rd_i (va_runS (As := [.long r_68, .int (nI j)]) (rest := [.int (nI (a * 64 + j)), .ref h]) ⟨hx, hb, hml, hown, hts⟩ (c_X6_isAmong l G r_68 j (by omega)) (va_cwS 2 hts gX6_know_X6_isAmong rfl rfl rfl (by decide +kernel) ⟨Nat.le_of_ble_eq_true rfl, Nat.le_of_ble_eq_true rfl⟩) (rPre_S hK hP [] rfl) rfl rfl hl.1 rfl (lv_room (Nat.le_of_ble_eq_true rfl)) dX6_know_108 ⟨Nat.zero_le _, Nat.zero_le _⟩) (fun r_108 q_108 => ?_)
                      obtain rfl : r_108 = b2i (lb r_68 j) := q_108
                      refine lv_if_eq (tgt := 123) hx hb dX6_know_111 (by decide) (fun c_111 => ?_) (fun c_111 => ?_)
                      · have c_111 : (lb r_68 j) = false := b2i_0.mp c_111
                        refine lv_iload hx hb dX6_know_123 (lv_at hl 0 rfl) ?_
                        have hsv : (0 : Int32) = Int32.ofInt (sV vis pk xs ys hs zs be nb sl n nn (1 <<< (nI n &&& 31) - 1) (a * 64 + j)) := by
                          rw [sV_at (pt := a) (j := j) (by omega) c_46, sc_none (fun k p hk hp => by
                            by_cases c : p < n
                            · have h1 := c_111
                              rw [(q_68 j (by omega)).1] at h1
                              have h2 := anyB_no.mp (anyB_no.mp h1 p c) k hk
                              simp [c, h2]
                            · simp [c])]
                          rfl
                        refine top_i (y := Int32.ofInt (sV vis pk xs ys hs zs be nb sl n nn (1 <<< (nI n &&& 31) - 1) (a * 64 + j))) hsv ?_
                        refine ca_v (wr := [aJ G (q 8) 80 u_68, oB (q 0) 1 (oF1 v1 q1), aI G (q1 0) 10 xs, aI G (q1 1) 10 ys, aI G (q1 2) 10 hs, aZ G (q1 8) 64 pk, aI G (q1 9) 64 vis, aI G (q3 0) 8 bs, aI G (q3 1) 8 zs, oB (q 2) 2 (oF2 m2 q2), aI G (q2 0) 8 rw2, aI G (q2 1) 10 ow2]) (va_runV (As := [.int (nI (a * 64 + j)), .int (Int32.ofInt (sV vis pk xs ys hs zs be nb sl n nn (1 <<< (nI n &&& 31) - 1) (a * 64 + j)))]) (rest := []) ⟨hx, hb, hml, hown, hts⟩ ((c_X6_enter l G h w2 q sco2 v3 q3 (sV vis pk xs ys hs zs be nb sl n nn (1 <<< (nI n &&& 31) - 1)) nn (a * 64 + j) (hn3) (hnn) (by omega) (fun x _ => sV_rng _ _ _ _ _ _ _ _ _ _ _ _ hnn x) (hK2)) _) (cwV 2 hts gX6_know_X6_enter rfl rfl rfl (by decide +kernel) ⟨Nat.le_of_ble_eq_true rfl, Nat.le_of_ble_eq_true rfl⟩) (cPre_V hK hP hD [0, 1, 9] (by decide) rfl 0 6 rfl rfl) rfl rfl hl.1 rfl (lv_room (Nat.le_of_ble_eq_true rfl)) dX6_know_125 ⟨Nat.zero_le _, Nat.zero_le _⟩) hP hD hS hA [0, 1, 9] [2, 3, 4, 5, 6, 7, 8, 10, 11, 12, 13, 14] rfl rfl (by decide) (by decide) [12, 13, 0, 1, 2, 3, 4, 5, 6, 14, 7, 8, 9, 10, 11] (fun u_125 => [oB h 6 (oF6 u_125 q), aI G (q 3) 4096 (upd sco2 (a * 64 + j) (Int32.ofInt ((sV vis pk xs ys hs zs be nb sl n nn (1 <<< (nI n &&& 31) - 1)) (a * 64 + j)))), aJ G (q 8) 80 u_68, oB (q 0) 1 (oF1 v1 q1), aI G (q1 0) 10 xs, aI G (q1 1) 10 ys, aI G (q1 2) 10 hs, aZ G (q1 8) 64 pk, aI G (q1 9) 64 vis, oB (q 1) 3 (oF3 v3 q3), aI G (q3 0) 8 bs, aI G (q3 1) 8 zs, oB (q 2) 2 (oF2 m2 q2), aI G (q2 0) 8 rw2, aI G (q2 1) 10 ow2]) (by decide) (fun _ => rfl) (fun u_125 H locs q_125 hP hD hS => ?_)
                        have q_125 : KVs (sV vis pk xs ys hs zs be nb sl n nn (1 <<< (nI n &&& 31) - 1)) nn ((a * 64 + j) + 1) u_125 (upd sco2 (a * 64 + j) (Int32.ofInt ((sV vis pk xs ys hs zs be nb sl n nn (1 <<< (nI n &&& 31) - 1)) (a * 64 + j)))) ∧ u_125 4 = w2 4 := q_125
                        have hP : va_P G.1 vwCl [oB h 6 (oF6 u_125 q), aI G (q 3) 4096 (upd sco2 (a * 64 + j) (Int32.ofInt ((sV vis pk xs ys hs zs be nb sl n nn (1 <<< (nI n &&& 31) - 1)) (a * 64 + j)))), aJ G (q 8) 80 u_68, oB (q 0) 1 (oF1 v1 q1), aI G (q1 0) 10 xs, aI G (q1 1) 10 ys, aI G (q1 2) 10 hs, aZ G (q1 8) 64 pk, aI G (q1 9) 64 vis, oB (q 1) 3 (oF3 v3 q3), aI G (q3 0) 8 bs, aI G (q3 1) 8 zs, oB (q 2) 2 (oF2 m2 q2), aI G (q2 0) 8 rw2, aI G (q2 1) 10 ow2] H := hP
                        have hD : va_D A [oB h 6 (oF6 u_125 q), aI G (q 3) 4096 (upd sco2 (a * 64 + j) (Int32.ofInt ((sV vis pk xs ys hs zs be nb sl n nn (1 <<< (nI n &&& 31) - 1)) (a * 64 + j)))), aJ G (q 8) 80 u_68, oB (q 0) 1 (oF1 v1 q1), aI G (q1 0) 10 xs, aI G (q1 1) 10 ys, aI G (q1 2) 10 hs, aZ G (q1 8) 64 pk, aI G (q1 9) 64 vis, oB (q 1) 3 (oF3 v3 q3), aI G (q3 0) 8 bs, aI G (q3 1) 8 zs, oB (q 2) 2 (oF2 m2 q2), aI G (q2 0) 8 rw2, aI G (q2 1) 10 ow2] := hD
                        refine lv_iinc (v := nI (j + 1)) (lv' := [(5, .int (nI (j + 1))), (6, .int 0), (3, .long r_68), (2, .int 1), (1, .int (nI a)), (0, .ref h)]) hx hb dX6_know_128 hl (k := 1) rfl (inc_nI _ 1) (by decide) rfl (fun ls hl => ?_)
                        refine lv_goto (tgt := 79) hx hb dX6_know_131 (by decide) ?_
                        exact ih79 u_125 (upd sco2 (a * 64 + j) (Int32.ofInt ((sV vis pk xs ys hs zs be nb sl n nn (1 <<< (nI n &&& 31) - 1)) (a * 64 + j)))) m2 rw2 ow2 (j + 1) (by omega) (by omega) (q_125.1) (q_125.2.trans h42) _ _ hP hD hS _ (lv_sub hl [0, 2, 3, 4, 5] rfl)
                      · have c_111 : (lb r_68 j) = true := b2i_n0.mp c_111
                        refine lv_aload_n hx hb dX6_know_114 rfl (lv_at hl 5 rfl) ?_
                        refine lv_iload hx hb dX6_know_115 (lv_at hl 1 rfl) ?_
                        refine ca_i (wr := [aI G (q 3) 4096 sco2, aI G (q1 0) 10 xs, aI G (q1 1) 10 ys, aI G (q1 2) 10 hs, aZ G (q1 8) 64 pk, aI G (q1 9) 64 vis, aI G (q3 0) 8 bs, aI G (q3 1) 8 zs]) (va_runV (As := [.int (nI j)]) (rest := [.int (nI (a * 64 + j)), .ref h]) ⟨hx, hb, hml, hown, hts⟩ ((c_X6_scoreOf l G h w2 q u_68 v1 q1 v3 q3 m2 q2 rw2 ow2 n nn j (hn1) (hn) (hn3) (hnn) (by omega)) _) (cwV 1 hts gX6_know_X6_scoreOf rfl rfl rfl (by decide +kernel) ⟨Nat.le_of_ble_eq_true rfl, Nat.le_of_ble_eq_true rfl⟩) (cPre_V hK hP hD [0, 2, 3, 9, 12, 13, 14] (by decide) rfl 0 6 rfl rfl) rfl rfl hl.1 rfl (lv_room (Nat.le_of_ble_eq_true rfl)) dX6_know_117 ⟨Nat.zero_le _, Nat.zero_le _⟩) hP hD hS hA [0, 2, 3, 9, 12, 13, 14] [1, 4, 5, 6, 7, 8, 10, 11] rfl rfl (by decide) (by decide) [8, 0, 9, 10, 1, 2, 3, 4, 5, 11, 6, 7, 12, 13, 14] (fun u_117 => [oB h 6 (oF6 w2 q), aI G (q 3) 4096 sco2, aJ G (q 8) 80 u_68, oB (q 0) 1 (oF1 v1 q1), aI G (q1 0) 10 xs, aI G (q1 1) 10 ys, aI G (q1 2) 10 hs, aZ G (q1 8) 64 pk, aI G (q1 9) 64 vis, oB (q 1) 3 (oF3 v3 q3), aI G (q3 0) 8 bs, aI G (q3 1) 8 zs, oB (q 2) 2 (oF2 u_117.1 q2), aI G (q2 0) 8 u_117.2.1, aI G (q2 1) 10 u_117.2.2]) (by decide) (fun _ => rfl) (fun r_117 u_117 H locs q_117 hP hD hS => ?_)
                        obtain rfl : r_117 = nI (sc (fun k p => decide (p < n) && lb (u_68 (k * 10 + p)) j) nn) := q_117
                        have hP : va_P G.1 vwCl [oB h 6 (oF6 w2 q), aI G (q 3) 4096 sco2, aJ G (q 8) 80 u_68, oB (q 0) 1 (oF1 v1 q1), aI G (q1 0) 10 xs, aI G (q1 1) 10 ys, aI G (q1 2) 10 hs, aZ G (q1 8) 64 pk, aI G (q1 9) 64 vis, oB (q 1) 3 (oF3 v3 q3), aI G (q3 0) 8 bs, aI G (q3 1) 8 zs, oB (q 2) 2 (oF2 u_117.1 q2), aI G (q2 0) 8 u_117.2.1, aI G (q2 1) 10 u_117.2.2] H := hP
                        have hD : va_D A [oB h 6 (oF6 w2 q), aI G (q 3) 4096 sco2, aJ G (q 8) 80 u_68, oB (q 0) 1 (oF1 v1 q1), aI G (q1 0) 10 xs, aI G (q1 1) 10 ys, aI G (q1 2) 10 hs, aZ G (q1 8) 64 pk, aI G (q1 9) 64 vis, oB (q 1) 3 (oF3 v3 q3), aI G (q3 0) 8 bs, aI G (q3 1) 8 zs, oB (q 2) 2 (oF2 u_117.1 q2), aI G (q2 0) 8 u_117.2.1, aI G (q2 1) 10 u_117.2.2] := hD
                        refine lv_goto (tgt := 125) hx hb dX6_know_120 (by decide) ?_
                        have hsv : (nI (sc (fun k p => decide (p < n) && lb (u_68 (k * 10 + p)) j) nn) : Int32) = Int32.ofInt (sV vis pk xs ys hs zs be nb sl n nn (1 <<< (nI n &&& 31) - 1) (a * 64 + j)) := by
                          rw [sV_at (pt := a) (j := j) (by omega) c_46, oI_nat]
                          congr 1
                          refine sc_cong (fun k p hk hp => ?_)
                          by_cases c : p < n
                          · rw [(q_68 j (by omega)).2 k p hk c]
                          · simp [c]
                        refine top_i (y := Int32.ofInt (sV vis pk xs ys hs zs be nb sl n nn (1 <<< (nI n &&& 31) - 1) (a * 64 + j))) hsv ?_
                        refine ca_v (wr := [aJ G (q 8) 80 u_68, oB (q 0) 1 (oF1 v1 q1), aI G (q1 0) 10 xs, aI G (q1 1) 10 ys, aI G (q1 2) 10 hs, aZ G (q1 8) 64 pk, aI G (q1 9) 64 vis, aI G (q3 0) 8 bs, aI G (q3 1) 8 zs, oB (q 2) 2 (oF2 u_117.1 q2), aI G (q2 0) 8 u_117.2.1, aI G (q2 1) 10 u_117.2.2]) (va_runV (As := [.int (nI (a * 64 + j)), .int (Int32.ofInt (sV vis pk xs ys hs zs be nb sl n nn (1 <<< (nI n &&& 31) - 1) (a * 64 + j)))]) (rest := []) ⟨hx, hb, hml, hown, hts⟩ ((c_X6_enter l G h w2 q sco2 v3 q3 (sV vis pk xs ys hs zs be nb sl n nn (1 <<< (nI n &&& 31) - 1)) nn (a * 64 + j) (hn3) (hnn) (by omega) (fun x _ => sV_rng _ _ _ _ _ _ _ _ _ _ _ _ hnn x) (hK2)) _) (cwV 2 hts gX6_know_X6_enter rfl rfl rfl (by decide +kernel) ⟨Nat.le_of_ble_eq_true rfl, Nat.le_of_ble_eq_true rfl⟩) (cPre_V hK hP hD [0, 1, 9] (by decide) rfl 0 6 rfl rfl) rfl rfl hl.1 rfl (lv_room (Nat.le_of_ble_eq_true rfl)) dX6_know_125 ⟨Nat.zero_le _, Nat.zero_le _⟩) hP hD hS hA [0, 1, 9] [2, 3, 4, 5, 6, 7, 8, 10, 11, 12, 13, 14] rfl rfl (by decide) (by decide) [12, 13, 0, 1, 2, 3, 4, 5, 6, 14, 7, 8, 9, 10, 11] (fun u_125 => [oB h 6 (oF6 u_125 q), aI G (q 3) 4096 (upd sco2 (a * 64 + j) (Int32.ofInt ((sV vis pk xs ys hs zs be nb sl n nn (1 <<< (nI n &&& 31) - 1)) (a * 64 + j)))), aJ G (q 8) 80 u_68, oB (q 0) 1 (oF1 v1 q1), aI G (q1 0) 10 xs, aI G (q1 1) 10 ys, aI G (q1 2) 10 hs, aZ G (q1 8) 64 pk, aI G (q1 9) 64 vis, oB (q 1) 3 (oF3 v3 q3), aI G (q3 0) 8 bs, aI G (q3 1) 8 zs, oB (q 2) 2 (oF2 u_117.1 q2), aI G (q2 0) 8 u_117.2.1, aI G (q2 1) 10 u_117.2.2]) (by decide) (fun _ => rfl) (fun u_125 H locs q_125 hP hD hS => ?_)
                        have q_125 : KVs (sV vis pk xs ys hs zs be nb sl n nn (1 <<< (nI n &&& 31) - 1)) nn ((a * 64 + j) + 1) u_125 (upd sco2 (a * 64 + j) (Int32.ofInt ((sV vis pk xs ys hs zs be nb sl n nn (1 <<< (nI n &&& 31) - 1)) (a * 64 + j)))) ∧ u_125 4 = w2 4 := q_125
                        have hP : va_P G.1 vwCl [oB h 6 (oF6 u_125 q), aI G (q 3) 4096 (upd sco2 (a * 64 + j) (Int32.ofInt ((sV vis pk xs ys hs zs be nb sl n nn (1 <<< (nI n &&& 31) - 1)) (a * 64 + j)))), aJ G (q 8) 80 u_68, oB (q 0) 1 (oF1 v1 q1), aI G (q1 0) 10 xs, aI G (q1 1) 10 ys, aI G (q1 2) 10 hs, aZ G (q1 8) 64 pk, aI G (q1 9) 64 vis, oB (q 1) 3 (oF3 v3 q3), aI G (q3 0) 8 bs, aI G (q3 1) 8 zs, oB (q 2) 2 (oF2 u_117.1 q2), aI G (q2 0) 8 u_117.2.1, aI G (q2 1) 10 u_117.2.2] H := hP
                        have hD : va_D A [oB h 6 (oF6 u_125 q), aI G (q 3) 4096 (upd sco2 (a * 64 + j) (Int32.ofInt ((sV vis pk xs ys hs zs be nb sl n nn (1 <<< (nI n &&& 31) - 1)) (a * 64 + j)))), aJ G (q 8) 80 u_68, oB (q 0) 1 (oF1 v1 q1), aI G (q1 0) 10 xs, aI G (q1 1) 10 ys, aI G (q1 2) 10 hs, aZ G (q1 8) 64 pk, aI G (q1 9) 64 vis, oB (q 1) 3 (oF3 v3 q3), aI G (q3 0) 8 bs, aI G (q3 1) 8 zs, oB (q 2) 2 (oF2 u_117.1 q2), aI G (q2 0) 8 u_117.2.1, aI G (q2 1) 10 u_117.2.2] := hD
                        refine lv_iinc (v := nI (j + 1)) (lv' := [(5, .int (nI (j + 1))), (6, .int 0), (3, .long r_68), (2, .int 1), (1, .int (nI a)), (0, .ref h)]) hx hb dX6_know_128 hl (k := 1) rfl (inc_nI _ 1) (by decide) rfl (fun ls hl => ?_)
                        refine lv_goto (tgt := 79) hx hb dX6_know_131 (by decide) ?_
                        exact ih79 u_125 (upd sco2 (a * 64 + j) (Int32.ofInt ((sV vis pk xs ys hs zs be nb sl n nn (1 <<< (nI n &&& 31) - 1)) (a * 64 + j)))) u_117.1 u_117.2.1 u_117.2.2 (j + 1) (by omega) (by omega) (q_125.1) (q_125.2.trans h42) _ _ hP hD hS _ (lv_sub hl [0, 2, 3, 4, 5] rfl)
              exact loop_79 _ w1 sco1 m1 rw1 ow1 0 (Nat.lt_succ_self _) (Nat.zero_le _) (hK1) (h41) _ _ hP hD hS _ (lv_sub hl [0, 1, 2, 3, 4] rfl)
    exact loop_31 _ (upd (upd (upd (upd v 4 1) 5 0) 6 (-9)) 7 (-1)) sco lk v2 rw ow 0 (Nat.lt_succ_self _) (Nat.zero_le _) (KVs_0 rfl rfl rfl) (rfl) _ _ hP hD hS _ (lv_sub hl [0, 1] rfl)
  · have hk1 : v 4 = 1 ∧ KVs (sV vis pk xs ys hs zs be nb sl n nn (1 <<< (nI n &&& 31) - 1)) nn 4096 v sco := hkn.resolve_left c_4
    exact hret (v, sco, lk, v2, rw, ow) _ _ _ _ (hk1) hP hD hS dX6_know_7
