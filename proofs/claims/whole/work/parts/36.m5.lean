theorem pAt_s {X Y : Nat → Nat} {p k : Nat} : pAtN X Y (p + 1) k = (pAtN X Y p k || decide (X p * 8 + Y p = k)) := rfl
theorem pl_cPk {σ : PS} {k : Nat} : b2i (!pAtN (zx σ) (zy σ) (zn σ) k) = b2i (decide (cPk σ k = 0)) := by
  unfold cPk
  cases pAtN (zx σ) (zy σ) (zn σ) k <;> rfl
theorem LPl_old {σ : PS} {k i : Nat} {ip se be he ip' se' be' he' : Nat → Int32} (h : LPl σ i ip se be he) (hik : i < k) (hok : okPS σ) (e1 : ∀ j, ¬ j = k → ip' j = ip j) (e2 : ∀ j, ¬ j = k → se' j = se j) (e3 : ∀ j, j < 10 * k → be' j = be j ∧ he' j = he j) : LPl σ i ip' se' be' he' := by
  have h10 := hok.1
  refine ⟨(e1 i (by omega)).trans h.1, (e2 i (by omega)).trans h.2.1, fun hc p hp => ?_⟩
  have := e3 (10 * i + p) (by omega)
  rw [this.1, this.2]
  exact h.2.2 hc p hp
theorem LPl_new {σ : PS} {k : Nat} {ip se be he : Nat → Int32} {m : Nat} (hok : okPS σ) (h1 : ip k = b2i (decide (cPk σ k = 0))) (h2 : se k = gbits (cVi σ k) m) (h3 : ∀ p, p < m → be (10 * k + p) = nI (cBe σ k p) ∧ he (10 * k + p) = nI (cHg σ k p)) (h4 : cPk σ k = 0 ∨ m = 0) (h5 : zn σ = m ∨ ¬ cPk σ k = 0) : LPl σ k ip se be he := by
  refine ⟨h1, ?_, fun hc p hp => h3 p (by have := h5.resolve_right (fun q => q hc); omega)⟩
  rw [h2]
  unfold cVis gvis
  by_cases c : cPk σ k = 0
  · rw [if_pos c, ← h5.resolve_right (fun q => q c)]; rfl
  · rw [if_neg c, h4.resolve_left c]; rfl
theorem or_0 (x : Int32) : x ||| 0 = x := b_ext (fun i _ => by rw [b_or, b_0, Bool.or_false])
abbrev rX8_laysPlaces : Room := { frames := 4, cells := 0, slots := 0, locals := 94 }
set_option maxHeartbeats 4000000 in
set_option maxRecDepth 100000 in
theorem c_X8_laysPlaces (l : Launch) (G : kG) (h : Nat) (v : Nat → Int32) (q : Nat → Nat) (px : Nat → Int32) (py : Nat → Int32) (hi : Nat → Int32) (ra : Nat → Int32) (rb : Nat → Int32) (ip : Nat → Int32) (se : Nat → Int32) (be : Nat → Int32) (he : Nat → Int32) (σ : PS) (hok : okPS σ) (hv1 : v 1 = nI (zn σ)) (hv5 : v 5 = nI (zm σ)) (har : arM σ px py hi ra rb) : Cv l G yX8_laysPlaces wsX8_laysPlaces rX8_laysPlaces [.ref h] [oB h 8 (oF8 v q), aI G (q 2) 10 px, aI G (q 3) 10 py, aI G (q 4) 10 hi, aI G (q 6) 8 ra, aI G (q 7) 8 rb, aZ G (q 9) 64 ip, aI G (q 10) 64 se, aI G (q 11) 640 be, aI G (q 12) 640 he] (fun (u : (Nat → Int32) × (Nat → Int32) × (Nat → Int32) × (Nat → Int32)) => ∀ k, k < 64 → LPl σ k u.1 u.2.1 u.2.2.1 u.2.2.2) (fun u => [oB h 8 (oF8 v q), aI G (q 2) 10 px, aI G (q 3) 10 py, aI G (q 4) 10 hi, aI G (q 6) 8 ra, aI G (q 7) 8 rb, aZ G (q 9) 64 u.1, aI G (q 10) 64 u.2.1, aI G (q 11) 640 u.2.2.1, aI G (q 12) 640 u.2.2.2]) 0 0 := by
  refine Cv.of (cc := cX8_laysPlaces) (maxL := 5) (by decide) rfl (Nat.le_of_ble_eq_true rfl) ?_
  intro pM eM sM mM bM tM cM Q A hx hb hts hown hml hnm hA hK hP hD hS hret ls hl
  have hown : sM.vm.findClass RX8 = some mM.cls := hown
  have hl : lv_has ls 5 [(0, .ref h)] := hl
  have hin8 : ∀ w ∈ u_ws RX8 TX8 44, w ∈ wsX8_laysPlaces := by decide +kernel
  have f25 := hts (.fieldLink RX8 25 "HorizonPeaksModel" "isPlace" "[Z") (by decide +kernel)
  have f102 := hts (.fieldLink RX8 102 "HorizonPeaksModel" "peaks" "I") (by decide +kernel)
  have f7 := hts (.fieldLink RX8 7 "HorizonPeaksModel" "px" "[I") (by decide +kernel)
  have f13 := hts (.fieldLink RX8 13 "HorizonPeaksModel" "py" "[I") (by decide +kernel)
  have f29 := hts (.fieldLink RX8 29 "HorizonPeaksModel" "seen" "[I") (by decide +kernel)
  have f32 := hts (.fieldLink RX8 32 "HorizonPeaksModel" "bearings" "[I") (by decide +kernel)
  have f35 := hts (.fieldLink RX8 35 "HorizonPeaksModel" "heights" "[I") (by decide +kernel)
  have f16 := hts (.fieldLink RX8 16 "HorizonPeaksModel" "high" "[I") (by decide +kernel)
  have hn10 := hok.1
  have hm8 := hok.2.1
  have hFF : ∀ r, r < zm σ → ra r = nI (za σ r) ∧ rb r = nI (zb σ r) ∧ za σ r < 10 ∧ zb σ r < 10 := fun r hr => ⟨(har.2 r hr).1, (har.2 r hr).2, by have := (hok.2.2.2.2.1 r hr).1; omega, by have := (hok.2.2.2.2.1 r hr).2.1; omega⟩
  refine lv_iconst (v := 0) hx hb dX8_laysPlaces_0 (by decide) ?_
  refine lv_istore_n (lv' := [(1, .int 0), (0, .ref h)]) hx hb dX8_laysPlaces_1 rfl hl (by decide) rfl (fun ls hl => ?_)
  have loop_2 : ∀ (nF : Nat) (k : Nat) (fi : Nat → Int32) (fv : Nat → Int32) (fb : Nat → Int32) (fh : Nat → Int32), (64 - k) < nF → (k ≤ 64) → (∀ i, i < k → LPl σ i fi fv fb fh) → ∀ (H : Heap) (locs : List Loc), va_P G.1 vwCl [oB h 8 (oF8 v q), aI G (q 2) 10 px, aI G (q 3) 10 py, aI G (q 4) 10 hi, aI G (q 6) 8 ra, aI G (q 7) 8 rb, aZ G (q 9) 64 fi, aI G (q 10) 64 fv, aI G (q 11) 640 fb, aI G (q 12) 640 fh] H → va_D A [oB h 8 (oF8 v q), aI G (q 2) 10 px, aI G (q 3) 10 py, aI G (q 4) 10 hi, aI G (q 6) 8 ra, aI G (q 7) 8 rb, aZ G (q 9) 64 fi, aI G (q 10) 64 fv, aI G (q 11) 640 fb, aI G (q 12) 640 fh] → va_S A sM.heap H locs → ∀ (ls : Array Slot), lv_has ls 5 [(1, .int (nI k)), (0, .ref h)] → W pM l eM rX8_laysPlaces sM mM [.ref h].toArray bM tM cM H locs 0 0 Q (F0 mM 2 ls []) := by
    intro nF
    induction nF with
    | zero => intro k fi fv fb fh hmF; exact absurd hmF (Nat.not_lt_zero _)
    | succ nF ih2 =>
      intro k fi fv fb fh hmF hk hi1 H locs hP hD hS ls hl
      refine lv_iload_n hx hb dX8_laysPlaces_2 rfl (lv_at hl 0 rfl) ?_
      refine lv_bipush (v := 64) hx hb dX8_laysPlaces_3 (by decide) ?_
      refine lv_icmp_ge (tgt := 230) hx hb dX8_laysPlaces_5 (by decide) (fun c_5 => ?_) (fun c_5 => ?_)
      · have c_5 : 64 ≤ k := (c_le (a := 64) (b := k) rfl rfl (by omega) (by omega)).mp c_5
        exact hret (fi, fv, fb, fh) _ _ _ _ (fun k9 h9 => hi1 k9 (by omega)) hP hD hS dX8_laysPlaces_230
      · have c_5 : ¬ 64 ≤ k := fun hne => c_5 ((c_le (a := 64) (b := k) rfl rfl (by omega) (by omega)).mpr hne)
        refine lv_iload_n hx hb dX8_laysPlaces_8 rfl (lv_at hl 0 rfl) ?_
        refine lv_bipush (v := 8) hx hb dX8_laysPlaces_9 (by decide) ?_
        refine lv_idiv hx hb dX8_laysPlaces_11 (by decide) ?_
        refine top_i (y := nI (k / 8)) (div8 (by omega)) ?_
        refine lv_istore_n (lv' := [(2, .int (nI (k / 8))), (1, .int (nI k)), (0, .ref h)]) hx hb dX8_laysPlaces_12 rfl hl (by decide) rfl (fun ls hl => ?_)
        refine lv_iload_n hx hb dX8_laysPlaces_13 rfl (lv_at hl 1 rfl) ?_
        refine lv_bipush (v := 8) hx hb dX8_laysPlaces_14 (by decide) ?_
        refine lv_irem hx hb dX8_laysPlaces_16 (by decide) ?_
        refine top_i (y := nI (k % 8)) (rem8 (by omega)) ?_
        refine lv_istore_n (lv' := [(3, .int (nI (k % 8))), (2, .int (nI (k / 8))), (1, .int (nI k)), (0, .ref h)]) hx hb dX8_laysPlaces_17 rfl hl (by decide) rfl (fun ls hl => ?_)
        refine lv_aload_n hx hb dX8_laysPlaces_18 rfl (lv_at hl 3 rfl) ?_
        refine va_get (D := G.1) (ci := 8) (v := .ref (q 9)) (C := RX8) (T := TX8) (N := 44) hx hb hts hin8 hown hK.1 hP 0 rfl rfl 9 (by decide) f25 (fun _ h9 => h9) rfl dX8_laysPlaces_19 ?_
        refine lv_iload_n hx hb dX8_laysPlaces_22 rfl (lv_at hl 2 rfl) ?_
        refine lv_iconst (v := 1) hx hb dX8_laysPlaces_23 (by decide) ?_
        refine as_z hx hb hK.1 hP hD hS 6 2 rfl rfl (j := k) (rfl) (by omega) (Nat.le_of_ble_eq_true rfl) dX8_laysPlaces_24 (fun H locs hP hD hS => ?_)
        have hP : va_P G.1 vwCl [oB h 8 (oF8 v q), aI G (q 2) 10 px, aI G (q 3) 10 py, aI G (q 4) 10 hi, aI G (q 6) 8 ra, aI G (q 7) 8 rb, aZ G (q 9) 64 (upd fi k 1), aI G (q 10) 64 fv, aI G (q 11) 640 fb, aI G (q 12) 640 fh] H := hP
        have hD : va_D A [oB h 8 (oF8 v q), aI G (q 2) 10 px, aI G (q 3) 10 py, aI G (q 4) 10 hi, aI G (q 6) 8 ra, aI G (q 7) 8 rb, aZ G (q 9) 64 (upd fi k 1), aI G (q 10) 64 fv, aI G (q 11) 640 fb, aI G (q 12) 640 fh] := hD
        refine lv_iconst (v := 0) hx hb dX8_laysPlaces_25 (by decide) ?_
        refine lv_istore (lv' := [(4, .int 0), (3, .int (nI (k % 8))), (2, .int (nI (k / 8))), (1, .int (nI k)), (0, .ref h)]) hx hb dX8_laysPlaces_26 hl (by decide) rfl (fun ls hl => ?_)
        have loop_28 : ∀ (nF : Nat) (p1 : Nat) (gi : Nat → Int32), (zn σ - p1) < nF → (p1 ≤ zn σ) → (gi k = b2i (!pAtN (zx σ) (zy σ) p1 k)) → (∀ j, ¬ j = k → gi j = fi j) → ∀ (H : Heap) (locs : List Loc), va_P G.1 vwCl [oB h 8 (oF8 v q), aI G (q 2) 10 px, aI G (q 3) 10 py, aI G (q 4) 10 hi, aI G (q 6) 8 ra, aI G (q 7) 8 rb, aZ G (q 9) 64 gi, aI G (q 10) 64 fv, aI G (q 11) 640 fb, aI G (q 12) 640 fh] H → va_D A [oB h 8 (oF8 v q), aI G (q 2) 10 px, aI G (q 3) 10 py, aI G (q 4) 10 hi, aI G (q 6) 8 ra, aI G (q 7) 8 rb, aZ G (q 9) 64 gi, aI G (q 10) 64 fv, aI G (q 11) 640 fb, aI G (q 12) 640 fh] → va_S A sM.heap H locs → ∀ (ls : Array Slot), lv_has ls 5 [(4, .int (nI p1)), (3, .int (nI (k % 8))), (2, .int (nI (k / 8))), (1, .int (nI k)), (0, .ref h)] → W pM l eM rX8_laysPlaces sM mM [.ref h].toArray bM tM cM H locs 0 0 Q (F0 mM 28 ls []) := by
          intro nF
          induction nF with
          | zero => intro p1 gi hmF; exact absurd hmF (Nat.not_lt_zero _)
          | succ nF ih28 =>
            intro p1 gi hmF hp1 hgk1 hgo1 H locs hP hD hS ls hl
            refine lv_iload hx hb dX8_laysPlaces_28 (lv_at hl 0 rfl) ?_
            refine lv_aload_n hx hb dX8_laysPlaces_30 rfl (lv_at hl 4 rfl) ?_
            refine va_get (D := G.1) (ci := 8) (v := .int (v 1)) (C := RX8) (T := TX8) (N := 44) hx hb hts hin8 hown hK.1 hP 0 rfl rfl 1 (by decide) f102 (fun _ h9 => h9) rfl dX8_laysPlaces_31 ?_
            refine top_i (y := nI (zn σ)) (hv1) ?_
            refine lv_icmp_ge (tgt := 85) hx hb dX8_laysPlaces_34 (by decide) (fun c_34 => ?_) (fun c_34 => ?_)
            · have c_34 : (zn σ) ≤ p1 := (c_le (a := zn σ) (b := p1) rfl rfl (by omega) (by omega)).mp c_34
              have hp1n : p1 = zn σ := by omega
              have hgk : gi k = b2i (decide (cPk σ k = 0)) := by rw [hgk1, hp1n]; exact pl_cPk
              have hgo : ∀ j, ¬ j = k → gi j = fi j := hgo1
              refine lv_aload_n hx hb dX8_laysPlaces_85 rfl (lv_at hl 4 rfl) ?_
              refine va_get (D := G.1) (ci := 8) (v := .ref (q 10)) (C := RX8) (T := TX8) (N := 44) hx hb hts hin8 hown hK.1 hP 0 rfl rfl 10 (by decide) f29 (fun _ h9 => h9) rfl dX8_laysPlaces_86 ?_
              refine lv_iload_n hx hb dX8_laysPlaces_89 rfl (lv_at hl 3 rfl) ?_
              refine lv_iconst (v := 0) hx hb dX8_laysPlaces_90 (by decide) ?_
              refine as_i hx hb hK.1 hP hD hS 7 0 rfl rfl (j := k) (by omega) (Nat.le_of_ble_eq_true rfl) dX8_laysPlaces_91 (fun H locs hP hD hS => ?_)
              have hP : va_P G.1 vwCl [oB h 8 (oF8 v q), aI G (q 2) 10 px, aI G (q 3) 10 py, aI G (q 4) 10 hi, aI G (q 6) 8 ra, aI G (q 7) 8 rb, aZ G (q 9) 64 gi, aI G (q 10) 64 (upd fv k 0), aI G (q 11) 640 fb, aI G (q 12) 640 fh] H := hP
              have hD : va_D A [oB h 8 (oF8 v q), aI G (q 2) 10 px, aI G (q 3) 10 py, aI G (q 4) 10 hi, aI G (q 6) 8 ra, aI G (q 7) 8 rb, aZ G (q 9) 64 gi, aI G (q 10) 64 (upd fv k 0), aI G (q 11) 640 fb, aI G (q 12) 640 fh] := hD
              refine lv_iconst (v := 0) hx hb dX8_laysPlaces_92 (by decide) ?_
              refine lv_istore (lv' := [(4, .int 0), (3, .int (nI (k % 8))), (2, .int (nI (k / 8))), (1, .int (nI k)), (0, .ref h)]) hx hb dX8_laysPlaces_93 hl (by decide) rfl (fun ls hl => ?_)
              have loop_95 : ∀ (nF : Nat) (p2 : Nat) (gs : Nat → Int32) (gb : Nat → Int32) (gh : Nat → Int32), (zn σ - p2) < nF → (p2 ≤ zn σ) → (gs k = gbits (cVi σ k) p2) → (∀ j, ¬ j = k → gs j = fv j) → (∀ p, p < p2 → gb (10 * k + p) = nI (cBe σ k p) ∧ gh (10 * k + p) = nI (cHg σ k p)) → (∀ j, j < 10 * k → gb j = fb j ∧ gh j = fh j) → (cPk σ k = 0 ∨ p2 = 0) → ∀ (H : Heap) (locs : List Loc), va_P G.1 vwCl [oB h 8 (oF8 v q), aI G (q 2) 10 px, aI G (q 3) 10 py, aI G (q 4) 10 hi, aI G (q 6) 8 ra, aI G (q 7) 8 rb, aZ G (q 9) 64 gi, aI G (q 10) 64 gs, aI G (q 11) 640 gb, aI G (q 12) 640 gh] H → va_D A [oB h 8 (oF8 v q), aI G (q 2) 10 px, aI G (q 3) 10 py, aI G (q 4) 10 hi, aI G (q 6) 8 ra, aI G (q 7) 8 rb, aZ G (q 9) 64 gi, aI G (q 10) 64 gs, aI G (q 11) 640 gb, aI G (q 12) 640 gh] → va_S A sM.heap H locs → ∀ (ls : Array Slot), lv_has ls 5 [(4, .int (nI p2)), (3, .int (nI (k % 8))), (2, .int (nI (k / 8))), (1, .int (nI k)), (0, .ref h)] → W pM l eM rX8_laysPlaces sM mM [.ref h].toArray bM tM cM H locs 0 0 Q (F0 mM 95 ls []) := by
                intro nF
                induction nF with
                | zero => intro p2 gs gb gh hmF; exact absurd hmF (Nat.not_lt_zero _)
                | succ nF ih95 =>
                  intro p2 gs gb gh hmF hp2 hsk hso hbk hbo hpz H locs hP hD hS ls hl
                  refine lv_iload hx hb dX8_laysPlaces_95 (lv_at hl 0 rfl) ?_
                  refine lv_aload_n hx hb dX8_laysPlaces_97 rfl (lv_at hl 4 rfl) ?_
                  refine va_get (D := G.1) (ci := 8) (v := .int (v 1)) (C := RX8) (T := TX8) (N := 44) hx hb hts hin8 hown hK.1 hP 0 rfl rfl 1 (by decide) f102 (fun _ h9 => h9) rfl dX8_laysPlaces_98 ?_
                  refine top_i (y := nI (zn σ)) (hv1) ?_
                  refine lv_icmp_ge (tgt := 224) hx hb dX8_laysPlaces_101 (by decide) (fun c_101 => ?_) (fun c_101 => ?_)
                  · have c_101 : (zn σ) ≤ p2 := (c_le (a := zn σ) (b := p2) rfl rfl (by omega) (by omega)).mp c_101
                    refine lv_iinc (v := nI (k + 1)) (lv' := [(1, .int (nI (k + 1))), (4, .int (nI p2)), (3, .int (nI (k % 8))), (2, .int (nI (k / 8))), (0, .ref h)]) hx hb dX8_laysPlaces_224 hl (k := 3) rfl (inc_nI _ 1) (by decide) rfl (fun ls hl => ?_)
                    refine lv_goto (tgt := 2) hx hb dX8_laysPlaces_227 (by decide) ?_
                    exact ih2 (k + 1) gi gs gb gh (by omega) (by omega) (fun i hik => (Nat.lt_succ_iff_lt_or_eq.mp hik).elim (fun q => LPl_old (hi1 i q) q hok (fun j hj => hgo j hj) (fun j hj => hso j hj) hbo) (fun e => by rw [e]; exact LPl_new hok hgk hsk hbk hpz (Or.inl (by omega)))) _ _ hP hD hS _ (lv_sub hl [0, 4] rfl)
                  · have c_101 : ¬ (zn σ) ≤ p2 := fun hne => c_101 ((c_le (a := zn σ) (b := p2) rfl rfl (by omega) (by omega)).mpr hne)
                    refine lv_aload_n hx hb dX8_laysPlaces_104 rfl (lv_at hl 4 rfl) ?_
                    refine va_get (D := G.1) (ci := 8) (v := .ref (q 9)) (C := RX8) (T := TX8) (N := 44) hx hb hts hin8 hown hK.1 hP 0 rfl rfl 9 (by decide) f25 (fun _ h9 => h9) rfl dX8_laysPlaces_105 ?_
                    refine lv_iload_n hx hb dX8_laysPlaces_108 rfl (lv_at hl 3 rfl) ?_
                    refine al_z hx hb hK.1 hP 6 2 rfl rfl (j := k) (by omega) (Nat.le_of_ble_eq_true rfl) dX8_laysPlaces_109 ?_
                    refine lv_if_eq (tgt := 224) hx hb dX8_laysPlaces_110 (by decide) (fun c_110 => ?_) (fun c_110 => ?_)
                    · have hnc : ¬ cPk σ k = 0 := by rw [hgk] at c_110; exact of_decide_eq_false (b2i_0.mp c_110)
                      refine lv_iinc (v := nI (k + 1)) (lv' := [(1, .int (nI (k + 1))), (4, .int (nI p2)), (3, .int (nI (k % 8))), (2, .int (nI (k / 8))), (0, .ref h)]) hx hb dX8_laysPlaces_224 hl (k := 3) rfl (inc_nI _ 1) (by decide) rfl (fun ls hl => ?_)
                      refine lv_goto (tgt := 2) hx hb dX8_laysPlaces_227 (by decide) ?_
                      exact ih2 (k + 1) gi gs gb gh (by omega) (by omega) (fun i hik => (Nat.lt_succ_iff_lt_or_eq.mp hik).elim (fun q => LPl_old (hi1 i q) q hok (fun j hj => hgo j hj) (fun j hj => hso j hj) hbo) (fun e => by rw [e]; exact LPl_new hok hgk hsk hbk hpz (Or.inr hnc))) _ _ hP hD hS _ (lv_sub hl [0, 4] rfl)
                    · have hc : cPk σ k = 0 := by rw [hgk] at c_110; exact of_decide_eq_true (b2i_n0.mp c_110)
                      refine lv_aload_n hx hb dX8_laysPlaces_113 rfl (lv_at hl 4 rfl) ?_
                      refine va_get (D := G.1) (ci := 8) (v := .ref (q 10)) (C := RX8) (T := TX8) (N := 44) hx hb hts hin8 hown hK.1 hP 0 rfl rfl 10 (by decide) f29 (fun _ h9 => h9) rfl dX8_laysPlaces_114 ?_
                      refine lv_iload_n hx hb dX8_laysPlaces_117 rfl (lv_at hl 3 rfl) ?_
                      refine lv_dup2_11 hx hb dX8_laysPlaces_118 rfl rfl ?_
                      refine al_i hx hb hK.1 hP 7 0 rfl rfl (j := k) (by omega) (Nat.le_of_ble_eq_true rfl) dX8_laysPlaces_119 ?_
                      refine lv_aload_n hx hb dX8_laysPlaces_120 rfl (lv_at hl 4 rfl) ?_
                      refine lv_iload_n hx hb dX8_laysPlaces_121 rfl (lv_at hl 2 rfl) ?_
                      refine lv_iload_n hx hb dX8_laysPlaces_122 rfl (lv_at hl 1 rfl) ?_
                      refine lv_iload hx hb dX8_laysPlaces_123 (lv_at hl 0 rfl) ?_
                      refine rd_i (va_runV (As := [.int (nI (k / 8)), .int (nI (k % 8)), .int (nI p2)]) (rest := [.int (gs k), .int (nI k), .ref (q 10)]) ⟨hx, hb, hml, hown, hts⟩ (c_X8_isSeen l G h v q px py hi ra rb (za σ) (zb σ) (zn σ) (zm σ) k p2 (by omega) (by omega) (hv1) (hn10) (hv5) (hFF) (hm8)) (cwV 3 hts gX8_laysPlaces_X8_isSeen rfl rfl rfl (by decide +kernel) ⟨Nat.le_of_ble_eq_true rfl, Nat.le_of_ble_eq_true rfl⟩) (rPre_V hK hP [0, 1, 2, 3, 4, 5] rfl 0 8 rfl rfl) rfl rfl hl.1 rfl (lv_room (Nat.le_of_ble_eq_true rfl)) dX8_laysPlaces_125 ⟨Nat.zero_le _, Nat.zero_le _⟩) (fun r_125 q_125 => ?_)
                      obtain rfl : r_125 = b2i (!ghid px py hi (zn σ) (za σ) (zb σ) (zm σ) k p2) := q_125
                      refine lv_if_eq (tgt := 138) hx hb dX8_laysPlaces_128 (by decide) (fun c_128 => ?_) (fun c_128 => ?_)
                      · have c_128 : (!ghid px py hi (zn σ) (za σ) (zb σ) (zm σ) k p2) = false := b2i_0.mp c_128
                        have hvi : cVi σ k p2 = false := by rw [cVi, ← ghid_c hok har.1 (by omega)]; exact c_128
                        refine lv_iconst (v := 0) hx hb dX8_laysPlaces_138 (by decide) ?_
                        refine lv_ior hx hb dX8_laysPlaces_139 ?_
                        refine as_i hx hb hK.1 hP hD hS 7 0 rfl rfl (j := k) (by omega) (Nat.le_of_ble_eq_true rfl) dX8_laysPlaces_140 (fun H locs hP hD hS => ?_)
                        have hP : va_P G.1 vwCl [oB h 8 (oF8 v q), aI G (q 2) 10 px, aI G (q 3) 10 py, aI G (q 4) 10 hi, aI G (q 6) 8 ra, aI G (q 7) 8 rb, aZ G (q 9) 64 gi, aI G (q 10) 64 (upd gs k ((gs k) ||| 0)), aI G (q 11) 640 gb, aI G (q 12) 640 gh] H := hP
                        have hD : va_D A [oB h 8 (oF8 v q), aI G (q 2) 10 px, aI G (q 3) 10 py, aI G (q 4) 10 hi, aI G (q 6) 8 ra, aI G (q 7) 8 rb, aZ G (q 9) 64 gi, aI G (q 10) 64 (upd gs k ((gs k) ||| 0)), aI G (q 11) 640 gb, aI G (q 12) 640 gh] := hD
                        refine lv_aload_n hx hb dX8_laysPlaces_141 rfl (lv_at hl 4 rfl) ?_
                        refine va_get (D := G.1) (ci := 8) (v := .ref (q 11)) (C := RX8) (T := TX8) (N := 44) hx hb hts hin8 hown hK.1 hP 0 rfl rfl 11 (by decide) f32 (fun _ h9 => h9) rfl dX8_laysPlaces_142 ?_
                        refine lv_bipush (v := 10) hx hb dX8_laysPlaces_145 (by decide) ?_
                        refine lv_iload_n hx hb dX8_laysPlaces_147 rfl (lv_at hl 3 rfl) ?_
                        refine lv_imul hx hb dX8_laysPlaces_148 ?_
                        refine lv_iload hx hb dX8_laysPlaces_149 (lv_at hl 0 rfl) ?_
                        refine lv_iadd hx hb dX8_laysPlaces_151 ?_
                        refine top_i (y := nI (10 * k + p2)) (mul10' k p2) ?_
                        refine lv_aload_n hx hb dX8_laysPlaces_152 rfl (lv_at hl 4 rfl) ?_
                        refine va_get (D := G.1) (ci := 8) (v := .ref (q 2)) (C := RX8) (T := TX8) (N := 44) hx hb hts hin8 hown hK.1 hP 0 rfl rfl 2 (by decide) f7 (fun _ h9 => h9) rfl dX8_laysPlaces_153 ?_
                        refine lv_iload hx hb dX8_laysPlaces_156 (lv_at hl 0 rfl) ?_
                        refine al_i hx hb hK.1 hP 1 0 rfl rfl (j := p2) (by omega) (Nat.le_of_ble_eq_true rfl) dX8_laysPlaces_158 ?_
                        refine top_i (y := nI (zx σ p2)) ((har.1 p2 (by omega)).1) ?_
                        refine lv_iload_n hx hb dX8_laysPlaces_159 rfl (lv_at hl 2 rfl) ?_
                        refine lv_isub hx hb dX8_laysPlaces_160 ?_
                        refine top_i (y := gx (cX σ) k p2) (rfl) ?_
                        refine lv_aload_n hx hb dX8_laysPlaces_161 rfl (lv_at hl 4 rfl) ?_
                        refine va_get (D := G.1) (ci := 8) (v := .ref (q 3)) (C := RX8) (T := TX8) (N := 44) hx hb hts hin8 hown hK.1 hP 0 rfl rfl 3 (by decide) f13 (fun _ h9 => h9) rfl dX8_laysPlaces_162 ?_
                        refine lv_iload hx hb dX8_laysPlaces_165 (lv_at hl 0 rfl) ?_
                        refine al_i hx hb hK.1 hP 2 0 rfl rfl (j := p2) (by omega) (Nat.le_of_ble_eq_true rfl) dX8_laysPlaces_167 ?_
                        refine top_i (y := nI (zy σ p2)) ((har.1 p2 (by omega)).2.1) ?_
                        refine lv_iload_n hx hb dX8_laysPlaces_168 rfl (lv_at hl 1 rfl) ?_
                        refine lv_isub hx hb dX8_laysPlaces_169 ?_
                        refine top_i (y := gy (cY σ) k p2) (rfl) ?_
                        refine rd_i (va_runS (As := [.int (gx (cX σ) k p2), .int (gy (cY σ) k p2)]) (rest := [.int (nI (10 * k + p2)), .ref (q 11)]) ⟨hx, hb, hml, hown, hts⟩ (c_X8_bearingOf l G (gx (cX σ) k p2) (gy (cY σ) k p2) ((mBe_is hok (by omega) hc (by omega)).2.1) ((mBe_is hok (by omega) hc (by omega)).2.2)) (va_cwS 2 hts gX8_laysPlaces_X8_bearingOf rfl rfl rfl (by decide +kernel) ⟨Nat.le_of_ble_eq_true rfl, Nat.le_of_ble_eq_true rfl⟩) (rPre_S hK hP [] rfl) rfl rfl hl.1 rfl (lv_room (Nat.le_of_ble_eq_true rfl)) dX8_laysPlaces_170 ⟨Nat.zero_le _, Nat.zero_le _⟩) (fun r_170 q_170 => ?_)
                        obtain rfl : r_170 = mbear (gx (cX σ) k p2) (gy (cY σ) k p2) := q_170
                        refine top_i (y := nI (cBe σ k p2)) ((mBe_is hok (by omega) hc (by omega)).1) ?_
                        refine as_i hx hb hK.1 hP hD hS 8 0 rfl rfl (j := 10 * k + p2) (by omega) (Nat.le_of_ble_eq_true rfl) dX8_laysPlaces_173 (fun H locs hP hD hS => ?_)
                        have hP : va_P G.1 vwCl [oB h 8 (oF8 v q), aI G (q 2) 10 px, aI G (q 3) 10 py, aI G (q 4) 10 hi, aI G (q 6) 8 ra, aI G (q 7) 8 rb, aZ G (q 9) 64 gi, aI G (q 10) 64 (upd gs k ((gs k) ||| 0)), aI G (q 11) 640 (upd gb (10 * k + p2) (nI (cBe σ k p2))), aI G (q 12) 640 gh] H := hP
                        have hD : va_D A [oB h 8 (oF8 v q), aI G (q 2) 10 px, aI G (q 3) 10 py, aI G (q 4) 10 hi, aI G (q 6) 8 ra, aI G (q 7) 8 rb, aZ G (q 9) 64 gi, aI G (q 10) 64 (upd gs k ((gs k) ||| 0)), aI G (q 11) 640 (upd gb (10 * k + p2) (nI (cBe σ k p2))), aI G (q 12) 640 gh] := hD
                        refine lv_aload_n hx hb dX8_laysPlaces_174 rfl (lv_at hl 4 rfl) ?_
                        refine va_get (D := G.1) (ci := 8) (v := .ref (q 12)) (C := RX8) (T := TX8) (N := 44) hx hb hts hin8 hown hK.1 hP 0 rfl rfl 12 (by decide) f35 (fun _ h9 => h9) rfl dX8_laysPlaces_175 ?_
                        refine lv_bipush (v := 10) hx hb dX8_laysPlaces_178 (by decide) ?_
                        refine lv_iload_n hx hb dX8_laysPlaces_180 rfl (lv_at hl 3 rfl) ?_
                        refine lv_imul hx hb dX8_laysPlaces_181 ?_
                        refine lv_iload hx hb dX8_laysPlaces_182 (lv_at hl 0 rfl) ?_
                        refine lv_iadd hx hb dX8_laysPlaces_184 ?_
                        refine top_i (y := nI (10 * k + p2)) (mul10' k p2) ?_
                        refine lv_bipush (v := 12) hx hb dX8_laysPlaces_185 (by decide) ?_
                        refine lv_aload_n hx hb dX8_laysPlaces_187 rfl (lv_at hl 4 rfl) ?_
                        refine va_get (D := G.1) (ci := 8) (v := .ref (q 4)) (C := RX8) (T := TX8) (N := 44) hx hb hts hin8 hown hK.1 hP 0 rfl rfl 4 (by decide) f16 (fun _ h9 => h9) rfl dX8_laysPlaces_188 ?_
                        refine lv_iload hx hb dX8_laysPlaces_191 (lv_at hl 0 rfl) ?_
                        refine al_i hx hb hK.1 hP 3 0 rfl rfl (j := p2) (by omega) (Nat.le_of_ble_eq_true rfl) dX8_laysPlaces_193 ?_
                        refine top_i (y := nI (zz σ p2)) ((har.1 p2 (by omega)).2.2) ?_
                        refine lv_imul hx hb dX8_laysPlaces_194 ?_
                        refine lv_aload_n hx hb dX8_laysPlaces_195 rfl (lv_at hl 4 rfl) ?_
                        refine va_get (D := G.1) (ci := 8) (v := .ref (q 2)) (C := RX8) (T := TX8) (N := 44) hx hb hts hin8 hown hK.1 hP 0 rfl rfl 2 (by decide) f7 (fun _ h9 => h9) rfl dX8_laysPlaces_196 ?_
                        refine lv_iload hx hb dX8_laysPlaces_199 (lv_at hl 0 rfl) ?_
                        refine al_i hx hb hK.1 hP 1 0 rfl rfl (j := p2) (by omega) (Nat.le_of_ble_eq_true rfl) dX8_laysPlaces_201 ?_
                        refine top_i (y := nI (zx σ p2)) ((har.1 p2 (by omega)).1) ?_
                        refine lv_iload_n hx hb dX8_laysPlaces_202 rfl (lv_at hl 2 rfl) ?_
                        refine lv_isub hx hb dX8_laysPlaces_203 ?_
                        refine top_i (y := gx (cX σ) k p2) (rfl) ?_
                        refine lv_aload_n hx hb dX8_laysPlaces_204 rfl (lv_at hl 4 rfl) ?_
                        refine va_get (D := G.1) (ci := 8) (v := .ref (q 3)) (C := RX8) (T := TX8) (N := 44) hx hb hts hin8 hown hK.1 hP 0 rfl rfl 3 (by decide) f13 (fun _ h9 => h9) rfl dX8_laysPlaces_205 ?_
                        refine lv_iload hx hb dX8_laysPlaces_208 (lv_at hl 0 rfl) ?_
                        refine al_i hx hb hK.1 hP 2 0 rfl rfl (j := p2) (by omega) (Nat.le_of_ble_eq_true rfl) dX8_laysPlaces_210 ?_
                        refine top_i (y := nI (zy σ p2)) ((har.1 p2 (by omega)).2.1) ?_
                        refine lv_iload_n hx hb dX8_laysPlaces_211 rfl (lv_at hl 1 rfl) ?_
                        refine lv_isub hx hb dX8_laysPlaces_212 ?_
                        refine top_i (y := gy (cY σ) k p2) (rfl) ?_
                        refine rd_i (va_runS (As := [.int (gx (cX σ) k p2), .int (gy (cY σ) k p2)]) (rest := [.int (12 * (nI (zz σ p2))), .int (nI (10 * k + p2)), .ref (q 12)]) ⟨hx, hb, hml, hown, hts⟩ (c_X8_way l G (gx (cX σ) k p2) (gy (cY σ) k p2)) (va_cwS 2 hts gX8_laysPlaces_X8_way rfl rfl rfl (by decide +kernel) ⟨Nat.le_of_ble_eq_true rfl, Nat.le_of_ble_eq_true rfl⟩) (rPre_S hK hP [] rfl) rfl rfl hl.1 rfl (lv_room (Nat.le_of_ble_eq_true rfl)) dX8_laysPlaces_213 ⟨Nat.zero_le _, Nat.zero_le _⟩) (fun r_213 q_213 => ?_)
                        obtain rfl : r_213 = mway (gx (cX σ) k p2) (gy (cY σ) k p2) := q_213
                        refine top_i (y := gway (cX σ) (cY σ) k p2) (mway_is _ _) ?_
                        refine lv_idiv hx hb dX8_laysPlaces_216 ((cHg_is hok (by omega) hc (by omega)).2.2.1) ?_
                        refine top_i (y := nI (cHg σ k p2)) ((cHg_is hok (by omega) hc (by omega)).2.2.2) ?_
                        refine as_i hx hb hK.1 hP hD hS 9 0 rfl rfl (j := 10 * k + p2) (by omega) (Nat.le_of_ble_eq_true rfl) dX8_laysPlaces_217 (fun H locs hP hD hS => ?_)
                        have hP : va_P G.1 vwCl [oB h 8 (oF8 v q), aI G (q 2) 10 px, aI G (q 3) 10 py, aI G (q 4) 10 hi, aI G (q 6) 8 ra, aI G (q 7) 8 rb, aZ G (q 9) 64 gi, aI G (q 10) 64 (upd gs k ((gs k) ||| 0)), aI G (q 11) 640 (upd gb (10 * k + p2) (nI (cBe σ k p2))), aI G (q 12) 640 (upd gh (10 * k + p2) (nI (cHg σ k p2)))] H := hP
                        have hD : va_D A [oB h 8 (oF8 v q), aI G (q 2) 10 px, aI G (q 3) 10 py, aI G (q 4) 10 hi, aI G (q 6) 8 ra, aI G (q 7) 8 rb, aZ G (q 9) 64 gi, aI G (q 10) 64 (upd gs k ((gs k) ||| 0)), aI G (q 11) 640 (upd gb (10 * k + p2) (nI (cBe σ k p2))), aI G (q 12) 640 (upd gh (10 * k + p2) (nI (cHg σ k p2)))] := hD
                        refine lv_iinc (v := nI (p2 + 1)) (lv' := [(4, .int (nI (p2 + 1))), (3, .int (nI (k % 8))), (2, .int (nI (k / 8))), (1, .int (nI k)), (0, .ref h)]) hx hb dX8_laysPlaces_218 hl (k := 0) rfl (inc_nI _ 1) (by decide) rfl (fun ls hl => ?_)
                        refine lv_goto (tgt := 95) hx hb dX8_laysPlaces_221 (by decide) ?_
                        exact ih95 (p2 + 1) (upd gs k ((gs k) ||| 0)) (upd gb (10 * k + p2) (nI (cBe σ k p2))) (upd gh (10 * k + p2) (nI (cHg σ k p2))) (by omega) (by omega) (by rw [pk_us, hsk, gbits, show cVi σ k p2 = false from hvi]; exact or_0 _) (fun j hj => by rw [pk_un hj]; exact hso j hj) (fun p hp => (Nat.lt_succ_iff_lt_or_eq.mp hp).elim (fun e => by rw [pk_un (by omega), pk_un (by omega)]; exact hbk p e) (fun e => by rw [e, pk_us, pk_us]; exact ⟨rfl, rfl⟩)) (fun j hj => by rw [pk_un (by omega), pk_un (by omega)]; exact hbo j hj) (Or.inl hc) _ _ hP hD hS _ (lv_sub hl [0, 1, 2, 3, 4] rfl)
                      · have c_128 : (!ghid px py hi (zn σ) (za σ) (zb σ) (zm σ) k p2) = true := b2i_n0.mp c_128
                        have hvi : cVi σ k p2 = true := by rw [cVi, ← ghid_c hok har.1 (by omega)]; exact c_128
                        refine lv_iconst (v := 1) hx hb dX8_laysPlaces_131 (by decide) ?_
                        refine lv_iload hx hb dX8_laysPlaces_132 (lv_at hl 0 rfl) ?_
                        refine lv_ishl hx hb dX8_laysPlaces_134 ?_
                        refine lv_goto (tgt := 139) hx hb dX8_laysPlaces_135 (by decide) ?_
                        refine lv_ior hx hb dX8_laysPlaces_139 ?_
                        refine as_i hx hb hK.1 hP hD hS 7 0 rfl rfl (j := k) (by omega) (Nat.le_of_ble_eq_true rfl) dX8_laysPlaces_140 (fun H locs hP hD hS => ?_)
                        have hP : va_P G.1 vwCl [oB h 8 (oF8 v q), aI G (q 2) 10 px, aI G (q 3) 10 py, aI G (q 4) 10 hi, aI G (q 6) 8 ra, aI G (q 7) 8 rb, aZ G (q 9) 64 gi, aI G (q 10) 64 (upd gs k ((gs k) ||| (1 <<< ((nI p2) &&& 31)))), aI G (q 11) 640 gb, aI G (q 12) 640 gh] H := hP
                        have hD : va_D A [oB h 8 (oF8 v q), aI G (q 2) 10 px, aI G (q 3) 10 py, aI G (q 4) 10 hi, aI G (q 6) 8 ra, aI G (q 7) 8 rb, aZ G (q 9) 64 gi, aI G (q 10) 64 (upd gs k ((gs k) ||| (1 <<< ((nI p2) &&& 31)))), aI G (q 11) 640 gb, aI G (q 12) 640 gh] := hD
                        refine lv_aload_n hx hb dX8_laysPlaces_141 rfl (lv_at hl 4 rfl) ?_
                        refine va_get (D := G.1) (ci := 8) (v := .ref (q 11)) (C := RX8) (T := TX8) (N := 44) hx hb hts hin8 hown hK.1 hP 0 rfl rfl 11 (by decide) f32 (fun _ h9 => h9) rfl dX8_laysPlaces_142 ?_
                        refine lv_bipush (v := 10) hx hb dX8_laysPlaces_145 (by decide) ?_
                        refine lv_iload_n hx hb dX8_laysPlaces_147 rfl (lv_at hl 3 rfl) ?_
                        refine lv_imul hx hb dX8_laysPlaces_148 ?_
                        refine lv_iload hx hb dX8_laysPlaces_149 (lv_at hl 0 rfl) ?_
                        refine lv_iadd hx hb dX8_laysPlaces_151 ?_
                        refine top_i (y := nI (10 * k + p2)) (mul10' k p2) ?_
                        refine lv_aload_n hx hb dX8_laysPlaces_152 rfl (lv_at hl 4 rfl) ?_
                        refine va_get (D := G.1) (ci := 8) (v := .ref (q 2)) (C := RX8) (T := TX8) (N := 44) hx hb hts hin8 hown hK.1 hP 0 rfl rfl 2 (by decide) f7 (fun _ h9 => h9) rfl dX8_laysPlaces_153 ?_
                        refine lv_iload hx hb dX8_laysPlaces_156 (lv_at hl 0 rfl) ?_
                        refine al_i hx hb hK.1 hP 1 0 rfl rfl (j := p2) (by omega) (Nat.le_of_ble_eq_true rfl) dX8_laysPlaces_158 ?_
                        refine top_i (y := nI (zx σ p2)) ((har.1 p2 (by omega)).1) ?_
                        refine lv_iload_n hx hb dX8_laysPlaces_159 rfl (lv_at hl 2 rfl) ?_
                        refine lv_isub hx hb dX8_laysPlaces_160 ?_
                        refine top_i (y := gx (cX σ) k p2) (rfl) ?_
                        refine lv_aload_n hx hb dX8_laysPlaces_161 rfl (lv_at hl 4 rfl) ?_
                        refine va_get (D := G.1) (ci := 8) (v := .ref (q 3)) (C := RX8) (T := TX8) (N := 44) hx hb hts hin8 hown hK.1 hP 0 rfl rfl 3 (by decide) f13 (fun _ h9 => h9) rfl dX8_laysPlaces_162 ?_
                        refine lv_iload hx hb dX8_laysPlaces_165 (lv_at hl 0 rfl) ?_
                        refine al_i hx hb hK.1 hP 2 0 rfl rfl (j := p2) (by omega) (Nat.le_of_ble_eq_true rfl) dX8_laysPlaces_167 ?_
                        refine top_i (y := nI (zy σ p2)) ((har.1 p2 (by omega)).2.1) ?_
                        refine lv_iload_n hx hb dX8_laysPlaces_168 rfl (lv_at hl 1 rfl) ?_
                        refine lv_isub hx hb dX8_laysPlaces_169 ?_
                        refine top_i (y := gy (cY σ) k p2) (rfl) ?_
                        refine rd_i (va_runS (As := [.int (gx (cX σ) k p2), .int (gy (cY σ) k p2)]) (rest := [.int (nI (10 * k + p2)), .ref (q 11)]) ⟨hx, hb, hml, hown, hts⟩ (c_X8_bearingOf l G (gx (cX σ) k p2) (gy (cY σ) k p2) ((mBe_is hok (by omega) hc (by omega)).2.1) ((mBe_is hok (by omega) hc (by omega)).2.2)) (va_cwS 2 hts gX8_laysPlaces_X8_bearingOf rfl rfl rfl (by decide +kernel) ⟨Nat.le_of_ble_eq_true rfl, Nat.le_of_ble_eq_true rfl⟩) (rPre_S hK hP [] rfl) rfl rfl hl.1 rfl (lv_room (Nat.le_of_ble_eq_true rfl)) dX8_laysPlaces_170 ⟨Nat.zero_le _, Nat.zero_le _⟩) (fun r_170 q_170 => ?_)
                        obtain rfl : r_170 = mbear (gx (cX σ) k p2) (gy (cY σ) k p2) := q_170
                        refine top_i (y := nI (cBe σ k p2)) ((mBe_is hok (by omega) hc (by omega)).1) ?_
                        refine as_i hx hb hK.1 hP hD hS 8 0 rfl rfl (j := 10 * k + p2) (by omega) (Nat.le_of_ble_eq_true rfl) dX8_laysPlaces_173 (fun H locs hP hD hS => ?_)
                        have hP : va_P G.1 vwCl [oB h 8 (oF8 v q), aI G (q 2) 10 px, aI G (q 3) 10 py, aI G (q 4) 10 hi, aI G (q 6) 8 ra, aI G (q 7) 8 rb, aZ G (q 9) 64 gi, aI G (q 10) 64 (upd gs k ((gs k) ||| (1 <<< ((nI p2) &&& 31)))), aI G (q 11) 640 (upd gb (10 * k + p2) (nI (cBe σ k p2))), aI G (q 12) 640 gh] H := hP
                        have hD : va_D A [oB h 8 (oF8 v q), aI G (q 2) 10 px, aI G (q 3) 10 py, aI G (q 4) 10 hi, aI G (q 6) 8 ra, aI G (q 7) 8 rb, aZ G (q 9) 64 gi, aI G (q 10) 64 (upd gs k ((gs k) ||| (1 <<< ((nI p2) &&& 31)))), aI G (q 11) 640 (upd gb (10 * k + p2) (nI (cBe σ k p2))), aI G (q 12) 640 gh] := hD
                        refine lv_aload_n hx hb dX8_laysPlaces_174 rfl (lv_at hl 4 rfl) ?_
                        refine va_get (D := G.1) (ci := 8) (v := .ref (q 12)) (C := RX8) (T := TX8) (N := 44) hx hb hts hin8 hown hK.1 hP 0 rfl rfl 12 (by decide) f35 (fun _ h9 => h9) rfl dX8_laysPlaces_175 ?_
                        refine lv_bipush (v := 10) hx hb dX8_laysPlaces_178 (by decide) ?_
                        refine lv_iload_n hx hb dX8_laysPlaces_180 rfl (lv_at hl 3 rfl) ?_
                        refine lv_imul hx hb dX8_laysPlaces_181 ?_
                        refine lv_iload hx hb dX8_laysPlaces_182 (lv_at hl 0 rfl) ?_
                        refine lv_iadd hx hb dX8_laysPlaces_184 ?_
                        refine top_i (y := nI (10 * k + p2)) (mul10' k p2) ?_
                        refine lv_bipush (v := 12) hx hb dX8_laysPlaces_185 (by decide) ?_
                        refine lv_aload_n hx hb dX8_laysPlaces_187 rfl (lv_at hl 4 rfl) ?_
                        refine va_get (D := G.1) (ci := 8) (v := .ref (q 4)) (C := RX8) (T := TX8) (N := 44) hx hb hts hin8 hown hK.1 hP 0 rfl rfl 4 (by decide) f16 (fun _ h9 => h9) rfl dX8_laysPlaces_188 ?_
                        refine lv_iload hx hb dX8_laysPlaces_191 (lv_at hl 0 rfl) ?_
                        refine al_i hx hb hK.1 hP 3 0 rfl rfl (j := p2) (by omega) (Nat.le_of_ble_eq_true rfl) dX8_laysPlaces_193 ?_
                        refine top_i (y := nI (zz σ p2)) ((har.1 p2 (by omega)).2.2) ?_
                        refine lv_imul hx hb dX8_laysPlaces_194 ?_
                        refine lv_aload_n hx hb dX8_laysPlaces_195 rfl (lv_at hl 4 rfl) ?_
                        refine va_get (D := G.1) (ci := 8) (v := .ref (q 2)) (C := RX8) (T := TX8) (N := 44) hx hb hts hin8 hown hK.1 hP 0 rfl rfl 2 (by decide) f7 (fun _ h9 => h9) rfl dX8_laysPlaces_196 ?_
                        refine lv_iload hx hb dX8_laysPlaces_199 (lv_at hl 0 rfl) ?_
                        refine al_i hx hb hK.1 hP 1 0 rfl rfl (j := p2) (by omega) (Nat.le_of_ble_eq_true rfl) dX8_laysPlaces_201 ?_
                        refine top_i (y := nI (zx σ p2)) ((har.1 p2 (by omega)).1) ?_
                        refine lv_iload_n hx hb dX8_laysPlaces_202 rfl (lv_at hl 2 rfl) ?_
                        refine lv_isub hx hb dX8_laysPlaces_203 ?_
                        refine top_i (y := gx (cX σ) k p2) (rfl) ?_
                        refine lv_aload_n hx hb dX8_laysPlaces_204 rfl (lv_at hl 4 rfl) ?_
                        refine va_get (D := G.1) (ci := 8) (v := .ref (q 3)) (C := RX8) (T := TX8) (N := 44) hx hb hts hin8 hown hK.1 hP 0 rfl rfl 3 (by decide) f13 (fun _ h9 => h9) rfl dX8_laysPlaces_205 ?_
                        refine lv_iload hx hb dX8_laysPlaces_208 (lv_at hl 0 rfl) ?_
                        refine al_i hx hb hK.1 hP 2 0 rfl rfl (j := p2) (by omega) (Nat.le_of_ble_eq_true rfl) dX8_laysPlaces_210 ?_
                        refine top_i (y := nI (zy σ p2)) ((har.1 p2 (by omega)).2.1) ?_
                        refine lv_iload_n hx hb dX8_laysPlaces_211 rfl (lv_at hl 1 rfl) ?_
                        refine lv_isub hx hb dX8_laysPlaces_212 ?_
                        refine top_i (y := gy (cY σ) k p2) (rfl) ?_
                        refine rd_i (va_runS (As := [.int (gx (cX σ) k p2), .int (gy (cY σ) k p2)]) (rest := [.int (12 * (nI (zz σ p2))), .int (nI (10 * k + p2)), .ref (q 12)]) ⟨hx, hb, hml, hown, hts⟩ (c_X8_way l G (gx (cX σ) k p2) (gy (cY σ) k p2)) (va_cwS 2 hts gX8_laysPlaces_X8_way rfl rfl rfl (by decide +kernel) ⟨Nat.le_of_ble_eq_true rfl, Nat.le_of_ble_eq_true rfl⟩) (rPre_S hK hP [] rfl) rfl rfl hl.1 rfl (lv_room (Nat.le_of_ble_eq_true rfl)) dX8_laysPlaces_213 ⟨Nat.zero_le _, Nat.zero_le _⟩) (fun r_213 q_213 => ?_)
                        obtain rfl : r_213 = mway (gx (cX σ) k p2) (gy (cY σ) k p2) := q_213
                        refine top_i (y := gway (cX σ) (cY σ) k p2) (mway_is _ _) ?_
                        refine lv_idiv hx hb dX8_laysPlaces_216 ((cHg_is hok (by omega) hc (by omega)).2.2.1) ?_
                        refine top_i (y := nI (cHg σ k p2)) ((cHg_is hok (by omega) hc (by omega)).2.2.2) ?_
                        refine as_i hx hb hK.1 hP hD hS 9 0 rfl rfl (j := 10 * k + p2) (by omega) (Nat.le_of_ble_eq_true rfl) dX8_laysPlaces_217 (fun H locs hP hD hS => ?_)
                        have hP : va_P G.1 vwCl [oB h 8 (oF8 v q), aI G (q 2) 10 px, aI G (q 3) 10 py, aI G (q 4) 10 hi, aI G (q 6) 8 ra, aI G (q 7) 8 rb, aZ G (q 9) 64 gi, aI G (q 10) 64 (upd gs k ((gs k) ||| (1 <<< ((nI p2) &&& 31)))), aI G (q 11) 640 (upd gb (10 * k + p2) (nI (cBe σ k p2))), aI G (q 12) 640 (upd gh (10 * k + p2) (nI (cHg σ k p2)))] H := hP
                        have hD : va_D A [oB h 8 (oF8 v q), aI G (q 2) 10 px, aI G (q 3) 10 py, aI G (q 4) 10 hi, aI G (q 6) 8 ra, aI G (q 7) 8 rb, aZ G (q 9) 64 gi, aI G (q 10) 64 (upd gs k ((gs k) ||| (1 <<< ((nI p2) &&& 31)))), aI G (q 11) 640 (upd gb (10 * k + p2) (nI (cBe σ k p2))), aI G (q 12) 640 (upd gh (10 * k + p2) (nI (cHg σ k p2)))] := hD
                        refine lv_iinc (v := nI (p2 + 1)) (lv' := [(4, .int (nI (p2 + 1))), (3, .int (nI (k % 8))), (2, .int (nI (k / 8))), (1, .int (nI k)), (0, .ref h)]) hx hb dX8_laysPlaces_218 hl (k := 0) rfl (inc_nI _ 1) (by decide) rfl (fun ls hl => ?_)
                        refine lv_goto (tgt := 95) hx hb dX8_laysPlaces_221 (by decide) ?_
                        exact ih95 (p2 + 1) (upd gs k ((gs k) ||| (1 <<< ((nI p2) &&& 31)))) (upd gb (10 * k + p2) (nI (cBe σ k p2))) (upd gh (10 * k + p2) (nI (cHg σ k p2))) (by omega) (by omega) (by rw [pk_us, hsk, gbits, show cVi σ k p2 = true from hvi]; rfl) (fun j hj => by rw [pk_un hj]; exact hso j hj) (fun p hp => (Nat.lt_succ_iff_lt_or_eq.mp hp).elim (fun e => by rw [pk_un (by omega), pk_un (by omega)]; exact hbk p e) (fun e => by rw [e, pk_us, pk_us]; exact ⟨rfl, rfl⟩)) (fun j hj => by rw [pk_un (by omega), pk_un (by omega)]; exact hbo j hj) (Or.inl hc) _ _ hP hD hS _ (lv_sub hl [0, 1, 2, 3, 4] rfl)
              exact loop_95 _ 0 (upd fv k 0) fb fh (Nat.lt_succ_self _) (Nat.zero_le _) (pk_us) (fun j hj => pk_un hj) (fun p hp => absurd hp (Nat.not_lt_zero p)) (fun j _ => ⟨rfl, rfl⟩) (Or.inr rfl) _ _ hP hD hS _ (lv_sub hl [0, 1, 2, 3, 4] rfl)
            · have c_34 : ¬ (zn σ) ≤ p1 := fun hne => c_34 ((c_le (a := zn σ) (b := p1) rfl rfl (by omega) (by omega)).mpr hne)
              have hx1 := hok.2.2.2.1 p1 (by omega)
              refine lv_aload_n hx hb dX8_laysPlaces_37 rfl (lv_at hl 4 rfl) ?_
              refine va_get (D := G.1) (ci := 8) (v := .ref (q 9)) (C := RX8) (T := TX8) (N := 44) hx hb hts hin8 hown hK.1 hP 0 rfl rfl 9 (by decide) f25 (fun _ h9 => h9) rfl dX8_laysPlaces_38 ?_
              refine lv_iload_n hx hb dX8_laysPlaces_41 rfl (lv_at hl 3 rfl) ?_
              refine lv_aload_n hx hb dX8_laysPlaces_42 rfl (lv_at hl 4 rfl) ?_
              refine va_get (D := G.1) (ci := 8) (v := .ref (q 9)) (C := RX8) (T := TX8) (N := 44) hx hb hts hin8 hown hK.1 hP 0 rfl rfl 9 (by decide) f25 (fun _ h9 => h9) rfl dX8_laysPlaces_43 ?_
              refine lv_iload_n hx hb dX8_laysPlaces_46 rfl (lv_at hl 3 rfl) ?_
              refine al_z hx hb hK.1 hP 6 2 rfl rfl (j := k) (by omega) (Nat.le_of_ble_eq_true rfl) dX8_laysPlaces_47 ?_
              refine lv_if_eq (tgt := 77) hx hb dX8_laysPlaces_48 (by decide) (fun c_48 => ?_) (fun c_48 => ?_)
              · have hp0 : pAtN (zx σ) (zy σ) p1 k = true := by rw [hgk1] at c_48; revert c_48; cases pAtN (zx σ) (zy σ) p1 k <;> decide
                refine lv_iconst (v := 0) hx hb dX8_laysPlaces_77 (by decide) ?_
                refine as_z hx hb hK.1 hP hD hS 6 2 rfl rfl (j := k) (rfl) (by omega) (Nat.le_of_ble_eq_true rfl) dX8_laysPlaces_78 (fun H locs hP hD hS => ?_)
                have hP : va_P G.1 vwCl [oB h 8 (oF8 v q), aI G (q 2) 10 px, aI G (q 3) 10 py, aI G (q 4) 10 hi, aI G (q 6) 8 ra, aI G (q 7) 8 rb, aZ G (q 9) 64 (upd gi k 0), aI G (q 10) 64 fv, aI G (q 11) 640 fb, aI G (q 12) 640 fh] H := hP
                have hD : va_D A [oB h 8 (oF8 v q), aI G (q 2) 10 px, aI G (q 3) 10 py, aI G (q 4) 10 hi, aI G (q 6) 8 ra, aI G (q 7) 8 rb, aZ G (q 9) 64 (upd gi k 0), aI G (q 10) 64 fv, aI G (q 11) 640 fb, aI G (q 12) 640 fh] := hD
                refine lv_iinc (v := nI (p1 + 1)) (lv' := [(4, .int (nI (p1 + 1))), (3, .int (nI (k % 8))), (2, .int (nI (k / 8))), (1, .int (nI k)), (0, .ref h)]) hx hb dX8_laysPlaces_79 hl (k := 0) rfl (inc_nI _ 1) (by decide) rfl (fun ls hl => ?_)
                refine lv_goto (tgt := 28) hx hb dX8_laysPlaces_82 (by decide) ?_
                exact ih28 (p1 + 1) (upd gi k 0) (by omega) (by omega) (by rw [pk_us, pAt_s, hp0]; rfl) (fun j hj => by rw [pk_un hj]; exact hgo1 j hj) _ _ hP hD hS _ (lv_sub hl [0, 1, 2, 3, 4] rfl)
              · have hp0 : pAtN (zx σ) (zy σ) p1 k = false := by rw [hgk1] at c_48; revert c_48; cases pAtN (zx σ) (zy σ) p1 k <;> decide
                refine lv_aload_n hx hb dX8_laysPlaces_51 rfl (lv_at hl 4 rfl) ?_
                refine va_get (D := G.1) (ci := 8) (v := .ref (q 2)) (C := RX8) (T := TX8) (N := 44) hx hb hts hin8 hown hK.1 hP 0 rfl rfl 2 (by decide) f7 (fun _ h9 => h9) rfl dX8_laysPlaces_52 ?_
                refine lv_iload hx hb dX8_laysPlaces_55 (lv_at hl 0 rfl) ?_
                refine al_i hx hb hK.1 hP 1 0 rfl rfl (j := p1) (by omega) (Nat.le_of_ble_eq_true rfl) dX8_laysPlaces_57 ?_
                refine top_i (y := nI (zx σ p1)) ((har.1 p1 (by omega)).1) ?_
                refine lv_iload_n hx hb dX8_laysPlaces_58 rfl (lv_at hl 2 rfl) ?_
                refine lv_icmp_ne (tgt := 73) hx hb dX8_laysPlaces_59 (by decide) (fun c_59 => ?_) (fun c_59 => ?_)
                · have c_59 : ¬ (zx σ p1) = (k / 8) := fun hne => c_59 ((c_eq (a := zx σ p1) (b := k / 8) rfl rfl (by omega) (by omega)).mpr hne)
                  refine lv_iconst (v := 1) hx hb dX8_laysPlaces_73 (by decide) ?_
                  refine lv_goto (tgt := 78) hx hb dX8_laysPlaces_74 (by decide) ?_
                  refine as_z hx hb hK.1 hP hD hS 6 2 rfl rfl (j := k) (rfl) (by omega) (Nat.le_of_ble_eq_true rfl) dX8_laysPlaces_78 (fun H locs hP hD hS => ?_)
                  have hP : va_P G.1 vwCl [oB h 8 (oF8 v q), aI G (q 2) 10 px, aI G (q 3) 10 py, aI G (q 4) 10 hi, aI G (q 6) 8 ra, aI G (q 7) 8 rb, aZ G (q 9) 64 (upd gi k 1), aI G (q 10) 64 fv, aI G (q 11) 640 fb, aI G (q 12) 640 fh] H := hP
                  have hD : va_D A [oB h 8 (oF8 v q), aI G (q 2) 10 px, aI G (q 3) 10 py, aI G (q 4) 10 hi, aI G (q 6) 8 ra, aI G (q 7) 8 rb, aZ G (q 9) 64 (upd gi k 1), aI G (q 10) 64 fv, aI G (q 11) 640 fb, aI G (q 12) 640 fh] := hD
                  refine lv_iinc (v := nI (p1 + 1)) (lv' := [(4, .int (nI (p1 + 1))), (3, .int (nI (k % 8))), (2, .int (nI (k / 8))), (1, .int (nI k)), (0, .ref h)]) hx hb dX8_laysPlaces_79 hl (k := 0) rfl (inc_nI _ 1) (by decide) rfl (fun ls hl => ?_)
                  refine lv_goto (tgt := 28) hx hb dX8_laysPlaces_82 (by decide) ?_
                  exact ih28 (p1 + 1) (upd gi k 1) (by omega) (by omega) (by rw [pk_us, pAt_s, hp0, decide_eq_false (by omega)]; rfl) (fun j hj => by rw [pk_un hj]; exact hgo1 j hj) _ _ hP hD hS _ (lv_sub hl [0, 1, 2, 3, 4] rfl)
                · have c_59 : (zx σ p1) = (k / 8) := (c_eq (a := zx σ p1) (b := k / 8) rfl rfl (by omega) (by omega)).mp c_59
                  refine lv_aload_n hx hb dX8_laysPlaces_62 rfl (lv_at hl 4 rfl) ?_
                  refine va_get (D := G.1) (ci := 8) (v := .ref (q 3)) (C := RX8) (T := TX8) (N := 44) hx hb hts hin8 hown hK.1 hP 0 rfl rfl 3 (by decide) f13 (fun _ h9 => h9) rfl dX8_laysPlaces_63 ?_
                  refine lv_iload hx hb dX8_laysPlaces_66 (lv_at hl 0 rfl) ?_
                  refine al_i hx hb hK.1 hP 2 0 rfl rfl (j := p1) (by omega) (Nat.le_of_ble_eq_true rfl) dX8_laysPlaces_68 ?_
                  refine top_i (y := nI (zy σ p1)) ((har.1 p1 (by omega)).2.1) ?_
                  refine lv_iload_n hx hb dX8_laysPlaces_69 rfl (lv_at hl 1 rfl) ?_
                  refine lv_icmp_eq (tgt := 77) hx hb dX8_laysPlaces_70 (by decide) (fun c_70 => ?_) (fun c_70 => ?_)
                  · have c_70 : (zy σ p1) = (k % 8) := (c_eq (a := zy σ p1) (b := k % 8) rfl rfl (by omega) (by omega)).mp c_70
                    refine lv_iconst (v := 0) hx hb dX8_laysPlaces_77 (by decide) ?_
                    refine as_z hx hb hK.1 hP hD hS 6 2 rfl rfl (j := k) (rfl) (by omega) (Nat.le_of_ble_eq_true rfl) dX8_laysPlaces_78 (fun H locs hP hD hS => ?_)
                    have hP : va_P G.1 vwCl [oB h 8 (oF8 v q), aI G (q 2) 10 px, aI G (q 3) 10 py, aI G (q 4) 10 hi, aI G (q 6) 8 ra, aI G (q 7) 8 rb, aZ G (q 9) 64 (upd gi k 0), aI G (q 10) 64 fv, aI G (q 11) 640 fb, aI G (q 12) 640 fh] H := hP
                    have hD : va_D A [oB h 8 (oF8 v q), aI G (q 2) 10 px, aI G (q 3) 10 py, aI G (q 4) 10 hi, aI G (q 6) 8 ra, aI G (q 7) 8 rb, aZ G (q 9) 64 (upd gi k 0), aI G (q 10) 64 fv, aI G (q 11) 640 fb, aI G (q 12) 640 fh] := hD
                    refine lv_iinc (v := nI (p1 + 1)) (lv' := [(4, .int (nI (p1 + 1))), (3, .int (nI (k % 8))), (2, .int (nI (k / 8))), (1, .int (nI k)), (0, .ref h)]) hx hb dX8_laysPlaces_79 hl (k := 0) rfl (inc_nI _ 1) (by decide) rfl (fun ls hl => ?_)
                    refine lv_goto (tgt := 28) hx hb dX8_laysPlaces_82 (by decide) ?_
                    exact ih28 (p1 + 1) (upd gi k 0) (by omega) (by omega) (by rw [pk_us, pAt_s, decide_eq_true (show zx σ p1 * 8 + zy σ p1 = k by omega), Bool.or_true]; rfl) (fun j hj => by rw [pk_un hj]; exact hgo1 j hj) _ _ hP hD hS _ (lv_sub hl [0, 1, 2, 3, 4] rfl)
                  · have c_70 : ¬ (zy σ p1) = (k % 8) := fun hne => c_70 ((c_eq (a := zy σ p1) (b := k % 8) rfl rfl (by omega) (by omega)).mpr hne)
                    refine lv_iconst (v := 1) hx hb dX8_laysPlaces_73 (by decide) ?_
                    refine lv_goto (tgt := 78) hx hb dX8_laysPlaces_74 (by decide) ?_
                    refine as_z hx hb hK.1 hP hD hS 6 2 rfl rfl (j := k) (rfl) (by omega) (Nat.le_of_ble_eq_true rfl) dX8_laysPlaces_78 (fun H locs hP hD hS => ?_)
                    have hP : va_P G.1 vwCl [oB h 8 (oF8 v q), aI G (q 2) 10 px, aI G (q 3) 10 py, aI G (q 4) 10 hi, aI G (q 6) 8 ra, aI G (q 7) 8 rb, aZ G (q 9) 64 (upd gi k 1), aI G (q 10) 64 fv, aI G (q 11) 640 fb, aI G (q 12) 640 fh] H := hP
                    have hD : va_D A [oB h 8 (oF8 v q), aI G (q 2) 10 px, aI G (q 3) 10 py, aI G (q 4) 10 hi, aI G (q 6) 8 ra, aI G (q 7) 8 rb, aZ G (q 9) 64 (upd gi k 1), aI G (q 10) 64 fv, aI G (q 11) 640 fb, aI G (q 12) 640 fh] := hD
                    refine lv_iinc (v := nI (p1 + 1)) (lv' := [(4, .int (nI (p1 + 1))), (3, .int (nI (k % 8))), (2, .int (nI (k / 8))), (1, .int (nI k)), (0, .ref h)]) hx hb dX8_laysPlaces_79 hl (k := 0) rfl (inc_nI _ 1) (by decide) rfl (fun ls hl => ?_)
                    refine lv_goto (tgt := 28) hx hb dX8_laysPlaces_82 (by decide) ?_
                    exact ih28 (p1 + 1) (upd gi k 1) (by omega) (by omega) (by rw [pk_us, pAt_s, hp0, decide_eq_false (by omega)]; rfl) (fun j hj => by rw [pk_un hj]; exact hgo1 j hj) _ _ hP hD hS _ (lv_sub hl [0, 1, 2, 3, 4] rfl)
        exact loop_28 _ 0 (upd fi k 1) (Nat.lt_succ_self _) (Nat.zero_le _) (pk_us) (fun j hj => pk_un hj) _ _ hP hD hS _ (lv_sub hl [0, 1, 2, 3, 4] rfl)
  exact loop_2 _ 0 ip se be he (Nat.lt_succ_self _) (Nat.zero_le _) (fun j h => absurd h (Nat.not_lt_zero j)) _ _ hP hD hS _ (lv_sub hl [0, 1] rfl)
