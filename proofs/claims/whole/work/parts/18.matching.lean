def gm (rw : Nat → Int32) (wo : Int32) : Nat → Nat → Bool := fun k p => !decide (nI k = wo) && bt (rw k) p
def okOw (ow : Nat → Int32) (own : Nat → Nat) : Prop := ∀ p, p < 10 → (own p < 8 ∧ ow p = nI (own p)) ∨ (own p = 9 ∧ ow p = -9)
def pop (t : Int32) : Nat := fb_ct (bt t) 10
def FP (g : Nat → Nat → Bool) (own : Nat → Nat) (t : Int32) (k : Nat) (b : Bool) (own' : Nat → Nat) (t' : Int32) : Prop :=
  okW g own' ∧ (∀ p, p < 10 → bt t p = true → own' p = own p ∧ bt t' p = true) ∧ (b = true → ∀ i, i < 8 → cnW own' i = cnW own i + (if i = k then 1 else 0)) ∧
  (b = false → (∀ p, p < 10 → own' p = own p) ∧ (∀ p, p < 10 → g k p = true → bt t' p = true) ∧ ∀ p, p < 10 → bt t' p = true → bt t p = false → own p < 8 ∧ ∀ q, q < 10 → g (own p) q = true → bt t' q = true)
theorem bt_one {p : Nat} (hp : p < 10) {i : Nat} (hi : i < 32) : bt ((1 : Int32) <<< (nI p &&& 31)) i = decide (i = p) := by
  rw [b_shl p (by omega) 1 hi]
  have h1 : ∀ j, j < 32 → bt 1 j = decide (j = 0) := by decide
  rw [h1 _ (by omega)]
  by_cases c : i = p
  · subst c; simp
  · by_cases d : p ≤ i
    · simp [d, c]; omega
    · simp [d, c]
theorem bt_set {t : Int32} {p : Nat} (hp : p < 10) {i : Nat} (hi : i < 10) : bt (t ||| ((1 : Int32) <<< (nI p &&& 31))) i = (bt t i || decide (i = p)) := by
  rw [b_or, bt_one hp (by omega)]
theorem bt_test {x t : Int32} {p : Nat} (hp : p < 10) : x &&& (t ^^^ (-1)) &&& ((1 : Int32) <<< (nI p &&& 31)) = 0 ↔ ¬ (bt x p = true ∧ bt t p = false) := by
  have hx : ∀ i, i < 32 → bt (x &&& (t ^^^ (-1)) &&& ((1 : Int32) <<< (nI p &&& 31))) i = ((bt x i && !bt t i) && decide (i = p)) := by
    intro i hi
    rw [b_and, b_and, b_xor, b_m1 i hi, bt_one hp hi]
    simp
  constructor
  · intro h q
    have := hx p (by omega)
    rw [h, b_0] at this
    simp [q.1, q.2] at this
  · intro h
    refine b_ext (fun i hi => ?_)
    rw [hx i hi, b_0]
    by_cases c : i = p
    · subst c
      cases e1 : bt x i <;> cases e2 : bt t i <;> simp_all
    · simp [c]
theorem pop_le (t : Int32) : pop t ≤ 10 := fb_ct_le _ _
theorem pop_set {t t1 : Int32} {p : Nat} (hp : p < 10) (h : bt t1 p = false) (hm : ∀ q, q < 10 → bt t q = true → bt t1 q = true) : pop t + 1 ≤ pop (t1 ||| ((1 : Int32) <<< (nI p &&& 31))) := by
  unfold pop
  have h1 : fb_ct (bt (t1 ||| ((1 : Int32) <<< (nI p &&& 31)))) 10 = fb_ct (fun k => if k = p then true else bt t1 k) 10 := fb_ct_cong (fun k hk => by rw [bt_set hp hk]; by_cases c : k = p <;> simp [c])
  have h2 := fb_ct_upd (bt t1) true hp
  have h3 := fb_ct_sub hm
  rw [h1]
  simp only [h, if_true, Bool.false_eq_true, if_false] at h2
  omega
theorem cnW_upd {own : Nat → Nat} {p k : Nat} (hp : p < 10) (i : Nat) : cnW (updN own p k) i + (if own p = i then 1 else 0) = cnW own i + (if k = i then 1 else 0) := by
  unfold cnW
  have h1 : fb_ct (fun q => decide (updN own p k q = i)) 10 = fb_ct (fun q => if q = p then decide (k = i) else decide (own q = i)) 10 := fb_ct_cong (fun q _ => by
    by_cases c : q = p
    · rw [c, updN_s, if_pos rfl]
    · rw [updN_n c, if_neg c])
  have h2 := fb_ct_upd (fun q => decide (own q = i)) (decide (k = i)) hp
  rw [h1]
  simpa using h2
theorem okOw_upd {ow : Nat → Int32} {own : Nat → Nat} {p k : Nat} (h : okOw ow own) (hk : k < 8) : okOw (upd ow p (nI k)) (updN own p k) := by
  intro q hq
  by_cases c : q = p
  · rw [c, pk_us, updN_s]; exact Or.inl ⟨hk, rfl⟩
  · rw [pk_un c, updN_n c]; exact h q hq
theorem okW_upd {g : Nat → Nat → Bool} {own : Nat → Nat} {p k : Nat} (h : okW g own) (hg : g k p = true) : okW g (updN own p k) := by
  intro q hq h8
  by_cases c : q = p
  · rw [c, updN_s]; exact hg
  · rw [updN_n c] at h8 ⊢; exact h q hq h8
/-- found at a peak that nobody has -/
theorem FP_free {g : Nat → Nat → Bool} {own : Nat → Nat} {t t1 : Int32} {k p : Nat} (hok : okW g own) (hp : p < 10) (hg : g k p = true) (hn : own p = 9) (hk : k < 8) (hm : ∀ q, q < 10 → bt t q = true → bt t1 q = true) (ht : bt t1 p = false) : FP g own t k true (updN own p k) (t1 ||| ((1 : Int32) <<< (nI p &&& 31))) := by
  refine ⟨okW_upd hok hg, ?_, ?_, fun h => by cases h⟩
  · intro q hq hb
    have hqp : q ≠ p := fun e => by rw [e] at hb; rw [hm p hp hb] at ht; cases ht
    exact ⟨updN_n hqp, by rw [bt_set hp hq, hm q hq hb]; rfl⟩
  · intro _ i hi
    have := cnW_upd (own := own) (k := k) hp i
    rw [if_neg (by omega)] at this
    by_cases c : k = i
    · rw [if_pos c] at this; rw [if_pos c.symm]; omega
    · rw [if_neg c] at this; rw [if_neg (fun e => c e.symm)]; omega
/-- found by way of another notch -/
theorem FP_via {g : Nat → Nat → Bool} {own own1 : Nat → Nat} {t t1 t3 : Int32} {k p : Nat} (hp : p < 10) (hg : g k p = true) (ho : own p < 8) (hk : k < 8) (hm : ∀ q, q < 10 → bt t q = true → bt t1 q = true) (ht : bt t1 p = false) (h : FP g own (t1 ||| ((1 : Int32) <<< (nI p &&& 31))) (own p) true own1 t3) : FP g own t k true (updN own1 p k) t3 := by
  obtain ⟨h1, h2, h3, -⟩ := h
  have hl := h2 p hp (by rw [bt_set hp hp]; simp)
  refine ⟨okW_upd h1 hg, ?_, ?_, fun h => by cases h⟩
  · intro q hq hb
    have hqp : q ≠ p := fun e => by rw [e] at hb; rw [hm p hp hb] at ht; cases ht
    have := h2 q hq (by rw [bt_set hp hq, hm q hq hb]; rfl)
    exact ⟨by rw [updN_n hqp]; exact this.1, this.2⟩
  · intro _ i hi
    have a := cnW_upd (own := own1) (k := k) hp i
    have b := h3 rfl i hi
    rw [hl.1] at a
    by_cases c : k = i
    · rw [if_pos c] at a; rw [if_pos c.symm]
      by_cases d : own p = i
      · rw [if_pos d] at a; rw [if_pos d.symm] at b; omega
      · rw [if_neg d] at a; rw [if_neg (fun e => d e.symm)] at b; omega
    · rw [if_neg c] at a; rw [if_neg (fun e => c e.symm)]
      by_cases d : own p = i
      · rw [if_pos d] at a; rw [if_pos d.symm] at b; omega
      · rw [if_neg d] at a; rw [if_neg (fun e => d e.symm)] at b; omega
/-- what the loop knows at the peak p -/
def FL (g : Nat → Nat → Bool) (own : Nat → Nat) (t : Int32) (k p : Nat) (t1 : Int32) : Prop := (∀ q, q < 10 → bt t q = true → bt t1 q = true) ∧ (∀ q, q < p → g k q = true → bt t1 q = true) ∧ ∀ q, q < 10 → bt t1 q = true → bt t q = false → own q < 8 ∧ ∀ r, r < 10 → g (own q) r = true → bt t1 r = true
theorem FL_0 {g : Nat → Nat → Bool} {own : Nat → Nat} {t : Int32} {k : Nat} : FL g own t k 0 t := ⟨fun _ _ h => h, fun q h => absurd h (Nat.not_lt_zero q), fun q _ h h2 => by rw [h] at h2; cases h2⟩
theorem FL_skip {g : Nat → Nat → Bool} {own : Nat → Nat} {t t1 : Int32} {k p : Nat} (h : FL g own t k p t1) (hs : g k p = true → bt t1 p = true) : FL g own t k (p + 1) t1 :=
  ⟨h.1, fun q hq hg => (Nat.lt_succ_iff_lt_or_eq.mp hq).elim (fun c => h.2.1 q c hg) (fun c => by rw [c] at hg ⊢; exact hs hg), h.2.2⟩
theorem FL_fail {g : Nat → Nat → Bool} {own own1 : Nat → Nat} {t t1 t3 : Int32} {k p : Nat} (h : FL g own t k p t1) (hp : p < 10) (ho : own p < 8) (hf : FP g own (t1 ||| ((1 : Int32) <<< (nI p &&& 31))) (own p) false own1 t3) : FL g own t k (p + 1) t3 := by
  obtain ⟨h1, h2, -, h4⟩ := hf
  obtain ⟨c1, c2, c3⟩ := h4 rfl
  have up : ∀ q, q < 10 → bt t1 q = true → bt t3 q = true := fun q hq hb => (h2 q hq (by rw [bt_set hp hq, hb]; rfl)).2
  have hpp : bt t3 p = true := (h2 p hp (by rw [bt_set hp hp]; simp)).2
  refine ⟨fun q hq hb => up q hq (h.1 q hq hb), ?_, ?_⟩
  · intro q hq hg
    rcases Nat.lt_succ_iff_lt_or_eq.mp hq with c | c
    · exact up q (by omega) (h.2.1 q c hg)
    · rw [c]; exact hpp
  · intro q hq hb hn
    by_cases e : bt t1 q = true
    · obtain ⟨a, b⟩ := h.2.2 q hq e hn
      exact ⟨a, fun r hr hg => up r hr (b r hr hg)⟩
    · have e' := eq_false_of_ne_true e
      by_cases d : q = p
      · rw [d]; exact ⟨ho, c2⟩
      · exact c3 q hq hb (by rw [bt_set hp hq, e']; simp [d])
theorem FP_no {g : Nat → Nat → Bool} {own : Nat → Nat} {t t1 : Int32} {k : Nat} (hok : okW g own) (h : FL g own t k 10 t1) : FP g own t k false own t1 :=
  ⟨hok, fun p hp hb => ⟨rfl, h.1 p hp hb⟩, fun e => (by cases e), fun _ => ⟨fun _ _ => rfl, fun p hp hg => h.2.1 p hp hg, h.2.2⟩⟩
theorem okOw_eq {ow : Nat → Int32} {own own1 : Nat → Nat} (h : okOw ow own1) (e : ∀ p, p < 10 → own1 p = own p) : okOw ow own := fun p hp => by rw [← e p hp]; exact h p hp
theorem FP_cl {g : Nat → Nat → Bool} {own own1 : Nat → Nat} {t' : Int32} {K : Nat} (hm : maW g own K) (h : FP g own 0 K false own1 t') : clW g own K := by
  obtain ⟨c1, c2, c3⟩ := h.2.2.2 rfl
  refine ⟨fun r => r = K ∨ ∃ p, p < 10 ∧ bt t' p = true ∧ own p = r ∧ r < 8, Or.inl rfl, ?_, ?_, ?_⟩
  · rintro r (e | ⟨p, hp, hb, e, h8⟩)
    · omega
    · have := hm.2.2 p hp (by omega); omega
  · rintro r (e | ⟨p, hp, hb, e, h8⟩) hr
    · exact absurd e hr
    · exact ⟨p, hp, e⟩
  · rintro r p (e | ⟨p2, hp2, hb2, e, h8⟩) hp hg
    · rw [e] at hg
      have hb := c2 p hp hg
      have ho := (c3 p hp hb (b_0 p)).1
      exact ⟨hm.2.2 p hp ho, Or.inr ⟨p, hp, hb, rfl, ho⟩⟩
    · have hb := (c3 p2 hp2 hb2 (b_0 p2)).2 p hp (by rw [e]; exact hg)
      have ho := (c3 p hp hb (b_0 p)).1
      exact ⟨hm.2.2 p hp ho, Or.inr ⟨p, hp, hb, rfl, ho⟩⟩
theorem gm_k {rw : Nat → Int32} {wo : Int32} {k : Nat} (h : ¬ nI k = wo) (p : Nat) : gm rw wo k p = bt (rw k) p := by simp [gm, h]
theorem gm_ne {rw : Nat → Int32} {wo : Int32} {k p : Nat} (h : gm rw wo k p = true) : ¬ nI k = wo := by
  simp only [gm, Bool.and_eq_true, Bool.not_eq_true', decide_eq_false_iff_not] at h
  exact h.1
theorem m9_ne {j : Nat} (h : j < 2147483648) : (nI j = -9) = False := by
  refine eq_false (fun e => ?_)
  have h1 : (nI j).toInt = (-9 : Int32).toInt := by rw [e]
  rw [nI_toInt h] at h1
  have h2 : (-9 : Int32).toInt = -9 := by decide
  omega
abbrev rX2_findsPeak (f : Nat) : Room := { frames := f, cells := 0, slots := 0, locals := 24 * f }
set_option maxHeartbeats 4000000 in
set_option maxRecDepth 100000 in
theorem c_X2_findsPeak (l : Launch) (G : kG) : ∀ (f : Nat) (h : Nat) (v : Nat → Int32) (q : Nat → Nat) (rw : Nat → Int32) (ow : Nat → Int32) (wo : Int32) (own : Nat → Nat) (k : Nat) (d : Nat) (hf : 10 - pop (v 2) < f) (hk : k < 8) (hd : d ≤ pop (v 2)) (hkw : ¬ nI k = wo) (hO : okOw ow own) (hok : okW (gm rw wo) own), Ci l G yX2_findsPeak wsX2_findsPeak (rX2_findsPeak f) [.ref h, .int (nI k), .int (nI d)] [oB h 2 (oF2 v q), aI G (q 0) 8 rw, aI G (q 1) 10 ow] (fun r (u : (Nat → Int32) × (Nat → Int32)) => ∃ bY oY, r = b2i bY ∧ FP (gm rw wo) own (v 2) k bY oY (u.1 2) ∧ okOw u.2 oY) (fun u => [oB h 2 (oF2 u.1 q), aI G (q 0) 8 rw, aI G (q 1) 10 u.2]) := by
  intro f
  induction f with
  | zero => intro h v q rw ow wo own k d hf hk hd hkw hO hok; exact absurd hf (Nat.not_lt_zero _)
  | succ f ih =>
  intro h v q rw ow wo own k d hf hk hd hkw hO hok
  refine Ci.of (cc := cX2_findsPeak) (maxL := 5) (by decide) rfl (Nat.le_of_ble_eq_true rfl) ?_
  intro pM eM sM mM bM tM cM Q A hx hb hts hown hml hA hK hP hD hS hret ls hl
  have hown : sM.vm.findClass RX2 = some mM.cls := hown
  have hl : lv_has ls 5 [(0, .ref h), (1, .int (nI k)), (2, .int (nI d))] := hl
  have hin2 : ∀ w ∈ u_ws RX2 TX2 3, w ∈ wsX2_findsPeak := by decide +kernel
  have f9 := hts (.fieldLink RX2 9 "HorizonPeaks$Matching" "rows" "[I") (by decide +kernel)
  have f18 := hts (.fieldLink RX2 18 "HorizonPeaks$Matching" "tried" "I") (by decide +kernel)
  have f15 := hts (.fieldLink RX2 15 "HorizonPeaks$Matching" "owners" "[I") (by decide +kernel)
  have hpl := pop_le (v 2)
  refine lv_iload_n hx hb dX2_findsPeak_0 rfl (lv_at hl 1 rfl) ?_
  refine lv_if_lt (tgt := 16) hx hb dX2_findsPeak_1 (by decide) (fun c_1 => ?_) (fun c_1 => ?_)
  · have c_1 : k < 0 := (c_lt (a := k) (b := 0) rfl rfl (by omega) (by omega)).mp c_1
    exfalso
    omega
  · have c_1 : ¬ k < 0 := fun hne => c_1 ((c_lt (a := k) (b := 0) rfl rfl (by omega) (by omega)).mpr hne)
    refine lv_iload_n hx hb dX2_findsPeak_4 rfl (lv_at hl 1 rfl) ?_
    refine lv_bipush (v := 8) hx hb dX2_findsPeak_5 (by decide) ?_
    refine lv_icmp_ge (tgt := 16) hx hb dX2_findsPeak_7 (by decide) (fun c_7 => ?_) (fun c_7 => ?_)
    · have c_7 : 8 ≤ k := (c_le (a := 8) (b := k) rfl rfl (by omega) (by omega)).mp c_7
      exfalso
      omega
    · have c_7 : ¬ 8 ≤ k := fun hne => c_7 ((c_le (a := 8) (b := k) rfl rfl (by omega) (by omega)).mpr hne)
      refine lv_iload_n hx hb dX2_findsPeak_10 rfl (lv_at hl 2 rfl) ?_
      refine lv_bipush (v := 10) hx hb dX2_findsPeak_11 (by decide) ?_
      refine lv_icmp_le (tgt := 18) hx hb dX2_findsPeak_13 (by decide) (fun c_13 => ?_) (fun c_13 => ?_)
      · have c_13 : d ≤ 10 := (c_le (a := d) (b := 10) rfl rfl (by omega) (by omega)).mp c_13
        refine lv_iconst (v := 0) hx hb dX2_findsPeak_18 (by decide) ?_
        refine lv_istore_n (lv' := [(3, .int 0), (0, .ref h), (1, .int (nI k)), (2, .int (nI d))]) hx hb dX2_findsPeak_19 rfl hl (by decide) rfl (fun ls hl => ?_)
        have loop_20 : ∀ (nF : Nat) (w : Nat → Int32) (ow1 : Nat → Int32) (p : Nat), (10 - p) < nF → (p ≤ 10) → (okOw ow1 own) → (FL (gm rw wo) own (v 2) k p (w 2)) → ∀ (H : Heap) (locs : List Loc), va_P G.1 vwCl [oB h 2 (oF2 w q), aI G (q 0) 8 rw, aI G (q 1) 10 ow1] H → va_D A [oB h 2 (oF2 w q), aI G (q 0) 8 rw, aI G (q 1) 10 ow1] → va_S A sM.heap H locs → ∀ (ls : Array Slot), lv_has ls 5 [(3, .int (nI p)), (0, .ref h), (1, .int (nI k)), (2, .int (nI d))] → W pM l eM (rX2_findsPeak (f + 1)) sM mM [.ref h, .int (nI k), .int (nI d)].toArray bM tM cM H locs 0 0 Q (F0 mM 20 ls []) := by
          intro nF
          induction nF with
          | zero => intro w ow1 p hmF; exact absurd hmF (Nat.not_lt_zero _)
          | succ nF ih20 =>
            intro w ow1 p hmF hp10 hO hFL H locs hP hD hS ls hl
            refine lv_iload_n hx hb dX2_findsPeak_20 rfl (lv_at hl 0 rfl) ?_
            refine lv_bipush (v := 10) hx hb dX2_findsPeak_21 (by decide) ?_
            refine lv_icmp_ge (tgt := 103) hx hb dX2_findsPeak_23 (by decide) (fun c_23 => ?_) (fun c_23 => ?_)
            · have c_23 : 10 ≤ p := (c_le (a := 10) (b := p) rfl rfl (by omega) (by omega)).mp c_23
              refine lv_iconst (v := 0) hx hb dX2_findsPeak_103 (by decide) ?_
              have hpost : ∃ bY oY, 0 = b2i bY ∧ FP (gm rw wo) own (v 2) k bY oY ((w, ow1).1 2) ∧ okOw (w, ow1).2 oY := by
                have e : p = 10 := by omega
                subst e
                exact ⟨false, own, rfl, FP_no hok hFL, hO⟩
              exact hret _ (w, ow1) _ _ _ _ (hpost) (rfl) hP hD hS dX2_findsPeak_104
            · have c_23 : ¬ 10 ≤ p := fun hne => c_23 ((c_le (a := 10) (b := p) rfl rfl (by omega) (by omega)).mpr hne)
              refine lv_iconst (v := 1) hx hb dX2_findsPeak_26 (by decide) ?_
              refine lv_iload_n hx hb dX2_findsPeak_27 rfl (lv_at hl 0 rfl) ?_
              refine lv_ishl hx hb dX2_findsPeak_28 ?_
              refine lv_istore (lv' := [(4, .int (1 <<< ((nI p) &&& 31))), (3, .int (nI p)), (0, .ref h), (1, .int (nI k)), (2, .int (nI d))]) hx hb dX2_findsPeak_29 hl (by decide) rfl (fun ls hl => ?_)
              refine lv_aload_n hx hb dX2_findsPeak_31 rfl (lv_at hl 2 rfl) ?_
              refine va_get (D := G.1) (ci := 2) (v := .ref (q 0)) (C := RX2) (T := TX2) (N := 3) hx hb hts hin2 hown hK.1 hP 0 rfl rfl 0 (by decide) f9 (fun _ h9 => h9) rfl dX2_findsPeak_32 ?_
              refine lv_iload_n hx hb dX2_findsPeak_35 rfl (lv_at hl 3 rfl) ?_
              refine al_i hx hb hK.1 hP 1 0 rfl rfl (j := k) (by omega) (Nat.le_of_ble_eq_true rfl) dX2_findsPeak_36 ?_
              refine lv_aload_n hx hb dX2_findsPeak_37 rfl (lv_at hl 2 rfl) ?_
              refine va_get (D := G.1) (ci := 2) (v := .int (w 2)) (C := RX2) (T := TX2) (N := 3) hx hb hts hin2 hown hK.1 hP 0 rfl rfl 2 (by decide) f18 (fun _ h9 => h9) rfl dX2_findsPeak_38 ?_
              refine lv_iconst (v := -1) hx hb dX2_findsPeak_41 (by decide) ?_
              refine lv_ixor hx hb dX2_findsPeak_42 ?_
              refine lv_iand hx hb dX2_findsPeak_43 ?_
              refine lv_iload hx hb dX2_findsPeak_44 (lv_at hl 0 rfl) ?_
              refine lv_iand hx hb dX2_findsPeak_46 ?_
              refine lv_if_eq (tgt := 97) hx hb dX2_findsPeak_47 (by decide) (fun c_47 => ?_) (fun c_47 => ?_)
              · have hbt := (bt_test (p := p) (by omega)).mp c_47
                refine lv_iinc (v := nI (p + 1)) (lv' := [(3, .int (nI (p + 1))), (4, .int (1 <<< ((nI p) &&& 31))), (0, .ref h), (1, .int (nI k)), (2, .int (nI d))]) hx hb dX2_findsPeak_97 hl (k := 1) rfl (inc_nI _ 1) (by decide) rfl (fun ls hl => ?_)
                refine lv_goto (tgt := 20) hx hb dX2_findsPeak_100 (by decide) ?_
                exact ih20 w ow1 (p + 1) (by omega) (by omega) (hO) (FL_skip hFL (fun hg => by rw [gm_k hkw] at hg; by_cases hz : bt (w 2) p = true; exact hz; exact absurd ⟨hg, eq_false_of_ne_true hz⟩ hbt)) _ _ hP hD hS _ (lv_sub hl [0, 2, 3, 4] rfl)
              · have hbt2 : bt (rw k) p = true ∧ bt (w 2) p = false := Classical.byContradiction (fun hz => c_47 ((bt_test (p := p) (by omega)).mpr hz))
                have hgk : gm rw wo k p = true := by rw [gm_k hkw]; exact hbt2.1
                refine lv_aload_n hx hb dX2_findsPeak_50 rfl (lv_at hl 2 rfl) ?_
                refine lv_dup hx hb dX2_findsPeak_51 rfl ?_
                refine va_get (D := G.1) (ci := 2) (v := .int (w 2)) (C := RX2) (T := TX2) (N := 3) hx hb hts hin2 hown hK.1 hP 0 rfl rfl 2 (by decide) f18 (fun _ h9 => h9) rfl dX2_findsPeak_52 ?_
                refine lv_iload hx hb dX2_findsPeak_55 (lv_at hl 0 rfl) ?_
                refine lv_ior hx hb dX2_findsPeak_57 ?_
                refine va_put (D := G.1) (ci := 2) (v := .int ((w 2) ||| (1 <<< ((nI p) &&& 31)))) (ty := .int) (C := RX2) (T := TX2) (N := 3) hx hb hts hin2 tyX2 tyX2_ok nmX2 hown hK.1 hP hD hS 0 rfl rfl 2 (by decide) f18 (fun _ h9 => h9) rfl (by decide +kernel) rfl rfl (Nat.le_of_ble_eq_true rfl) dX2_findsPeak_58 (fun H locs hP hD hS => ?_)
                have hP : va_P G.1 vwCl [oB h 2 (oF2 (upd w 2 ((w 2) ||| (1 <<< ((nI p) &&& 31)))) q), aI G (q 0) 8 rw, aI G (q 1) 10 ow1] H := hP
                have hD : va_D A [oB h 2 (oF2 (upd w 2 ((w 2) ||| (1 <<< ((nI p) &&& 31)))) q), aI G (q 0) 8 rw, aI G (q 1) 10 ow1] := hD
                refine lv_aload_n hx hb dX2_findsPeak_61 rfl (lv_at hl 2 rfl) ?_
                refine va_get (D := G.1) (ci := 2) (v := .ref (q 1)) (C := RX2) (T := TX2) (N := 3) hx hb hts hin2 hown hK.1 hP 0 rfl rfl 1 (by decide) f15 (fun _ h9 => h9) rfl dX2_findsPeak_62 ?_
                refine lv_iload_n hx hb dX2_findsPeak_65 rfl (lv_at hl 1 rfl) ?_
                refine al_i hx hb hK.1 hP 2 0 rfl rfl (j := p) (by omega) (Nat.le_of_ble_eq_true rfl) dX2_findsPeak_66 ?_
                refine lv_bipush (v := -9) hx hb dX2_findsPeak_67 (by decide) ?_
                refine lv_icmp_eq (tgt := 88) hx hb dX2_findsPeak_69 (by decide) (fun c_69 => ?_) (fun c_69 => ?_)
                · have hn9 : own p = 9 := by
                    rcases hO p (by omega) with hz | hz
                    · exfalso; rw [hz.2, m9_ne (by omega)] at c_69; exact c_69
                    · exact hz.1
                  refine lv_aload_n hx hb dX2_findsPeak_88 rfl (lv_at hl 2 rfl) ?_
                  refine va_get (D := G.1) (ci := 2) (v := .ref (q 1)) (C := RX2) (T := TX2) (N := 3) hx hb hts hin2 hown hK.1 hP 0 rfl rfl 1 (by decide) f15 (fun _ h9 => h9) rfl dX2_findsPeak_89 ?_
                  refine lv_iload_n hx hb dX2_findsPeak_92 rfl (lv_at hl 1 rfl) ?_
                  refine lv_iload_n hx hb dX2_findsPeak_93 rfl (lv_at hl 3 rfl) ?_
                  refine as_i hx hb hK.1 hP hD hS 2 0 rfl rfl (j := p) (by omega) (Nat.le_of_ble_eq_true rfl) dX2_findsPeak_94 (fun H locs hP hD hS => ?_)
                  have hP : va_P G.1 vwCl [oB h 2 (oF2 (upd w 2 ((w 2) ||| (1 <<< ((nI p) &&& 31)))) q), aI G (q 0) 8 rw, aI G (q 1) 10 (upd ow1 p (nI k))] H := hP
                  have hD : va_D A [oB h 2 (oF2 (upd w 2 ((w 2) ||| (1 <<< ((nI p) &&& 31)))) q), aI G (q 0) 8 rw, aI G (q 1) 10 (upd ow1 p (nI k))] := hD
                  refine lv_iconst (v := 1) hx hb dX2_findsPeak_95 (by decide) ?_
                  have hpost : ∃ bY oY, 1 = b2i bY ∧ FP (gm rw wo) own (v 2) k bY oY ((upd w 2 ((w 2) ||| (1 <<< ((nI p) &&& 31))), upd ow1 p (nI k)).1 2) ∧ okOw (upd w 2 ((w 2) ||| (1 <<< ((nI p) &&& 31))), upd ow1 p (nI k)).2 oY := by
                    exact ⟨true, updN own p k, rfl, FP_free hok (by omega) hgk hn9 hk hFL.1 hbt2.2, okOw_upd hO hk⟩
                  exact hret _ (upd w 2 ((w 2) ||| (1 <<< ((nI p) &&& 31))), upd ow1 p (nI k)) _ _ _ _ (hpost) (rfl) hP hD hS dX2_findsPeak_96
                · have ho : own p < 8 := by
                    rcases hO p (by omega) with hz | hz
                    · exact hz.1
                    · exact absurd hz.2 c_69
                  have eo : ow1 p = nI (own p) := by
                    rcases hO p (by omega) with hz | hz
                    · exact hz.2
                    · exact absurd hz.2 c_69
                  refine lv_aload_n hx hb dX2_findsPeak_72 rfl (lv_at hl 2 rfl) ?_
                  refine lv_aload_n hx hb dX2_findsPeak_73 rfl (lv_at hl 2 rfl) ?_
                  refine va_get (D := G.1) (ci := 2) (v := .ref (q 1)) (C := RX2) (T := TX2) (N := 3) hx hb hts hin2 hown hK.1 hP 0 rfl rfl 1 (by decide) f15 (fun _ h9 => h9) rfl dX2_findsPeak_74 ?_
                  refine lv_iload_n hx hb dX2_findsPeak_77 rfl (lv_at hl 1 rfl) ?_
                  refine al_i hx hb hK.1 hP 2 0 rfl rfl (j := p) (by omega) (Nat.le_of_ble_eq_true rfl) dX2_findsPeak_78 ?_
                  refine top_i (y := nI (own p)) (eo) ?_
                  refine lv_iload_n hx hb dX2_findsPeak_79 rfl (lv_at hl 4 rfl) ?_
                  refine lv_iconst (v := 1) hx hb dX2_findsPeak_80 (by decide) ?_
                  refine lv_iadd hx hb dX2_findsPeak_81 ?_
                  refine top_i (y := nI (d + 1)) (nI_1 d) ?_
                  refine ca_i (wr := []) (va_runV (As := [.int (nI (own p)), .int (nI (d + 1))]) (rest := []) ⟨hx, hb, hml, hown, hts⟩ ((ih h (upd w 2 ((w 2) ||| (1 <<< ((nI p) &&& 31)))) q rw ow1 wo own (own p) (d + 1) (by have h1 := pop_set (t := v 2) (p := p) (by omega) hbt2.2 hFL.1; have h2 := pop_le (w 2 ||| ((1 : Int32) <<< (nI p &&& 31))); show 10 - pop (w 2 ||| ((1 : Int32) <<< (nI p &&& 31))) < f; omega) (ho) (by have := pop_set (t := v 2) (p := p) (by omega) hbt2.2 hFL.1; show d + 1 ≤ pop (w 2 ||| _); omega) (gm_ne (hok p (by omega) ho)) (hO) (hok)) _) (cwV 2 hts gX2_findsPeak_X2_findsPeak rfl rfl rfl (by decide +kernel) ⟨Nat.le_refl _, by show 8 + (5 + 11) + 24 * f ≤ 24 * (f + 1); omega⟩) (cPre_V hK hP hD [0, 1, 2] (by decide) rfl 0 2 rfl rfl) rfl rfl hl.1 rfl (lv_room (Nat.le_of_ble_eq_true rfl)) dX2_findsPeak_82 ⟨Nat.zero_le _, Nat.zero_le _⟩) hP hD hS hA [0, 1, 2] [] rfl rfl (by decide) (by decide) [0, 1, 2] (fun u_82 => [oB h 2 (oF2 u_82.1 q), aI G (q 0) 8 rw, aI G (q 1) 10 u_82.2]) (by decide) (fun _ => rfl) (fun r_82 u_82 H locs q_82 hP hD hS => ?_)
                  have q_82 : ∃ bY oY, r_82 = b2i bY ∧ FP (gm rw wo) own ((upd w 2 ((w 2) ||| (1 <<< ((nI p) &&& 31)))) 2) (own p) bY oY (u_82.1 2) ∧ okOw u_82.2 oY := q_82
                  have hP : va_P G.1 vwCl [oB h 2 (oF2 u_82.1 q), aI G (q 0) 8 rw, aI G (q 1) 10 u_82.2] H := hP
                  have hD : va_D A [oB h 2 (oF2 u_82.1 q), aI G (q 0) 8 rw, aI G (q 1) 10 u_82.2] := hD
                  obtain ⟨b1, own1, rfl, hF1, hO1⟩ := q_82
                  refine lv_if_eq (tgt := 97) hx hb dX2_findsPeak_85 (by decide) (fun c_85 => ?_) (fun c_85 => ?_)
                  · have c_85 : b1 = false := b2i_0.mp c_85
                    refine lv_iinc (v := nI (p + 1)) (lv' := [(3, .int (nI (p + 1))), (4, .int (1 <<< ((nI p) &&& 31))), (0, .ref h), (1, .int (nI k)), (2, .int (nI d))]) hx hb dX2_findsPeak_97 hl (k := 1) rfl (inc_nI _ 1) (by decide) rfl (fun ls hl => ?_)
                    refine lv_goto (tgt := 20) hx hb dX2_findsPeak_100 (by decide) ?_
                    rw [c_85] at hF1
                    have hF1f := hF1
                    exact ih20 u_82.1 u_82.2 (p + 1) (by omega) (by omega) (okOw_eq hO1 (hF1f.2.2.2 rfl).1) (FL_fail hFL (by omega) ho hF1f) _ _ hP hD hS _ (lv_sub hl [0, 2, 3, 4] rfl)
                  · have c_85 : b1 = true := b2i_n0.mp c_85
                    refine lv_aload_n hx hb dX2_findsPeak_88 rfl (lv_at hl 2 rfl) ?_
                    refine va_get (D := G.1) (ci := 2) (v := .ref (q 1)) (C := RX2) (T := TX2) (N := 3) hx hb hts hin2 hown hK.1 hP 0 rfl rfl 1 (by decide) f15 (fun _ h9 => h9) rfl dX2_findsPeak_89 ?_
                    refine lv_iload_n hx hb dX2_findsPeak_92 rfl (lv_at hl 1 rfl) ?_
                    refine lv_iload_n hx hb dX2_findsPeak_93 rfl (lv_at hl 3 rfl) ?_
                    refine as_i hx hb hK.1 hP hD hS 2 0 rfl rfl (j := p) (by omega) (Nat.le_of_ble_eq_true rfl) dX2_findsPeak_94 (fun H locs hP hD hS => ?_)
                    have hP : va_P G.1 vwCl [oB h 2 (oF2 u_82.1 q), aI G (q 0) 8 rw, aI G (q 1) 10 (upd u_82.2 p (nI k))] H := hP
                    have hD : va_D A [oB h 2 (oF2 u_82.1 q), aI G (q 0) 8 rw, aI G (q 1) 10 (upd u_82.2 p (nI k))] := hD
                    refine lv_iconst (v := 1) hx hb dX2_findsPeak_95 (by decide) ?_
                    have hpost : ∃ bY oY, 1 = b2i bY ∧ FP (gm rw wo) own (v 2) k bY oY ((u_82.1, upd u_82.2 p (nI k)).1 2) ∧ okOw (u_82.1, upd u_82.2 p (nI k)).2 oY := by
                      exact ⟨true, updN own1 p k, rfl, FP_via (by omega) hgk ho hk hFL.1 hbt2.2 (by rw [c_85] at hF1; exact hF1), okOw_upd hO1 hk⟩
                    exact hret _ (u_82.1, upd u_82.2 p (nI k)) _ _ _ _ (hpost) (rfl) hP hD hS dX2_findsPeak_96
        exact loop_20 _ v ow 0 (Nat.lt_succ_self _) (Nat.zero_le _) (hO) (FL_0) _ _ hP hD hS _ (lv_sub hl [0, 1, 2, 3] rfl)
      · have c_13 : ¬ d ≤ 10 := fun hne => c_13 ((c_le (a := d) (b := 10) rfl rfl (by omega) (by omega)).mpr hne)
        exfalso
        omega

theorem c_X2_find (l : Launch) (G : kG) (h : Nat) (v : Nat → Int32) (q : Nat → Nat) (rw : Nat → Int32) (ow : Nat → Int32) (wo : Int32) (own : Nat → Nat) (k : Nat) (d : Nat) (hk : k < 8) (hd : d ≤ pop (v 2)) (hkw : ¬ nI k = wo) (hO : okOw ow own) (hok : okW (gm rw wo) own) : Ci l G yX2_findsPeak wsX2_findsPeak (rX2_findsPeak 11) [.ref h, .int (nI k), .int (nI d)] [oB h 2 (oF2 v q), aI G (q 0) 8 rw, aI G (q 1) 10 ow] (fun r (u : (Nat → Int32) × (Nat → Int32)) => ∃ bY oY, r = b2i bY ∧ FP (gm rw wo) own (v 2) k bY oY (u.1 2) ∧ okOw u.2 oY) (fun u => [oB h 2 (oF2 u.1 q), aI G (q 0) 8 rw, aI G (q 1) 10 u.2]) :=
  c_X2_findsPeak l G 11 h v q rw ow wo own k d (by have := pop_le (v 2); omega) hk hd hkw hO hok

abbrev rX2_most : Room := { frames := 12, cells := 0, slots := 0, locals := 288 }
set_option maxHeartbeats 4000000 in
set_option maxRecDepth 100000 in
theorem c_X2_most (l : Launch) (G : kG) (h : Nat) (v : Nat → Int32) (q : Nat → Nat) (rw : Nat → Int32) (ow : Nat → Int32) (wo : Int32) (nn : Nat) (hnn : nn ≤ 8) : Ci l G yX2_most wsX2_most rX2_most [.ref h, .int (nI nn), .int wo] [oB h 2 (oF2 v q), aI G (q 0) 8 rw, aI G (q 1) 10 ow] (fun r (u : (Nat → Int32) × (Nat → Int32)) => r = nI (sc (gm rw wo) nn)) (fun u => [oB h 2 (oF2 u.1 q), aI G (q 0) 8 rw, aI G (q 1) 10 u.2]) := by
  refine Ci.of (cc := cX2_most) (maxL := 5) (by decide) rfl (Nat.le_of_ble_eq_true rfl) ?_
  intro pM eM sM mM bM tM cM Q A hx hb hts hown hml hA hK hP hD hS hret ls hl
  have hown : sM.vm.findClass RX2 = some mM.cls := hown
  have hl : lv_has ls 5 [(0, .ref h), (1, .int (nI nn)), (2, .int wo)] := hl
  have hin2 : ∀ w ∈ u_ws RX2 TX2 3, w ∈ wsX2_most := by decide +kernel
  have f15 := hts (.fieldLink RX2 15 "HorizonPeaks$Matching" "owners" "[I") (by decide +kernel)
  have f18 := hts (.fieldLink RX2 18 "HorizonPeaks$Matching" "tried" "I") (by decide +kernel)
  have f9 := hts (.fieldLink RX2 9 "HorizonPeaks$Matching" "rows" "[I") (by decide +kernel)
  refine lv_iconst (v := 0) hx hb dX2_most_0 (by decide) ?_
  refine lv_istore_n (lv' := [(3, .int 0), (0, .ref h), (1, .int (nI nn)), (2, .int wo)]) hx hb dX2_most_1 rfl hl (by decide) rfl (fun ls hl => ?_)
  have loop_2 : ∀ (nF : Nat) (f : Nat → Int32) (j : Nat), (10 - j) < nF → (j ≤ 10) → (∀ i, i < j → f i = -9) → ∀ (H : Heap) (locs : List Loc), va_P G.1 vwCl [oB h 2 (oF2 v q), aI G (q 0) 8 rw, aI G (q 1) 10 f] H → va_D A [oB h 2 (oF2 v q), aI G (q 0) 8 rw, aI G (q 1) 10 f] → va_S A sM.heap H locs → ∀ (ls : Array Slot), lv_has ls 5 [(3, .int (nI j)), (0, .ref h), (1, .int (nI nn)), (2, .int wo)] → W pM l eM rX2_most sM mM [.ref h, .int (nI nn), .int wo].toArray bM tM cM H locs 0 0 Q (F0 mM 2 ls []) := by
    intro nF
    induction nF with
    | zero => intro f j hmF; exact absurd hmF (Nat.not_lt_zero _)
    | succ nF ih2 =>
      intro f j hmF hj hj2 H locs hP hD hS ls hl
      refine lv_iload_n hx hb dX2_most_2 rfl (lv_at hl 0 rfl) ?_
      refine lv_bipush (v := 10) hx hb dX2_most_3 (by decide) ?_
      refine lv_icmp_ge (tgt := 22) hx hb dX2_most_5 (by decide) (fun c_5 => ?_) (fun c_5 => ?_)
      · have c_5 : 10 ≤ j := (c_le (a := 10) (b := j) rfl rfl (by omega) (by omega)).mp c_5
        refine lv_iconst (v := 0) hx hb dX2_most_22 (by decide) ?_
        refine lv_istore_n (lv' := [(3, .int 0), (0, .ref h), (1, .int (nI nn)), (2, .int wo)]) hx hb dX2_most_23 rfl hl (by decide) rfl (fun ls hl => ?_)
        refine lv_iconst (v := 0) hx hb dX2_most_24 (by decide) ?_
        refine lv_istore (lv' := [(4, .int 0), (3, .int 0), (0, .ref h), (1, .int (nI nn)), (2, .int wo)]) hx hb dX2_most_25 hl (by decide) rfl (fun ls hl => ?_)
        have loop_27 : ∀ (nF : Nat) (w : Nat → Int32) (ow1 : Nat → Int32) (own : Nat → Nat) (k : Nat) (pr : Nat), (nn - k) < nF → (k ≤ nn) → (okOw ow1 own) → (maW (gm rw wo) own k) → (fb_ct (hsW own) k = sc (gm rw wo) k) → (pr = sc (gm rw wo) k) → ∀ (H : Heap) (locs : List Loc), va_P G.1 vwCl [oB h 2 (oF2 w q), aI G (q 0) 8 rw, aI G (q 1) 10 ow1] H → va_D A [oB h 2 (oF2 w q), aI G (q 0) 8 rw, aI G (q 1) 10 ow1] → va_S A sM.heap H locs → ∀ (ls : Array Slot), lv_has ls 5 [(4, .int (nI k)), (3, .int (nI pr)), (0, .ref h), (1, .int (nI nn)), (2, .int wo)] → W pM l eM rX2_most sM mM [.ref h, .int (nI nn), .int wo].toArray bM tM cM H locs 0 0 Q (F0 mM 27 ls []) := by
          intro nF
          induction nF with
          | zero => intro w ow1 own k pr hmF; exact absurd hmF (Nat.not_lt_zero _)
          | succ nF ih27 =>
            intro w ow1 own k pr hmF hk hO hma hct hpr H locs hP hD hS ls hl
            refine lv_iload hx hb dX2_most_27 (lv_at hl 0 rfl) ?_
            refine lv_iload_n hx hb dX2_most_29 rfl (lv_at hl 3 rfl) ?_
            refine lv_icmp_ge (tgt := 80) hx hb dX2_most_30 (by decide) (fun c_30 => ?_) (fun c_30 => ?_)
            · have c_30 : nn ≤ k := (c_le (a := nn) (b := k) rfl rfl (by omega) (by omega)).mp c_30
              refine lv_iload_n hx hb dX2_most_80 rfl (lv_at hl 1 rfl) ?_
              exact hret _ (w, ow1) _ _ _ _ (by rw [hpr, show k = nn by omega]) (rfl) hP hD hS dX2_most_81
            · have c_30 : ¬ nn ≤ k := fun hne => c_30 ((c_le (a := nn) (b := k) rfl rfl (by omega) (by omega)).mpr hne)
              refine lv_iload hx hb dX2_most_33 (lv_at hl 0 rfl) ?_
              refine lv_bipush (v := 8) hx hb dX2_most_35 (by decide) ?_
              refine lv_icmp_ge (tgt := 80) hx hb dX2_most_37 (by decide) (fun c_37 => ?_) (fun c_37 => ?_)
              · have c_37 : 8 ≤ k := (c_le (a := 8) (b := k) rfl rfl (by omega) (by omega)).mp c_37
                exfalso
                omega
              · have c_37 : ¬ 8 ≤ k := fun hne => c_37 ((c_le (a := 8) (b := k) rfl rfl (by omega) (by omega)).mpr hne)
                refine lv_aload_n hx hb dX2_most_40 rfl (lv_at hl 2 rfl) ?_
                refine lv_iconst (v := 0) hx hb dX2_most_41 (by decide) ?_
                refine va_put (D := G.1) (ci := 2) (v := .int 0) (ty := .int) (C := RX2) (T := TX2) (N := 3) hx hb hts hin2 tyX2 tyX2_ok nmX2 hown hK.1 hP hD hS 0 rfl rfl 2 (by decide) f18 (fun _ h9 => h9) rfl (by decide +kernel) rfl rfl (Nat.le_of_ble_eq_true rfl) dX2_most_42 (fun H locs hP hD hS => ?_)
                have hP : va_P G.1 vwCl [oB h 2 (oF2 (upd w 2 0) q), aI G (q 0) 8 rw, aI G (q 1) 10 ow1] H := hP
                have hD : va_D A [oB h 2 (oF2 (upd w 2 0) q), aI G (q 0) 8 rw, aI G (q 1) 10 ow1] := hD
                refine lv_iload hx hb dX2_most_45 (lv_at hl 0 rfl) ?_
                refine lv_iload_n hx hb dX2_most_47 rfl (lv_at hl 4 rfl) ?_
                refine lv_icmp_eq (tgt := 74) hx hb dX2_most_48 (by decide) (fun c_48 => ?_) (fun c_48 => ?_)
                · refine lv_iinc (v := nI (k + 1)) (lv' := [(4, .int (nI (k + 1))), (3, .int (nI pr)), (0, .ref h), (1, .int (nI nn)), (2, .int wo)]) hx hb dX2_most_74 hl (k := 0) rfl (inc_nI _ 1) (by decide) rfl (fun ls hl => ?_)
                  refine lv_goto (tgt := 27) hx hb dX2_most_77 (by decide) ?_
                  have hcl : clW (gm rw wo) own k := clW_none (fun p hp => by simp [gm, c_48])
                  have hfa := fail_ma (by omega) hma hct hcl
                  exact ih27 (upd w 2 0) ow1 own (k + 1) pr (by omega) (by omega) (hO) (hfa.1) (hfa.2) (by rw [fail_sc (by omega) hma hcl]; exact hpr) _ _ hP hD hS _ (lv_sub hl [0, 1, 2, 3, 4] rfl)
                · refine lv_aload_n hx hb dX2_most_51 rfl (lv_at hl 2 rfl) ?_
                  refine va_get (D := G.1) (ci := 2) (v := .ref (q 0)) (C := RX2) (T := TX2) (N := 3) hx hb hts hin2 hown hK.1 hP 0 rfl rfl 0 (by decide) f9 (fun _ h9 => h9) rfl dX2_most_52 ?_
                  refine lv_iload hx hb dX2_most_55 (lv_at hl 0 rfl) ?_
                  refine al_i hx hb hK.1 hP 1 0 rfl rfl (j := k) (by omega) (Nat.le_of_ble_eq_true rfl) dX2_most_57 ?_
                  refine lv_if_eq (tgt := 74) hx hb dX2_most_58 (by decide) (fun c_58 => ?_) (fun c_58 => ?_)
                  · refine lv_iinc (v := nI (k + 1)) (lv' := [(4, .int (nI (k + 1))), (3, .int (nI pr)), (0, .ref h), (1, .int (nI nn)), (2, .int wo)]) hx hb dX2_most_74 hl (k := 0) rfl (inc_nI _ 1) (by decide) rfl (fun ls hl => ?_)
                    refine lv_goto (tgt := 27) hx hb dX2_most_77 (by decide) ?_
                    have hcl : clW (gm rw wo) own k := clW_none (fun p hp => by rw [gm_k c_48, c_58, b_0])
                    have hfa := fail_ma (by omega) hma hct hcl
                    exact ih27 (upd w 2 0) ow1 own (k + 1) pr (by omega) (by omega) (hO) (hfa.1) (hfa.2) (by rw [fail_sc (by omega) hma hcl]; exact hpr) _ _ hP hD hS _ (lv_sub hl [0, 1, 2, 3, 4] rfl)
                  · refine lv_aload_n hx hb dX2_most_61 rfl (lv_at hl 2 rfl) ?_
                    refine lv_iload hx hb dX2_most_62 (lv_at hl 0 rfl) ?_
                    refine lv_iconst (v := 0) hx hb dX2_most_64 (by decide) ?_
                    refine ca_i (wr := []) (va_runV (As := [.int (nI k), .int 0]) (rest := []) ⟨hx, hb, hml, hown, hts⟩ ((c_X2_find l G h (upd w 2 0) q rw ow1 wo own k 0 (by omega) (Nat.zero_le _) (c_48) (hO) (hma.1)) _) (cwV 2 hts gX2_most_X2_findsPeak rfl rfl rfl (by decide +kernel) ⟨Nat.le_of_ble_eq_true rfl, Nat.le_of_ble_eq_true rfl⟩) (cPre_V hK hP hD [0, 1, 2] (by decide) rfl 0 2 rfl rfl) rfl rfl hl.1 rfl (lv_room (Nat.le_of_ble_eq_true rfl)) dX2_most_65 ⟨Nat.zero_le _, Nat.zero_le _⟩) hP hD hS hA [0, 1, 2] [] rfl rfl (by decide) (by decide) [0, 1, 2] (fun u_65 => [oB h 2 (oF2 u_65.1 q), aI G (q 0) 8 rw, aI G (q 1) 10 u_65.2]) (by decide) (fun _ => rfl) (fun r_65 u_65 H locs q_65 hP hD hS => ?_)
                    have q_65 : ∃ bY oY, r_65 = b2i bY ∧ FP (gm rw wo) own ((upd w 2 0) 2) k bY oY (u_65.1 2) ∧ okOw u_65.2 oY := q_65
                    have hP : va_P G.1 vwCl [oB h 2 (oF2 u_65.1 q), aI G (q 0) 8 rw, aI G (q 1) 10 u_65.2] H := hP
                    have hD : va_D A [oB h 2 (oF2 u_65.1 q), aI G (q 0) 8 rw, aI G (q 1) 10 u_65.2] := hD
                    obtain ⟨b1, own1, rfl, hF1, hO1⟩ := q_65
                    refine lv_if_eq (tgt := 74) hx hb dX2_most_68 (by decide) (fun c_68 => ?_) (fun c_68 => ?_)
                    · have c_68 : b1 = false := b2i_0.mp c_68
                      refine lv_iinc (v := nI (k + 1)) (lv' := [(4, .int (nI (k + 1))), (3, .int (nI pr)), (0, .ref h), (1, .int (nI nn)), (2, .int wo)]) hx hb dX2_most_74 hl (k := 0) rfl (inc_nI _ 1) (by decide) rfl (fun ls hl => ?_)
                      refine lv_goto (tgt := 27) hx hb dX2_most_77 (by decide) ?_
                      rw [c_68] at hF1
                      have hcl := FP_cl hma hF1
                      have hfa := fail_ma (by omega) hma hct hcl
                      exact ih27 u_65.1 u_65.2 own (k + 1) pr (by omega) (by omega) (okOw_eq hO1 (hF1.2.2.2 rfl).1) (hfa.1) (hfa.2) (by rw [fail_sc (by omega) hma hcl]; exact hpr) _ _ hP hD hS _ (lv_sub hl [0, 1, 2, 3, 4] rfl)
                    · have c_68 : b1 = true := b2i_n0.mp c_68
                      refine lv_iinc (v := nI (pr + 1)) (lv' := [(3, .int (nI (pr + 1))), (4, .int (nI k)), (0, .ref h), (1, .int (nI nn)), (2, .int wo)]) hx hb dX2_most_71 hl (k := 1) rfl (inc_nI _ 1) (by decide) rfl (fun ls hl => ?_)
                      refine lv_iinc (v := nI (k + 1)) (lv' := [(4, .int (nI (k + 1))), (3, .int (nI (pr + 1))), (0, .ref h), (1, .int (nI nn)), (2, .int wo)]) hx hb dX2_most_74 hl (k := 1) rfl (inc_nI _ 1) (by decide) rfl (fun ls hl => ?_)
                      refine lv_goto (tgt := 27) hx hb dX2_most_77 (by decide) ?_
                      rw [c_68] at hF1
                      have hsu := succ_sc (by omega) hma hct hF1.1 (hF1.2.2.1 rfl)
                      exact ih27 u_65.1 u_65.2 own1 (k + 1) (pr + 1) (by omega) (by omega) (hO1) (hsu.1) (hsu.2.1) (by rw [hsu.2.2]; omega) _ _ hP hD hS _ (lv_sub hl [0, 1, 2, 3, 4] rfl)
        exact loop_27 _ v f (fun _ => 9) 0 0 (Nat.lt_succ_self _) (Nat.zero_le _) (fun p hp => Or.inr ⟨rfl, hj2 p (by omega)⟩) (⟨fun p _ h => absurd (show 9 < 8 from h) (by decide), fun i => by by_cases c : i < 8; exact Or.inl (by unfold cnW; rw [fb_ct_zero.mpr (fun q _ => by simp; omega)]; omega); exact Or.inr (by omega), fun p _ h => absurd (show 9 < 8 from h) (by decide)⟩) ((Nat.le_zero.mp (sc_le _ 0)).symm) ((Nat.le_zero.mp (sc_le _ 0)).symm) _ _ hP hD hS _ (lv_sub hl [0, 1, 2, 3, 4] rfl)
      · have c_5 : ¬ 10 ≤ j := fun hne => c_5 ((c_le (a := 10) (b := j) rfl rfl (by omega) (by omega)).mpr hne)
        refine lv_aload_n hx hb dX2_most_8 rfl (lv_at hl 1 rfl) ?_
        refine va_get (D := G.1) (ci := 2) (v := .ref (q 1)) (C := RX2) (T := TX2) (N := 3) hx hb hts hin2 hown hK.1 hP 0 rfl rfl 1 (by decide) f15 (fun _ h9 => h9) rfl dX2_most_9 ?_
        refine lv_iload_n hx hb dX2_most_12 rfl (lv_at hl 0 rfl) ?_
        refine lv_bipush (v := -9) hx hb dX2_most_13 (by decide) ?_
        refine as_i hx hb hK.1 hP hD hS 2 0 rfl rfl (j := j) (by omega) (Nat.le_of_ble_eq_true rfl) dX2_most_15 (fun H locs hP hD hS => ?_)
        have hP : va_P G.1 vwCl [oB h 2 (oF2 v q), aI G (q 0) 8 rw, aI G (q 1) 10 (upd f j (-9))] H := hP
        have hD : va_D A [oB h 2 (oF2 v q), aI G (q 0) 8 rw, aI G (q 1) 10 (upd f j (-9))] := hD
        refine lv_iinc (v := nI (j + 1)) (lv' := [(3, .int (nI (j + 1))), (0, .ref h), (1, .int (nI nn)), (2, .int wo)]) hx hb dX2_most_16 hl (k := 0) rfl (inc_nI _ 1) (by decide) rfl (fun ls hl => ?_)
        refine lv_goto (tgt := 2) hx hb dX2_most_19 (by decide) ?_
        exact ih2 (upd f j (-9)) (j + 1) (by omega) (by omega) (fun i h => if e : i = j then by rw [e, pk_us] else by rw [pk_un e]; exact hj2 i (by omega)) _ _ hP hD hS _ (lv_sub hl [0, 1, 2, 3] rfl)
  exact loop_2 _ ow 0 (Nat.lt_succ_self _) (Nat.zero_le _) (fun i h => absurd h (Nat.not_lt_zero i)) _ _ hP hD hS _ (lv_sub hl [0, 1, 2, 3] rfl)
