/-! ways from notch to peak and back -/
def whR (wh : Nat → Int32) (own : Nat → Nat) (n : Nat) : Prop := ∀ p, p < 10 → (p < n ∧ own p < 8 ∧ wh p = nI (own p)) ∨ (own p = 9 ∧ (p < n → wh p = -9))
def haR (ha : Nat → Int32) (own : Nat → Nat) : Prop := ∀ k, k < 8 → (∃ r, r < 10 ∧ own r = k ∧ ha k = nI r) ∨ (∀ r, r < 10 → own r ≠ k)
def haX (ha : Nat → Int32) (own : Nat → Nat) (p : Nat) : Prop := ∀ k, k < 8 → (∃ r, r < 10 ∧ r ≠ p ∧ own r = k ∧ ha k = nI r) ∨ (∀ r, r < 10 → r ≠ p → own r ≠ k)
def BD (g : Nat → Nat → Bool) (own : Nat → Nat) (n K : Nat) (ro pe : Nat → Nat) (bA : Nat → Int32) (R : Nat) : Prop :=
  ro 0 = K ∧ (∀ i, i < R → ro i ≤ K) ∧ (∀ i j, i < j → j < R → ro i ≠ ro j) ∧ ∀ i, 1 ≤ i → i < R → pe i < n ∧ own (pe i) = ro i ∧ ∃ j, j < i ∧ bA (pe i) = nI (ro j) ∧ g (ro j) (pe i) = true
def GI (g : Nat → Nat → Bool) (own : Nat → Nat) (n : Nat) (ro pe : Nat → Nat) (bA : Nat → Int32) (oc : Nat → Nat) (wh ha : Nat → Int32) (p e : Nat) : Prop :=
  p < n ∧ whR wh oc n ∧ okW g oc ∧ haX ha oc p ∧ (∀ i, i < 8 → cnW oc i = cnW own i + (if i = oc p then 1 else 0)) ∧ bA p = nI (ro e) ∧ g (ro e) p = true ∧ ∀ i, 1 ≤ i → i ≤ e → oc (pe i) = ro i ∧ pe i ≠ p ∧ ha (ro i) = nI (pe i)
def GF (g : Nat → Nat → Bool) (own : Nat → Nat) (n K : Nat) (oc : Nat → Nat) (wh ha : Nat → Int32) : Prop := whR wh oc n ∧ haR ha oc ∧ okW g oc ∧ ∀ i, i < 8 → cnW oc i = cnW own i + (if i = K then 1 else 0)
theorem whR_upd {wh : Nat → Int32} {own : Nat → Nat} {n p k : Nat} (h : whR wh own n) (hp : p < n) (hk : k < 8) : whR (upd wh p (nI k)) (updN own p k) n := by
  intro r hr
  by_cases e : r = p
  · subst e; rw [updN_s, pk_us]; exact Or.inl ⟨hp, hk, rfl⟩
  · rw [updN_n e, pk_un e]; exact h r hr
theorem GI_cn {g : Nat → Nat → Bool} {own : Nat → Nat} {n : Nat} {ro pe : Nat → Nat} {bA : Nat → Int32} {oc : Nat → Nat} {wh ha : Nat → Int32} {p e : Nat} (hn : n ≤ 10) (h : GI g own n ro pe bA oc wh ha p e) (i : Nat) (hi : i < 8) : cnW (updN oc p (ro e)) i = cnW own i + (if i = ro e then 1 else 0) := by
  have h1 := cnW_upd (own := oc) (p := p) (k := ro e) (by have := h.1; omega) i
  have h2 := h.2.2.2.2.1 i hi
  have e1 : (if oc p = i then 1 else 0) = (if i = oc p then 1 else 0) := by
    by_cases c : i = oc p
    · rw [if_pos c, if_pos c.symm]
    · rw [if_neg c, if_neg (fun q => c q.symm)]
  have e2 : (if ro e = i then 1 else 0) = (if i = ro e then 1 else 0) := by
    by_cases c : i = ro e
    · rw [if_pos c, if_pos c.symm]
    · rw [if_neg c, if_neg (fun q => c q.symm)]
  rw [e1, e2] at h1
  omega
theorem GI_end {g : Nat → Nat → Bool} {own : Nat → Nat} {n K : Nat} {ro pe : Nat → Nat} {bA : Nat → Int32} {R : Nat} {oc : Nat → Nat} {wh ha : Nat → Int32} {p e : Nat} (hK : K < 8) (hn : n ≤ 10) (h : GI g own n ro pe bA oc wh ha p e) (hk : ro e = K) : GF g own n K (updN oc p (ro e)) (upd wh p (nI (ro e))) (upd ha (ro e) (nI p)) := by
  have hp := h.1
  refine ⟨whR_upd h.2.1 hp (by omega), ?_, okW_upd h.2.2.1 h.2.2.2.2.2.2.1, fun i hi => by rw [GI_cn hn h i hi, hk]⟩
  intro k hk8
  by_cases c : k = ro e
  · exact Or.inl ⟨p, by omega, by rw [updN_s, c], by rw [c, pk_us]⟩
  · rcases h.2.2.2.1 k hk8 with ⟨r, r1, r2, r3, r4⟩ | hr
    · exact Or.inl ⟨r, r1, by rw [updN_n r2]; exact r3, by rw [pk_un c]; exact r4⟩
    · refine Or.inr (fun r hr10 => ?_)
      by_cases d : r = p
      · rw [d, updN_s]; exact fun q => c q.symm
      · rw [updN_n d]; exact hr r hr10 d
theorem GI_on {g : Nat → Nat → Bool} {own : Nat → Nat} {n K : Nat} {ro pe : Nat → Nat} {bA : Nat → Int32} {R : Nat} {oc : Nat → Nat} {wh ha : Nat → Int32} {p e : Nat} (hK : K < 8) (hn : n ≤ 10) (hB : BD g own n K ro pe bA R) (he : e < R) (h : GI g own n ro pe bA oc wh ha p e) (hk : ¬ ro e = K) : ha (ro e) = nI (pe e) ∧ ∃ e', e' < e ∧ GI g own n ro pe bA (updN oc p (ro e)) (upd wh p (nI (ro e))) (upd ha (ro e) (nI p)) (pe e) e' := by
  have hp := h.1
  have he1 : 1 ≤ e := by
    rcases Nat.eq_zero_or_pos e with q | q
    · rw [q] at hk; exact absurd hB.1 hk
    · exact q
  obtain ⟨b1, b2, j, j1, j2, j3⟩ := hB.2.2.2 e he1 he
  obtain ⟨c1, c2, c3⟩ := h.2.2.2.2.2.2.2 e he1 (Nat.le_refl e)
  have hro : ro e < 8 := by have := hB.2.1 e he; omega
  refine ⟨c3, j, j1, b1, whR_upd h.2.1 hp hro, okW_upd h.2.2.1 h.2.2.2.2.2.2.1, ?_, ?_, j2, j3, ?_⟩
  · intro k hk8
    by_cases c : k = ro e
    · exact Or.inl ⟨p, by omega, fun q => c2 q.symm, by rw [updN_s, c], by rw [c, pk_us]⟩
    · rcases h.2.2.2.1 k hk8 with ⟨r, r1, r2, r3, r4⟩ | hr
      · exact Or.inl ⟨r, r1, fun q => c (by rw [← r3, q, c1]), by rw [updN_n r2]; exact r3, by rw [pk_un c]; exact r4⟩
      · refine Or.inr (fun r hr10 _ => ?_)
        by_cases d : r = p
        · rw [d, updN_s]; exact fun q => c q.symm
        · rw [updN_n d]; exact hr r hr10 d
  · intro i hi
    rw [GI_cn hn h i hi, updN_n c2, c1]
  · intro i i1 i2
    obtain ⟨d1, d2, d3⟩ := h.2.2.2.2.2.2.2 i i1 (by omega)
    refine ⟨by rw [updN_n d2]; exact d1, fun q => ?_, ?_⟩
    · exact hB.2.2.1 i e (by omega) he (by rw [← d1, q, c1])
    · rw [pk_un (hB.2.2.1 i e (by omega) he)]; exact d3
theorem GI_init {g : Nat → Nat → Bool} {own : Nat → Nat} {n K : Nat} {ro pe : Nat → Nat} {bA : Nat → Int32} {R : Nat} {wh ha : Nat → Int32} {p e : Nat} (hK : K < 8) (hn : n ≤ 10) (hm : maW g own K) (hB : BD g own n K ro pe bA R) (he : e < R) (hp : p < n) (ho : own p = 9) (hw : whR wh own n) (hh : haR ha own) (hg : g (ro e) p = true) :
    BD g own n K ro pe (upd bA p (nI (ro e))) R ∧ GI g own n ro pe (upd bA p (nI (ro e))) own wh ha p e := by
  have hne : ∀ i, 1 ≤ i → i < R → pe i ≠ p := by
    intro i i1 i2 q
    have h1 := (hB.2.2.2 i i1 i2).2.1
    have h2 := hB.2.1 i i2
    rw [q, ho] at h1
    omega
  refine ⟨⟨hB.1, hB.2.1, hB.2.2.1, fun i i1 i2 => ?_⟩, hp, hw, hm.1, ?_, ?_, pk_us, hg, ?_⟩
  · obtain ⟨b1, b2, j, j1, j2, j3⟩ := hB.2.2.2 i i1 i2
    exact ⟨b1, b2, j, j1, by rw [pk_un (hne i i1 i2)]; exact j2, j3⟩
  · intro k hk8
    rcases hh k hk8 with ⟨r, r1, r2, r3⟩ | hr
    · exact Or.inl ⟨r, r1, fun q => by rw [q, ho] at r2; omega, r2, r3⟩
    · exact Or.inr (fun r hr10 _ => hr r hr10)
  · intro i hi
    rw [ho, if_neg (by omega)]; rfl
  · intro i i1 i2
    obtain ⟨b1, b2, -⟩ := hB.2.2.2 i i1 (by omega)
    have b3 := hB.2.1 i (by omega)
    refine ⟨b2, hne i i1 (by omega), ?_⟩
    rcases hh (ro i) (by omega) with ⟨r, r1, r2, r3⟩ | hr
    · have hc : cnW own (ro i) ≤ 1 := (hm.2.1 (ro i)).resolve_right (by omega)
      rw [r3, cnW_one hc r1 (by omega) r2 b2]
    · exact absurd b2 (hr _ (by omega))
/-- what is met so far -/
def BI (g : Nat → Nat → Bool) (own : Nat → Nat) (n K : Nat) (met : Int32) (R : Nat) (ro pe : Nat → Nat) (rA bA : Nat → Int32) : Prop :=
  BD g own n K ro pe bA R ∧ (∀ i, i < R → rA i = nI (ro i)) ∧ (∀ q, q < 10 → bt met q = true → ∃ i, 1 ≤ i ∧ i < R ∧ pe i = q) ∧ (∀ i, 1 ≤ i → i < R → bt met (pe i) = true) ∧ 1 ≤ R ∧ R ≤ 8
theorem BI_0 (g : Nat → Nat → Bool) (own : Nat → Nat) (n K : Nat) (rA bA : Nat → Int32) (h : rA 0 = nI K) : BI g own n K 0 1 (fun _ => K) (fun _ => 0) rA bA :=
  ⟨⟨rfl, fun _ _ => Nat.le_refl _, fun i j h1 h2 => absurd h2 (by omega), fun i h1 h2 => absurd h2 (by omega)⟩, fun i hi => by rw [show i = 0 by omega]; exact h, fun q hq hb => by rw [b_0] at hb; (cases hb), fun i h1 h2 => absurd h2 (by omega), by omega, by omega⟩
theorem BI_add {g : Nat → Nat → Bool} {own : Nat → Nat} {n K : Nat} {met : Int32} {R : Nat} {ro pe : Nat → Nat} {rA bA : Nat → Int32} {p e : Nat} (hK : K < 8) (hn : n ≤ 10) (hm : maW g own K) (h : BI g own n K met R ro pe rA bA) (he : e < R) (hp : p < n) (ho : own p < 8) (hb : bt met p = false) (hg : g (ro e) p = true) :
    BI g own n K (met ||| ((1 : Int32) <<< (nI p &&& 31))) (R + 1) (updN ro R (own p)) (updN pe R p) (upd rA R (nI (own p))) (upd bA p (nI (ro e))) := by
  obtain ⟨hB, h1, h2, h3, h4, h5⟩ := h
  have hoK : own p < K := hm.2.2 p (by omega) ho
  have hne : ∀ i, 1 ≤ i → i < R → pe i ≠ p := fun i i1 i2 q => by
    have := h3 i i1 i2
    rw [q, hb] at this
    cases this
  have hnr : ∀ i, i < R → ro i ≠ own p := by
    intro i hi q
    rcases Nat.eq_zero_or_pos i with c | c
    · rw [c, hB.1] at q; omega
    · obtain ⟨b1, b2, -⟩ := hB.2.2.2 i c hi
      have hc : cnW own (own p) ≤ 1 := (hm.2.1 (own p)).resolve_right (by omega)
      exact hne i c hi (cnW_one hc (by omega) (by omega) (b2.trans q) rfl)
  have hdis : ∀ i j, i < j → j < R + 1 → updN ro R (own p) i ≠ updN ro R (own p) j := by
    intro i j hij hj
    rw [updN_n (show i ≠ R by omega)]
    by_cases c : j = R
    · rw [c, updN_s]; exact hnr i (by omega)
    · rw [updN_n c]; exact hB.2.2.1 i j hij (by omega)
  have hle : ∀ i, i < R + 1 → updN ro R (own p) i ≤ K := by
    intro i hi
    by_cases c : i = R
    · rw [c, updN_s]; omega
    · rw [updN_n c]; exact hB.2.1 i (by omega)
  refine ⟨⟨by rw [updN_n (by omega)]; exact hB.1, hle, hdis, ?_⟩, ?_, ?_, ?_, by omega, ?_⟩
  · intro i i1 i2
    by_cases c : i = R
    · rw [c, updN_s, updN_s, pk_us]
      exact ⟨hp, rfl, e, he, by rw [updN_n (by omega)], by rw [updN_n (by omega)]; exact hg⟩
    · rw [updN_n c, updN_n c]
      obtain ⟨b1, b2, j, j1, j2, j3⟩ := hB.2.2.2 i i1 (by omega)
      exact ⟨b1, b2, j, j1, by rw [pk_un (hne i i1 (by omega)), updN_n (by omega)]; exact j2, by rw [updN_n (by omega)]; exact j3⟩
  · intro i hi
    by_cases c : i = R
    · rw [c, pk_us, updN_s]
    · rw [pk_un c, updN_n c]; exact h1 i (by omega)
  · intro q hq hbq
    rw [bt_set (by omega) hq] at hbq
    by_cases c : q = p
    · exact ⟨R, h4, by omega, by rw [updN_s, c]⟩
    · rw [decide_eq_false c, Bool.or_false] at hbq
      obtain ⟨i, i1, i2, i3⟩ := h2 q hq hbq
      exact ⟨i, i1, by omega, by rw [updN_n (by omega)]; exact i3⟩
  · intro i i1 i2
    by_cases c : i = R
    · rw [c, updN_s, bt_set (by omega) (by omega), decide_eq_true rfl, Bool.or_true]
    · have hpi : pe i < n := (hB.2.2.2 i i1 (by omega)).1
      rw [updN_n c, bt_set (by omega) (by omega), h3 i i1 (by omega), Bool.true_or]
  · exact fb_holes 8 (R + 1) (updN ro R (own p)) (fun i hi => by have := hle i hi; omega) hdis
theorem BI_cl {g : Nat → Nat → Bool} {own : Nat → Nat} {n K : Nat} {met : Int32} {R : Nat} {ro pe : Nat → Nat} {rA bA : Nat → Int32} (hn : n ≤ 10) (hm : maW g own K) (hK : K < 8) (h : BI g own n K met R ro pe rA bA) (hc : ∀ i, i < R → ∀ q, q < 10 → g (ro i) q = true → bt met q = true) : clW g own K := by
  obtain ⟨hB, h1, h2, h3, h4, h5⟩ := h
  refine ⟨fun r => ∃ i, i < R ∧ ro i = r, ⟨0, h4, hB.1⟩, ?_, ?_, ?_⟩
  · rintro r ⟨i, hi, rfl⟩; exact hB.2.1 i hi
  · rintro r ⟨i, hi, rfl⟩ hne
    have i1 : 1 ≤ i := by
      rcases Nat.eq_zero_or_pos i with c | c
      · rw [c] at hne; exact absurd hB.1 hne
      · exact c
    obtain ⟨b1, b2, -⟩ := hB.2.2.2 i i1 hi
    exact ⟨pe i, by omega, b2⟩
  · rintro r q ⟨i, hi, rfl⟩ hq hg
    obtain ⟨i', i1, i2, i3⟩ := h2 q hq (hc i hi q hq hg)
    obtain ⟨b1, b2, -⟩ := hB.2.2.2 i' i1 i2
    rw [i3] at b2
    have hle := hB.2.1 i' i2
    exact ⟨hm.2.2 q hq (by omega), i', i2, b2.symm⟩
abbrev rX8_gives : Room := { frames := 0, cells := 0, slots := 0, locals := 0 }
set_option maxHeartbeats 4000000 in
set_option maxRecDepth 100000 in
theorem c_X8_gives (l : Launch) (G : kG) (h : Nat) (v : Nat → Int32) (q : Nat → Nat) (wh : Nat → Int32) (bA : Nat → Int32) (ha : Nat → Int32) (g : Nat → Nat → Bool) (own : Nat → Nat) (ro : Nat → Nat) (pe : Nat → Nat) (n : Nat) (K : Nat) (R0 : Nat) (e0 : Nat) (p0 : Nat) (hK8 : K < 8) (hn : n ≤ 10) (hB : BD g own n K ro pe bA R0) (he0 : e0 < R0) (hG0 : GI g own n ro pe bA own wh ha p0 e0) : Cv l G yX8_gives wsX8_gives rX8_gives [.ref h, .int (nI p0), .int (nI K)] [oB h 8 (oF8 v q), aI G (q 37) 10 wh, aI G (q 39) 10 bA, aI G (q 40) 8 ha] (fun (u : (Nat → Int32) × (Nat → Int32)) => ∃ oY, GF g own n K oY u.1 u.2) (fun u => [oB h 8 (oF8 v q), aI G (q 37) 10 u.1, aI G (q 39) 10 bA, aI G (q 40) 8 u.2]) 0 0 := by
  refine Cv.of (cc := cX8_gives) (maxL := 7) (by decide) rfl (Nat.le_of_ble_eq_true rfl) ?_
  intro pM eM sM mM bM tM cM Q A hx hb hts hown hml hnm hA hK hP hD hS hret ls hl
  have hown : sM.vm.findClass RX8 = some mM.cls := hown
  have hl : lv_has ls 7 [(0, .ref h), (1, .int (nI p0)), (2, .int (nI K))] := hl
  have hin8 : ∀ w ∈ u_ws RX8 TX8 44, w ∈ wsX8_gives := by decide +kernel
  have f86 := hts (.fieldLink RX8 86 "HorizonPeaksModel" "by" "[I") (by decide +kernel)
  have f89 := hts (.fieldLink RX8 89 "HorizonPeaksModel" "has" "[I") (by decide +kernel)
  have f80 := hts (.fieldLink RX8 80 "HorizonPeaksModel" "whose" "[I") (by decide +kernel)
  refine lv_iload_n hx hb dX8_gives_0 rfl (lv_at hl 1 rfl) ?_
  refine lv_istore_n (lv' := [(3, .int (nI p0)), (0, .ref h), (1, .int (nI p0)), (2, .int (nI K))]) hx hb dX8_gives_1 rfl hl (by decide) rfl (fun ls hl => ?_)
  refine lv_iconst (v := 1) hx hb dX8_gives_2 (by decide) ?_
  refine lv_istore (lv' := [(4, .int 1), (3, .int (nI p0)), (0, .ref h), (1, .int (nI p0)), (2, .int (nI K))]) hx hb dX8_gives_3 hl (by decide) rfl (fun ls hl => ?_)
  have loop_5 : ∀ (nF : Nat) (oc : Nat → Nat) (wc : Nat → Int32) (hc : Nat → Int32) (pI : Int32) (p : Nat) (e : Nat) (mo : Bool), (if mo = true then e + 1 else 0) < nF → (mo = true → pI = nI p ∧ e < R0 ∧ GI g own n ro pe bA oc wc hc p e) → (mo = false → GF g own n K oc wc hc) → ∀ (H : Heap) (locs : List Loc), va_P G.1 vwCl [oB h 8 (oF8 v q), aI G (q 37) 10 wc, aI G (q 39) 10 bA, aI G (q 40) 8 hc] H → va_D A [oB h 8 (oF8 v q), aI G (q 37) 10 wc, aI G (q 39) 10 bA, aI G (q 40) 8 hc] → va_S A sM.heap H locs → ∀ (ls : Array Slot), lv_has ls 7 [(4, .int (b2i mo)), (3, .int pI), (0, .ref h), (1, .int (nI p0)), (2, .int (nI K))] → W pM l eM rX8_gives sM mM [.ref h, .int (nI p0), .int (nI K)].toArray bM tM cM H locs 0 0 Q (F0 mM 5 ls []) := by
    intro nF
    induction nF with
    | zero => intro oc wc hc pI p e mo hmF; exact absurd hmF (Nat.not_lt_zero _)
    | succ nF ih5 =>
      intro oc wc hc pI p e mo hmF hI hF H locs hP hD hS ls hl
      refine lv_iload hx hb dX8_gives_5 (lv_at hl 0 rfl) ?_
      refine lv_if_eq (tgt := 62) hx hb dX8_gives_7 (by decide) (fun c_7 => ?_) (fun c_7 => ?_)
      · have c_7 : mo = false := b2i_0.mp c_7
        have hpost : ∃ oY, GF g own n K oY (wc, hc).1 (wc, hc).2 := by
          exact ⟨oc, hF c_7⟩
        exact hret (wc, hc) _ _ _ _ (hpost) hP hD hS dX8_gives_62
      · have c_7 : mo = true := b2i_n0.mp c_7
        obtain ⟨rfl, he, hG⟩ := hI c_7
        have hro := hB.2.1 e he
        have hpn := hG.1
        refine lv_aload_n hx hb dX8_gives_10 rfl (lv_at hl 2 rfl) ?_
        refine va_get (D := G.1) (ci := 8) (v := .ref (q 39)) (C := RX8) (T := TX8) (N := 44) hx hb hts hin8 hown hK.1 hP 0 rfl rfl 39 (by decide) f86 (fun _ h9 => h9) rfl dX8_gives_11 ?_
        refine lv_iload_n hx hb dX8_gives_14 rfl (lv_at hl 1 rfl) ?_
        refine al_i hx hb hK.1 hP 2 0 rfl rfl (j := p) (by omega) (Nat.le_of_ble_eq_true rfl) dX8_gives_15 ?_
        refine top_i (y := nI (ro e)) (hG.2.2.2.2.2.1) ?_
        refine lv_istore (lv' := [(5, .int (nI (ro e))), (4, .int (b2i mo)), (3, .int (nI p)), (0, .ref h), (1, .int (nI p0)), (2, .int (nI K))]) hx hb dX8_gives_16 hl (by decide) rfl (fun ls hl => ?_)
        refine lv_aload_n hx hb dX8_gives_18 rfl (lv_at hl 3 rfl) ?_
        refine va_get (D := G.1) (ci := 8) (v := .ref (q 40)) (C := RX8) (T := TX8) (N := 44) hx hb hts hin8 hown hK.1 hP 0 rfl rfl 40 (by decide) f89 (fun _ h9 => h9) rfl dX8_gives_19 ?_
        refine lv_iload hx hb dX8_gives_22 (lv_at hl 0 rfl) ?_
        refine al_i hx hb hK.1 hP 3 0 rfl rfl (j := ro e) (by omega) (Nat.le_of_ble_eq_true rfl) dX8_gives_24 ?_
        refine lv_istore (lv' := [(6, .int (hc (ro e))), (5, .int (nI (ro e))), (4, .int (b2i mo)), (3, .int (nI p)), (0, .ref h), (1, .int (nI p0)), (2, .int (nI K))]) hx hb dX8_gives_25 hl (by decide) rfl (fun ls hl => ?_)
        refine lv_aload_n hx hb dX8_gives_27 rfl (lv_at hl 4 rfl) ?_
        refine va_get (D := G.1) (ci := 8) (v := .ref (q 40)) (C := RX8) (T := TX8) (N := 44) hx hb hts hin8 hown hK.1 hP 0 rfl rfl 40 (by decide) f89 (fun _ h9 => h9) rfl dX8_gives_28 ?_
        refine lv_iload hx hb dX8_gives_31 (lv_at hl 1 rfl) ?_
        refine lv_iload_n hx hb dX8_gives_33 rfl (lv_at hl 3 rfl) ?_
        refine as_i hx hb hK.1 hP hD hS 3 0 rfl rfl (j := ro e) (by omega) (Nat.le_of_ble_eq_true rfl) dX8_gives_34 (fun H locs hP hD hS => ?_)
        have hP : va_P G.1 vwCl [oB h 8 (oF8 v q), aI G (q 37) 10 wc, aI G (q 39) 10 bA, aI G (q 40) 8 (upd hc (ro e) (nI p))] H := hP
        have hD : va_D A [oB h 8 (oF8 v q), aI G (q 37) 10 wc, aI G (q 39) 10 bA, aI G (q 40) 8 (upd hc (ro e) (nI p))] := hD
        refine lv_aload_n hx hb dX8_gives_35 rfl (lv_at hl 4 rfl) ?_
        refine va_get (D := G.1) (ci := 8) (v := .ref (q 37)) (C := RX8) (T := TX8) (N := 44) hx hb hts hin8 hown hK.1 hP 0 rfl rfl 37 (by decide) f80 (fun _ h9 => h9) rfl dX8_gives_36 ?_
        refine lv_iload_n hx hb dX8_gives_39 rfl (lv_at hl 3 rfl) ?_
        refine lv_iload hx hb dX8_gives_40 (lv_at hl 1 rfl) ?_
        refine as_i hx hb hK.1 hP hD hS 1 0 rfl rfl (j := p) (by omega) (Nat.le_of_ble_eq_true rfl) dX8_gives_42 (fun H locs hP hD hS => ?_)
        have hP : va_P G.1 vwCl [oB h 8 (oF8 v q), aI G (q 37) 10 (upd wc p (nI (ro e))), aI G (q 39) 10 bA, aI G (q 40) 8 (upd hc (ro e) (nI p))] H := hP
        have hD : va_D A [oB h 8 (oF8 v q), aI G (q 37) 10 (upd wc p (nI (ro e))), aI G (q 39) 10 bA, aI G (q 40) 8 (upd hc (ro e) (nI p))] := hD
        refine lv_iload hx hb dX8_gives_43 (lv_at hl 1 rfl) ?_
        refine lv_iload_n hx hb dX8_gives_45 rfl (lv_at hl 6 rfl) ?_
        refine lv_icmp_eq (tgt := 53) hx hb dX8_gives_46 (by decide) (fun c_46 => ?_) (fun c_46 => ?_)
        · have c_46 : (ro e) = K := (c_eq (a := ro e) (b := K) rfl rfl (by omega) (by omega)).mp c_46
          refine lv_iconst (v := 0) hx hb dX8_gives_53 (by decide) ?_
          refine lv_istore (lv' := [(4, .int 0), (6, .int (hc (ro e))), (5, .int (nI (ro e))), (3, .int (nI p)), (0, .ref h), (1, .int (nI p0)), (2, .int (nI K))]) hx hb dX8_gives_54 hl (by decide) rfl (fun ls hl => ?_)
          refine lv_iload hx hb dX8_gives_56 (lv_at hl 1 rfl) ?_
          refine lv_istore_n (lv' := [(3, .int (hc (ro e))), (4, .int 0), (6, .int (hc (ro e))), (5, .int (nI (ro e))), (0, .ref h), (1, .int (nI p0)), (2, .int (nI K))]) hx hb dX8_gives_58 rfl hl (by decide) rfl (fun ls hl => ?_)
          refine lv_goto (tgt := 5) hx hb dX8_gives_59 (by decide) ?_
          exact ih5 (updN oc p (ro e)) (upd wc p (nI (ro e))) (upd hc (ro e) (nI p)) (hc (ro e)) 0 0 false (by rw [if_pos c_7] at hmF; simp; omega) (fun h9 => (by cases h9)) (fun _ => GI_end (R := R0) hK8 hn hG c_46) _ _ hP hD hS _ (lv_sub hl [1, 0, 4, 5, 6] rfl)
        · have c_46 : ¬ (ro e) = K := fun hne => c_46 ((c_eq (a := ro e) (b := K) rfl rfl (by omega) (by omega)).mpr hne)
          refine lv_iconst (v := 1) hx hb dX8_gives_49 (by decide) ?_
          refine lv_goto (tgt := 54) hx hb dX8_gives_50 (by decide) ?_
          refine lv_istore (lv' := [(4, .int 1), (6, .int (hc (ro e))), (5, .int (nI (ro e))), (3, .int (nI p)), (0, .ref h), (1, .int (nI p0)), (2, .int (nI K))]) hx hb dX8_gives_54 hl (by decide) rfl (fun ls hl => ?_)
          refine lv_iload hx hb dX8_gives_56 (lv_at hl 1 rfl) ?_
          refine lv_istore_n (lv' := [(3, .int (hc (ro e))), (4, .int 1), (6, .int (hc (ro e))), (5, .int (nI (ro e))), (0, .ref h), (1, .int (nI p0)), (2, .int (nI K))]) hx hb dX8_gives_58 rfl hl (by decide) rfl (fun ls hl => ?_)
          refine lv_goto (tgt := 5) hx hb dX8_gives_59 (by decide) ?_
          obtain ⟨hon, e9, he9, hG9⟩ := GI_on hK8 hn hB he hG c_46
          exact ih5 (updN oc p (ro e)) (upd wc p (nI (ro e))) (upd hc (ro e) (nI p)) (hc (ro e)) (pe e) e9 true (by rw [if_pos c_7] at hmF; simp; omega) (fun _ => ⟨hon, by omega, hG9⟩) (fun h9 => (by cases h9)) _ _ hP hD hS _ (lv_sub hl [1, 0, 4, 5, 6] rfl)
  exact loop_5 _ own wh ha (nI p0) p0 e0 true (Nat.lt_succ_self _) (fun _ => ⟨rfl, he0, hG0⟩) (fun h9 => (by cases h9)) _ _ hP hD hS _ (lv_sub hl [0, 1, 2, 3, 4] rfl)

abbrev rX8_finds : Room := { frames := 1, cells := 0, slots := 0, locals := 26 }
set_option maxHeartbeats 4000000 in
set_option maxRecDepth 100000 in
theorem c_X8_finds (l : Launch) (G : kG) (h : Nat) (v : Nat → Int32) (q : Nat → Nat) (ft : Nat → Int32) (wh : Nat → Int32) (rA : Nat → Int32) (bA : Nat → Int32) (ha : Nat → Int32) (g : Nat → Nat → Bool) (own : Nat → Nat) (n : Nat) (K : Nat) (hv1 : v 1 = nI n) (hn : n ≤ 10) (hK8 : K < 8) (hft : ∀ k p, k ≤ K → p < 10 → bt (ft k) p = g k p) (hgn : ∀ k p, g k p = true → p < n) (hma : maW g own K) (hwr : whR wh own n) (hhr : haR ha own) : Ci l G yX8_finds wsX8_finds rX8_finds [.ref h, .int (nI K)] [oB h 8 (oF8 v q), aI G (q 36) 8 ft, aI G (q 37) 10 wh, aI G (q 38) 8 rA, aI G (q 39) 10 bA, aI G (q 40) 8 ha] (fun r (u : (Nat → Int32) × (Nat → Int32) × (Nat → Int32) × (Nat → Int32)) => ∃ bY oY, r = b2i bY ∧ whR u.1 oY n ∧ haR u.2.2.2 oY ∧ (bY = true → okW g oY ∧ ∀ i, i < 8 → cnW oY i = cnW own i + (if i = K then 1 else 0)) ∧ (bY = false → oY = own ∧ clW g own K)) (fun u => [oB h 8 (oF8 v q), aI G (q 36) 8 ft, aI G (q 37) 10 u.1, aI G (q 38) 8 u.2.1, aI G (q 39) 10 u.2.2.1, aI G (q 40) 8 u.2.2.2]) := by
  refine Ci.of (cc := cX8_finds) (maxL := 6) (by decide) rfl (Nat.le_of_ble_eq_true rfl) ?_
  intro pM eM sM mM bM tM cM Q A hx hb hts hown hml hA hK hP hD hS hret ls hl
  have hown : sM.vm.findClass RX8 = some mM.cls := hown
  have hl : lv_has ls 6 [(0, .ref h), (1, .int (nI K))] := hl
  have hin8 : ∀ w ∈ u_ws RX8 TX8 44, w ∈ wsX8_finds := by decide +kernel
  have f83 := hts (.fieldLink RX8 83 "HorizonPeaksModel" "row" "[I") (by decide +kernel)
  have f102 := hts (.fieldLink RX8 102 "HorizonPeaksModel" "peaks" "I") (by decide +kernel)
  have f77 := hts (.fieldLink RX8 77 "HorizonPeaksModel" "fit" "[I") (by decide +kernel)
  have f86 := hts (.fieldLink RX8 86 "HorizonPeaksModel" "by" "[I") (by decide +kernel)
  have f80 := hts (.fieldLink RX8 80 "HorizonPeaksModel" "whose" "[I") (by decide +kernel)
  refine lv_iconst (v := 0) hx hb dX8_finds_0 (by decide) ?_
  refine lv_istore_n (lv' := [(2, .int 0), (0, .ref h), (1, .int (nI K))]) hx hb dX8_finds_1 rfl hl (by decide) rfl (fun ls hl => ?_)
  refine lv_iconst (v := 1) hx hb dX8_finds_2 (by decide) ?_
  refine lv_istore_n (lv' := [(3, .int 1), (2, .int 0), (0, .ref h), (1, .int (nI K))]) hx hb dX8_finds_3 rfl hl (by decide) rfl (fun ls hl => ?_)
  refine lv_aload_n hx hb dX8_finds_4 rfl (lv_at hl 2 rfl) ?_
  refine va_get (D := G.1) (ci := 8) (v := .ref (q 38)) (C := RX8) (T := TX8) (N := 44) hx hb hts hin8 hown hK.1 hP 0 rfl rfl 38 (by decide) f83 (fun _ h9 => h9) rfl dX8_finds_5 ?_
  refine lv_iconst (v := 0) hx hb dX8_finds_8 (by decide) ?_
  refine lv_iload_n hx hb dX8_finds_9 rfl (lv_at hl 3 rfl) ?_
  refine snd_i (y := nI 0) rfl ?_
  refine as_i hx hb hK.1 hP hD hS 3 0 rfl rfl (j := 0) (by omega) (Nat.le_of_ble_eq_true rfl) dX8_finds_10 (fun H locs hP hD hS => ?_)
  have hP : va_P G.1 vwCl [oB h 8 (oF8 v q), aI G (q 36) 8 ft, aI G (q 37) 10 wh, aI G (q 38) 8 (upd rA 0 (nI K)), aI G (q 39) 10 bA, aI G (q 40) 8 ha] H := hP
  have hD : va_D A [oB h 8 (oF8 v q), aI G (q 36) 8 ft, aI G (q 37) 10 wh, aI G (q 38) 8 (upd rA 0 (nI K)), aI G (q 39) 10 bA, aI G (q 40) 8 ha] := hD
  refine lv_iconst (v := 0) hx hb dX8_finds_11 (by decide) ?_
  refine lv_istore (lv' := [(4, .int 0), (3, .int 1), (2, .int 0), (0, .ref h), (1, .int (nI K))]) hx hb dX8_finds_12 hl (by decide) rfl (fun ls hl => ?_)
  have loop_14 : ∀ (nF : Nat) (met : Int32) (R1 : Nat) (e : Nat) (rA1 : Nat → Int32) (bA1 : Nat → Int32) (ro : Nat → Nat) (pe : Nat → Nat), (8 - e) < nF → (BI g own n K met R1 ro pe rA1 bA1) → (e ≤ R1) → (∀ i, i < e → ∀ q, q < 10 → g (ro i) q = true → bt met q = true) → ∀ (H : Heap) (locs : List Loc), va_P G.1 vwCl [oB h 8 (oF8 v q), aI G (q 36) 8 ft, aI G (q 37) 10 wh, aI G (q 38) 8 rA1, aI G (q 39) 10 bA1, aI G (q 40) 8 ha] H → va_D A [oB h 8 (oF8 v q), aI G (q 36) 8 ft, aI G (q 37) 10 wh, aI G (q 38) 8 rA1, aI G (q 39) 10 bA1, aI G (q 40) 8 ha] → va_S A sM.heap H locs → ∀ (ls : Array Slot), lv_has ls 6 [(4, .int (nI e)), (3, .int (nI R1)), (2, .int met), (0, .ref h), (1, .int (nI K))] → W pM l eM rX8_finds sM mM [.ref h, .int (nI K)].toArray bM tM cM H locs 0 0 Q (F0 mM 14 ls []) := by
    intro nF
    induction nF with
    | zero => intro met R1 e rA1 bA1 ro pe hmF; exact absurd hmF (Nat.not_lt_zero _)
    | succ nF ih14 =>
      intro met R1 e rA1 bA1 ro pe hmF hBI heR1 hcl H locs hP hD hS ls hl
      have hR8 := hBI.2.2.2.2
      refine lv_iload hx hb dX8_finds_14 (lv_at hl 0 rfl) ?_
      refine lv_iload_n hx hb dX8_finds_16 rfl (lv_at hl 1 rfl) ?_
      refine lv_icmp_ge (tgt := 132) hx hb dX8_finds_17 (by decide) (fun c_17 => ?_) (fun c_17 => ?_)
      · have c_17 : R1 ≤ e := (c_le (a := R1) (b := e) rfl rfl (by omega) (by omega)).mp c_17
        refine lv_iconst (v := 0) hx hb dX8_finds_132 (by decide) ?_
        have hpost : ∃ bY oY, (0 : Int32) = b2i bY ∧ whR (wh, rA1, bA1, ha).1 oY n ∧ haR (wh, rA1, bA1, ha).2.2.2 oY ∧ (bY = true → okW g oY ∧ ∀ i, i < 8 → cnW oY i = cnW own i + (if i = K then 1 else 0)) ∧ (bY = false → oY = own ∧ clW g own K) := by
          exact ⟨false, own, rfl, hwr, hhr, fun h9 => (by cases h9), fun _ => ⟨rfl, BI_cl hn hma hK8 hBI (fun i hi => hcl i (by omega))⟩⟩
        exact hret _ (wh, rA1, bA1, ha) _ _ _ _ (hpost) (rfl) hP hD hS dX8_finds_133
      · have c_17 : ¬ R1 ≤ e := fun hne => c_17 ((c_le (a := R1) (b := e) rfl rfl (by omega) (by omega)).mpr hne)
        refine lv_iconst (v := 0) hx hb dX8_finds_20 (by decide) ?_
        refine lv_istore (lv' := [(5, .int 0), (4, .int (nI e)), (3, .int (nI R1)), (2, .int met), (0, .ref h), (1, .int (nI K))]) hx hb dX8_finds_21 hl (by decide) rfl (fun ls hl => ?_)
        have loop_23 : ∀ (nF : Nat) (met2 : Int32) (R2 : Nat) (p : Nat) (rA2 : Nat → Int32) (bA2 : Nat → Int32) (ro2 : Nat → Nat) (pe2 : Nat → Nat), (n - p) < nF → (BI g own n K met2 R2 ro2 pe2 rA2 bA2) → (e < R2) → (p ≤ n) → (∀ i, i < e → ∀ q, q < 10 → g (ro2 i) q = true → bt met2 q = true) → (∀ q, q < p → g (ro2 e) q = true → bt met2 q = true) → ∀ (H : Heap) (locs : List Loc), va_P G.1 vwCl [oB h 8 (oF8 v q), aI G (q 36) 8 ft, aI G (q 37) 10 wh, aI G (q 38) 8 rA2, aI G (q 39) 10 bA2, aI G (q 40) 8 ha] H → va_D A [oB h 8 (oF8 v q), aI G (q 36) 8 ft, aI G (q 37) 10 wh, aI G (q 38) 8 rA2, aI G (q 39) 10 bA2, aI G (q 40) 8 ha] → va_S A sM.heap H locs → ∀ (ls : Array Slot), lv_has ls 6 [(5, .int (nI p)), (4, .int (nI e)), (3, .int (nI R2)), (2, .int met2), (0, .ref h), (1, .int (nI K))] → W pM l eM rX8_finds sM mM [.ref h, .int (nI K)].toArray bM tM cM H locs 0 0 Q (F0 mM 23 ls []) := by
          intro nF
          induction nF with
          | zero => intro met2 R2 p rA2 bA2 ro2 pe2 hmF; exact absurd hmF (Nat.not_lt_zero _)
          | succ nF ih23 =>
            intro met2 R2 p rA2 bA2 ro2 pe2 hmF hBI2 heR hpn hcl2 hcp H locs hP hD hS ls hl
            have hR8 := hBI2.2.2.2.2
            have hroe := hBI2.1.2.1 e heR
            refine lv_iload hx hb dX8_finds_23 (lv_at hl 0 rfl) ?_
            refine lv_aload_n hx hb dX8_finds_25 rfl (lv_at hl 4 rfl) ?_
            refine va_get (D := G.1) (ci := 8) (v := .int (v 1)) (C := RX8) (T := TX8) (N := 44) hx hb hts hin8 hown hK.1 hP 0 rfl rfl 1 (by decide) f102 (fun _ h9 => h9) rfl dX8_finds_26 ?_
            refine top_i (y := nI n) (hv1) ?_
            refine lv_icmp_ge (tgt := 126) hx hb dX8_finds_29 (by decide) (fun c_29 => ?_) (fun c_29 => ?_)
            · have c_29 : n ≤ p := (c_le (a := n) (b := p) rfl rfl (by omega) (by omega)).mp c_29
              refine lv_iinc (v := nI (e + 1)) (lv' := [(4, .int (nI (e + 1))), (5, .int (nI p)), (3, .int (nI R2)), (2, .int met2), (0, .ref h), (1, .int (nI K))]) hx hb dX8_finds_126 hl (k := 1) rfl (inc_nI _ 1) (by decide) rfl (fun ls hl => ?_)
              refine lv_goto (tgt := 14) hx hb dX8_finds_129 (by decide) ?_
              exact ih14 met2 R2 (e + 1) rA2 bA2 ro2 pe2 (by omega) (hBI2) (by omega) (fun i hi q hq hgq => (Nat.lt_succ_iff_lt_or_eq.mp hi).elim (fun e9 => hcl2 i e9 q hq hgq) (fun e9 => by rw [e9] at hgq; exact hcp q (by have := hgn _ _ hgq; omega) hgq)) _ _ hP hD hS _ (lv_sub hl [0, 2, 3, 4, 5] rfl)
            · have c_29 : ¬ n ≤ p := fun hne => c_29 ((c_le (a := n) (b := p) rfl rfl (by omega) (by omega)).mpr hne)
              refine lv_aload_n hx hb dX8_finds_32 rfl (lv_at hl 4 rfl) ?_
              refine va_get (D := G.1) (ci := 8) (v := .ref (q 36)) (C := RX8) (T := TX8) (N := 44) hx hb hts hin8 hown hK.1 hP 0 rfl rfl 36 (by decide) f77 (fun _ h9 => h9) rfl dX8_finds_33 ?_
              refine lv_aload_n hx hb dX8_finds_36 rfl (lv_at hl 4 rfl) ?_
              refine va_get (D := G.1) (ci := 8) (v := .ref (q 38)) (C := RX8) (T := TX8) (N := 44) hx hb hts hin8 hown hK.1 hP 0 rfl rfl 38 (by decide) f83 (fun _ h9 => h9) rfl dX8_finds_37 ?_
              refine lv_iload hx hb dX8_finds_40 (lv_at hl 1 rfl) ?_
              refine al_i hx hb hK.1 hP 3 0 rfl rfl (j := e) (by omega) (Nat.le_of_ble_eq_true rfl) dX8_finds_42 ?_
              refine top_i (y := nI (ro2 e)) (hBI2.2.1 e heR) ?_
              refine al_i hx hb hK.1 hP 1 0 rfl rfl (j := ro2 e) (by omega) (Nat.le_of_ble_eq_true rfl) dX8_finds_43 ?_
              refine lv_iload hx hb dX8_finds_44 (lv_at hl 0 rfl) ?_
              refine lv_ishr hx hb dX8_finds_46 ?_
              refine lv_iconst (v := 1) hx hb dX8_finds_47 (by decide) ?_
              refine lv_iand hx hb dX8_finds_48 ?_
              refine top_i (y := b2i (g (ro2 e) p)) (by rw [sr_bt1 (by omega), hft _ _ hroe (by omega)]) ?_
              refine lv_iconst (v := 1) hx hb dX8_finds_49 (by decide) ?_
              refine lv_icmp_ne (tgt := 120) hx hb dX8_finds_50 (by decide) (fun c_50 => ?_) (fun c_50 => ?_)
              · have c_50 : g (ro2 e) p = false := b2i_n1.mp c_50
                refine lv_iinc (v := nI (p + 1)) (lv' := [(5, .int (nI (p + 1))), (4, .int (nI e)), (3, .int (nI R2)), (2, .int met2), (0, .ref h), (1, .int (nI K))]) hx hb dX8_finds_120 hl (k := 0) rfl (inc_nI _ 1) (by decide) rfl (fun ls hl => ?_)
                refine lv_goto (tgt := 23) hx hb dX8_finds_123 (by decide) ?_
                exact ih23 met2 R2 (p + 1) rA2 bA2 ro2 pe2 (by omega) (hBI2) (by omega) (by omega) (hcl2) (fun q hq hgq => by by_cases c9 : q = p; subst c9; exact absurd hgq (ne_t c_50); exact hcp q (by omega) hgq) _ _ hP hD hS _ (lv_sub hl [0, 1, 2, 3, 4, 5] rfl)
              · have c_50 : g (ro2 e) p = true := b2i_1.mp c_50
                refine lv_iload_n hx hb dX8_finds_53 rfl (lv_at hl 3 rfl) ?_
                refine lv_iload hx hb dX8_finds_54 (lv_at hl 0 rfl) ?_
                refine lv_ishr hx hb dX8_finds_56 ?_
                refine lv_iconst (v := 1) hx hb dX8_finds_57 (by decide) ?_
                refine lv_iand hx hb dX8_finds_58 ?_
                refine top_i (y := b2i (bt met2 p)) (sr_bt1 (by omega)) ?_
                refine lv_if_ne (tgt := 120) hx hb dX8_finds_59 (by decide) (fun c_59 => ?_) (fun c_59 => ?_)
                · have c_59 : (bt met2 p) = true := b2i_n0.mp c_59
                  refine lv_iinc (v := nI (p + 1)) (lv' := [(5, .int (nI (p + 1))), (4, .int (nI e)), (3, .int (nI R2)), (2, .int met2), (0, .ref h), (1, .int (nI K))]) hx hb dX8_finds_120 hl (k := 0) rfl (inc_nI _ 1) (by decide) rfl (fun ls hl => ?_)
                  refine lv_goto (tgt := 23) hx hb dX8_finds_123 (by decide) ?_
                  exact ih23 met2 R2 (p + 1) rA2 bA2 ro2 pe2 (by omega) (hBI2) (by omega) (by omega) (hcl2) (fun q hq hgq => by by_cases c9 : q = p; subst c9; exact c_59; exact hcp q (by omega) hgq) _ _ hP hD hS _ (lv_sub hl [0, 1, 2, 3, 4, 5] rfl)
                · have c_59 : (bt met2 p) = false := b2i_0.mp c_59
                  refine lv_iload_n hx hb dX8_finds_62 rfl (lv_at hl 3 rfl) ?_
                  refine lv_iconst (v := 1) hx hb dX8_finds_63 (by decide) ?_
                  refine lv_iload hx hb dX8_finds_64 (lv_at hl 0 rfl) ?_
                  refine lv_ishl hx hb dX8_finds_66 ?_
                  refine lv_ior hx hb dX8_finds_67 ?_
                  refine lv_istore_n (lv' := [(2, .int (met2 ||| (1 <<< ((nI p) &&& 31)))), (5, .int (nI p)), (4, .int (nI e)), (3, .int (nI R2)), (0, .ref h), (1, .int (nI K))]) hx hb dX8_finds_68 rfl hl (by decide) rfl (fun ls hl => ?_)
                  refine lv_aload_n hx hb dX8_finds_69 rfl (lv_at hl 4 rfl) ?_
                  refine va_get (D := G.1) (ci := 8) (v := .ref (q 39)) (C := RX8) (T := TX8) (N := 44) hx hb hts hin8 hown hK.1 hP 0 rfl rfl 39 (by decide) f86 (fun _ h9 => h9) rfl dX8_finds_70 ?_
                  refine lv_iload hx hb dX8_finds_73 (lv_at hl 1 rfl) ?_
                  refine lv_aload_n hx hb dX8_finds_75 rfl (lv_at hl 4 rfl) ?_
                  refine va_get (D := G.1) (ci := 8) (v := .ref (q 38)) (C := RX8) (T := TX8) (N := 44) hx hb hts hin8 hown hK.1 hP 0 rfl rfl 38 (by decide) f83 (fun _ h9 => h9) rfl dX8_finds_76 ?_
                  refine lv_iload hx hb dX8_finds_79 (lv_at hl 2 rfl) ?_
                  refine al_i hx hb hK.1 hP 3 0 rfl rfl (j := e) (by omega) (Nat.le_of_ble_eq_true rfl) dX8_finds_81 ?_
                  refine top_i (y := nI (ro2 e)) (hBI2.2.1 e heR) ?_
                  refine as_i hx hb hK.1 hP hD hS 4 0 rfl rfl (j := p) (by omega) (Nat.le_of_ble_eq_true rfl) dX8_finds_82 (fun H locs hP hD hS => ?_)
                  have hP : va_P G.1 vwCl [oB h 8 (oF8 v q), aI G (q 36) 8 ft, aI G (q 37) 10 wh, aI G (q 38) 8 rA2, aI G (q 39) 10 (upd bA2 p (nI (ro2 e))), aI G (q 40) 8 ha] H := hP
                  have hD : va_D A [oB h 8 (oF8 v q), aI G (q 36) 8 ft, aI G (q 37) 10 wh, aI G (q 38) 8 rA2, aI G (q 39) 10 (upd bA2 p (nI (ro2 e))), aI G (q 40) 8 ha] := hD
                  refine lv_aload_n hx hb dX8_finds_83 rfl (lv_at hl 4 rfl) ?_
                  refine va_get (D := G.1) (ci := 8) (v := .ref (q 37)) (C := RX8) (T := TX8) (N := 44) hx hb hts hin8 hown hK.1 hP 0 rfl rfl 37 (by decide) f80 (fun _ h9 => h9) rfl dX8_finds_84 ?_
                  refine lv_iload hx hb dX8_finds_87 (lv_at hl 1 rfl) ?_
                  refine al_i hx hb hK.1 hP 2 0 rfl rfl (j := p) (by omega) (Nat.le_of_ble_eq_true rfl) dX8_finds_89 ?_
                  refine lv_bipush (v := -9) hx hb dX8_finds_90 (by decide) ?_
                  refine lv_icmp_ne (tgt := 104) hx hb dX8_finds_92 (by decide) (fun c_92 => ?_) (fun c_92 => ?_)
                  · have ho : own p < 8 ∧ wh p = nI (own p) := by
                      rcases hwr p (by omega) with hz | hz
                      · exact hz.2
                      · exact absurd (hz.2 (by omega)) c_92
                    have eo := ho.2
                    have hBI9 := BI_add hK8 hn hma hBI2 heR (show p < n by omega) ho.1 c_59 c_50
                    have hR9 := hBI9.2.2.2.2.2
                    refine lv_aload_n hx hb dX8_finds_104 rfl (lv_at hl 4 rfl) ?_
                    refine va_get (D := G.1) (ci := 8) (v := .ref (q 38)) (C := RX8) (T := TX8) (N := 44) hx hb hts hin8 hown hK.1 hP 0 rfl rfl 38 (by decide) f83 (fun _ h9 => h9) rfl dX8_finds_105 ?_
                    refine lv_iload_n hx hb dX8_finds_108 rfl (lv_at hl 3 rfl) ?_
                    refine lv_aload_n hx hb dX8_finds_109 rfl (lv_at hl 4 rfl) ?_
                    refine va_get (D := G.1) (ci := 8) (v := .ref (q 37)) (C := RX8) (T := TX8) (N := 44) hx hb hts hin8 hown hK.1 hP 0 rfl rfl 37 (by decide) f80 (fun _ h9 => h9) rfl dX8_finds_110 ?_
                    refine lv_iload hx hb dX8_finds_113 (lv_at hl 1 rfl) ?_
                    refine al_i hx hb hK.1 hP 2 0 rfl rfl (j := p) (by omega) (Nat.le_of_ble_eq_true rfl) dX8_finds_115 ?_
                    refine top_i (y := nI (own p)) (eo) ?_
                    refine as_i hx hb hK.1 hP hD hS 3 0 rfl rfl (j := R2) (by omega) (Nat.le_of_ble_eq_true rfl) dX8_finds_116 (fun H locs hP hD hS => ?_)
                    have hP : va_P G.1 vwCl [oB h 8 (oF8 v q), aI G (q 36) 8 ft, aI G (q 37) 10 wh, aI G (q 38) 8 (upd rA2 R2 (nI (own p))), aI G (q 39) 10 (upd bA2 p (nI (ro2 e))), aI G (q 40) 8 ha] H := hP
                    have hD : va_D A [oB h 8 (oF8 v q), aI G (q 36) 8 ft, aI G (q 37) 10 wh, aI G (q 38) 8 (upd rA2 R2 (nI (own p))), aI G (q 39) 10 (upd bA2 p (nI (ro2 e))), aI G (q 40) 8 ha] := hD
                    refine lv_iinc (v := nI (R2 + 1)) (lv' := [(3, .int (nI (R2 + 1))), (2, .int (met2 ||| (1 <<< ((nI p) &&& 31)))), (5, .int (nI p)), (4, .int (nI e)), (0, .ref h), (1, .int (nI K))]) hx hb dX8_finds_117 hl (k := 3) rfl (inc_nI _ 1) (by decide) rfl (fun ls hl => ?_)
                    refine lv_iinc (v := nI (p + 1)) (lv' := [(5, .int (nI (p + 1))), (3, .int (nI (R2 + 1))), (2, .int (met2 ||| (1 <<< ((nI p) &&& 31)))), (4, .int (nI e)), (0, .ref h), (1, .int (nI K))]) hx hb dX8_finds_120 hl (k := 2) rfl (inc_nI _ 1) (by decide) rfl (fun ls hl => ?_)
                    refine lv_goto (tgt := 23) hx hb dX8_finds_123 (by decide) ?_
                    exact ih23 (met2 ||| (1 <<< ((nI p) &&& 31))) (R2 + 1) (p + 1) (upd rA2 R2 (nI (own p))) (upd bA2 p (nI (ro2 e))) (updN ro2 R2 (own p)) (updN pe2 R2 p) (by omega) (hBI9) (by omega) (by omega) (fun i hi q hq hgq => by rw [updN_n (by omega)] at hgq; rw [bt_set (by omega) hq, hcl2 i hi q hq hgq, Bool.true_or]) (fun q hq hgq => by rw [updN_n (by omega)] at hgq; rw [bt_set (by omega) (by omega)]; by_cases c9 : q = p; rw [decide_eq_true c9, Bool.or_true]; rw [hcp q (by omega) hgq, Bool.true_or]) _ _ hP hD hS _ (lv_sub hl [0, 3, 1, 2, 4, 5] rfl)
                  · have hn9 : own p = 9 := by
                      rcases hwr p (by omega) with hz | hz
                      · exfalso; rw [hz.2.2, m9_ne (by omega)] at c_92; exact c_92
                      · exact hz.1
                    obtain ⟨hBD9, hGI9⟩ := GI_init hK8 hn hma hBI2.1 heR (show p < n by omega) hn9 hwr hhr c_50
                    refine lv_aload_n hx hb dX8_finds_95 rfl (lv_at hl 4 rfl) ?_
                    refine lv_iload hx hb dX8_finds_96 (lv_at hl 1 rfl) ?_
                    refine lv_iload_n hx hb dX8_finds_98 rfl (lv_at hl 5 rfl) ?_
                    refine ca_v (wr := [aI G (q 36) 8 ft, aI G (q 38) 8 rA2]) (va_runV (As := [.int (nI p), .int (nI K)]) (rest := []) ⟨hx, hb, hml, hown, hts⟩ ((c_X8_gives l G h v q wh (upd bA2 p (nI (ro2 e))) ha g own ro2 pe2 n K R2 e p (hK8) (hn) (hBD9) (heR) (hGI9)) _) (cwV 2 hts gX8_finds_X8_gives rfl rfl rfl (by decide +kernel) ⟨Nat.le_of_ble_eq_true rfl, Nat.le_of_ble_eq_true rfl⟩) (cPre_V hK hP hD [0, 2, 4, 5] (by decide) rfl 0 8 rfl rfl) rfl rfl hl.1 rfl (lv_room (Nat.le_of_ble_eq_true rfl)) dX8_finds_99 ⟨Nat.zero_le _, Nat.zero_le _⟩) hP hD hS hA [0, 2, 4, 5] [1, 3] rfl rfl (by decide) (by decide) [2, 0, 3, 1, 4, 5] (fun u_99 => [oB h 8 (oF8 v q), aI G (q 36) 8 ft, aI G (q 37) 10 u_99.1, aI G (q 38) 8 rA2, aI G (q 39) 10 (upd bA2 p (nI (ro2 e))), aI G (q 40) 8 u_99.2]) (by decide) (fun _ => rfl) (fun u_99 H locs q_99 hP hD hS => ?_)
                    have q_99 : ∃ oY, GF g own n K oY u_99.1 u_99.2 := q_99
                    have hP : va_P G.1 vwCl [oB h 8 (oF8 v q), aI G (q 36) 8 ft, aI G (q 37) 10 u_99.1, aI G (q 38) 8 rA2, aI G (q 39) 10 (upd bA2 p (nI (ro2 e))), aI G (q 40) 8 u_99.2] H := hP
                    have hD : va_D A [oB h 8 (oF8 v q), aI G (q 36) 8 ft, aI G (q 37) 10 u_99.1, aI G (q 38) 8 rA2, aI G (q 39) 10 (upd bA2 p (nI (ro2 e))), aI G (q 40) 8 u_99.2] := hD
                    obtain ⟨oY, hW9, hH9, hO9, hC9⟩ := q_99
                    refine lv_iconst (v := 1) hx hb dX8_finds_102 (by decide) ?_
                    have hpost : ∃ bY oY, (1 : Int32) = b2i bY ∧ whR (u_99.1, rA2, (upd bA2 p (nI (ro2 e))), u_99.2).1 oY n ∧ haR (u_99.1, rA2, (upd bA2 p (nI (ro2 e))), u_99.2).2.2.2 oY ∧ (bY = true → okW g oY ∧ ∀ i, i < 8 → cnW oY i = cnW own i + (if i = K then 1 else 0)) ∧ (bY = false → oY = own ∧ clW g own K) := by
                      exact ⟨true, oY, rfl, hW9, hH9, fun _ => ⟨hO9, hC9⟩, fun h9 => (by cases h9)⟩
                    exact hret _ (u_99.1, rA2, (upd bA2 p (nI (ro2 e))), u_99.2) _ _ _ _ (hpost) (rfl) hP hD hS dX8_finds_103
        exact loop_23 _ met R1 0 rA1 bA1 ro pe (Nat.lt_succ_self _) (hBI) (by omega) (Nat.zero_le _) (hcl) (fun q hq => absurd hq (Nat.not_lt_zero q)) _ _ hP hD hS _ (lv_sub hl [0, 1, 2, 3, 4, 5] rfl)
  exact loop_14 _ 0 1 0 (upd rA 0 (nI K)) bA (fun _ => K) (fun _ => 0) (Nat.lt_succ_self _) (BI_0 g own n K _ _ pk_us) (Nat.zero_le _) (fun i hi => absurd hi (Nat.not_lt_zero i)) _ _ hP hD hS _ (lv_sub hl [0, 1, 2, 3, 4] rfl)
