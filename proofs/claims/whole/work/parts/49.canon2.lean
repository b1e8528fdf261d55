/-! odd, doubt, unseen, fits, the sketch -/
theorem gwo_c {σ : PS} {N : NL} {pt j k0 : Nat} {cl : Int32} (h8 : N.1 ≤ 8) (hk0 : k0 < N.1) : sc (gS σ N pt j (nI k0) cl) N.1 = sc (gwo (gS σ N pt j (-9) cl) k0) N.1 := by
  refine sc_cong (fun k p hk hp => ?_)
  unfold gwo gS
  rw [m9_d (by omega)]
  have e : decide (nI k = nI k0) = decide (k = k0) := by
    by_cases c : k = k0
    · rw [decide_eq_true c, c]; exact decide_eq_true rfl
    · rw [decide_eq_false c]; exact decide_eq_false (fun q => c ((c_eq (a := k) (b := k0) rfl rfl (by omega) (by omega)).mp q))
  rw [e]
  cases decide (k = k0) <;> cases decide (p < zn σ) <;> rfl
theorem odd_split {σ : PS} {N : NL} (h8 : N.1 ≤ 8) {k : Nat} (hk : k < N.1) (w : Nat) : wlP σ N (nI k) (N.1 - 1) w = (wlP σ N (-9) N.1 w || (decide (cPk σ (w / 64) = 0) && (decide (scM σ N w = (N.1 : Int) - 1) && decide (sc (gwo (gS σ N (w / 64) (w % 64) (-9) (-9)) k) N.1 = N.1 - 1)))) := by
  unfold wlP scM
  by_cases c : cPk σ (w / 64) = 0
  · rw [if_pos c, decide_eq_true c, Bool.true_and, Bool.true_and, Bool.true_and, gwo_c h8 hk]
    have a1 := sc_wo_lt (g := gS σ N (w / 64) (w % 64) (-9) (-9)) hk
    have a2 := sc_le_wo (g := gS σ N (w / 64) (w % 64) (-9) (-9)) hk
    have a3 := sc_wo_le (gS σ N (w / 64) (w % 64) (-9) (-9)) k N.1
    have a4 := sc_le (gS σ N (w / 64) (w % 64) (-9) (-9)) N.1
    generalize sc (gwo (gS σ N (w / 64) (w % 64) (-9) (-9)) k) N.1 = s' at a1 a2 a3
    generalize sc (gS σ N (w / 64) (w % 64) (-9) (-9)) N.1 = s at a2 a3 a4
    by_cases d : s' = N.1 - 1
    · rw [decide_eq_true d]
      by_cases d2 : s = N.1
      · rw [decide_eq_true d2]; rfl
      · rw [decide_eq_false d2, decide_eq_true (show (s : Int) = (N.1 : Int) - 1 by omega)]; rfl
    · rw [decide_eq_false d, decide_eq_false (show ¬ s = N.1 by omega), Bool.and_false]; rfl
  · rw [if_neg c, decide_eq_false c]; rfl
theorem odd_ct {σ : PS} {N : NL} (h8 : N.1 ≤ 8) {k : Nat} (hk : k < N.1) {lk : Nat → Bool} (hlk : ∀ w, w < 4096 → lk w = (decide (cPk σ (w / 64) = 0) && (decide (scM σ N w = (N.1 : Int) - 1) && decide (sc (gwo (gS σ N (w / 64) (w % 64) (-9) (-9)) k) N.1 = N.1 - 1)))) : ctO σ N k = fb_ct (wlP σ N (-9) N.1) 4096 + fb_ct lk 4096 := by
  unfold ctO
  rw [fb_ct_cong (fun w hw => (odd_split h8 hk w).trans (by rw [← hlk w hw]))]
  refine fb_ct_or (fun w hw q => ?_)
  have q2 := q.2
  rw [hlk w hw, Bool.and_eq_true, Bool.and_eq_true] at q2
  have q1 := q.1
  rw [← wl_c] at q1
  have e1 := of_decide_eq_true q1
  have e2 := of_decide_eq_true q2.2.1
  omega
theorem lkW_c {σ : PS} {N : NL} {vL xs ys hs fs ss pk vis vN bs zs : Nat → Int32} (h : LOK σ vL xs ys hs fs ss pk vis) (hN : NRep N vN bs zs) {k w : Nat} (hw : w < 4096) : lkW vis pk xs ys hs zs (cBe σ) N.2.1 (zl σ) (zn σ) N.1 (lf0 (zn σ)) k w = (decide (cPk σ (w / 64) = 0) && (decide (scM σ N w = (N.1 : Int) - 1) && decide (sc (gwo (gS σ N (w / 64) (w % 64) (-9) (-9)) k) N.1 = N.1 - 1))) := by
  unfold lkW
  rw [sV_c h hN hw, LOK_pk h (w / 64) (by omega)]
  by_cases c : cPk σ (w / 64) = 0
  · have e : sc (gwo (gV vis xs ys hs zs (cBe σ) N.2.1 (zl σ) (zn σ) (lf0 (zn σ)) w) k) N.1 = sc (gwo (gS σ N (w / 64) (w % 64) (-9) (-9)) k) N.1 := sc_cong (fun i p hi hp => by
      unfold gwo gV
      rw [gS_c h hN (by omega) c hi hp (lf0_hlf h.1 p)])
    rw [e]
  · rw [decide_eq_false c]; rfl
theorem odd_c {σ : PS} {N : NL} {vL xs ys hs fs ss pk vis vN bs zs : Nat → Int32} (h : LOK σ vL xs ys hs fs ss pk vis) (hN : NRep N vN bs zs) {r : Int32} (hr : (N.1 = 0 ∧ r = -9) ∨ ∃ b, b < N.1 ∧ r = nI b ∧ ∀ k, k < N.1 → fb_ct (lkW vis pk xs ys hs zs (cBe σ) N.2.1 (zl σ) (zn σ) N.1 (lf0 (zn σ)) k) 4096 ≤ fb_ct (lkW vis pk xs ys hs zs (cBe σ) N.2.1 (zl σ) (zn σ) N.1 (lf0 (zn σ)) b) 4096 ∧ (k < b → fb_ct (lkW vis pk xs ys hs zs (cBe σ) N.2.1 (zl σ) (zn σ) N.1 (lf0 (zn σ)) k) 4096 < fb_ct (lkW vis pk xs ys hs zs (cBe σ) N.2.1 (zl σ) (zn σ) N.1 (lf0 (zn σ)) b) 4096)) : (N.1 = 0 ∧ r = -9) ∨ ∃ b, b < N.1 ∧ r = nI b ∧ ∀ k, k < N.1 → ctO σ N k ≤ ctO σ N b ∧ (k < b → ctO σ N k < ctO σ N b) := by
  have h8 := hN.2.1
  refine hr.imp id (fun ⟨b, b1, b2, b3⟩ => ⟨b, b1, b2, fun k hk => ?_⟩)
  have e1 := odd_ct h8 b1 (fun w hw => lkW_c (k := b) h hN hw)
  have e2 := odd_ct h8 hk (fun w hw => lkW_c (k := k) h hN hw)
  rw [e1, e2]
  have := b3 k hk
  exact ⟨Nat.add_le_add_left this.1 _, fun q => Nat.add_lt_add_left (this.2 q) _⟩
theorem odd_one {c : Nat → Nat} {n : Nat} {r r' : Int32} (h : (n = 0 ∧ r = -9) ∨ ∃ b, b < n ∧ r = nI b ∧ ∀ k, k < n → c k ≤ c b ∧ (k < b → c k < c b)) (h' : (n = 0 ∧ r' = -9) ∨ ∃ b, b < n ∧ r' = nI b ∧ ∀ k, k < n → c k ≤ c b ∧ (k < b → c k < c b)) : r = r' := by
  rcases h with ⟨a1, a2⟩ | ⟨b, b1, b2, b3⟩ <;> rcases h' with ⟨c1, c2⟩ | ⟨d, d1, d2, d3⟩
  · exact a2.trans c2.symm
  · omega
  · omega
  · have x1 := b3 d d1
    have x2 := d3 b b1
    have : b = d := by
      rcases Nat.lt_trichotomy b d with q | q | q
      · have := x2.2 q; omega
      · exact q
      · have := x1.2 q; omega
    rw [b2, d2, this]
theorem dbt_c {σ : PS} {N : NL} (h8 : N.1 ≤ 8) {pk v sco : Nat → Int32} {nn : Nat} (hpk : ∀ i, i < 64 → pk i = cPk σ i) (hK : KVs (scM σ N) nn 4096 v sco) : fb_ct (fun pt => decide (pk pt = 0) && anyB (fun j => decide (sco (pt * 64 + j) = v 7)) 64) 64 = plV (scM σ N) 64 := by
  have hM := mxV_rng (σ := σ) h8 4096
  have hv7 : v 7 = Int32.ofInt (mxV (scM σ N) 4096) := by
    rcases hK.2.2 with ⟨a1, _, a3⟩ | ⟨b, b1, _, b3, b4, b5⟩
    · rw [a1, mxV_low a3]; decide
    · have e1 := mxV_up (s := scM σ N) b1
      have e2 := mxV_le (s := scM σ N) (B := scM σ N b) (by omega) 4096 (fun w hw => (b5 w hw).1)
      rw [b3, show scM σ N b = mxV (scM σ N) 4096 by omega]
  unfold plV
  refine fb_ct_cong (fun pt hpt => ?_)
  rw [hpk pt hpt]
  by_cases c : cPk σ pt = 0
  · have h0 : 0 ≤ hxV (scM σ N) pt 64 := by
      have e1 : scM σ N (64 * pt + 0) ≤ hxV (scM σ N) pt 64 := mxV_up (s := fun i => scM σ N (64 * pt + i)) (show 0 < 64 by omega)
      rw [sM_at (by omega) c] at e1
      omega
    rw [decide_eq_true c, decide_eq_true h0, Bool.true_and, Bool.true_and]
    have key : ∀ j, j < 64 → decide (sco (pt * 64 + j) = v 7) = decide (scM σ N (64 * pt + j) = mxV (scM σ N) 4096) := by
      intro j hj
      rw [hK.1 _ (by omega), hv7, Nat.mul_comm pt 64]
      have hr := sM_rng (σ := σ) h8 (64 * pt + j)
      by_cases d : scM σ N (64 * pt + j) = mxV (scM σ N) 4096
      · rw [decide_eq_true d, d]; exact decide_eq_true rfl
      · rw [decide_eq_false d]; exact decide_eq_false (fun q => d ((oI_inj hr.1 hr.2 hM.1 hM.2).mp q))
    rw [anyB_cong key]
    by_cases d : hxV (scM σ N) pt 64 = mxV (scM σ N) 4096
    · have e2 := (agV_is (s := fun i => scM σ N (64 * pt + i)) 64).resolve_left (show ¬ hxV (scM σ N) pt 64 ≤ -1 by omega)
      rw [decide_eq_true (show hxV (scM σ N) pt 64 = mxV (scM σ N) (64 * 64) from d)]
      exact anyB_yes e2.1 (decide_eq_true (e2.2.1.trans d))
    · rw [decide_eq_false (show ¬ hxV (scM σ N) pt 64 = mxV (scM σ N) (64 * 64) from d)]
      refine anyB_no.mpr (fun j hj => decide_eq_false (fun q => d ?_))
      have e1 : scM σ N (64 * pt + j) ≤ hxV (scM σ N) pt 64 := mxV_up (s := fun i => scM σ N (64 * pt + i)) hj
      have e2 : hxV (scM σ N) pt 64 ≤ mxV (scM σ N) (64 * 64) := hx_le hpt
      have e3 : mxV (scM σ N) (64 * 64) = mxV (scM σ N) 4096 := rfl
      omega
  · have e : hxV (scM σ N) pt 64 = -1 := mxV_low (fun w hw => by show scM σ N (64 * pt + w) ≤ -1; rw [sM_no hw c]; exact Int.le_refl _)
    rw [decide_eq_false c, e]; rfl
theorem un_c {σ : PS} {N : NL} {vL xs ys hs fs ss pk vis vN bs zs : Nat → Int32} (h : LOK σ vL xs ys hs fs ss pk vis) (hN : NRep N vN bs zs) {cc : Nat} {cpt clk : Nat → Nat} {cwh : Nat → Bool} (hc : ∀ k, k < cc → cpt k < 64 ∧ cPk σ (cpt k) = 0) {p0 : Nat} (hp0 : p0 < zn σ) :
    (!anyB (fun i => decide ((sc (fun k p => decide (p < zn σ) && fE (shB vis (lf0 (zn σ) &&& (((1 : Int32) <<< (nI p0 &&& 31)) ^^^ (-1))) (cpt i)) (gstand xs ys hs (cpt i)) (cBe σ (cpt i)) zs N.2.1 (zl σ) k p (clk i)) N.1 = N.1) ≠ (cwh i = true))) cc) = unB σ N cc cpt clk cwh p0 := by
  unfold unB
  have h10 := h.1.1
  rw [anyB_cong (fun i hi => ?_)]
  have hlf : ∀ p, p < zn σ → bt (lf0 (zn σ) &&& (((1 : Int32) <<< (nI p0 &&& 31)) ^^^ (-1))) p = !decide (nI p = nI p0) := fun p hp => by
    rw [lfx_bt (by omega) (by omega) (by omega), decide_eq_true hp, Bool.true_and]
    by_cases e : p = p0
    · rw [decide_eq_true e, e]; simp
    · rw [decide_eq_false e, decide_eq_false (fun q => e ((c_eq (a := p) (b := p0) rfl rfl (by omega) (by omega)).mp q))]
  show decide ((sc (fun k p => decide (p < zn σ) && fE (shB vis (lf0 (zn σ) &&& (((1 : Int32) <<< (nI p0 &&& 31)) ^^^ (-1))) (cpt i)) (gstand xs ys hs (cpt i)) (cBe σ (cpt i)) zs N.2.1 (zl σ) k p (clk i)) N.1 = N.1) ≠ (cwh i = true)) = unF σ N cpt clk cwh p0 i
  rw [sc_c h hN (hc i hi).1 (hc i hi).2 hlf]
  unfold unF
  by_cases d : sc (gS σ N (cpt i) (clk i) (-9) (nI p0)) N.1 = N.1
  · cases e : cwh i <;> simp [d, e]
  · cases e : cwh i <;> simp [d, e]
theorem ft_c {σ : PS} {N : NL} {vL xs ys hs fs ss pk vis vN bs zs : Nat → Int32} (h : LOK σ vL xs ys hs fs ss pk vis) (hN : NRep N vN bs zs) (x y z w w2 : Int32) : (if (pPlace pk x y && (pLook z && (pHas (nI N.1) w && pHas (nI (zn σ)) w2))) = true then b2i (anyB (fun p => fE (shB vis (1 <<< (w2 &&& 31)) (ptN x y)) (gstand xs ys hs (ptN x y)) (cBe σ (ptN x y)) zs N.2.1 (zl σ) w.toNatClampNeg p z.toNatClampNeg) (zn σ)) else -1) = ftR σ N x y z w w2 := by
  unfold ftR
  rw [pPlace_c (LOK_pk h)]
  by_cases c : (pPlace (cPk σ) x y && (pLook z && (pHas (nI N.1) w && pHas (nI (zn σ)) w2))) = true
  · rw [if_pos c, if_pos c]
    rw [Bool.and_eq_true, Bool.and_eq_true, Bool.and_eq_true] at c
    obtain ⟨hpt, hk⟩ := ptN_lt c.1
    have h10 := h.1.1
    have h8 := hN.2.1
    obtain ⟨k, hkn, rfl⟩ := pHas_of (by omega) c.2.2.1
    obtain ⟨p, hp, rfl⟩ := pHas_of (by omega) c.2.2.2
    rw [nI_clamp (show k < 2 ^ 31 by omega), nI_clamp (show p < 2 ^ 31 by omega)]
    refine congrArg b2i ?_
    have key : ∀ i, i < zn σ → fE (shB vis (1 <<< (nI p &&& 31)) (ptN x y)) (gstand xs ys hs (ptN x y)) (cBe σ (ptN x y)) zs N.2.1 (zl σ) k i z.toNatClampNeg = (decide (i = p) && (cVi σ (ptN x y) i && fitB σ N (ptN x y) z.toNatClampNeg k i)) := fun i hi => by
      rw [fE_c h hN hpt hk hi hkn, bt_one (by omega) (by omega)]
    rw [anyB_cong key]
    cases e : (cVi σ (ptN x y) p && fitB σ N (ptN x y) z.toNatClampNeg k p) with
    | true => exact anyB_yes hp (by rw [decide_eq_true rfl, e]; rfl)
    | false =>
      refine anyB_no.mpr (fun i hi => ?_)
      by_cases d : i = p
      · rw [d, e, Bool.and_false]
      · rw [decide_eq_false d, Bool.false_and]
  · rw [if_neg c, if_neg c]
theorem sco_c {σ : PS} {N : NL} {vL xs ys hs fs ss pk vis vN bs zs : Nat → Int32} (h : LOK σ vL xs ys hs fs ss pk vis) (hN : NRep N vN bs zs) (x y z : Int32) : (if (pPlace pk x y && pLook z) = true then nI (sc (fun k p => decide (p < zn σ) && fE (shB vis (1 <<< (nI (zn σ) &&& 31) - 1) (ptN x y)) (gstand xs ys hs (ptN x y)) (cBe σ (ptN x y)) zs N.2.1 (zl σ) k p z.toNatClampNeg) N.1) else -1) = scR σ N x y z := by
  unfold scR
  rw [pPlace_c (LOK_pk h)]
  by_cases c : (pPlace (cPk σ) x y && pLook z) = true
  · rw [if_pos c, if_pos c]
    rw [Bool.and_eq_true] at c
    obtain ⟨hpt, hk⟩ := ptN_lt c.1
    rw [sc_c h hN hpt hk (lf0_hlf h.1)]
  · rw [if_neg c, if_neg c]
theorem NRep_cg {N N' : NL} {v b s : Nat → Int32} (h : NRep N v b s) (h1 : N'.1 = N.1) (h2 : ∀ k, k < N.1 → N'.2.1 k = N.2.1 k ∧ N'.2.2 k = N.2.2 k) : NRep N' v b s := by
  refine ⟨by rw [h1]; exact h.1, by rw [h1]; exact h.2.1, fun k hk => ?_⟩
  rw [h1] at hk
  rw [(h2 k hk).1, (h2 k hk).2]
  exact h.2.2 k hk
theorem sk_c {σ : PS} {vL xs ys hs fs ss pk vis v b s : Nat → Int32} (h : LOK σ vL xs ys hs fs ss pk vis) {pt l : Nat} {r : Int32} (hpt : pt < 64) (hk : cPk σ pt = 0) (hq : ∃ mY oY, Pan (fvis vis pt) (gahead xs ys pt) (zn σ) mY oY ∧ mY ≤ zn σ ∧ r = nI (min mY 8) ∧ NRep (min mY 8, skB (cBe σ pt) l oY, fun a => cHg σ pt (oY a)) v b s) : r = nI (skN σ pt l).1 ∧ NRep (skN σ pt l) v b s := by
  obtain ⟨mY, oY, hP, hm, hr, hR⟩ := hq
  obtain ⟨e1, e2⟩ := Pan_pno h.1 hpt hk (Pan_c h hpt hk hP)
  refine ⟨by rw [hr, e1]; rfl, NRep_cg hR (by rw [e1]; rfl) (fun k hkn => ?_)⟩
  have hkn : k < min mY 8 := hkn
  have e3 := e2 k (by omega)
  show skB (cBe σ pt) l (pno σ pt) k = skB (cBe σ pt) l oY k ∧ cHg σ pt (pno σ pt k) = cHg σ pt (oY k)
  unfold skB
  rw [e3]
  exact ⟨rfl, rfl⟩
