/-! What the class answers out of its own rows is what the land says (the canonical functions). -/
abbrev lf0 (n : Nat) : Int32 := (1 : Int32) <<< (nI n &&& 31) - 1
theorem pPlace_c {pk pk' : Nat → Int32} (h : ∀ i, i < 64 → pk i = pk' i) (x y : Int32) : pPlace pk x y = pPlace pk' x y := by
  unfold pPlace
  by_cases a1 : x < 0
  · simp [a1]
  by_cases a2 : 8 ≤ x
  · simp [a2]
  by_cases a3 : y < 0
  · simp [a3]
  by_cases a4 : 8 ≤ y
  · simp [a4]
  obtain ⟨X, hX, rfl⟩ := ix8 a1 a2
  obtain ⟨Y, hY, rfl⟩ := ix8 a3 a4
  rw [mul8, nI_clamp (by omega), h _ (by omega)]
theorem LOK_pk {σ : PS} {vL xs ys hs fs ss pk vis : Nat → Int32} (h : LOK σ vL xs ys hs fs ss pk vis) : ∀ i, i < 64 → pk i = cPk σ i := h.2.2.1.2.2
theorem LOK_vis {σ : PS} {vL xs ys hs fs ss pk vis : Nat → Int32} (h : LOK σ vL xs ys hs fs ss pk vis) : ∀ i, i < 64 → vis i = cVis σ i := fun i hi => (h.2.2.2 i hi).trans (gvis_c h.1 h.2.2.1.1 (LOK_pk h i hi))
theorem LOK_B {σ : PS} {vL xs ys hs fs ss pk vis : Nat → Int32} (h : LOK σ vL xs ys hs fs ss pk vis) : ∀ pt, pt < 64 → pk pt = 0 → ∀ p, p < zn σ → gbear (gx xs pt p) (gy ys pt p) = nI (cBe σ pt p) ∧ cBe σ pt p < 64 := fun pt hpt hk p hp => by
  rw [gx_c (h.2.2.1.1 p hp).1, gy_c (h.2.2.1.1 p hp).2.1]
  exact cBe_is h.1 hpt ((LOK_pk h pt hpt).symm.trans hk) hp
theorem LOK_ST {σ : PS} {vL xs ys hs fs ss pk vis : Nat → Int32} (h : LOK σ vL xs ys hs fs ss pk vis) : ∀ pt, pt < 64 → pk pt = 0 → ∀ p, p < zn σ → gstand xs ys hs pt p = nI (cHg σ pt p) ∧ cHg σ pt p ≤ 480 := fun pt hpt hk p hp => by
  have h1 := cHg_is h.1 hpt ((LOK_pk h pt hpt).symm.trans hk) hp
  rw [gstand_c h.2.2.1.1 hp]
  exact ⟨h1.1, h1.2.1⟩
theorem SO_cg {g g' : Nat → Nat → Bool} {n : Nat} (h : ∀ p q, p < n → q < n → g p q = g' p q) (hs : SO g n) : SO g' n :=
  ⟨fun p q hp hq e => by rw [← h p q hp hq, ← h q p hq hp]; exact hs.1 p q hp hq e, fun p q r hp hq hr a b => by rw [← h p r hp hr]; rw [← h p q hp hq] at a; rw [← h q r hq hr] at b; exact hs.2 p q r hp hq hr a b⟩
theorem LOK_SO {σ : PS} {vL xs ys hs fs ss pk vis : Nat → Int32} (h : LOK σ vL xs ys hs fs ss pk vis) : ∀ pt, pt < 64 → pk pt = 0 → SO (gahead xs ys pt) (zn σ) := fun pt hpt hk =>
  SO_cg (fun p q hp hq => (gahead_c h.2.2.1.1 hp hq pt).symm) (cSO h.1 hpt ((LOK_pk h pt hpt).symm.trans hk))
theorem ptN_lt {pk : Nat → Int32} {x y : Int32} (h : pPlace pk x y = true) : ptN x y < 64 ∧ pk (ptN x y) = 0 := by
  obtain ⟨X, Y, hX, hY, rfl, rfl, hc⟩ := pPlace_of h
  rw [ptN_nI hX hY]
  exact ⟨by omega, hc⟩
theorem seR_c {pk pk' vis vis' : Nat → Int32} {n : Nat} (hk : ∀ i, i < 64 → pk i = pk' i) (hv : ∀ i, i < 64 → vis i = vis' i) (x y z : Int32) : seR pk vis n x y z = seR pk' vis' n x y z := by
  unfold seR
  rw [pPlace_c hk]
  cases e : pPlace pk' x y with
  | false => simp
  | true => rw [hv _ (ptN_lt e).1]
theorem beR_c {σ : PS} {vL xs ys hs fs ss pk vis : Nat → Int32} (h : LOK σ vL xs ys hs fs ss pk vis) (x y z : Int32) : beR pk xs ys (zn σ) x y z = cbeR σ x y z := by
  unfold beR cbeR
  rw [pPlace_c (LOK_pk h)]
  have h10 := h.1.1
  cases e : pPlace (cPk σ) x y with
  | false => simp
  | true =>
    cases e2 : pHas (nI (zn σ)) z with
    | false => simp
    | true =>
      obtain ⟨p, hp, rfl⟩ := pHas_of (by omega) e2
      have e3 : pPlace pk x y = true := by rw [pPlace_c (LOK_pk h)]; exact e
      rw [nI_clamp (by omega)]
      simp only [Bool.and_self, if_true]
      exact (LOK_B h _ (ptN_lt e3).1 (ptN_lt e3).2 p hp).1
theorem stR_c {σ : PS} {vL xs ys hs fs ss pk vis : Nat → Int32} (h : LOK σ vL xs ys hs fs ss pk vis) (x y z : Int32) : stR pk xs ys hs (zn σ) x y z = cstR σ x y z := by
  unfold stR cstR
  rw [pPlace_c (LOK_pk h)]
  have h10 := h.1.1
  cases e : pPlace (cPk σ) x y with
  | false => simp
  | true =>
    cases e2 : pHas (nI (zn σ)) z with
    | false => simp
    | true =>
      obtain ⟨p, hp, rfl⟩ := pHas_of (by omega) e2
      have e3 : pPlace pk x y = true := by rw [pPlace_c (LOK_pk h)]; exact e
      rw [nI_clamp (by omega)]
      simp only [Bool.and_self, if_true]
      exact (LOK_ST h _ (ptN_lt e3).1 (ptN_lt e3).2 p hp).1
theorem fvis_c {σ : PS} {vL xs ys hs fs ss pk vis : Nat → Int32} (h : LOK σ vL xs ys hs fs ss pk vis) {pt p : Nat} (hpt : pt < 64) (hk : cPk σ pt = 0) (hp : p < zn σ) : fvis vis pt p = cVi σ pt p := by
  have h10 := h.1.1
  unfold fvis
  rw [LOK_vis h pt hpt, sr_bt1 (by omega), bt_vis h.1 hk hp]
  cases cVi σ pt p <;> decide
theorem Pan_cg {f f' : Nat → Bool} {g g' : Nat → Nat → Bool} {n many : Nat} {o : Nat → Nat} (hf : ∀ p, p < n → f p = f' p) (hg : ∀ p q, p < n → q < n → g p q = g' p q) (h : Pan f g n many o) : Pan f' g' n many o :=
  ⟨fun a ha => ⟨(h.1 a ha).1, by rw [← hf _ (h.1 a ha).1]; exact (h.1 a ha).2⟩, fun p hp hv => h.2.1 p hp (by rw [hf p hp]; exact hv), fun a b hab hb => by rw [← hg _ _ (h.1 a (by omega)).1 (h.1 b hb).1]; exact h.2.2 a b hab hb⟩
theorem Pan_c {σ : PS} {vL xs ys hs fs ss pk vis : Nat → Int32} (h : LOK σ vL xs ys hs fs ss pk vis) {pt many : Nat} {o : Nat → Nat} (hpt : pt < 64) (hk : cPk σ pt = 0) (hP : Pan (fvis vis pt) (gahead xs ys pt) (zn σ) many o) : Pan (cVi σ pt) (gahead (cX σ) (cY σ) pt) (zn σ) many o :=
  Pan_cg (fun p hp => fvis_c h hpt hk hp) (fun p q hp hq => gahead_c h.2.2.1.1 hp hq pt) hP
theorem Pan_pno {σ : PS} {pt many : Nat} {o : Nat → Nat} (h : okPS σ) (hpt : pt < 64) (hk : cPk σ pt = 0) (hP : Pan (cVi σ pt) (gahead (cX σ) (cY σ) pt) (zn σ) many o) : many = fb_ct (cVi σ pt) (zn σ) ∧ ∀ a, a < many → o a = pno σ pt a := by
  have hI : ∀ p, p < zn σ → gahead (cX σ) (cY σ) pt p p = false := fun p hp => cIrr h hpt hk p hp
  exact ⟨Pan_many hI hP, fun a ha => (pno_is h hpt hk (hP.1 a ha).1 (hP.1 a ha).2 (Pan_rank (cSO h hpt hk) hI hP ha)).symm⟩
theorem z_m1 {z : Int32} (h1 : ¬ z < -1) (h2 : z < 0) : z = -1 := by
  apply Int32.toInt_inj.mp
  rw [Int32.lt_iff_toInt_lt] at h1 h2
  have e1 : (-1 : Int32).toInt = -1 := by decide
  have e0 : (0 : Int32).toInt = 0 := by decide
  omega
theorem pa_c {σ : PS} {vL xs ys hs fs ss pk vis : Nat → Int32} (h : LOK σ vL xs ys hs fs ss pk vis) {x y z r : Int32} (h1 : (pPlace pk x y && !decide (z < -1)) = true → paQ (fvis vis (ptN x y)) (gahead xs ys (ptN x y)) (zn σ) z r) (h2 : (pPlace pk x y && !decide (z < -1)) = false → r = -1) : paN σ x y z r := by
  rw [pPlace_c (LOK_pk h)] at h1 h2
  refine ⟨h2, fun e => ?_⟩
  obtain ⟨many, o, hP, hm, hr⟩ := h1 e
  rw [Bool.and_eq_true] at e
  obtain ⟨hpt, hk⟩ := ptN_lt e.1
  have hz : ¬ z < -1 := by simpa using e.2
  have h10 := h.1.1
  have hI : ∀ p, p < zn σ → gahead (cX σ) (cY σ) (ptN x y) p p = false := fun p hp => cIrr h.1 hpt hk p hp
  have hP := Pan_c h hpt hk hP
  refine ⟨fun hn => ?_, fun hn => ?_⟩
  · rw [hr, if_pos (z_m1 hz hn), Pan_many hI hP]
  · obtain ⟨j, hj, rfl⟩ := nI_of hn
    have hne : ¬ nI j = -1 := fun q => by rw [q] at hn; exact hn (by decide)
    rw [if_neg hne, nI_clamp hj] at hr
    by_cases c : j < many
    · rw [if_pos ((c_lt (a := j) (b := many) rfl rfl hj (by omega)).mpr c)] at hr
      exact Or.inr ⟨o j, (hP.1 j c).1, (hP.1 j c).2, by rw [Pan_rank (cSO h.1 hpt hk) hI hP c], hr⟩
    · rw [if_neg (fun q => c ((c_lt (a := j) (b := many) rfl rfl hj (by omega)).mp q))] at hr
      refine Or.inl ⟨hr, fun i hi hf q => ?_⟩
      obtain ⟨a, ha, rfl⟩ := hP.2.1 i hi hf
      rw [Pan_rank (cSO h.1 hpt hk) hI hP ha] at q
      exact c (by have := (c_eq (a := a) (b := j) rfl rfl (by omega) hj).mp q; omega)
theorem paN_one {σ : PS} {x y z r r' : Int32} (h : okPS σ) (h1 : paN σ x y z r) (h2 : paN σ x y z r') : r = r' := by
  cases e : (pPlace (cPk σ) x y && !decide (z < -1)) with
  | false => exact (h1.1 e).trans (h2.1 e).symm
  | true =>
    obtain ⟨a1, a2⟩ := h1.2 e
    obtain ⟨b1, b2⟩ := h2.2 e
    rw [Bool.and_eq_true] at e
    obtain ⟨hpt, hk⟩ := ptN_lt e.1
    have h10 := h.1
    by_cases hn : z < 0
    · exact (a1 hn).trans (b1 hn).symm
    · have hl : ∀ j, rkP (cVi σ (ptN x y)) (gahead (cX σ) (cY σ) (ptN x y)) (zn σ) j ≤ zn σ := fun j => fb_ct_le _ _
      rcases a2 hn with ⟨p1, p2⟩ | ⟨j, j1, j2, j3, j4⟩ <;> rcases b2 hn with ⟨q1, q2⟩ | ⟨k, k1, k2, k3, k4⟩
      · exact p1.trans q1.symm
      · exact absurd k3 (p2 k k1 k2)
      · exact absurd j3 (q2 j j1 j2)
      · have e3 := (c_eq (a := rkP (cVi σ (ptN x y)) (gahead (cX σ) (cY σ) (ptN x y)) (zn σ) j) (b := rkP (cVi σ (ptN x y)) (gahead (cX σ) (cY σ) (ptN x y)) (zn σ) k) rfl rfl (by have := hl j; omega) (by have := hl k; omega)).mp (j3.trans k3.symm)
        rw [j4, k4, rk_inj (cSO h hpt hk) j1 k1 j2 k2 e3]
/-! scores -/
theorem lf_tab : allN (fun n => allN (fun p => decide (bt (lf0 n) p = decide (p < n))) 10) 11 = true := by decide +kernel
theorem lf_bt {n p : Nat} (hn : n ≤ 10) (hp : p < 10) : bt (lf0 n) p = decide (p < n) := of_decide_eq_true (allN_at (allN_at lf_tab (show n < 11 by omega)) hp)
theorem bt_m1 : allN (fun i => bt (-1) i) 10 = true := by decide +kernel
theorem lfx_bt {n p p0 : Nat} (hn : n ≤ 10) (hp : p < 10) (hp0 : p0 < 10) : bt (lf0 n &&& (((1 : Int32) <<< (nI p0 &&& 31)) ^^^ (-1))) p = (decide (p < n) && !decide (p = p0)) := by
  rw [b_and, lf_bt hn hp, b_xor, bt_one hp0 (by omega), allN_at bt_m1 hp]
  cases decide (p = p0) <;> rfl
theorem shB_c {σ : PS} {vL xs ys hs fs ss pk vis : Nat → Int32} (h : LOK σ vL xs ys hs fs ss pk vis) {lf : Int32} {pt p : Nat} (hpt : pt < 64) (hk : cPk σ pt = 0) (hp : p < zn σ) : shB vis lf pt p = (cVi σ pt p && bt lf p) := by
  have h10 := h.1.1
  unfold shB
  rw [LOK_vis h pt hpt, sr_bt1 (by omega), b_and, bt_vis h.1 hk hp]
  cases (cVi σ pt p && bt lf p) <;> decide
theorem fE_c {σ : PS} {N : NL} {vL xs ys hs fs ss pk vis vN bs zs : Nat → Int32} (h : LOK σ vL xs ys hs fs ss pk vis) (hN : NRep N vN bs zs) {lf : Int32} {pt k p j : Nat} (hpt : pt < 64) (hk : cPk σ pt = 0) (hp : p < zn σ) (hkn : k < N.1) : fE (shB vis lf pt) (gstand xs ys hs pt) (cBe σ pt) zs N.2.1 (zl σ) k p j = (bt lf p && (cVi σ pt p && fitB σ N pt j k p)) := by
  unfold fE fitB
  rw [shB_c h hpt hk hp, (LOK_ST h pt hpt ((LOK_pk h pt hpt).trans hk) p hp).1, (hN.2.2 k hkn).2.2.1]
  generalize (!decide (nI (zl σ) < iabs (nI (cHg σ pt p) - nI (N.2.2 k))) && lkB (cBe σ pt p) (N.2.1 k) (zl σ) j) = B
  cases bt lf p <;> cases cVi σ pt p <;> cases B <;> rfl
theorem m9_d {k : Nat} (h : k < 2147483648) : decide (nI k = -9) = false := decide_eq_false (by rw [m9_ne h]; exact id)
theorem gS_c {σ : PS} {N : NL} {vL xs ys hs fs ss pk vis vN bs zs : Nat → Int32} (h : LOK σ vL xs ys hs fs ss pk vis) (hN : NRep N vN bs zs) {lf cl : Int32} {pt k p j : Nat} (hpt : pt < 64) (hk : cPk σ pt = 0) (hkn : k < N.1) (hp10 : p < 10) (hlf : p < zn σ → bt lf p = !decide (nI p = cl)) : (decide (p < zn σ) && fE (shB vis lf pt) (gstand xs ys hs pt) (cBe σ pt) zs N.2.1 (zl σ) k p j) = gS σ N pt j (-9) cl k p := by
  have h8 := hN.2.1
  unfold gS gT
  rw [m9_d (by omega)]
  by_cases hp : p < zn σ
  · rw [fE_c h hN hpt hk hp hkn, hlf hp]; rfl
  · rw [decide_eq_false hp]; rfl
theorem sc_c {σ : PS} {N : NL} {vL xs ys hs fs ss pk vis vN bs zs : Nat → Int32} (h : LOK σ vL xs ys hs fs ss pk vis) (hN : NRep N vN bs zs) {lf cl : Int32} {pt j : Nat} (hpt : pt < 64) (hk : cPk σ pt = 0) (hlf : ∀ p, p < zn σ → bt lf p = !decide (nI p = cl)) : sc (fun k p => decide (p < zn σ) && fE (shB vis lf pt) (gstand xs ys hs pt) (cBe σ pt) zs N.2.1 (zl σ) k p j) N.1 = sc (gS σ N pt j (-9) cl) N.1 :=
  sc_cong (fun k p hkn hp10 => gS_c h hN hpt hk hkn hp10 (hlf p))
theorem lf0_hlf {σ : PS} (h : okPS σ) : ∀ p, p < zn σ → bt (lf0 (zn σ)) p = !decide (nI p = -9) := fun p hp => by
  have := h.1
  rw [lf_bt (by omega) (by omega), m9_d (by omega), decide_eq_true hp]; rfl
theorem sV_c {σ : PS} {N : NL} {vL xs ys hs fs ss pk vis vN bs zs : Nat → Int32} (h : LOK σ vL xs ys hs fs ss pk vis) (hN : NRep N vN bs zs) {w : Nat} (hw : w < 4096) : sV vis pk xs ys hs zs (cBe σ) N.2.1 (zl σ) (zn σ) N.1 (lf0 (zn σ)) w = scM σ N w := by
  unfold sV scM
  rw [LOK_pk h (w / 64) (by omega)]
  by_cases c : cPk σ (w / 64) = 0
  · rw [if_pos c, if_pos c, sc_c h hN (by omega) c (lf0_hlf h.1)]
  · rw [if_neg c, if_neg c]
theorem KVs_cg {s s' : Nat → Int} {nn V : Nat} {v sco : Nat → Int32} (h : ∀ w, w < V → s w = s' w) (hK : KVs s nn V v sco) : KVs s' nn V v sco := by
  refine ⟨fun w hw => by rw [← h w hw]; exact hK.1 w hw, hK.2.1.trans (by rw [fb_ct_cong (fun w hw => by rw [h w hw])]), ?_⟩
  rcases hK.2.2 with ⟨a1, a2, a3⟩ | ⟨b, b1, b2, b3, b4, b5⟩
  · exact Or.inl ⟨a1, a2, fun w hw => by rw [← h w hw]; exact a3 w hw⟩
  · exact Or.inr ⟨b, b1, b2, by rw [← h b b1]; exact b3, by rw [← h b b1]; exact b4, fun w hw => by rw [← h b b1, ← h w hw]; exact b5 w hw⟩
theorem bsQ_cg {s s' : Nat → Int} {V : Nat} {x r : Int32} (h : ∀ w, w < V → s w = s' w) (hK : bsQ s V x r) : bsQ s' V x r := by
  rcases hK with ⟨a1, a2⟩ | ⟨b, b1, b2, b3, b4⟩
  · exact Or.inl ⟨fun w hw => by rw [← h w hw]; exact a1 w hw, a2⟩
  · exact Or.inr ⟨b, b1, by rw [← h b b1]; exact b2, fun w hw => by rw [← h b b1, ← h w hw]; exact b3 w hw, by rw [← h b b1]; exact b4⟩
theorem RK_cg {P P' : Nat → Bool} {V kk : Nat} {r : Int32} (h : ∀ w, w < V → P w = P' w) (hK : RK P V kk r) : RK P' V kk r := by
  rcases hK with ⟨a1, a2⟩ | ⟨w, w1, w2, w3, w4⟩
  · exact Or.inl ⟨by rw [← fb_ct_cong h]; exact a1, a2⟩
  · exact Or.inr ⟨w, w1, by rw [← h w w1]; exact w2, by rw [← fb_ct_cong (fun k hk => h k (by omega))]; exact w3, w4⟩
theorem wl_c {σ : PS} {N : NL} (w : Nat) : decide (scM σ N w = (N.1 : Int)) = wlP σ N (-9) N.1 w := by
  unfold scM wlP
  by_cases c : cPk σ (w / 64) = 0
  · rw [if_pos c, decide_eq_true c, Bool.true_and]
    by_cases d : sc (gS σ N (w / 64) (w % 64) (-9) (-9)) N.1 = N.1
    · rw [decide_eq_true d, decide_eq_true (by omega)]
    · rw [decide_eq_false d, decide_eq_false (by omega)]
  · rw [if_neg c, decide_eq_false c, decide_eq_false (by omega)]; rfl
theorem wl_c2 {σ : PS} {N : NL} {vL xs ys hs fs ss pk vis vN bs zs : Nat → Int32} (h : LOK σ vL xs ys hs fs ss pk vis) (hN : NRep N vN bs zs) {w : Nat} (hw : w < 4096) : decide (sV vis pk xs ys hs zs (cBe σ) N.2.1 (zl σ) (zn σ) N.1 (lf0 (zn σ)) w = (N.1 : Int)) = wlP σ N (-9) N.1 w := by rw [sV_c h hN hw, wl_c]
