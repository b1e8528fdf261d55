theorem a_at {a b c d : Nat} (ha : a < 15) (hb : b < 15) (hc : c < 15) (hd : d < 15) (h : ¬ (a = 7 ∧ b = 7)) (h2 : ¬ (c = 7 ∧ d = 7)) : ahD (dI a) (dI b) (dI c) (dI d) = decide (ky a b < ky c d) ∧ (ky a b = ky c d → a = c ∧ b = d) := by
  have t := allN_at (allN_at (allN_at (allN_at a_tab ha) hb) hc) hd
  unfold aChk at t
  simp only [Bool.or_eq_true, Bool.and_eq_true, decide_eq_true_eq, beq_iff_eq, Bool.not_eq_true', decide_eq_false_iff_not] at t
  rcases t with (t | t) | t
  · exact absurd t h
  · exact absurd t h2
  · exact ⟨t.1, fun e => t.2.resolve_left (fun q => q e)⟩
def cA (σ : PS) (pt p : Nat) : Nat := zx σ p + 7 - pt / 8
def cB' (σ : PS) (pt p : Nat) : Nat := zy σ p + 7 - pt % 8
theorem gxD {σ : PS} {pt p : Nat} (h : okPS σ) (hpt : pt < 64) (hp : p < zn σ) : gx (cX σ) pt p = dI (cA σ pt p) := dI_sub (h.2.2.2.1 p hp).1 (by omega)
theorem gyD {σ : PS} {pt p : Nat} (h : okPS σ) (hpt : pt < 64) (hp : p < zn σ) : gy (cY σ) pt p = dI (cB' σ pt p) := dI_sub (h.2.2.2.1 p hp).2.1 (by omega)
theorem cA_lt {σ : PS} {pt p : Nat} (h : okPS σ) (hp : p < zn σ) : cA σ pt p < 15 ∧ cB' σ pt p < 15 := by
  have := h.2.2.2.1 p hp
  unfold cA cB'
  omega
theorem cPk_0 {σ : PS} {pt : Nat} : cPk σ pt = 0 ↔ ∀ p, p < zn σ → ¬ zx σ p * 8 + zy σ p = pt := by
  unfold cPk
  rw [b2i_0, pAtN, anyB_no]
  exact ⟨fun h p hp => of_decide_eq_false (h p hp), fun h p hp => decide_eq_false (h p hp)⟩
theorem cA_ne {σ : PS} {pt p : Nat} (h : okPS σ) (hpt : pt < 64) (hk : cPk σ pt = 0) (hp : p < zn σ) : ¬ (cA σ pt p = 7 ∧ cB' σ pt p = 7) := by
  intro q
  have h1 := cPk_0.mp hk p hp
  have := h.2.2.2.1 p hp
  unfold cA cB' at q
  omega
theorem cA_inj {σ : PS} {pt p r : Nat} (h : okPS σ) (hpt : pt < 64) (hp : p < zn σ) (hr : r < zn σ) (e1 : cA σ pt p = cA σ pt r) (e2 : cB' σ pt p = cB' σ pt r) : p = r := by
  have h1 := h.2.2.2.1 p hp
  have h2 := h.2.2.2.1 r hr
  unfold cA at e1
  unfold cB' at e2
  have e : zx σ p * 8 + zy σ p = zx σ r * 8 + zy σ r := by omega
  rcases Nat.lt_trichotomy p r with q | q | q
  · exact absurd e (h.2.2.2.2.2 p r q hr)
  · exact q
  · exact absurd e.symm (h.2.2.2.2.2 r p q hp)
theorem gah_D (xs ys : Nat → Int32) (pt p q : Nat) : gahead xs ys pt p q = ahD (gx xs pt p) (gy ys pt p) (gx xs pt q) (gy ys pt q) := rfl
theorem cGa_ky {σ : PS} {pt p q : Nat} (h : okPS σ) (hpt : pt < 64) (hk : cPk σ pt = 0) (hp : p < zn σ) (hq : q < zn σ) : gahead (cX σ) (cY σ) pt p q = decide (ky (cA σ pt p) (cB' σ pt p) < ky (cA σ pt q) (cB' σ pt q)) ∧ (ky (cA σ pt p) (cB' σ pt p) = ky (cA σ pt q) (cB' σ pt q) → p = q) := by
  rw [gah_D, gxD h hpt hp, gyD h hpt hp, gxD h hpt hq, gyD h hpt hq]
  obtain ⟨t1, t2⟩ := a_at (cA_lt (pt := pt) h hp).1 (cA_lt (pt := pt) h hp).2 (cA_lt (pt := pt) h hq).1 (cA_lt (pt := pt) h hq).2 (cA_ne h hpt hk hp) (cA_ne h hpt hk hq)
  exact ⟨t1, fun e => cA_inj h hpt hp hq (t2 e).1 (t2 e).2⟩
theorem cSO {σ : PS} {pt : Nat} (h : okPS σ) (hpt : pt < 64) (hk : cPk σ pt = 0) : SO (gahead (cX σ) (cY σ) pt) (zn σ) := by
  refine ⟨fun p q hp hq hpq => ?_, fun p q r hp hq hr h1 h2 => ?_⟩
  · obtain ⟨a1, a2⟩ := cGa_ky h hpt hk hp hq
    obtain ⟨b1, -⟩ := cGa_ky h hpt hk hq hp
    rw [a1, b1]
    have hne : ¬ ky (cA σ pt p) (cB' σ pt p) = ky (cA σ pt q) (cB' σ pt q) := fun e => hpq (a2 e)
    by_cases c : ky (cA σ pt p) (cB' σ pt p) < ky (cA σ pt q) (cB' σ pt q)
    · rw [decide_eq_true c, decide_eq_false (by omega)]; rfl
    · rw [decide_eq_false c, decide_eq_true (by omega)]; rfl
  · rw [(cGa_ky h hpt hk hp hq).1] at h1
    rw [(cGa_ky h hpt hk hq hr).1] at h2
    rw [(cGa_ky h hpt hk hp hr).1]
    have h1 := of_decide_eq_true h1
    have h2 := of_decide_eq_true h2
    exact decide_eq_true (by omega)
theorem cIrr {σ : PS} {pt : Nat} (h : okPS σ) (hpt : pt < 64) (hk : cPk σ pt = 0) (p : Nat) (hp : p < zn σ) : gahead (cX σ) (cY σ) pt p p = false := by
  rw [(cGa_ky h hpt hk hp hp).1]
  exact decide_eq_false (by omega)
/-! bearings, how high -/
theorem cBe_is {σ : PS} {pt p : Nat} (h : okPS σ) (hpt : pt < 64) (hk : cPk σ pt = 0) (hp : p < zn σ) : gbear (gx (cX σ) pt p) (gy (cY σ) pt p) = nI (cBe σ pt p) ∧ cBe σ pt p < 64 := by
  unfold cBe
  rw [gxD h hpt hp, gyD h hpt hp]
  obtain ⟨-, t2, t3, -⟩ := b_at (cA_lt (pt := pt) h hp).1 (cA_lt (pt := pt) h hp).2 (cA_ne h hpt hk hp)
  exact ⟨t2, t3⟩
theorem mBe_is {σ : PS} {pt p : Nat} (h : okPS σ) (hpt : pt < 64) (hk : cPk σ pt = 0) (hp : p < zn σ) : mbear (gx (cX σ) pt p) (gy (cY σ) pt p) = nI (cBe σ pt p) ∧ (isz (gy (cY σ) pt p) ≤ isz (gx (cX σ) pt p) → ¬ gx (cX σ) pt p = 0) ∧ (isz (gx (cX σ) pt p) < isz (gy (cY σ) pt p) → ¬ gy (cY σ) pt p = 0) := by
  have e := (cBe_is h hpt hk hp).1
  rw [← e]
  rw [gxD h hpt hp, gyD h hpt hp]
  obtain ⟨t1, -, -, t4, t5, -⟩ := b_at (cA_lt (pt := pt) h hp).1 (cA_lt (pt := pt) h hp).2 (cA_ne h hpt hk hp)
  exact ⟨t1, t4, t5⟩
theorem mup_is {σ : PS} {pt p : Nat} (h : okPS σ) (hpt : pt < 64) (hk : cPk σ pt = 0) (hp : p < zn σ) : mup (gx (cX σ) pt p) (gy (cY σ) pt p) = !ghalf (gx (cX σ) pt p) (gy (cY σ) pt p) := by
  rw [gxD h hpt hp, gyD h hpt hp]
  exact (b_at (cA_lt (pt := pt) h hp).1 (cA_lt (pt := pt) h hp).2 (cA_ne h hpt hk hp)).2.2.2.2.2.1
theorem cW_is {σ : PS} {pt p : Nat} (h : okPS σ) (hpt : pt < 64) (hk : cPk σ pt = 0) (hp : p < zn σ) : ∃ w : Nat, gway (cX σ) (cY σ) pt p = nI w ∧ 1 ≤ w ∧ w ≤ 7 := by
  unfold gway
  rw [gxD h hpt hp, gyD h hpt hp]
  obtain ⟨t7, t8, t9⟩ := (b_at (cA_lt (pt := pt) h hp).1 (cA_lt (pt := pt) h hp).2 (cA_ne h hpt hk hp)).2.2.2.2.2.2
  exact ⟨_, t7, t8, t9⟩
theorem nI0_ne {w : Nat} (h : 1 ≤ w) (h2 : w < 1000) : ¬ nI w = 0 := fun e => absurd ((c_eq (a := w) (b := 0) rfl rfl (by omega) (by omega)).mp e) (by omega)
theorem cHg_is {σ : PS} {pt p : Nat} (h : okPS σ) (hpt : pt < 64) (hk : cPk σ pt = 0) (hp : p < zn σ) : gstand (cX σ) (cY σ) (cH σ) pt p = nI (cHg σ pt p) ∧ cHg σ pt p ≤ 480 ∧ ¬ gway (cX σ) (cY σ) pt p = 0 ∧ 12 * cH σ p / gway (cX σ) (cY σ) pt p = nI (cHg σ pt p) := by
  obtain ⟨w, hw, h1, h7⟩ := cW_is h hpt hk hp
  have hz := (h.2.2.2.1 p hp).2.2
  have e0 : ¬ gway (cX σ) (cY σ) pt p = 0 := by rw [hw]; exact nI0_ne h1 (by omega)
  have e1 : 12 * cH σ p / gway (cX σ) (cY σ) pt p = nI (12 * zz σ p / w) := by
    rw [hw, show (12 : Int32) = nI 12 from rfl, cH, pk_mul, pk_div (by omega) (by omega) (by omega)]
  have e2 : gstand (cX σ) (cY σ) (cH σ) pt p = nI (12 * zz σ p / w) := by rw [gstand, if_neg e0, e1]
  have hb : 12 * zz σ p / w ≤ 480 := Nat.le_trans (Nat.div_le_self _ _) (by omega)
  have e3 : cHg σ pt p = 12 * zz σ p / w := by rw [cHg, e2, nI_clamp (by omega)]
  rw [e3]
  exact ⟨e2, hb, e0, e1⟩
/-! the model's words for them -/
theorem isz_abs (x : Int32) : isz x = iabs x := by
  unfold isz iabs
  split
  · rfl
  · rw [Int32.zero_sub]
theorem mway_is (dx dy : Int32) : mway dx dy = imax (iabs dx) (iabs dy) := by
  unfold mway imax
  rw [isz_abs, isz_abs]
  by_cases c : iabs dx < iabs dy
  · rw [if_pos c, if_pos (by rw [Int32.le_iff_toInt_le]; rw [Int32.lt_iff_toInt_lt] at c; omega)]
  · rw [if_neg c]
    by_cases d : iabs dx ≤ iabs dy
    · rw [if_pos d]
      apply Int32.toInt_inj.mp
      rw [Int32.le_iff_toInt_le] at d
      rw [Int32.lt_iff_toInt_lt] at c
      omega
    · rw [if_neg d]
/-! congruences -/
theorem gbits_cg {f g : Nat → Bool} : ∀ {n : Nat}, (∀ k, k < n → f k = g k) → gbits f n = gbits g n
  | 0, _ => rfl
  | n + 1, h => by rw [gbits, gbits, h n (Nat.lt_succ_self n), gbits_cg (fun k hk => h k (Nat.lt_succ_of_lt hk))]
theorem gx_c {σ : PS} {xs : Nat → Int32} {p : Nat} (e : xs p = nI (zx σ p)) (pt : Nat) : gx xs pt p = gx (cX σ) pt p := by unfold gx; rw [e]; rfl
theorem gy_c {σ : PS} {ys : Nat → Int32} {p : Nat} (e : ys p = nI (zy σ p)) (pt : Nat) : gy ys pt p = gy (cY σ) pt p := by unfold gy; rw [e]; rfl
def arP (σ : PS) (xs ys hs : Nat → Int32) : Prop := ∀ p, p < zn σ → xs p = nI (zx σ p) ∧ ys p = nI (zy σ p) ∧ hs p = nI (zz σ p)
theorem gway_c {σ : PS} {xs ys hs : Nat → Int32} (h : arP σ xs ys hs) {p : Nat} (hp : p < zn σ) (pt : Nat) : gway xs ys pt p = gway (cX σ) (cY σ) pt p := by unfold gway; rw [gx_c (h p hp).1, gy_c (h p hp).2.1]
theorem gahead_c {σ : PS} {xs ys hs : Nat → Int32} (h : arP σ xs ys hs) {p q : Nat} (hp : p < zn σ) (hq : q < zn σ) (pt : Nat) : gahead xs ys pt p q = gahead (cX σ) (cY σ) pt p q := by
  rw [gah_D, gah_D, gx_c (h p hp).1, gy_c (h p hp).2.1, gx_c (h q hq).1, gy_c (h q hq).2.1]
theorem gstand_c {σ : PS} {xs ys hs : Nat → Int32} (h : arP σ xs ys hs) {p : Nat} (hp : p < zn σ) (pt : Nat) : gstand xs ys hs pt p = gstand (cX σ) (cY σ) (cH σ) pt p := by
  unfold gstand; rw [gway_c h hp, (h p hp).2.2]; rfl
theorem gpeak_c {σ : PS} {xs ys hs : Nat → Int32} (h : arP σ xs ys hs) {p q : Nat} (hp : p < zn σ) (hq : q < zn σ) (pt : Nat) : gpeak xs ys hs pt p q = gpeak (cX σ) (cY σ) (cH σ) pt p q := by
  unfold gpeak gsame gturn
  rw [gway_c h hp, gway_c h hq, gx_c (h p hp).1, gy_c (h p hp).2.1, gx_c (h q hq).1, gy_c (h q hq).2.1, (h p hp).2.2, (h q hq).2.2]
  rfl
theorem gridge_c {σ : PS} {xs ys hs : Nat → Int32} (h : arP σ xs ys hs) {p a b : Nat} (hp : p < zn σ) (ha : a < zn σ) (hb : b < zn σ) (pt : Nat) : gridge xs ys hs pt p a b = gridge (cX σ) (cY σ) (cH σ) pt p a b := by
  unfold gridge gall gfar gpart
  rw [gx_c (h p hp).1, gy_c (h p hp).2.1, gx_c (h a ha).1, gy_c (h a ha).2.1, (h p hp).2.2, (h a ha).2.2, (h b hb).2.2, (h a ha).1, (h b hb).1, (h a ha).2.1, (h b hb).2.1]
  rfl
theorem ghid_c {σ : PS} {xs ys hs : Nat → Int32} (hok : okPS σ) (h : arP σ xs ys hs) {p : Nat} (hp : p < zn σ) (pt : Nat) : ghid xs ys hs (zn σ) (za σ) (zb σ) (zm σ) pt p = ghid (cX σ) (cY σ) (cH σ) (zn σ) (za σ) (zb σ) (zm σ) pt p := by
  unfold ghid
  rw [anyB_cong (fun k hk => gpeak_c h hp hk pt), anyB_cong (fun k hk => gridge_c h hp (hok.2.2.2.2.1 k hk).1 (hok.2.2.2.2.1 k hk).2.1 pt)]
theorem gvis_c {σ : PS} {xs ys hs pk : Nat → Int32} (hok : okPS σ) (h : arP σ xs ys hs) {pt : Nat} (hk : pk pt = cPk σ pt) : gvis xs ys hs (zn σ) (za σ) (zb σ) (zm σ) pk pt = cVis σ pt := by
  unfold cVis gvis
  rw [hk, gbits_cg (fun p hp => by rw [ghid_c hok h hp])]
/-! bits -/
theorem sr_bt {x : Int32} {p : Nat} (hp : p < 31) : (x >>> (nI p &&& 31) &&& 1 = 0) ↔ bt x p = false := by
  have h1 : ∀ j, j < 32 → bt 1 j = decide (j = 0) := by decide
  have key : ∀ i, i < 32 → bt (x >>> (nI p &&& 31) &&& 1) i = (decide (i = 0) && bt x p) := by
    intro i hi
    rw [b_and, b_sshr p (by omega) x hi, h1 i hi]
    by_cases e : i = 0
    · subst e; rw [if_pos (by omega)]; simp
    · simp [e]
  constructor
  · intro e
    have := key 0 (by omega)
    rw [e, b_0] at this
    simpa using this.symm
  · intro e
    refine b_ext (fun i hi => ?_)
    rw [key i hi, b_0, e]; simp
theorem sr_bt1 {x : Int32} {p : Nat} (hp : p < 31) : (x >>> (nI p &&& 31) &&& 1) = b2i (bt x p) := by
  cases e : bt x p with
  | false => exact (sr_bt hp).mpr e
  | true =>
    have h1 : ∀ j, j < 32 → bt 1 j = decide (j = 0) := by decide
    refine b_ext (fun i hi => ?_)
    show _ = bt 1 i
    rw [b_and, b_sshr p (by omega) x hi, h1 i hi]
    by_cases e0 : i = 0
    · subst e0; rw [if_pos (by omega)]; simp [e]
    · simp [e0]
theorem cVis_bt {σ : PS} {pt p : Nat} (h : okPS σ) (hp : p < 32) : bt (cVis σ pt) p = (decide (cPk σ pt = 0) && (decide (p < zn σ) && cVi σ pt p)) := by
  unfold cVis gvis
  by_cases c : cPk σ pt = 0
  · rw [if_pos c, bt_gbits h.1 hp]; simp [c, cVi]
  · rw [if_neg c, b_0]; simp [c]
/-! the rank of a peak in the panorama -/
def rkP (f : Nat → Bool) (g : Nat → Nat → Bool) (n p : Nat) : Nat := fb_ct (fun q => !decide (q = p) && (f q && g q p)) n
theorem Pan_inj {f : Nat → Bool} {g : Nat → Nat → Bool} {n many : Nat} {o : Nat → Nat} (hI : ∀ p, p < n → g p p = false) (h : Pan f g n many o) {a b : Nat} (ha : a < many) (hb : b < many) (e : o a = o b) : a = b := by
  rcases Nat.lt_trichotomy a b with q | q | q
  · have := h.2.2 a b q hb
    rw [e, hI _ (h.1 b hb).1] at this
    cases this
  · exact q
  · have := h.2.2 b a q ha
    rw [← e, hI _ (h.1 a ha).1] at this
    cases this
theorem fb_true (n : Nat) : fb_ct (fun _ => true) n = n := fb_ct_all.mpr (fun _ _ => rfl)
theorem Pan_many {f : Nat → Bool} {g : Nat → Nat → Bool} {n many : Nat} {o : Nat → Nat} (hI : ∀ p, p < n → g p p = false) (h : Pan f g n many o) : many = fb_ct f n := by
  apply Nat.le_antisymm
  · have := ct_inj (A := fun _ => true) (B := f) (K := many) (L := n) o (fun k hk _ => h.1 k hk) (fun k j hk hj _ _ e => Pan_inj hI h hk hj e)
    rwa [fb_true] at this
  · have := ct_inj (A := f) (B := fun _ => true) (K := n) (L := many) (fun p => @dite _ (∃ a, a < many ∧ o a = p) (Classical.propDecidable _) (fun h => Classical.choose h) (fun _ => 0)) (fun p hp hf => by
      have hx := h.2.1 p hp hf
      simp only [dif_pos hx]
      exact ⟨(Classical.choose_spec hx).1, trivial⟩) (fun p q hp hq hf hf2 e => by
      have hx := h.2.1 p hp hf
      have hy := h.2.1 q hq hf2
      simp only [dif_pos hx, dif_pos hy] at e
      have := (Classical.choose_spec hx).2
      rw [e] at this
      exact this.symm.trans (Classical.choose_spec hy).2)
    rwa [fb_true] at this
theorem Pan_rank {f : Nat → Bool} {g : Nat → Nat → Bool} {n many : Nat} {o : Nat → Nat} (hs : SO g n) (hI : ∀ p, p < n → g p p = false) (h : Pan f g n many o) {a : Nat} (ha : a < many) : rkP f g n (o a) = a := by
  apply Nat.le_antisymm
  · have := ct_inj (A := fun q => !decide (q = o a) && (f q && g q (o a))) (B := fun _ => true) (K := n) (L := a) (fun p => @dite _ (∃ b, b < many ∧ o b = p) (Classical.propDecidable _) (fun h => Classical.choose h) (fun _ => 0)) (fun p hp hf => by
      simp only [Bool.and_eq_true, Bool.not_eq_true', decide_eq_false_iff_not] at hf
      have hx := h.2.1 p hp hf.2.1
      simp only [dif_pos hx]
      obtain ⟨c1, c2⟩ := Classical.choose_spec hx
      refine ⟨?_, trivial⟩
      rcases Nat.lt_trichotomy (Classical.choose hx) a with q | q | q
      · exact q
      · rw [q] at c2; exact absurd c2.symm hf.1
      · have h1 := h.2.2 a _ q c1
        rw [c2] at h1
        have h2 := hs.1 p (o a) hp (h.1 a ha).1 hf.1
        rw [h1, hf.2.2] at h2
        cases h2) (fun p q hp hq hf hf2 e => by
      simp only [Bool.and_eq_true, Bool.not_eq_true', decide_eq_false_iff_not] at hf hf2
      have hx := h.2.1 p hp hf.2.1
      have hy := h.2.1 q hq hf2.2.1
      simp only [dif_pos hx, dif_pos hy] at e
      have := (Classical.choose_spec hx).2
      rw [e] at this
      exact this.symm.trans (Classical.choose_spec hy).2)
    rwa [fb_true] at this
  · have := ct_inj (A := fun _ => true) (B := fun q => !decide (q = o a) && (f q && g q (o a))) (K := a) (L := n) o (fun k hk _ => by
      refine ⟨(h.1 k (by omega)).1, ?_⟩
      have h1 := h.2.2 k a hk ha
      have h2 := (h.1 k (by omega)).2
      have h3 : ¬ o k = o a := fun e => absurd (Pan_inj hI h (by omega) ha e) (by omega)
      simp [h1, h2, h3]) (fun k j hk hj _ _ e => Pan_inj hI h (by omega) (by omega) e)
    rwa [fb_true] at this
/-! how a notch and a peak fit, as the model says it -/
def mFar (b s0 j : Nat) : Nat := if 32 < (b + 128 - s0 - j) % 64 then 64 - (b + 128 - s0 - j) % 64 else (b + 128 - s0 - j) % 64
theorem lkB_far {b s0 sl j : Nat} (hb : b < 64) (hs : s0 < 64) (hl : sl ≤ 3) (hj : j < 64) : lkB b s0 sl j = decide (mFar b s0 j ≤ sl) := by
  have key : (∃ c, c < 2 * sl + 1 ∧ (b + c + 128 - s0 - sl) % 64 = j) ↔ mFar b s0 j ≤ sl := by
    constructor
    · rintro ⟨c, hc, e⟩
      unfold mFar
      split <;> omega
    · intro h
      unfold mFar at h
      split at h
      · exact ⟨sl + (64 - (b + 128 - s0 - j) % 64), by omega, by omega⟩
      · exact ⟨sl - (b + 128 - s0 - j) % 64, by omega, by omega⟩
  by_cases c : mFar b s0 j ≤ sl
  · rw [decide_eq_true c]
    obtain ⟨x, hx, e⟩ := key.mpr c
    exact anyB_yes hx (decide_eq_true e)
  · rw [decide_eq_false c]
    exact anyB_no.mpr (fun x hx => decide_eq_false (fun e => c (key.mp ⟨x, hx, e⟩)))
