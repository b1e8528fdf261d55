/-! As many notches as can have each a peak of its own: sc g K (g k p: peak p fits notch k; 10 peaks). -/
def isM (g : Nat → Nat → Bool) (K : Nat) (f : Nat → Nat) : Prop := (∀ k, k < K → f k < 10 → g k (f k) = true) ∧ ∀ k j, k < K → j < K → f k < 10 → f k = f j → k = j
def szM (K : Nat) (f : Nat → Nat) : Nat := fb_ct (fun k => decide (f k < 10)) K
def HasM (g : Nat → Nat → Bool) (K n : Nat) : Prop := ∃ f, isM g K f ∧ szM K f = n
theorem HasM_le {g : Nat → Nat → Bool} {K n : Nat} (h : HasM g K n) : n ≤ K := by
  obtain ⟨f, -, rfl⟩ := h
  exact fb_ct_le _ _
theorem HasM_0 (g : Nat → Nat → Bool) (K : Nat) : HasM g K 0 := ⟨fun _ => 10, ⟨fun k _ h => absurd h (Nat.lt_irrefl 10), fun k j _ _ h => absurd h (Nat.lt_irrefl 10)⟩, by
  unfold szM
  rw [fb_ct_zero]
  intro k _
  simp⟩
noncomputable def scF (g : Nat → Nat → Bool) (K : Nat) : Nat → Nat
  | 0 => 0
  | n + 1 => @ite _ (HasM g K (n + 1)) (Classical.propDecidable _) (n + 1) (scF g K n)
noncomputable def sc (g : Nat → Nat → Bool) (K : Nat) : Nat := scF g K K
theorem scF_has (g : Nat → Nat → Bool) (K : Nat) : ∀ n, HasM g K (scF g K n)
  | 0 => HasM_0 g K
  | n + 1 => by
    unfold scF
    by_cases h : HasM g K (n + 1)
    · rw [if_pos h]; exact h
    · rw [if_neg h]; exact scF_has g K n
theorem scF_max (g : Nat → Nat → Bool) (K : Nat) : ∀ n m, m ≤ n → HasM g K m → m ≤ scF g K n
  | 0, m, h, _ => by omega
  | n + 1, m, h, hm => by
    unfold scF
    by_cases h1 : HasM g K (n + 1)
    · rw [if_pos h1]; exact h
    · rw [if_neg h1]
      refine scF_max g K n m ?_ hm
      rcases Nat.lt_or_ge n m with q | q
      · exact absurd (show HasM g K (n + 1) by rw [show n + 1 = m by omega]; exact hm) h1
      · exact q
theorem sc_has (g : Nat → Nat → Bool) (K : Nat) : HasM g K (sc g K) := scF_has g K K
theorem sc_max {g : Nat → Nat → Bool} {K n : Nat} (h : HasM g K n) : n ≤ sc g K := scF_max g K K n (HasM_le h) h
theorem sc_le (g : Nat → Nat → Bool) (K : Nat) : sc g K ≤ K := HasM_le (sc_has g K)
theorem sc_is {g : Nat → Nat → Bool} {K n : Nat} (h : HasM g K n) (hm : ∀ m, HasM g K m → m ≤ n) : sc g K = n := Nat.le_antisymm (hm _ (sc_has g K)) (sc_max h)
theorem sc_cong {g g' : Nat → Nat → Bool} {K : Nat} (h : ∀ k p, k < K → p < 10 → g k p = g' k p) : sc g K = sc g' K := by
  have key : ∀ {a b : Nat → Nat → Bool}, (∀ k p, k < K → p < 10 → a k p = b k p) → ∀ m, HasM a K m → HasM b K m := by
    intro a b hab m hm
    obtain ⟨f, hf, e⟩ := hm
    exact ⟨f, ⟨fun k hk hp => by rw [← hab k _ hk hp]; exact hf.1 k hk hp, hf.2⟩, e⟩
  exact sc_is (key (fun k p hk hp => (h k p hk hp).symm) _ (sc_has g' K)) (fun m hm => sc_max (key h m hm))
/-- an injection of the places that have A into those that have B -/
theorem ct_inj {A B : Nat → Bool} {K L : Nat} (h : Nat → Nat) (h1 : ∀ k, k < K → A k = true → h k < L ∧ B (h k) = true) (h2 : ∀ k j, k < K → j < K → A k = true → A j = true → h k = h j → k = j) : fb_ct A K ≤ fb_ct B L := by
  have key : ∀ i, i < fb_ct A K → ∃ k, k < K ∧ A k = true ∧ fb_ct A k = i := fun i hi => fb_ct_kth hi
  refine fb_holes (fb_ct B L) (fb_ct A K) (fun i => if hi : i < fb_ct A K then fb_ct B (h (Classical.choose (key i hi))) else 0) ?_ ?_
  · intro i hi
    simp only [dif_pos hi]
    obtain ⟨k1, k2, k3⟩ := Classical.choose_spec (key i hi)
    obtain ⟨b1, b2⟩ := h1 _ k1 k2
    have a1 := fb_ct_succ B (h (Classical.choose (key i hi)))
    rw [if_pos b2] at a1
    have a2 := fb_ct_mono B (show h (Classical.choose (key i hi)) + 1 ≤ L by omega)
    omega
  · intro i j hij hj e
    have hi : i < fb_ct A K := by omega
    simp only [dif_pos hi, dif_pos hj] at e
    obtain ⟨k1, k2, k3⟩ := Classical.choose_spec (key i hi)
    obtain ⟨l1, l2, l3⟩ := Classical.choose_spec (key j hj)
    have e2 := fb_ct_kth_one (h1 _ k1 k2).2 (h1 _ l1 l2).2 e
    have e3 := h2 _ _ k1 l1 k2 l2 e2
    rw [e3] at k3
    omega
/-- one notch more: one more at most -/
theorem sc_succ_le (g : Nat → Nat → Bool) (K : Nat) : sc g (K + 1) ≤ sc g K + 1 := by
  obtain ⟨f, hf, e⟩ := sc_has g (K + 1)
  have h : HasM g K (szM K f) := ⟨f, ⟨fun k hk hp => hf.1 k (by omega) hp, fun k j hk hj => hf.2 k j (by omega) (by omega)⟩, rfl⟩
  have h1 := sc_max h
  unfold szM at e h1
  rw [fb_ct_succ] at e
  split at e <;> omega
theorem sc_mono (g : Nat → Nat → Bool) (K : Nat) : sc g K ≤ sc g (K + 1) := by
  obtain ⟨f, hf, e⟩ := sc_has g K
  refine sc_max ⟨fun k => if k < K then f k else 10, ⟨?_, ?_⟩, ?_⟩
  · intro k hk hp
    by_cases c : k < K
    · simp only [if_pos c] at hp ⊢; exact hf.1 k c hp
    · simp only [if_neg c] at hp; omega
  · intro k j hk hj hp e
    by_cases c : k < K
    · by_cases d : j < K
      · simp only [if_pos c, if_pos d] at hp e; exact hf.2 k j c d hp e
      · simp only [if_pos c, if_neg d] at hp e; omega
    · simp only [if_neg c] at hp; omega
  · rw [← e]
    unfold szM
    rw [fb_ct_succ, if_neg (by simp), Nat.add_zero]
    exact fb_ct_cong (fun k hk => by simp [hk])
/-- a state of the search: own p is the notch that has the peak p (8 or more: none) -/
def okW (g : Nat → Nat → Bool) (own : Nat → Nat) : Prop := ∀ p, p < 10 → own p < 8 → g (own p) p = true
def cnW (own : Nat → Nat) (i : Nat) : Nat := fb_ct (fun p => decide (own p = i)) 10
/-- a matching of the notches below K -/
def maW (g : Nat → Nat → Bool) (own : Nat → Nat) (K : Nat) : Prop := okW g own ∧ (∀ i, cnW own i ≤ 1 ∨ 8 ≤ i) ∧ ∀ p, p < 10 → own p < 8 → own p < K
theorem cnW_one {own : Nat → Nat} {i p q : Nat} (h : cnW own i ≤ 1) (hp : p < 10) (hq : q < 10) (ep : own p = i) (eq : own q = i) : p = q := by
  rcases Nat.lt_or_ge p q with c | c
  · exfalso
    have a1 := fb_ct_succ (fun p => decide (own p = i)) q
    have a0 := fb_ct_succ (fun p => decide (own p = i)) p
    rw [if_pos (by simp [eq])] at a1
    rw [if_pos (by simp [ep])] at a0
    have a2 := fb_ct_mono (fun p => decide (own p = i)) (show q + 1 ≤ 10 by omega)
    have a3 := fb_ct_mono (fun p => decide (own p = i)) (show p + 1 ≤ q by omega)
    unfold cnW at h
    omega
  · rcases Nat.lt_or_ge q p with d | d
    · exfalso
      have a1 := fb_ct_succ (fun p => decide (own p = i)) p
      have a0 := fb_ct_succ (fun p => decide (own p = i)) q
      rw [if_pos (by simp [ep])] at a1
      rw [if_pos (by simp [eq])] at a0
      have a2 := fb_ct_mono (fun p => decide (own p = i)) (show p + 1 ≤ 10 by omega)
      have a3 := fb_ct_mono (fun p => decide (own p = i)) (show q + 1 ≤ p by omega)
      unfold cnW at h
      omega
    · omega
theorem cnW_pos {own : Nat → Nat} {i : Nat} : 0 < cnW own i ↔ ∃ p, p < 10 ∧ own p = i := by
  unfold cnW
  rw [fb_ct_pos]
  simp
/-- the notches that have a peak -/
def hsW (own : Nat → Nat) (i : Nat) : Bool := decide (0 < cnW own i)
noncomputable def peW (own : Nat → Nat) (i : Nat) : Nat := @dite _ (∃ p, p < 10 ∧ own p = i) (Classical.propDecidable _) (fun h => Classical.choose h) (fun _ => 10)
theorem peW_in {own : Nat → Nat} {i : Nat} (h : ∃ p, p < 10 ∧ own p = i) : peW own i < 10 ∧ own (peW own i) = i := by
  unfold peW
  rw [dif_pos h]
  exact Classical.choose_spec h
theorem peW_lt {own : Nat → Nat} {i : Nat} : peW own i < 10 ↔ hsW own i = true := by
  unfold hsW
  rw [decide_eq_true_eq, cnW_pos]
  constructor
  · intro h
    unfold peW at h
    by_cases c : ∃ p, p < 10 ∧ own p = i
    · exact c
    · rw [dif_neg c] at h; omega
  · intro h; exact (peW_in h).1
theorem maW_has {g : Nat → Nat → Bool} {own : Nat → Nat} {K : Nat} (hK : K ≤ 8) (h : maW g own K) : HasM g K (fb_ct (hsW own) K) := by
  refine ⟨peW own, ⟨?_, ?_⟩, ?_⟩
  · intro k hk hp
    have e := peW_lt.mp hp
    unfold hsW at e
    rw [decide_eq_true_eq, cnW_pos] at e
    obtain ⟨a, b⟩ := peW_in e
    have := h.1 (peW own k) a (by omega)
    rw [b] at this
    exact this
  · intro k j hk hj hp e
    have hj' : peW own j < 10 := by omega
    have e1 := peW_lt.mp hp
    have e2 := peW_lt.mp hj'
    unfold hsW at e1 e2
    rw [decide_eq_true_eq, cnW_pos] at e1 e2
    have a := (peW_in e1).2
    have b := (peW_in e2).2
    rw [e] at a
    omega
  · unfold szM
    refine fb_ct_cong (fun k hk => ?_)
    cases c : hsW own k with
    | true => simp [peW_lt.mpr c]
    | false =>
      have : ¬ peW own k < 10 := fun q => by rw [peW_lt.mp q] at c; cases c
      simp [this]
/-- the search from notch K found none: a closed set of notches, K in it -/
def clW (g : Nat → Nat → Bool) (own : Nat → Nat) (K : Nat) : Prop := ∃ S : Nat → Prop, S K ∧ (∀ r, S r → r ≤ K) ∧ (∀ r, S r → r ≠ K → ∃ p, p < 10 ∧ own p = r) ∧ ∀ r p, S r → p < 10 → g r p = true → own p < K ∧ S (own p)
theorem fail_sc {g : Nat → Nat → Bool} {own : Nat → Nat} {K : Nat} (hK : K < 8) (h : maW g own K) (hc : clW g own K) : sc g (K + 1) = sc g K := by
  refine Nat.le_antisymm ?_ (sc_mono g K)
  obtain ⟨S, s1, s2, s3, s4⟩ := hc
  obtain ⟨f, hf, e⟩ := sc_has g (K + 1)
  rw [← e]
  have dS : ∀ i, Decidable (S i) := fun i => Classical.propDecidable _
  -- the new matching of the notches below K
  have hm : isM g K (fun i => if S i then peW own i else if f i < 10 ∧ S (own (f i)) then 10 else f i) := by
    constructor
    · intro k hk hp
      by_cases c : S k
      · simp only [if_pos c] at hp ⊢
        obtain ⟨a, b⟩ := peW_in (s3 k c (by omega))
        have := h.1 (peW own k) a (by omega)
        rw [b] at this
        exact this
      · simp only [if_neg c] at hp ⊢
        by_cases d : f k < 10 ∧ S (own (f k))
        · simp only [if_pos d] at hp; omega
        · simp only [if_neg d] at hp ⊢
          exact hf.1 k (by omega) hp
    · intro k j hk hj hp e
      by_cases c : S k
      · simp only [if_pos c] at hp e
        obtain ⟨a, b⟩ := peW_in (s3 k c (by omega))
        by_cases c2 : S j
        · simp only [if_pos c2] at e
          have b2 := (peW_in (s3 j c2 (by omega))).2
          rw [← e, b] at b2
          exact b2
        · simp only [if_neg c2] at e
          by_cases d : f j < 10 ∧ S (own (f j))
          · simp only [if_pos d] at e; omega
          · simp only [if_neg d] at e
            exact absurd ⟨by omega, by rw [← e, b]; exact c⟩ d
      · simp only [if_neg c] at hp e
        by_cases d : f k < 10 ∧ S (own (f k))
        · simp only [if_pos d] at hp; omega
        · simp only [if_neg d] at hp e
          by_cases c2 : S j
          · simp only [if_pos c2] at e
            have b2 := (peW_in (s3 j c2 (by omega))).2
            exact absurd ⟨hp, by rw [e, b2]; exact c2⟩ d
          · simp only [if_neg c2] at e
            by_cases d2 : f j < 10 ∧ S (own (f j))
            · simp only [if_pos d2] at e; omega
            · simp only [if_neg d2] at e
              exact hf.2 k j (by omega) (by omega) hp e
  refine Nat.le_trans ?_ (sc_max ⟨_, hm, rfl⟩)
  unfold szM
  refine ct_inj (fun i => if S i ∨ S (own (f i)) then own (f i) else i) ?_ ?_
  · intro i hi hA
    have hfi : f i < 10 := of_decide_eq_true hA
    by_cases c : S i ∨ S (own (f i))
    · simp only [if_pos c]
      have c2 : own (f i) < K ∧ S (own (f i)) := by
        rcases c with c | c
        · exact s4 i (f i) c hfi (hf.1 i hi hfi)
        · refine ⟨?_, c⟩
          have := s2 _ c
          rcases Nat.lt_or_ge (own (f i)) K with q | q
          · exact q
          · exact absurd (h.2.2 (f i) hfi (by omega)) (by omega)
      refine ⟨c2.1, decide_eq_true ?_⟩
      simp only [if_pos c2.2]
      exact (peW_in ⟨f i, hfi, rfl⟩).1
    · simp only [if_neg c]
      have c1 : ¬ S i := fun q => c (Or.inl q)
      have c2 : ¬ S (own (f i)) := fun q => c (Or.inr q)
      have hne : i ≠ K := fun q => c1 (q ▸ s1)
      refine ⟨by omega, decide_eq_true ?_⟩
      simp only [if_neg c1]
      rw [if_neg (fun q => c2 q.2)]
      exact hfi
  · intro i j hi hj hA hB e
    have hfi : f i < 10 := of_decide_eq_true hA
    have hfj : f j < 10 := of_decide_eq_true hB
    have key : ∀ i, i < K + 1 → f i < 10 → (S i ∨ S (own (f i))) → S (own (f i)) := by
      intro i hi hfi c
      rcases c with c | c
      · exact (s4 i (f i) c hfi (hf.1 i hi hfi)).2
      · exact c
    by_cases c : S i ∨ S (own (f i))
    · by_cases d : S j ∨ S (own (f j))
      · simp only [if_pos c, if_pos d] at e
        have hs := s2 _ (key i hi hfi c)
        have e2 := cnW_one ((h.2.1 (own (f i))).resolve_right (by omega)) hfi hfj rfl e.symm
        exact hf.2 i j hi hj hfi e2
      · simp only [if_pos c, if_neg d] at e
        exact absurd (Or.inl (e ▸ key i hi hfi c)) d
    · by_cases d : S j ∨ S (own (f j))
      · simp only [if_neg c, if_pos d] at e
        exact absurd (Or.inl (e.symm ▸ key j hj hfj d)) c
      · simp only [if_neg c, if_neg d] at e
        exact e
/-- the search from notch K found one -/
theorem succ_sc {g : Nat → Nat → Bool} {own own' : Nat → Nat} {K : Nat} (hK : K < 8) (hm : maW g own K) (hn : fb_ct (hsW own) K = sc g K) (hok : okW g own') (hc : ∀ i, i < 8 → cnW own' i = cnW own i + (if i = K then 1 else 0)) :
    maW g own' (K + 1) ∧ fb_ct (hsW own') (K + 1) = sc g (K + 1) ∧ sc g (K + 1) = sc g K + 1 := by
  have h0 : cnW own K = 0 := by
    rcases Nat.eq_zero_or_pos (cnW own K) with q | q
    · exact q
    · obtain ⟨p, hp, e⟩ := cnW_pos.mp q
      have := hm.2.2 p hp (by omega)
      omega
  have hm' : maW g own' (K + 1) := by
    refine ⟨hok, ?_, ?_⟩
    · intro i
      rcases Nat.lt_or_ge i 8 with q | q
      · left
        rw [hc i q]
        by_cases e : i = K
        · rw [if_pos e, e, h0]; exact Nat.le_refl _
        · rw [if_neg e]
          exact (hm.2.1 i).resolve_right (by omega)
      · exact Or.inr q
    · intro p hp h8
      rcases Nat.lt_or_ge (own' p) (K + 1) with q | q
      · exact q
      · exfalso
        have a := hc (own' p) h8
        rw [if_neg (by omega), Nat.add_zero] at a
        have b : 0 < cnW own' (own' p) := cnW_pos.mpr ⟨p, hp, rfl⟩
        rw [a] at b
        obtain ⟨p2, hp2, e2⟩ := cnW_pos.mp b
        have := hm.2.2 p2 hp2 (by omega)
        omega
  have hct : fb_ct (hsW own') (K + 1) = sc g K + 1 := by
    rw [fb_ct_succ, if_pos (by unfold hsW; rw [hc K hK, if_pos rfl]; simp), ← hn]
    congr 1
    refine fb_ct_cong (fun k hk => ?_)
    unfold hsW
    rw [hc k (by omega), if_neg (by omega), Nat.add_zero]
  have h1 := sc_max (maW_has (by omega) hm')
  have h2 := sc_succ_le g K
  exact ⟨hm', by omega, by omega⟩
theorem fail_ma {g : Nat → Nat → Bool} {own : Nat → Nat} {K : Nat} (hK : K < 8) (hm : maW g own K) (hn : fb_ct (hsW own) K = sc g K) (hc : clW g own K) : maW g own (K + 1) ∧ fb_ct (hsW own) (K + 1) = sc g (K + 1) := by
  refine ⟨⟨hm.1, hm.2.1, fun p hp h8 => Nat.lt_succ_of_lt (hm.2.2 p hp h8)⟩, ?_⟩
  rw [fail_sc hK hm hc, fb_ct_succ, if_neg, hn]
  · rfl
  · intro q
    unfold hsW at q
    rw [decide_eq_true_eq, cnW_pos] at q
    obtain ⟨p, hp, e⟩ := q
    have := hm.2.2 p hp (by omega)
    omega
/-- a notch that nothing fits -/
theorem clW_none {g : Nat → Nat → Bool} {own : Nat → Nat} {K : Nat} (h : ∀ p, p < 10 → g K p = false) : clW g own K :=
  ⟨fun r => r = K, rfl, fun r e => by omega, fun r e n => absurd e n, fun r p e hp hg => by rw [e, h p hp] at hg; cases hg⟩
/-- a notch left out -/
def gwo (g : Nat → Nat → Bool) (w : Nat) : Nat → Nat → Bool := fun k p => !decide (k = w) && g k p
theorem sc_wo_le (g : Nat → Nat → Bool) (w K : Nat) : sc (gwo g w) K ≤ sc g K := by
  obtain ⟨f, hf, e⟩ := sc_has (gwo g w) K
  exact sc_max ⟨f, ⟨fun k hk hp => by have := hf.1 k hk hp; unfold gwo at this; rw [Bool.and_eq_true] at this; exact this.2, hf.2⟩, e⟩
theorem sc_wo_lt {g : Nat → Nat → Bool} {w K : Nat} (hw : w < K) : sc (gwo g w) K ≤ K - 1 := by
  obtain ⟨f, hf, e⟩ := sc_has (gwo g w) K
  rw [← e]
  unfold szM
  have a := fb_ct_not (fun k => decide (f k < 10)) K
  have b : 0 < fb_ct (fun k => !decide (f k < 10)) K := fb_ct_pos.mpr ⟨w, hw, by
    have : ¬ f w < 10 := fun q => by have := hf.1 w hw q; unfold gwo at this; simp at this
    simp [this]⟩
  omega
theorem sc_le_wo {g : Nat → Nat → Bool} {w K : Nat} (hw : w < K) : sc g K ≤ sc (gwo g w) K + 1 := by
  obtain ⟨f, hf, e⟩ := sc_has g K
  have h : HasM (gwo g w) K (szM K (fun k => if k = w then 10 else f k)) := by
    refine ⟨_, ⟨?_, ?_⟩, rfl⟩
    · intro k hk hp
      by_cases c : k = w
      · simp only [if_pos c] at hp; omega
      · simp only [if_neg c] at hp ⊢
        unfold gwo
        simp [c, hf.1 k hk hp]
    · intro k j hk hj hp e
      by_cases c : k = w
      · simp only [if_pos c] at hp; omega
      · simp only [if_neg c] at hp e
        by_cases d : j = w
        · simp only [if_pos d] at e; omega
        · simp only [if_neg d] at e; exact hf.2 k j hk hj hp e
  have h1 := sc_max h
  rw [← e]
  unfold szM at h1 ⊢
  have h2 := fb_ct_upd (fun k => decide (f k < 10)) false hw
  have h3 : fb_ct (fun k => decide ((if k = w then 10 else f k) < 10)) K = fb_ct (fun k => if k = w then false else decide (f k < 10)) K := fb_ct_cong (fun k _ => by by_cases c : k = w <;> simp [c])
  rw [h3] at h1
  simp only [Bool.false_eq_true, if_false, Nat.add_zero] at h2
  split at h2 <;> omega
theorem sc_none {g : Nat → Nat → Bool} {K : Nat} (h : ∀ k p, k < K → p < 10 → g k p = false) : sc g K = 0 := by
  refine sc_is (HasM_0 g K) ?_
  intro m hm
  obtain ⟨f, hf, e⟩ := hm
  rw [← e]
  unfold szM
  rw [fb_ct_zero.mpr]
  · exact Nat.le_refl 0
  · intro k hk
    have : ¬ f k < 10 := fun q => by have := hf.1 k hk q; rw [h k _ hk q] at this; cases this
    simp [this]
