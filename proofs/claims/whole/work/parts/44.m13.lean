/-! the panorama by ranks; a sketch -/
theorem SMr_cg {N N' : NL} {s : Nat → Int32} (h : SMr N s) (h1 : N'.1 = N.1) (h2 : ∀ k, k < N.1 → N'.2.1 k = N.2.1 k ∧ N'.2.2 k = N.2.2 k) : SMr N' s := by
  refine ⟨by rw [h1]; exact h.1, by rw [h1]; exact h.2.1, fun k hk => ?_⟩
  rw [h1] at hk
  rw [(h2 k hk).1, (h2 k hk).2]
  exact h.2.2 k hk
theorem fb_ct_lt {A B : Nat → Bool} {n p : Nat} (hp : p < n) (hA : A p = false) (hB : B p = true) (h : ∀ k, k < n → A k = true → B k = true) : fb_ct A n < fb_ct B n := by
  have e1 : fb_ct (fun k => A k || decide (k = p)) n = fb_ct A n + fb_ct (fun k => decide (k = p)) n := fb_ct_or (fun k hk => fun q => by
    have := of_decide_eq_true q.2
    rw [this, hA] at q
    exact absurd q.1 (by decide))
  have e2 : 0 < fb_ct (fun k => decide (k = p)) n := fb_ct_pos.mpr ⟨p, hp, decide_eq_true rfl⟩
  have e3 : fb_ct (fun k => A k || decide (k = p)) n ≤ fb_ct B n := fb_ct_sub (fun k hk q => by
    rcases Bool.or_eq_true_iff.mp q with q | q
    · exact h k hk q
    · rw [of_decide_eq_true q]; exact hB)
  omega
theorem rk_lt {f : Nat → Bool} {g : Nat → Nat → Bool} {n p q : Nat} (hs : SO g n) (hp : p < n) (hq : q < n) (hfp : f p = true) (hne : p ≠ q) (h : g p q = true) : rkP f g n p < rkP f g n q := by
  have h2 : g q p = false := by
    have := hs.1 p q hp hq hne
    rw [h] at this
    cases e : g q p
    · rfl
    · rw [e] at this; cases this
  refine fb_ct_lt hp (by simp) (by simp [hne, hfp, h]) (fun k hk q0 => ?_)
  simp only [Bool.and_eq_true, Bool.not_eq_true', decide_eq_false_iff_not] at q0 ⊢
  refine ⟨fun e => ?_, q0.2.1, hs.2 k p q hk hp hq q0.2.2 h⟩
  rw [e, h2] at q0
  exact absurd q0.2.2 (by decide)
theorem rk_inj {f : Nat → Bool} {g : Nat → Nat → Bool} {n p q : Nat} (hs : SO g n) (hp : p < n) (hq : q < n) (hfp : f p = true) (hfq : f q = true) (h : rkP f g n p = rkP f g n q) : p = q := by
  by_cases e : p = q
  · exact e
  · have h1 := hs.1 p q hp hq e
    cases c : g p q
    · rw [c] at h1
      have hg : g q p = true := by
        cases d : g q p with
        | false => rw [d] at h1; cases h1
        | true => rfl
      have := rk_lt hs hq hp hfq (Ne.symm e) hg
      omega
    · have := rk_lt hs hp hq hfp e c
      omega
theorem Pan_ex {f : Nat → Bool} {g : Nat → Nat → Bool} {N : Nat} (hs : SO g N) : ∀ n, n ≤ N → ∃ many o, Pan f g n many o
  | 0, _ => ⟨0, fun _ => 0, fun a h => absurd h (Nat.not_lt_zero a), fun p h => absurd h (Nat.not_lt_zero p), fun a b _ h => absurd h (Nat.not_lt_zero b)⟩
  | n + 1, h => by
    obtain ⟨many, o, hP⟩ := Pan_ex hs n (by omega)
    cases e : f n with
    | false => exact ⟨many, o, hP.skip e⟩
    | true =>
      have key : ∀ d, d ≤ many → ∃ k, k ≤ many ∧ (∀ j, k ≤ j → j < many → g n (o j) = true) ∧ ((k = 0 ∨ g n (o (k - 1)) = false) ∨ k = many - d) := by
        intro d
        induction d with
        | zero => intro _; exact ⟨many, Nat.le_refl _, fun j h1 h2 => by omega, Or.inr rfl⟩
        | succ d ih =>
          intro hd
          obtain ⟨k, k1, k2, k3⟩ := ih (by omega)
          rcases k3 with k3 | k3
          · exact ⟨k, k1, k2, Or.inl k3⟩
          · cases c : g n (o (k - 1)) with
            | false => exact ⟨k, k1, k2, Or.inl (Or.inr c)⟩
            | true =>
              refine ⟨k - 1, by omega, fun j h1 h2 => ?_, Or.inr (by omega)⟩
              by_cases c2 : j = k - 1
              · rw [c2]; exact c
              · exact k2 j (by omega) h2
      obtain ⟨k, k1, k2, k3⟩ := key many (Nat.le_refl _)
      exact ⟨many + 1, insN o k n, hP.ins hs (by omega) e k1 k2 (k3.elim id (fun q => Or.inl (by omega)))⟩
theorem rk_ex {f : Nat → Bool} {g : Nat → Nat → Bool} {n k : Nat} (hs : SO g n) (hI : ∀ p, p < n → g p p = false) (hk : k < fb_ct f n) : ∃ p, p < n ∧ f p = true ∧ rkP f g n p = k := by
  obtain ⟨many, o, hP⟩ := Pan_ex (f := f) hs n (Nat.le_refl _)
  rw [← Pan_many hI hP] at hk
  exact ⟨o k, (hP.1 k hk).1, (hP.1 k hk).2, Pan_rank hs hI hP hk⟩
def fndB (f : Nat → Bool) : Nat → Nat
  | 0 => 0
  | n + 1 => if f n then n else fndB f n
theorem fndB_is {f : Nat → Bool} : ∀ {n p : Nat}, p < n → f p = true → (∀ q, q < n → f q = true → q = p) → fndB f n = p
  | 0, p, h, _, _ => absurd h (Nat.not_lt_zero p)
  | n + 1, p, h, hf, hu => by
    show (if f n then n else fndB f n) = p
    cases e : f n with
    | true => exact hu n (by omega) e
    | false =>
      have : p ≠ n := fun q => by rw [q, e] at hf; cases hf
      exact fndB_is (by omega) hf (fun q hq => hu q (by omega))
def cGr (σ : PS) (pt p : Nat) : Nat := rkP (cVi σ pt) (gahead (cX σ) (cY σ) pt) (zn σ) p
def pno (σ : PS) (pt a : Nat) : Nat := fndB (fun p => cVi σ pt p && decide (cGr σ pt p = a)) (zn σ)
theorem pno_is {σ : PS} {pt p a : Nat} (h : okPS σ) (hpt : pt < 64) (hc : cPk σ pt = 0) (hp : p < zn σ) (hv : cVi σ pt p = true) (hr : cGr σ pt p = a) : pno σ pt a = p := by
  refine fndB_is hp (by rw [hv, decide_eq_true hr]; rfl) (fun q hq q0 => ?_)
  rw [Bool.and_eq_true] at q0
  exact rk_inj (cSO h hpt hc) hq hp q0.1 hv ((of_decide_eq_true q0.2).trans hr.symm)
theorem pno_at {σ : PS} {pt a : Nat} (h : okPS σ) (hpt : pt < 64) (hc : cPk σ pt = 0) (ha : a < fb_ct (cVi σ pt) (zn σ)) : pno σ pt a < zn σ ∧ cVi σ pt (pno σ pt a) = true ∧ cGr σ pt (pno σ pt a) = a := by
  obtain ⟨p, h1, h2, h3⟩ := rk_ex (cSO h hpt hc) (fun p hp => cIrr h hpt hc p hp) ha
  rw [pno_is h hpt hc h1 h2 h3]
  exact ⟨h1, h2, h3⟩
theorem pnQ_at {σ : PS} {pt k : Nat} {r : Int32} (h : okPS σ) (hpt : pt < 64) (hc : cPk σ pt = 0) (hk : k < fb_ct (cVi σ pt) (zn σ)) (hq : pnQ (cVi σ pt) (gahead (cX σ) (cY σ) pt) (zn σ) (zn σ) (nI k) r) : r = nI (pno σ pt k) := by
  have h10 := h.1
  obtain ⟨a1, a2, a3⟩ := pno_at h hpt hc hk
  have hb := fb_ct_le (cVi σ pt) (zn σ)
  rcases hq with ⟨_, h2⟩ | ⟨j, j1, j2, j3, j4⟩
  · exact absurd (congrArg nI a3) (h2 _ a1 a2)
  · have hl : cGr σ pt j ≤ zn σ := fb_ct_le _ _
    have e := (nI_eq (a := cGr σ pt j) (b := k) (by omega) (by omega)).mp j3
    rw [j4, pno_is h hpt hc j1 j2 e]
def skN (σ : PS) (pt l : Nat) : NL := (min (fb_ct (cVi σ pt) (zn σ)) 8, skB (cBe σ pt) l (pno σ pt), fun a => cHg σ pt (pno σ pt a))
def skQ (σ : PS) (x y z : Int32) : Bool := pPlace (cPk σ) x y && pLook z
theorem sk_rem {b l : Nat} (hb : b < 64) (hl : l < 64) : nI b - nI l + 64 = nI (b + 64 - l) := by rw [sub_sh, show (64 : Int32) = nI 64 from rfl, nI_add, pk_sub (by omega)]
abbrev rX8_sketches : Room := { frames := 4, cells := 0, slots := 0, locals := 99 }
set_option maxHeartbeats 4000000 in
set_option maxRecDepth 100000 in
theorem c_X8_sketches (l : Launch) (G : kG) (h : Nat) (v : Nat → Int32) (q : Nat → Nat) (px : Nat → Int32) (py : Nat → Int32) (hi : Nat → Int32) (la : Nat → Int32) (lb : Nat → Int32) (ip : Nat → Int32) (se : Nat → Int32) (be : Nat → Int32) (he : Nat → Int32) (σ : PS) (sa : Nat → Int32) (pa : Nat → Int32) (N : NL) (U : Nat) (PH : Nat → NL) (x : Int32) (y : Int32) (z : Int32) (hLM : LM σ v px py hi la lb ip se be he) (hv15 : v 15 = nI U) (hSM : SMr N sa) (hPM : PMr U PH pa) : Ci l G yX8_sketches wsX8_sketches rX8_sketches [.ref h, .int x, .int y, .int z] [oB h 8 (oF8 v q), aI G (q 13) 17 sa, aI G (q 14) 170 pa, aZ G (q 9) 64 ip, aI G (q 2) 10 px, aI G (q 3) 10 py, aI G (q 10) 64 se, aI G (q 11) 640 be, aI G (q 12) 640 he] (fun r (u : (Nat → Int32) × (Nat → Int32) × (Nat → Int32)) => (skQ σ x y z = true → r = nI (skN σ (ptN x y) z.toNatClampNeg).1 ∧ SMr (skN σ (ptN x y) z.toNatClampNeg) u.2.1) ∧ (skQ σ x y z = false → r = -1 ∧ u.2.1 = sa) ∧ PQm (skQ σ x y z) N U PH v pa u.1 u.2.2) (fun u => [oB h 8 (oF8 u.1 q), aI G (q 13) 17 u.2.1, aI G (q 14) 170 u.2.2, aZ G (q 9) 64 ip, aI G (q 2) 10 px, aI G (q 3) 10 py, aI G (q 10) 64 se, aI G (q 11) 640 be, aI G (q 12) 640 he]) := by
  refine Ci.of (cc := cX8_sketches) (maxL := 7) (by decide) rfl (Nat.le_of_ble_eq_true rfl) ?_
  intro pM eM sM mM bM tM cM Q A hx hb hts hown hml hA hK hP hD hS hret ls hl
  have hown : sM.vm.findClass RX8 = some mM.cls := hown
  have hl : lv_has ls 7 [(0, .ref h), (1, .int x), (2, .int y), (3, .int z)] := hl
  have hin8 : ∀ w ∈ u_ws RX8 TX8 44, w ∈ wsX8_sketches := by decide +kernel
  have f98 := hts (.fieldLink RX8 98 "HorizonPeaksModel" "thrown" "I") (by decide +kernel)
  have f38 := hts (.fieldLink RX8 38 "HorizonPeaksModel" "s" "[I") (by decide +kernel)
  have f32 := hts (.fieldLink RX8 32 "HorizonPeaksModel" "bearings" "[I") (by decide +kernel)
  have f35 := hts (.fieldLink RX8 35 "HorizonPeaksModel" "heights" "[I") (by decide +kernel)
  have hLM0 := hLM
  obtain ⟨hok, ⟨hv1, hv5, hv8⟩, har, hLP⟩ := hLM
  have hn10 := hok.1
  have hm8 := hok.2.1
  have hl3 := hok.2.2.1
  have hip : ∀ i, i < 64 → ip i = b2i (decide (cPk σ i = 0)) := fun i hh => (hLP i hh).1
  have hn8 := hSM.2.1
  have hU := hPM.1
  refine lv_aload_n hx hb dX8_sketches_0 rfl (lv_at hl 0 rfl) ?_
  refine lv_iconst (v := 0) hx hb dX8_sketches_1 (by decide) ?_
  refine va_put (D := G.1) (ci := 8) (v := .int 0) (ty := .int) (C := RX8) (T := TX8) (N := 44) hx hb hts hin8 tyX8 tyX8_ok nmX8 hown hK.1 hP hD hS 0 rfl rfl 0 (by decide) f98 (fun _ h9 => h9) rfl (by decide +kernel) rfl rfl (Nat.le_of_ble_eq_true rfl) dX8_sketches_2 (fun H locs hP hD hS => ?_)
  have hP : va_P G.1 vwCl [oB h 8 (oF8 (upd v 0 0) q), aI G (q 13) 17 sa, aI G (q 14) 170 pa, aZ G (q 9) 64 ip, aI G (q 2) 10 px, aI G (q 3) 10 py, aI G (q 10) 64 se, aI G (q 11) 640 be, aI G (q 12) 640 he] H := hP
  have hD : va_D A [oB h 8 (oF8 (upd v 0 0) q), aI G (q 13) 17 sa, aI G (q 14) 170 pa, aZ G (q 9) 64 ip, aI G (q 2) 10 px, aI G (q 3) 10 py, aI G (q 10) 64 se, aI G (q 11) 640 be, aI G (q 12) 640 he] := hD
  refine lv_aload_n hx hb dX8_sketches_5 rfl (lv_at hl 0 rfl) ?_
  refine lv_iload_n hx hb dX8_sketches_6 rfl (lv_at hl 1 rfl) ?_
  refine lv_iload_n hx hb dX8_sketches_7 rfl (lv_at hl 2 rfl) ?_
  refine rd_i (va_runV (As := [.int x, .int y]) (rest := []) ⟨hx, hb, hml, hown, hts⟩ (c_X8_isThere l G h (upd v 0 0) q ip (cPk σ) x y (hip)) (cwV 2 hts gX8_sketches_X8_isThere rfl rfl rfl (by decide +kernel) ⟨Nat.le_of_ble_eq_true rfl, Nat.le_of_ble_eq_true rfl⟩) (rPre_V hK hP [0, 3] rfl 0 8 rfl rfl) rfl rfl hl.1 rfl (lv_room (Nat.le_of_ble_eq_true rfl)) dX8_sketches_8 ⟨Nat.zero_le _, Nat.zero_le _⟩) (fun r_8 q_8 => ?_)
  obtain rfl : r_8 = b2i (pPlace (cPk σ) x y) := q_8
  refine lv_if_eq (tgt := 21) hx hb dX8_sketches_11 (by decide) (fun c_11 => ?_) (fun c_11 => ?_)
  · have c_11 : (pPlace (cPk σ) x y) = false := b2i_0.mp c_11
    refine lv_iconst (v := -1) hx hb dX8_sketches_21 (by decide) ?_
    have hpost : (skQ σ x y z = true → (-1 : Int32) = nI (skN σ (ptN x y) z.toNatClampNeg).1 ∧ SMr (skN σ (ptN x y) z.toNatClampNeg) (upd v 0 0, sa, pa).2.1) ∧ (skQ σ x y z = false → (-1 : Int32) = -1 ∧ (upd v 0 0, sa, pa).2.1 = sa) ∧ PQm (skQ σ x y z) N U PH v pa (upd v 0 0, sa, pa).1 (upd v 0 0, sa, pa).2.2 := by
      have hD : skQ σ x y z = false := by simp [skQ, c_11]
      exact ⟨fun h9 => absurd h9 (ne_t hD), fun _ => ⟨rfl, rfl⟩, fun h9 => absurd h9 (ne_t hD), fun _ => ⟨rfl, rfl⟩, fun k h0 h15 => pk_un h0⟩
    exact hret _ (upd v 0 0, sa, pa) _ _ _ _ (hpost) (rfl) hP hD hS dX8_sketches_22
  · have c_11 : (pPlace (cPk σ) x y) = true := b2i_n0.mp c_11
    obtain ⟨X, Y, hX, hY, rfl, rfl, hc⟩ := pPlace_of c_11
    refine lv_iload_n hx hb dX8_sketches_14 rfl (lv_at hl 3 rfl) ?_
    refine rd_i (va_runS (As := [.int z]) (rest := []) ⟨hx, hb, hml, hown, hts⟩ (c_X8_isLook l G z) (va_cwS 1 hts gX8_sketches_X8_isLook rfl rfl rfl (by decide +kernel) ⟨Nat.le_of_ble_eq_true rfl, Nat.le_of_ble_eq_true rfl⟩) (rPre_S hK hP [] rfl) rfl rfl hl.1 rfl (lv_room (Nat.le_of_ble_eq_true rfl)) dX8_sketches_15 ⟨Nat.zero_le _, Nat.zero_le _⟩) (fun r_15 q_15 => ?_)
    obtain rfl : r_15 = b2i (pLook z) := q_15
    refine lv_if_ne (tgt := 23) hx hb dX8_sketches_18 (by decide) (fun c_18 => ?_) (fun c_18 => ?_)
    · have c_18 : (pLook z) = true := b2i_n0.mp c_18
      obtain ⟨j0, hj0, rfl⟩ := pLook_of c_18
      refine lv_aload_n hx hb dX8_sketches_23 rfl (lv_at hl 0 rfl) ?_
      refine ca_v (wr := [aZ G (q 9) 64 ip, aI G (q 2) 10 px, aI G (q 3) 10 py, aI G (q 10) 64 se, aI G (q 11) 640 be, aI G (q 12) 640 he]) (va_runV (As := []) (rest := []) ⟨hx, hb, hml, hown, hts⟩ ((c_X8_remembers l G h (upd v 0 0) q sa pa N U PH (u3 (by decide) hv15) (hSM) (hPM)) _) (cwV 0 hts gX8_sketches_X8_remembers rfl rfl rfl (by decide +kernel) ⟨Nat.le_of_ble_eq_true rfl, Nat.le_of_ble_eq_true rfl⟩) (cPre_V hK hP hD [0, 1, 2] (by decide) rfl 0 8 rfl rfl) rfl rfl hl.1 rfl (lv_room (Nat.le_of_ble_eq_true rfl)) dX8_sketches_24 ⟨Nat.zero_le _, Nat.zero_le _⟩) hP hD hS hA [0, 1, 2] [3, 4, 5, 6, 7, 8] rfl rfl (by decide) (by decide) [6, 7, 8, 0, 1, 2, 3, 4, 5] (fun u_24 => [oB h 8 (oF8 u_24.1 q), aI G (q 13) 17 sa, aI G (q 14) 170 u_24.2, aZ G (q 9) 64 ip, aI G (q 2) 10 px, aI G (q 3) 10 py, aI G (q 10) 64 se, aI G (q 11) 640 be, aI G (q 12) 640 he]) (by decide) (fun _ => rfl) (fun u_24 H locs q_24 hP hD hS => ?_)
      have q_24 : u_24.1 15 = nI (min (U + 1) 10) ∧ PMr (min (U + 1) 10) (pshN U PH N) u_24.2 ∧ (∀ k, ¬ k = 15 → u_24.1 k = (upd v 0 0) k) := q_24
      have hP : va_P G.1 vwCl [oB h 8 (oF8 u_24.1 q), aI G (q 13) 17 sa, aI G (q 14) 170 u_24.2, aZ G (q 9) 64 ip, aI G (q 2) 10 px, aI G (q 3) 10 py, aI G (q 10) 64 se, aI G (q 11) 640 be, aI G (q 12) 640 he] H := hP
      have hD : va_D A [oB h 8 (oF8 u_24.1 q), aI G (q 13) 17 sa, aI G (q 14) 170 u_24.2, aZ G (q 9) 64 ip, aI G (q 2) 10 px, aI G (q 3) 10 py, aI G (q 10) 64 se, aI G (q 11) 640 be, aI G (q 12) 640 he] := hD
      refine lv_aload_n hx hb dX8_sketches_27 rfl (lv_at hl 0 rfl) ?_
      refine va_get (D := G.1) (ci := 8) (v := .ref (q 13)) (C := RX8) (T := TX8) (N := 44) hx hb hts hin8 hown hK.1 hP 0 rfl rfl 13 (by decide) f38 (fun _ h9 => h9) rfl dX8_sketches_28 ?_
      refine lv_iconst (v := 0) hx hb dX8_sketches_31 (by decide) ?_
      refine lv_iconst (v := 0) hx hb dX8_sketches_32 (by decide) ?_
      refine snd_i (y := nI 0) rfl ?_
      refine as_i hx hb hK.1 hP hD hS 1 0 rfl rfl (j := 0) (by omega) (Nat.le_of_ble_eq_true rfl) dX8_sketches_33 (fun H locs hP hD hS => ?_)
      have hP : va_P G.1 vwCl [oB h 8 (oF8 u_24.1 q), aI G (q 13) 17 (upd sa 0 0), aI G (q 14) 170 u_24.2, aZ G (q 9) 64 ip, aI G (q 2) 10 px, aI G (q 3) 10 py, aI G (q 10) 64 se, aI G (q 11) 640 be, aI G (q 12) 640 he] H := hP
      have hD : va_D A [oB h 8 (oF8 u_24.1 q), aI G (q 13) 17 (upd sa 0 0), aI G (q 14) 170 u_24.2, aZ G (q 9) 64 ip, aI G (q 2) 10 px, aI G (q 3) 10 py, aI G (q 10) 64 se, aI G (q 11) 640 be, aI G (q 12) 640 he] := hD
      refine lv_bipush (v := 10) hx hb dX8_sketches_34 (by decide) ?_
      refine lv_bipush (v := 8) hx hb dX8_sketches_36 (by decide) ?_
      refine lv_iload_n hx hb dX8_sketches_38 rfl (lv_at hl 1 rfl) ?_
      refine lv_imul hx hb dX8_sketches_39 ?_
      refine lv_iload_n hx hb dX8_sketches_40 rfl (lv_at hl 2 rfl) ?_
      refine lv_iadd hx hb dX8_sketches_41 ?_
      refine top_i (y := nI (X * 8 + Y)) (mul8' X Y) ?_
      refine lv_imul hx hb dX8_sketches_42 ?_
      refine top_i (y := nI (10 * (X * 8 + Y))) (pk_mul 10 _) ?_
      refine lv_istore (lv' := [(4, .int (nI (10 * (X * 8 + Y)))), (0, .ref h), (1, .int (nI X)), (2, .int (nI Y)), (3, .int (nI j0))]) hx hb dX8_sketches_43 hl (by decide) rfl (fun ls hl => ?_)
      refine lv_iconst (v := 0) hx hb dX8_sketches_45 (by decide) ?_
      refine lv_istore (lv' := [(5, .int 0), (4, .int (nI (10 * (X * 8 + Y)))), (0, .ref h), (1, .int (nI X)), (2, .int (nI Y)), (3, .int (nI j0))]) hx hb dX8_sketches_46 hl (by decide) rfl (fun ls hl => ?_)
      have loop_48 : ∀ (nF : Nat) (k : Nat) (t : Nat → Int32), (8 - k) < nF → (k ≤ 8) → (k ≤ fb_ct (cVi σ (X * 8 + Y)) (zn σ)) → (SMr (k, skB (cBe σ (X * 8 + Y)) j0 (pno σ (X * 8 + Y)), fun a => cHg σ (X * 8 + Y) (pno σ (X * 8 + Y) a)) t) → ∀ (H : Heap) (locs : List Loc), va_P G.1 vwCl [oB h 8 (oF8 u_24.1 q), aI G (q 13) 17 t, aI G (q 14) 170 u_24.2, aZ G (q 9) 64 ip, aI G (q 2) 10 px, aI G (q 3) 10 py, aI G (q 10) 64 se, aI G (q 11) 640 be, aI G (q 12) 640 he] H → va_D A [oB h 8 (oF8 u_24.1 q), aI G (q 13) 17 t, aI G (q 14) 170 u_24.2, aZ G (q 9) 64 ip, aI G (q 2) 10 px, aI G (q 3) 10 py, aI G (q 10) 64 se, aI G (q 11) 640 be, aI G (q 12) 640 he] → va_S A sM.heap H locs → ∀ (ls : Array Slot), lv_has ls 7 [(5, .int (nI k)), (4, .int (nI (10 * (X * 8 + Y)))), (0, .ref h), (1, .int (nI X)), (2, .int (nI Y)), (3, .int (nI j0))] → W pM l eM rX8_sketches sM mM [.ref h, .int (nI X), .int (nI Y), .int (nI j0)].toArray bM tM cM H locs 0 0 Q (F0 mM 48 ls []) := by
        intro nF
        induction nF with
        | zero => intro k t hmF; exact absurd hmF (Nat.not_lt_zero _)
        | succ nF ih48 =>
          intro k t hmF hk8 hkm hSk H locs hP hD hS ls hl
          have hLM1 : LM σ u_24.1 px py hi la lb ip se be he := LM_v hLM0 ((q_24.2.2 1 (by decide)).trans (pk_un (by decide))) ((q_24.2.2 5 (by decide)).trans (pk_un (by decide))) ((q_24.2.2 8 (by decide)).trans (pk_un (by decide)))
          refine lv_iload hx hb dX8_sketches_48 (lv_at hl 0 rfl) ?_
          refine lv_bipush (v := 8) hx hb dX8_sketches_50 (by decide) ?_
          refine lv_icmp_ge (tgt := 115) hx hb dX8_sketches_52 (by decide) (fun c_52 => ?_) (fun c_52 => ?_)
          · have c_52 : 8 ≤ k := (c_le (a := 8) (b := k) rfl rfl (by omega) (by omega)).mp c_52
            refine lv_aload_n hx hb dX8_sketches_115 rfl (lv_at hl 2 rfl) ?_
            refine va_get (D := G.1) (ci := 8) (v := .ref (q 13)) (C := RX8) (T := TX8) (N := 44) hx hb hts hin8 hown hK.1 hP 0 rfl rfl 13 (by decide) f38 (fun _ h9 => h9) rfl dX8_sketches_116 ?_
            refine lv_iconst (v := 0) hx hb dX8_sketches_119 (by decide) ?_
            refine top_i (y := nI 0) rfl ?_
            refine al_i hx hb hK.1 hP 1 0 rfl rfl (j := 0) (by omega) (Nat.le_of_ble_eq_true rfl) dX8_sketches_120 ?_
            refine top_i (y := nI k) (hSk.1) ?_
            have hpost : (skQ σ (nI X) (nI Y) (nI j0) = true → (nI k : Int32) = nI (skN σ (ptN (nI X) (nI Y)) (nI j0).toNatClampNeg).1 ∧ SMr (skN σ (ptN (nI X) (nI Y)) (nI j0).toNatClampNeg) (u_24.1, t, u_24.2).2.1) ∧ (skQ σ (nI X) (nI Y) (nI j0) = false → (nI k : Int32) = -1 ∧ (u_24.1, t, u_24.2).2.1 = sa) ∧ PQm (skQ σ (nI X) (nI Y) (nI j0)) N U PH v pa (u_24.1, t, u_24.2).1 (u_24.1, t, u_24.2).2.2 := by
              have hD : skQ σ (nI X) (nI Y) (nI j0) = true := by rw [skQ, c_11, c_18]; rfl
              have e9 : k = min (fb_ct (cVi σ (X * 8 + Y)) (zn σ)) 8 := by omega
              refine ⟨fun _ => ?_, fun h9 => absurd hD (ne_t h9), ⟨fun _ => ⟨q_24.1, q_24.2.1⟩, fun h9 => absurd hD (ne_t h9), fun k9 h0 h15 => (q_24.2.2 k9 h15).trans (pk_un h0)⟩⟩
              rw [ptN_nI hX hY, nI_clamp (by omega)]
              exact ⟨by rw [e9]; rfl, SMr_cg hSk e9.symm (fun _ _ => ⟨rfl, rfl⟩)⟩
            exact hret _ (u_24.1, t, u_24.2) _ _ _ _ (hpost) (rfl) hP hD hS dX8_sketches_121
          · have c_52 : ¬ 8 ≤ k := fun hne => c_52 ((c_le (a := 8) (b := k) rfl rfl (by omega) (by omega)).mpr hne)
            refine lv_iload hx hb dX8_sketches_55 (lv_at hl 0 rfl) ?_
            refine lv_aload_n hx hb dX8_sketches_57 rfl (lv_at hl 2 rfl) ?_
            refine lv_iload_n hx hb dX8_sketches_58 rfl (lv_at hl 3 rfl) ?_
            refine lv_iload_n hx hb dX8_sketches_59 rfl (lv_at hl 4 rfl) ?_
            refine lv_iconst (v := -1) hx hb dX8_sketches_60 (by decide) ?_
            refine rd_i (va_runV (As := [.int (nI X), .int (nI Y), .int (-1)]) (rest := [.int (nI k)]) ⟨hx, hb, hml, hown, hts⟩ (c_X8_panoramaAt l G h u_24.1 q px py hi la lb ip se be he σ X Y (X * 8 + Y) (-1 : Int32) (hLM1) (by omega) (by omega) (by omega) (hc)) (cwV 3 hts gX8_sketches_X8_panoramaAt rfl rfl rfl (by decide +kernel) ⟨Nat.le_of_ble_eq_true rfl, Nat.le_of_ble_eq_true rfl⟩) (rPre_V hK hP [0, 4, 5, 6] rfl 0 8 rfl rfl) rfl rfl hl.1 rfl (lv_room (Nat.le_of_ble_eq_true rfl)) dX8_sketches_61 ⟨Nat.zero_le _, Nat.zero_le _⟩) (fun r_61 q_61 => ?_)
            have q_61 : ((-1 : Int32) < 0 → r_61 = nI (fb_ct (cVi σ (X * 8 + Y)) (zn σ))) ∧ (¬ (-1 : Int32) < 0 → pnQ (cVi σ (X * 8 + Y)) (gahead (cX σ) (cY σ) (X * 8 + Y)) (zn σ) (zn σ) (-1 : Int32) r_61) := q_61
            obtain rfl : r_61 = nI (fb_ct (cVi σ (X * 8 + Y)) (zn σ)) := q_61.1 (by decide)
            have hm9 := fb_ct_le (cVi σ (X * 8 + Y)) (zn σ)
            refine lv_icmp_ge (tgt := 115) hx hb dX8_sketches_64 (by decide) (fun c_64 => ?_) (fun c_64 => ?_)
            · have c_64 : (fb_ct (cVi σ (X * 8 + Y)) (zn σ)) ≤ k := (c_le (a := fb_ct (cVi σ (X * 8 + Y)) (zn σ)) (b := k) rfl rfl (by omega) (by omega)).mp c_64
              refine lv_aload_n hx hb dX8_sketches_115 rfl (lv_at hl 2 rfl) ?_
              refine va_get (D := G.1) (ci := 8) (v := .ref (q 13)) (C := RX8) (T := TX8) (N := 44) hx hb hts hin8 hown hK.1 hP 0 rfl rfl 13 (by decide) f38 (fun _ h9 => h9) rfl dX8_sketches_116 ?_
              refine lv_iconst (v := 0) hx hb dX8_sketches_119 (by decide) ?_
              refine top_i (y := nI 0) rfl ?_
              refine al_i hx hb hK.1 hP 1 0 rfl rfl (j := 0) (by omega) (Nat.le_of_ble_eq_true rfl) dX8_sketches_120 ?_
              refine top_i (y := nI k) (hSk.1) ?_
              have hpost : (skQ σ (nI X) (nI Y) (nI j0) = true → (nI k : Int32) = nI (skN σ (ptN (nI X) (nI Y)) (nI j0).toNatClampNeg).1 ∧ SMr (skN σ (ptN (nI X) (nI Y)) (nI j0).toNatClampNeg) (u_24.1, t, u_24.2).2.1) ∧ (skQ σ (nI X) (nI Y) (nI j0) = false → (nI k : Int32) = -1 ∧ (u_24.1, t, u_24.2).2.1 = sa) ∧ PQm (skQ σ (nI X) (nI Y) (nI j0)) N U PH v pa (u_24.1, t, u_24.2).1 (u_24.1, t, u_24.2).2.2 := by
                have hD : skQ σ (nI X) (nI Y) (nI j0) = true := by rw [skQ, c_11, c_18]; rfl
                have e9 : k = min (fb_ct (cVi σ (X * 8 + Y)) (zn σ)) 8 := by omega
                refine ⟨fun _ => ?_, fun h9 => absurd hD (ne_t h9), ⟨fun _ => ⟨q_24.1, q_24.2.1⟩, fun h9 => absurd hD (ne_t h9), fun k9 h0 h15 => (q_24.2.2 k9 h15).trans (pk_un h0)⟩⟩
                rw [ptN_nI hX hY, nI_clamp (by omega)]
                exact ⟨by rw [e9]; rfl, SMr_cg hSk e9.symm (fun _ _ => ⟨rfl, rfl⟩)⟩
              exact hret _ (u_24.1, t, u_24.2) _ _ _ _ (hpost) (rfl) hP hD hS dX8_sketches_121
            · have c_64 : ¬ (fb_ct (cVi σ (X * 8 + Y)) (zn σ)) ≤ k := fun hne => c_64 ((c_le (a := fb_ct (cVi σ (X * 8 + Y)) (zn σ)) (b := k) rfl rfl (by omega) (by omega)).mpr hne)
              obtain ⟨hp9, hv9, hr9⟩ := pno_at hok (by omega) hc (Nat.lt_of_not_le c_64)
              have hb64 := (cBe_is hok (by omega) hc hp9).2
              have hh480 := (cHg_is hok (by omega) hc hp9).2.1
              refine lv_aload_n hx hb dX8_sketches_67 rfl (lv_at hl 2 rfl) ?_
              refine lv_iload_n hx hb dX8_sketches_68 rfl (lv_at hl 3 rfl) ?_
              refine lv_iload_n hx hb dX8_sketches_69 rfl (lv_at hl 4 rfl) ?_
              refine lv_iload hx hb dX8_sketches_70 (lv_at hl 0 rfl) ?_
              refine rd_i (va_runV (As := [.int (nI X), .int (nI Y), .int (nI k)]) (rest := []) ⟨hx, hb, hml, hown, hts⟩ (c_X8_panoramaAt l G h u_24.1 q px py hi la lb ip se be he σ X Y (X * 8 + Y) (nI k) (hLM1) (by omega) (by omega) (by omega) (hc)) (cwV 3 hts gX8_sketches_X8_panoramaAt rfl rfl rfl (by decide +kernel) ⟨Nat.le_of_ble_eq_true rfl, Nat.le_of_ble_eq_true rfl⟩) (rPre_V hK hP [0, 4, 5, 6] rfl 0 8 rfl rfl) rfl rfl hl.1 rfl (lv_room (Nat.le_of_ble_eq_true rfl)) dX8_sketches_72 ⟨Nat.zero_le _, Nat.zero_le _⟩) (fun r_72 q_72 => ?_)
              have q_72 : ((nI k) < 0 → r_72 = nI (fb_ct (cVi σ (X * 8 + Y)) (zn σ))) ∧ (¬ (nI k) < 0 → pnQ (cVi σ (X * 8 + Y)) (gahead (cX σ) (cY σ) (X * 8 + Y)) (zn σ) (zn σ) (nI k) r_72) := q_72
              obtain rfl : r_72 = nI (pno σ (X * 8 + Y) k) := pnQ_at hok (by omega) hc (Nat.lt_of_not_le c_64) (q_72.2 (nI_nn (by omega)))
              refine lv_istore (lv' := [(6, .int (nI (pno σ (X * 8 + Y) k))), (5, .int (nI k)), (4, .int (nI (10 * (X * 8 + Y)))), (0, .ref h), (1, .int (nI X)), (2, .int (nI Y)), (3, .int (nI j0))]) hx hb dX8_sketches_75 hl (by decide) rfl (fun ls hl => ?_)
              refine lv_aload_n hx hb dX8_sketches_77 rfl (lv_at hl 3 rfl) ?_
              refine lv_aload_n hx hb dX8_sketches_78 rfl (lv_at hl 3 rfl) ?_
              refine va_get (D := G.1) (ci := 8) (v := .ref (q 11)) (C := RX8) (T := TX8) (N := 44) hx hb hts hin8 hown hK.1 hP 0 rfl rfl 11 (by decide) f32 (fun _ h9 => h9) rfl dX8_sketches_79 ?_
              refine lv_iload hx hb dX8_sketches_82 (lv_at hl 2 rfl) ?_
              refine lv_iload hx hb dX8_sketches_84 (lv_at hl 0 rfl) ?_
              refine lv_iadd hx hb dX8_sketches_86 ?_
              refine top_i (y := nI (10 * (X * 8 + Y) + pno σ (X * 8 + Y) k)) (nI_add _ _) ?_
              refine al_i hx hb hK.1 hP 7 0 rfl rfl (j := 10 * (X * 8 + Y) + pno σ (X * 8 + Y) k) (by omega) (Nat.le_of_ble_eq_true rfl) dX8_sketches_87 ?_
              refine top_i (y := nI (cBe σ (X * 8 + Y) (pno σ (X * 8 + Y) k))) (((hLP _ (by omega)).2.2 hc _ hp9).1) ?_
              refine lv_iload_n hx hb dX8_sketches_88 rfl (lv_at hl 6 rfl) ?_
              refine lv_isub hx hb dX8_sketches_89 ?_
              refine lv_bipush (v := 64) hx hb dX8_sketches_90 (by decide) ?_
              refine lv_iadd hx hb dX8_sketches_92 ?_
              refine top_i (y := nI (cBe σ (X * 8 + Y) (pno σ (X * 8 + Y) k) + 64 - j0)) (sk_rem hb64 hj0) ?_
              refine lv_bipush (v := 64) hx hb dX8_sketches_93 (by decide) ?_
              refine lv_irem hx hb dX8_sketches_95 (by decide) ?_
              refine top_i (y := nI ((cBe σ (X * 8 + Y) (pno σ (X * 8 + Y) k) + 64 - j0) % 64)) (rem64 (by omega)) ?_
              refine lv_aload_n hx hb dX8_sketches_96 rfl (lv_at hl 3 rfl) ?_
              refine va_get (D := G.1) (ci := 8) (v := .ref (q 12)) (C := RX8) (T := TX8) (N := 44) hx hb hts hin8 hown hK.1 hP 0 rfl rfl 12 (by decide) f35 (fun _ h9 => h9) rfl dX8_sketches_97 ?_
              refine lv_iload hx hb dX8_sketches_100 (lv_at hl 2 rfl) ?_
              refine lv_iload hx hb dX8_sketches_102 (lv_at hl 0 rfl) ?_
              refine lv_iadd hx hb dX8_sketches_104 ?_
              refine top_i (y := nI (10 * (X * 8 + Y) + pno σ (X * 8 + Y) k)) (nI_add _ _) ?_
              refine al_i hx hb hK.1 hP 8 0 rfl rfl (j := 10 * (X * 8 + Y) + pno σ (X * 8 + Y) k) (by omega) (Nat.le_of_ble_eq_true rfl) dX8_sketches_105 ?_
              refine top_i (y := nI (cHg σ (X * 8 + Y) (pno σ (X * 8 + Y) k))) (((hLP _ (by omega)).2.2 hc _ hp9).2) ?_
              refine ca_v (wr := [aI G (q 14) 170 u_24.2, aZ G (q 9) 64 ip, aI G (q 2) 10 px, aI G (q 3) 10 py, aI G (q 10) 64 se, aI G (q 11) 640 be, aI G (q 12) 640 he]) (va_runV (As := [.int (nI ((cBe σ (X * 8 + Y) (pno σ (X * 8 + Y) k) + 64 - j0) % 64)), .int (nI (cHg σ (X * 8 + Y) (pno σ (X * 8 + Y) k)))]) (rest := []) ⟨hx, hb, hml, hown, hts⟩ ((c_X8_adds l G h u_24.1 q t (k, skB (cBe σ (X * 8 + Y)) j0 (pno σ (X * 8 + Y)), fun a => cHg σ (X * 8 + Y) (pno σ (X * 8 + Y) a)) ((cBe σ (X * 8 + Y) (pno σ (X * 8 + Y) k) + 64 - j0) % 64) (cHg σ (X * 8 + Y) (pno σ (X * 8 + Y) k)) (hSk) (by show k < 8; omega) (by omega) (hh480)) _) (cwV 2 hts gX8_sketches_X8_adds rfl rfl rfl (by decide +kernel) ⟨Nat.le_of_ble_eq_true rfl, Nat.le_of_ble_eq_true rfl⟩) (cPre_V hK hP hD [0, 1] (by decide) rfl 0 8 rfl rfl) rfl rfl hl.1 rfl (lv_room (Nat.le_of_ble_eq_true rfl)) dX8_sketches_106 ⟨Nat.zero_le _, Nat.zero_le _⟩) hP hD hS hA [0, 1] [2, 3, 4, 5, 6, 7, 8] rfl rfl (by decide) (by decide) [7, 8, 0, 1, 2, 3, 4, 5, 6] (fun u_106 => [oB h 8 (oF8 u_24.1 q), aI G (q 13) 17 u_106, aI G (q 14) 170 u_24.2, aZ G (q 9) 64 ip, aI G (q 2) 10 px, aI G (q 3) 10 py, aI G (q 10) 64 se, aI G (q 11) 640 be, aI G (q 12) 640 he]) (by decide) (fun _ => rfl) (fun u_106 H locs q_106 hP hD hS => ?_)
              have q_106 : SMr ((k, skB (cBe σ (X * 8 + Y)) j0 (pno σ (X * 8 + Y)), fun a => cHg σ (X * 8 + Y) (pno σ (X * 8 + Y) a)).1 + 1, updN (k, skB (cBe σ (X * 8 + Y)) j0 (pno σ (X * 8 + Y)), fun a => cHg σ (X * 8 + Y) (pno σ (X * 8 + Y) a)).2.1 (k, skB (cBe σ (X * 8 + Y)) j0 (pno σ (X * 8 + Y)), fun a => cHg σ (X * 8 + Y) (pno σ (X * 8 + Y) a)).1 ((cBe σ (X * 8 + Y) (pno σ (X * 8 + Y) k) + 64 - j0) % 64), updN (k, skB (cBe σ (X * 8 + Y)) j0 (pno σ (X * 8 + Y)), fun a => cHg σ (X * 8 + Y) (pno σ (X * 8 + Y) a)).2.2 (k, skB (cBe σ (X * 8 + Y)) j0 (pno σ (X * 8 + Y)), fun a => cHg σ (X * 8 + Y) (pno σ (X * 8 + Y) a)).1 (cHg σ (X * 8 + Y) (pno σ (X * 8 + Y) k))) u_106 := q_106
              have hP : va_P G.1 vwCl [oB h 8 (oF8 u_24.1 q), aI G (q 13) 17 u_106, aI G (q 14) 170 u_24.2, aZ G (q 9) 64 ip, aI G (q 2) 10 px, aI G (q 3) 10 py, aI G (q 10) 64 se, aI G (q 11) 640 be, aI G (q 12) 640 he] H := hP
              have hD : va_D A [oB h 8 (oF8 u_24.1 q), aI G (q 13) 17 u_106, aI G (q 14) 170 u_24.2, aZ G (q 9) 64 ip, aI G (q 2) 10 px, aI G (q 3) 10 py, aI G (q 10) 64 se, aI G (q 11) 640 be, aI G (q 12) 640 he] := hD
              refine lv_iinc (v := nI (k + 1)) (lv' := [(5, .int (nI (k + 1))), (6, .int (nI (pno σ (X * 8 + Y) k))), (4, .int (nI (10 * (X * 8 + Y)))), (0, .ref h), (1, .int (nI X)), (2, .int (nI Y)), (3, .int (nI j0))]) hx hb dX8_sketches_109 hl (k := 1) rfl (inc_nI _ 1) (by decide) rfl (fun ls hl => ?_)
              refine lv_goto (tgt := 48) hx hb dX8_sketches_112 (by decide) ?_
              exact ih48 (k + 1) u_106 (by omega) (by omega) (by omega) (SMr_cg q_106 rfl (fun k9 hk9 => if e9 : k9 = k then ⟨by subst e9; exact (show skB _ _ _ k9 = updN _ k9 _ k9 by rw [updN_s]; unfold skB; omega), by subst e9; exact (show _ = updN _ k9 _ k9 by rw [updN_s])⟩ else ⟨(show skB _ _ _ k9 = updN _ k _ k9 by rw [updN_n e9]), (show _ = updN _ k _ k9 by rw [updN_n e9])⟩)) _ _ hP hD hS _ (lv_sub hl [0, 2, 3, 4, 5, 6] rfl)
      exact loop_48 _ 0 (upd sa 0 0) (Nat.lt_succ_self _) (Nat.zero_le _) (Nat.zero_le _) (⟨rfl, Nat.zero_le _, fun k9 hk9 => absurd hk9 (Nat.not_lt_zero k9)⟩) _ _ hP hD hS _ (lv_sub hl [0, 1, 2, 3, 4, 5] rfl)
    · have c_18 : (pLook z) = false := b2i_0.mp c_18
      refine lv_iconst (v := -1) hx hb dX8_sketches_21 (by decide) ?_
      have hpost : (skQ σ (nI X) (nI Y) z = true → (-1 : Int32) = nI (skN σ (ptN (nI X) (nI Y)) z.toNatClampNeg).1 ∧ SMr (skN σ (ptN (nI X) (nI Y)) z.toNatClampNeg) (upd v 0 0, sa, pa).2.1) ∧ (skQ σ (nI X) (nI Y) z = false → (-1 : Int32) = -1 ∧ (upd v 0 0, sa, pa).2.1 = sa) ∧ PQm (skQ σ (nI X) (nI Y) z) N U PH v pa (upd v 0 0, sa, pa).1 (upd v 0 0, sa, pa).2.2 := by
        have hD : skQ σ (nI X) (nI Y) z = false := by simp [skQ, c_11, c_18]
        exact ⟨fun h9 => absurd h9 (ne_t hD), fun _ => ⟨rfl, rfl⟩, fun h9 => absurd h9 (ne_t hD), fun _ => ⟨rfl, rfl⟩, fun k h0 h15 => pk_un h0⟩
      exact hret _ (upd v 0 0, sa, pa) _ _ _ _ (hpost) (rfl) hP hD hS dX8_sketches_22
