/-! the best view, and how doubtful it is -/
noncomputable def scM (σ : PS) (N : NL) (w : Nat) : Int := if cPk σ (w / 64) = 0 then (sc (gS σ N (w / 64) (w % 64) (-9) (-9)) N.1 : Int) else -1
theorem sM_rng {σ : PS} {N : NL} (h : N.1 ≤ 8) (w : Nat) : -1 ≤ scM σ N w ∧ scM σ N w ≤ 8 := by
  unfold scM
  split
  · have := sc_le (gS σ N (w / 64) (w % 64) (-9) (-9)) N.1; omega
  · omega
theorem sM_at {σ : PS} {N : NL} {a j : Nat} (hj : j < 64) (hc : cPk σ a = 0) : scM σ N (64 * a + j) = (sc (gS σ N a j (-9) (-9)) N.1 : Int) := by
  unfold scM
  rw [show (64 * a + j) / 64 = a by omega, show (64 * a + j) % 64 = j by omega, if_pos hc]
theorem sM_no {σ : PS} {N : NL} {a j : Nat} (hj : j < 64) (hc : ¬ cPk σ a = 0) : scM σ N (64 * a + j) = -1 := by
  unfold scM
  rw [show (64 * a + j) / 64 = a by omega, if_neg hc]
def mxV (s : Nat → Int) : Nat → Int
  | 0 => -1
  | n + 1 => if mxV s n < s n then s n else mxV s n
def agV (s : Nat → Int) : Nat → Nat
  | 0 => 0
  | n + 1 => if mxV s n < s n then n else agV s n
theorem mxV_ge (s : Nat → Int) : ∀ n, -1 ≤ mxV s n
  | 0 => Int.le_refl _
  | n + 1 => by
    have ih := mxV_ge s n
    show -1 ≤ if mxV s n < s n then s n else mxV s n
    split <;> omega
theorem mxV_le {s : Nat → Int} {B : Int} (hB : -1 ≤ B) : ∀ n, (∀ w, w < n → s w ≤ B) → mxV s n ≤ B
  | 0, _ => hB
  | n + 1, h => by
    have ih := mxV_le hB n (fun w hw => h w (by omega))
    have h1 := h n (by omega)
    show (if mxV s n < s n then s n else mxV s n) ≤ B
    split <;> omega
theorem mxV_up {s : Nat → Int} : ∀ {n w : Nat}, w < n → s w ≤ mxV s n
  | 0, w, h => absurd h (Nat.not_lt_zero w)
  | n + 1, w, h => by
    show s w ≤ if mxV s n < s n then s n else mxV s n
    rcases Nat.lt_succ_iff_lt_or_eq.mp h with e | e
    · have := mxV_up (s := s) e
      split <;> omega
    · rw [e]; split <;> omega
theorem agV_is {s : Nat → Int} : ∀ n, mxV s n ≤ -1 ∨ (agV s n < n ∧ s (agV s n) = mxV s n ∧ ∀ w, w < agV s n → s w < mxV s n)
  | 0 => Or.inl (Int.le_refl _)
  | n + 1 => by
    show (if mxV s n < s n then s n else mxV s n) ≤ -1 ∨ ((if mxV s n < s n then n else agV s n) < n + 1 ∧ s (if mxV s n < s n then n else agV s n) = (if mxV s n < s n then s n else mxV s n) ∧ ∀ w, w < (if mxV s n < s n then n else agV s n) → s w < (if mxV s n < s n then s n else mxV s n))
    by_cases c : mxV s n < s n
    · rw [if_pos c, if_pos c]
      exact Or.inr ⟨by omega, rfl, fun w hw => by have := mxV_up (s := s) hw; omega⟩
    · rw [if_neg c, if_neg c]
      rcases agV_is n with h | ⟨h1, h2, h3⟩
      · exact Or.inl h
      · exact Or.inr ⟨by omega, h2, h3⟩
def hxV (s : Nat → Int) (a j : Nat) : Int := mxV (fun i => s (64 * a + i)) j
theorem mx_blk (s : Nat → Int) (a : Nat) : ∀ j, mxV s (64 * a + j) = if mxV s (64 * a) < hxV s a j then hxV s a j else mxV s (64 * a)
  | 0 => by
    have := mxV_ge s (64 * a)
    show mxV s (64 * a) = if mxV s (64 * a) < -1 then -1 else mxV s (64 * a)
    rw [if_neg (by omega)]
  | j + 1 => by
    have ih := mx_blk s a j
    show (if mxV s (64 * a + j) < s (64 * a + j) then s (64 * a + j) else mxV s (64 * a + j)) = if mxV s (64 * a) < (if hxV s a j < s (64 * a + j) then s (64 * a + j) else hxV s a j) then (if hxV s a j < s (64 * a + j) then s (64 * a + j) else hxV s a j) else mxV s (64 * a)
    rw [ih]
    generalize mxV s (64 * a) = A
    generalize hxV s a j = B
    generalize s (64 * a + j) = C
    (repeat' split) <;> omega
theorem hx_up {s : Nat → Int} {a j : Nat} (h : ¬ s (64 * a + j) ≤ hxV s a j) : hxV s a (j + 1) = s (64 * a + j) := if_pos (show hxV s a j < s (64 * a + j) by omega)
theorem hx_no {s : Nat → Int} {a j : Nat} (h : s (64 * a + j) ≤ hxV s a j) : hxV s a (j + 1) = hxV s a j := if_neg (show ¬ hxV s a j < s (64 * a + j) by omega)
theorem ag_up {s : Nat → Int} {a j : Nat} (h1 : ¬ s (64 * a + j) ≤ mxV s (64 * a)) (h2 : ¬ s (64 * a + j) ≤ hxV s a j) : agV s (64 * a + (j + 1)) = 64 * a + j := by
  have e := mx_blk s a j
  exact if_pos (show mxV s (64 * a + j) < s (64 * a + j) by rw [e]; split <;> omega)
theorem ag_no {s : Nat → Int} {a j : Nat} (h : s (64 * a + j) ≤ mxV s (64 * a) ∨ s (64 * a + j) ≤ hxV s a j) : agV s (64 * a + (j + 1)) = agV s (64 * a + j) ∧ mxV s (64 * a + (j + 1)) = mxV s (64 * a + j) := by
  have e := mx_blk s a j
  have c : ¬ mxV s (64 * a + j) < s (64 * a + j) := by rw [e]; split <;> omega
  exact ⟨if_neg c, if_neg c⟩
theorem hx_le {s : Nat → Int} {a pt : Nat} (h : pt < a) : hxV s pt 64 ≤ mxV s (64 * a) := mxV_le (mxV_ge _ _) 64 (fun w hw => mxV_up (s := s) (show 64 * pt + w < 64 * a by omega))
noncomputable def plV (s : Nat → Int) (a : Nat) : Nat := fb_ct (fun pt => decide (0 ≤ hxV s pt 64) && decide (hxV s pt 64 = mxV s (64 * a))) a
theorem mx_b64 (s : Nat → Int) (a : Nat) : mxV s (64 * (a + 1)) = if mxV s (64 * a) < hxV s a 64 then hxV s a 64 else mxV s (64 * a) := mx_blk s a 64
theorem mx_b64u {s : Nat → Int} {a : Nat} (h : ¬ hxV s a 64 ≤ mxV s (64 * a)) : mxV s (64 * (a + 1)) = hxV s a 64 := by rw [mx_b64, if_pos (by omega)]
theorem mx_b64n {s : Nat → Int} {a : Nat} (h : hxV s a 64 ≤ mxV s (64 * a)) : mxV s (64 * (a + 1)) = mxV s (64 * a) := by rw [mx_b64, if_neg (by omega)]
theorem pl_up {s : Nat → Int} {a : Nat} (h : ¬ hxV s a 64 ≤ mxV s (64 * a)) : plV s (a + 1) = 1 := by
  have hg := mxV_ge s (64 * a)
  unfold plV
  rw [mx_b64u h, fb_ct_succ, decide_eq_true (show 0 ≤ hxV s a 64 by omega), decide_eq_true rfl, fb_ct_zero.mpr (fun k hk => by
    have := hx_le (s := s) hk
    rw [decide_eq_false (show ¬ hxV s k 64 = hxV s a 64 by omega), Bool.and_false])]
  rfl
theorem pl_eq {s : Nat → Int} {a : Nat} (h : hxV s a 64 = mxV s (64 * a)) (h0 : 0 ≤ hxV s a 64) : plV s (a + 1) = plV s a + 1 := by
  unfold plV
  rw [mx_b64n (by omega), fb_ct_succ, decide_eq_true h0, decide_eq_true h]
  rfl
theorem pl_no {s : Nat → Int} {a : Nat} (h : hxV s a 64 ≤ mxV s (64 * a)) (h2 : ¬ hxV s a 64 = mxV s (64 * a) ∨ hxV s a 64 < 0) : plV s (a + 1) = plV s a := by
  unfold plV
  rw [mx_b64n h, fb_ct_succ]
  have e : (decide (0 ≤ hxV s a 64) && decide (hxV s a 64 = mxV s (64 * a))) = false := by
    rcases h2 with h2 | h2
    · rw [decide_eq_false h2, Bool.and_false]
    · rw [decide_eq_false (show ¬ 0 ≤ hxV s a 64 by omega), Bool.false_and]
  rw [e]; rfl
theorem mxV_low {s : Nat → Int} {n : Nat} (h : ∀ w, w < n → s w ≤ -1) : mxV s n = -1 := by
  have := mxV_le (s := s) (Int.le_refl (-1)) n h
  have := mxV_ge s n
  omega
theorem hx_none {σ : PS} {N : NL} {a j : Nat} (hc : ¬ cPk σ a = 0) (hj : j = 0) : hxV (scM σ N) a 64 = hxV (scM σ N) a j := by
  rw [hj]
  exact mxV_low (fun w hw => by show scM σ N (64 * a + w) ≤ -1; rw [sM_no hw hc]; exact Int.le_refl _)
theorem ag_none {σ : PS} {N : NL} {a : Nat} (hc : ¬ cPk σ a = 0) : ∀ j, j ≤ 64 → agV (scM σ N) (64 * a + j) = agV (scM σ N) (64 * a) ∧ mxV (scM σ N) (64 * a + j) = mxV (scM σ N) (64 * a)
  | 0, _ => ⟨rfl, rfl⟩
  | j + 1, h => by
    have ih := ag_none (N := N) hc j (by omega)
    have hg := mxV_ge (scM σ N) (64 * a)
    have h1 := ag_no (s := scM σ N) (a := a) (j := j) (Or.inl (by rw [sM_no (by omega) hc]; exact hg))
    exact ⟨h1.1.trans ih.1, h1.2.trans ih.2⟩
theorem LM_v {σ : PS} {v w px py hi ra rb ip se be he : Nat → Int32} (h : LM σ v px py hi ra rb ip se be he) (h1 : w 1 = v 1) (h5 : w 5 = v 5) (h8 : w 8 = v 8) : LM σ w px py hi ra rb ip se be he := ⟨h.1, ⟨h1.trans h.2.1.1, h5.trans h.2.1.2.1, h8.trans h.2.1.2.2⟩, h.2.2⟩
theorem oI_inj {a b : Int} (h1 : -1 ≤ a) (h2 : a ≤ 8) (h3 : -1 ≤ b) (h4 : b ≤ 8) : Int32.ofInt a = Int32.ofInt b ↔ a = b := by
  rw [Int32.toInt_inj.symm, fb_ofI (by omega) (by omega), fb_ofI (by omega) (by omega)]
theorem oI_neg {a : Int} (h1 : -1 ≤ a) (h2 : a ≤ 8) : Int32.ofInt a < 0 ↔ a < 0 := by
  rw [Int32.lt_iff_toInt_lt, fb_ofI (by omega) (by omega)]
  show a < (0 : Int32).toInt ↔ _
  have : (0 : Int32).toInt = 0 := by decide
  omega
theorem oI_pos {a : Int} (h1 : -1 ≤ a) (h2 : a ≤ 8) : 0 ≤ Int32.ofInt a ↔ 0 ≤ a := by
  rw [Int32.le_iff_toInt_le, fb_ofI (by omega) (by omega)]
  have : (0 : Int32).toInt = 0 := by decide
  omega
theorem mxV_rng {σ : PS} {N : NL} (h : N.1 ≤ 8) (n : Nat) : -1 ≤ mxV (scM σ N) n ∧ mxV (scM σ N) n ≤ 8 := ⟨mxV_ge _ _, mxV_le (by omega) n (fun w _ => (sM_rng h w).2)⟩
theorem hxV_rng {σ : PS} {N : NL} (h : N.1 ≤ 8) (a j : Nat) : -1 ≤ hxV (scM σ N) a j ∧ hxV (scM σ N) a j ≤ 8 := ⟨mxV_ge _ _, mxV_le (by omega) j (fun w _ => (sM_rng h _).2)⟩
theorem mul64' (j k : Nat) : 64 * nI j + nI k = nI (64 * j + k) := by rw [show (64 : Int32) = nI 64 from rfl, pk_mul, nI_add]
theorem bs_in (x : Int32) : bsOk x = pIn x 0 3 := by
  unfold bsOk pIn
  have e : decide (x ≤ 3) = !decide (3 < x) := by
    by_cases c : x ≤ 3
    · rw [decide_eq_true c, decide_eq_false (by rw [Int32.le_iff_toInt_le] at c; rw [Int32.lt_iff_toInt_lt]; omega)]; rfl
    · rw [decide_eq_false c, decide_eq_true (by rw [Int32.le_iff_toInt_le] at c; rw [Int32.lt_iff_toInt_lt]; omega)]; rfl
  rw [e]
theorem bs_none {s : Nat → Int} {V : Nat} {x : Int32} (h : mxV s V ≤ -1) : bsQ s V x (-9) := Or.inl ⟨fun w hw => by have := mxV_up (s := s) hw; omega, rfl⟩
theorem bs_some {s : Nat → Int} {V : Nat} {x r : Int32} (h : ¬ mxV s V ≤ -1) (hr : r = (if x = 3 then Int32.ofInt (mxV s V) else pPart (nI (agV s V)) x)) : bsQ s V x r := by
  obtain ⟨h1, h2, h3⟩ := (agV_is (s := s) V).resolve_left h
  refine Or.inr ⟨agV s V, h1, by omega, fun w hw => ⟨by have := mxV_up (s := s) hw; omega, fun q => by have := h3 w q; omega⟩, by rw [hr, h2]⟩
noncomputable def unF (σ : PS) (N : NL) (cpt clk : Nat → Nat) (cwh : Nat → Bool) (p0 i : Nat) : Bool := !(decide (sc (gS σ N (cpt i) (clk i) (-9) (nI p0)) N.1 = N.1) == cwh i)
noncomputable def unB (σ : PS) (N : NL) (cc : Nat) (cpt clk : Nat → Nat) (cwh : Nat → Bool) (p0 : Nat) : Bool := !anyB (unF σ N cpt clk cwh p0) cc
theorem anyB_s (f : Nat → Bool) (n : Nat) : anyB f (n + 1) = (anyB f n || f n) := rfl
theorem anyB_mono {f : Nat → Bool} {k n : Nat} (h : k ≤ n) (ha : anyB f k = true) : anyB f n = true := by
  cases e : anyB f n with
  | true => rfl
  | false =>
    have := anyB_no.mpr (fun j (hj : j < k) => anyB_no.mp e j (by omega))
    rw [this] at ha; cases ha
abbrev rX8_laysBest : Room := { frames := 3, cells := 0, slots := 0, locals := 79 }
set_option maxHeartbeats 4000000 in
set_option maxRecDepth 100000 in
theorem c_X8_laysBest (l : Launch) (G : kG) (h : Nat) (v : Nat → Int32) (q : Nat → Nat) (px : Nat → Int32) (py : Nat → Int32) (hi : Nat → Int32) (la : Nat → Int32) (lb : Nat → Int32) (ip : Nat → Int32) (se : Nat → Int32) (be : Nat → Int32) (he : Nat → Int32) (σ : PS) (sa : Nat → Int32) (ft : Nat → Int32) (wh : Nat → Int32) (rA : Nat → Int32) (bA : Nat → Int32) (ha : Nat → Int32) (N : NL) (hLM : LM σ v px py hi la lb ip se be he) (hSM : SMr N sa) : Cv l G yX8_laysBest wsX8_laysBest rX8_laysBest [.ref h] [oB h 8 (oF8 v q), aZ G (q 9) 64 ip, aI G (q 10) 64 se, aI G (q 11) 640 be, aI G (q 12) 640 he, aI G (q 13) 17 sa, aI G (q 36) 8 ft, aI G (q 37) 10 wh, aI G (q 38) 8 rA, aI G (q 39) 10 bA, aI G (q 40) 8 ha] (fun (u : (Nat → Int32) × (Nat → Int32) × (Nat → Int32) × (Nat → Int32) × (Nat → Int32) × (Nat → Int32)) => u.1 42 = Int32.ofInt (mxV (scM σ N) 4096) ∧ u.1 43 = nI (plV (scM σ N) 64) ∧ (mxV (scM σ N) 4096 ≤ -1 ∨ u.1 41 = nI (agV (scM σ N) 4096)) ∧ (∀ k, ¬ k = 41 → ¬ k = 42 → ¬ k = 43 → u.1 k = v k)) (fun u => [oB h 8 (oF8 u.1 q), aZ G (q 9) 64 ip, aI G (q 10) 64 se, aI G (q 11) 640 be, aI G (q 12) 640 he, aI G (q 13) 17 sa, aI G (q 36) 8 u.2.1, aI G (q 37) 10 u.2.2.1, aI G (q 38) 8 u.2.2.2.1, aI G (q 39) 10 u.2.2.2.2.1, aI G (q 40) 8 u.2.2.2.2.2]) 0 0 := by
  refine Cv.of (cc := cX8_laysBest) (maxL := 5) (by decide) rfl (Nat.le_of_ble_eq_true rfl) ?_
  intro pM eM sM mM bM tM cM Q A hx hb hts hown hml hnm hA hK hP hD hS hret ls hl
  have hown : sM.vm.findClass RX8 = some mM.cls := hown
  have hl : lv_has ls 5 [(0, .ref h)] := hl
  have hin8 : ∀ w ∈ u_ws RX8 TX8 44, w ∈ wsX8_laysBest := by decide +kernel
  have f238 := hts (.fieldLink RX8 238 "HorizonPeaksModel" "bestScore" "I") (by decide +kernel)
  have f241 := hts (.fieldLink RX8 241 "HorizonPeaksModel" "bestPlaces" "I") (by decide +kernel)
  have f25 := hts (.fieldLink RX8 25 "HorizonPeaksModel" "isPlace" "[Z") (by decide +kernel)
  have f244 := hts (.fieldLink RX8 244 "HorizonPeaksModel" "bestView" "I") (by decide +kernel)
  have hLM0 := hLM
  obtain ⟨hok, ⟨hv1, hv5, hv8⟩, har, hLP⟩ := hLM
  have hn10 := hok.1
  have hm8 := hok.2.1
  have hl3 := hok.2.2.1
  have hip : ∀ i, i < 64 → ip i = b2i (decide (cPk σ i = 0)) := fun i hh => (hLP i hh).1
  have hn8 := hSM.2.1
  refine lv_aload_n hx hb dX8_laysBest_0 rfl (lv_at hl 0 rfl) ?_
  refine lv_iconst (v := -1) hx hb dX8_laysBest_1 (by decide) ?_
  refine va_put (D := G.1) (ci := 8) (v := .int (-1)) (ty := .int) (C := RX8) (T := TX8) (N := 44) hx hb hts hin8 tyX8 tyX8_ok nmX8 hown hK.1 hP hD hS 0 rfl rfl 42 (by decide) f238 (fun _ h9 => h9) rfl (by decide +kernel) rfl rfl (Nat.le_of_ble_eq_true rfl) dX8_laysBest_2 (fun H locs hP hD hS => ?_)
  have hP : va_P G.1 vwCl [oB h 8 (oF8 (upd v 42 (-1)) q), aZ G (q 9) 64 ip, aI G (q 10) 64 se, aI G (q 11) 640 be, aI G (q 12) 640 he, aI G (q 13) 17 sa, aI G (q 36) 8 ft, aI G (q 37) 10 wh, aI G (q 38) 8 rA, aI G (q 39) 10 bA, aI G (q 40) 8 ha] H := hP
  have hD : va_D A [oB h 8 (oF8 (upd v 42 (-1)) q), aZ G (q 9) 64 ip, aI G (q 10) 64 se, aI G (q 11) 640 be, aI G (q 12) 640 he, aI G (q 13) 17 sa, aI G (q 36) 8 ft, aI G (q 37) 10 wh, aI G (q 38) 8 rA, aI G (q 39) 10 bA, aI G (q 40) 8 ha] := hD
  refine lv_aload_n hx hb dX8_laysBest_5 rfl (lv_at hl 0 rfl) ?_
  refine lv_iconst (v := 0) hx hb dX8_laysBest_6 (by decide) ?_
  refine va_put (D := G.1) (ci := 8) (v := .int 0) (ty := .int) (C := RX8) (T := TX8) (N := 44) hx hb hts hin8 tyX8 tyX8_ok nmX8 hown hK.1 hP hD hS 0 rfl rfl 43 (by decide) f241 (fun _ h9 => h9) rfl (by decide +kernel) rfl rfl (Nat.le_of_ble_eq_true rfl) dX8_laysBest_7 (fun H locs hP hD hS => ?_)
  have hP : va_P G.1 vwCl [oB h 8 (oF8 (upd (upd v 42 (-1)) 43 0) q), aZ G (q 9) 64 ip, aI G (q 10) 64 se, aI G (q 11) 640 be, aI G (q 12) 640 he, aI G (q 13) 17 sa, aI G (q 36) 8 ft, aI G (q 37) 10 wh, aI G (q 38) 8 rA, aI G (q 39) 10 bA, aI G (q 40) 8 ha] H := hP
  have hD : va_D A [oB h 8 (oF8 (upd (upd v 42 (-1)) 43 0) q), aZ G (q 9) 64 ip, aI G (q 10) 64 se, aI G (q 11) 640 be, aI G (q 12) 640 he, aI G (q 13) 17 sa, aI G (q 36) 8 ft, aI G (q 37) 10 wh, aI G (q 38) 8 rA, aI G (q 39) 10 bA, aI G (q 40) 8 ha] := hD
  refine lv_iconst (v := 0) hx hb dX8_laysBest_10 (by decide) ?_
  refine lv_istore_n (lv' := [(1, .int 0), (0, .ref h)]) hx hb dX8_laysBest_11 rfl hl (by decide) rfl (fun ls hl => ?_)
  have loop_12 : ∀ (nF : Nat) (a : Nat) (w : Nat → Int32) (fx36 : Nat → Int32) (fx37 : Nat → Int32) (fx38 : Nat → Int32) (fx39 : Nat → Int32) (fx40 : Nat → Int32), (64 - a) < nF → (a ≤ 64) → (w 42 = Int32.ofInt (mxV (scM σ N) (64 * a))) → (w 43 = nI (plV (scM σ N) a)) → (mxV (scM σ N) (64 * a) ≤ -1 ∨ w 41 = nI (agV (scM σ N) (64 * a))) → (∀ k, ¬ k = 41 → ¬ k = 42 → ¬ k = 43 → w k = v k) → ∀ (H : Heap) (locs : List Loc), va_P G.1 vwCl [oB h 8 (oF8 w q), aZ G (q 9) 64 ip, aI G (q 10) 64 se, aI G (q 11) 640 be, aI G (q 12) 640 he, aI G (q 13) 17 sa, aI G (q 36) 8 fx36, aI G (q 37) 10 fx37, aI G (q 38) 8 fx38, aI G (q 39) 10 fx39, aI G (q 40) 8 fx40] H → va_D A [oB h 8 (oF8 w q), aZ G (q 9) 64 ip, aI G (q 10) 64 se, aI G (q 11) 640 be, aI G (q 12) 640 he, aI G (q 13) 17 sa, aI G (q 36) 8 fx36, aI G (q 37) 10 fx37, aI G (q 38) 8 fx38, aI G (q 39) 10 fx39, aI G (q 40) 8 fx40] → va_S A sM.heap H locs → ∀ (ls : Array Slot), lv_has ls 5 [(1, .int (nI a)), (0, .ref h)] → W pM l eM rX8_laysBest sM mM [.ref h].toArray bM tM cM H locs 0 0 Q (F0 mM 12 ls []) := by
    intro nF
    induction nF with
    | zero => intro a w fx36 fx37 fx38 fx39 fx40 hmF; exact absurd hmF (Nat.not_lt_zero _)
    | succ nF ih12 =>
      intro a w fx36 fx37 fx38 fx39 fx40 hmF ha hw42 hw43 hbv hsm H locs hP hD hS ls hl
      refine lv_iload_n hx hb dX8_laysBest_12 rfl (lv_at hl 0 rfl) ?_
      refine lv_bipush (v := 64) hx hb dX8_laysBest_13 (by decide) ?_
      refine lv_icmp_ge (tgt := 167) hx hb dX8_laysBest_15 (by decide) (fun c_15 => ?_) (fun c_15 => ?_)
      · have c_15 : 64 ≤ a := (c_le (a := 64) (b := a) rfl rfl (by omega) (by omega)).mp c_15
        have hpost : (w, fx36, fx37, fx38, fx39, fx40).1 42 = Int32.ofInt (mxV (scM σ N) 4096) ∧ (w, fx36, fx37, fx38, fx39, fx40).1 43 = nI (plV (scM σ N) 64) ∧ (mxV (scM σ N) 4096 ≤ -1 ∨ (w, fx36, fx37, fx38, fx39, fx40).1 41 = nI (agV (scM σ N) 4096)) ∧ (∀ k, ¬ k = 41 → ¬ k = 42 → ¬ k = 43 → (w, fx36, fx37, fx38, fx39, fx40).1 k = v k) := by
          have e9 : a = 64 := by omega
          rw [e9] at hw42 hw43 hbv
          exact ⟨hw42, hw43, hbv, hsm⟩
        exact hret (w, fx36, fx37, fx38, fx39, fx40) _ _ _ _ (hpost) hP hD hS dX8_laysBest_167
      · have c_15 : ¬ 64 ≤ a := fun hne => c_15 ((c_le (a := 64) (b := a) rfl rfl (by omega) (by omega)).mpr hne)
        refine lv_iconst (v := -1) hx hb dX8_laysBest_18 (by decide) ?_
        refine lv_istore_n (lv' := [(2, .int (-1)), (1, .int (nI a)), (0, .ref h)]) hx hb dX8_laysBest_19 rfl hl (by decide) rfl (fun ls hl => ?_)
        refine lv_iconst (v := 0) hx hb dX8_laysBest_20 (by decide) ?_
        refine lv_istore_n (lv' := [(3, .int 0), (2, .int (-1)), (1, .int (nI a)), (0, .ref h)]) hx hb dX8_laysBest_21 rfl hl (by decide) rfl (fun ls hl => ?_)
        have loop_22 : ∀ (nF : Nat) (j : Nat) (w1 : Nat → Int32) (hr : Int32) (g36 : Nat → Int32) (g37 : Nat → Int32) (g38 : Nat → Int32) (g39 : Nat → Int32) (g40 : Nat → Int32), (64 - j) < nF → (j ≤ 64) → (hr = Int32.ofInt (hxV (scM σ N) a j)) → (w1 42 = Int32.ofInt (mxV (scM σ N) (64 * a))) → (w1 43 = nI (plV (scM σ N) a)) → (mxV (scM σ N) (64 * a + j) ≤ -1 ∨ w1 41 = nI (agV (scM σ N) (64 * a + j))) → (∀ k, ¬ k = 41 → ¬ k = 42 → ¬ k = 43 → w1 k = v k) → (cPk σ a = 0 ∨ j = 0) → ∀ (H : Heap) (locs : List Loc), va_P G.1 vwCl [oB h 8 (oF8 w1 q), aZ G (q 9) 64 ip, aI G (q 10) 64 se, aI G (q 11) 640 be, aI G (q 12) 640 he, aI G (q 13) 17 sa, aI G (q 36) 8 g36, aI G (q 37) 10 g37, aI G (q 38) 8 g38, aI G (q 39) 10 g39, aI G (q 40) 8 g40] H → va_D A [oB h 8 (oF8 w1 q), aZ G (q 9) 64 ip, aI G (q 10) 64 se, aI G (q 11) 640 be, aI G (q 12) 640 he, aI G (q 13) 17 sa, aI G (q 36) 8 g36, aI G (q 37) 10 g37, aI G (q 38) 8 g38, aI G (q 39) 10 g39, aI G (q 40) 8 g40] → va_S A sM.heap H locs → ∀ (ls : Array Slot), lv_has ls 5 [(3, .int (nI j)), (2, .int hr), (1, .int (nI a)), (0, .ref h)] → W pM l eM rX8_laysBest sM mM [.ref h].toArray bM tM cM H locs 0 0 Q (F0 mM 22 ls []) := by
          intro nF
          induction nF with
          | zero => intro j w1 hr g36 g37 g38 g39 g40 hmF; exact absurd hmF (Nat.not_lt_zero _)
          | succ nF ih22 =>
            intro j w1 hr g36 g37 g38 g39 g40 hmF hj hhr h42 h43 h41 hsm1 hpj H locs hP hD hS ls hl
            refine lv_iload_n hx hb dX8_laysBest_22 rfl (lv_at hl 0 rfl) ?_
            refine lv_bipush (v := 64) hx hb dX8_laysBest_23 (by decide) ?_
            refine lv_icmp_ge (tgt := 100) hx hb dX8_laysBest_25 (by decide) (fun c_25 => ?_) (fun c_25 => ?_)
            · have c_25 : 64 ≤ j := (c_le (a := 64) (b := j) rfl rfl (by omega) (by omega)).mp c_25
              have hx64 : hxV (scM σ N) a 64 = hxV (scM σ N) a j := by rw [show j = 64 by omega]
              have h41x : mxV (scM σ N) (64 * (a + 1)) ≤ -1 ∨ w1 41 = nI (agV (scM σ N) (64 * (a + 1))) := by have e9 := h41; rw [show j = 64 by omega] at e9; exact e9
              refine lv_aload_n hx hb dX8_laysBest_100 rfl (lv_at hl 3 rfl) ?_
              refine lv_iload_n hx hb dX8_laysBest_101 rfl (lv_at hl 1 rfl) ?_
              refine lv_aload_n hx hb dX8_laysBest_102 rfl (lv_at hl 3 rfl) ?_
              refine va_get (D := G.1) (ci := 8) (v := .int (w1 42)) (C := RX8) (T := TX8) (N := 44) hx hb hts hin8 hown hK.1 hP 0 rfl rfl 42 (by decide) f238 (fun _ h9 => h9) rfl dX8_laysBest_103 ?_
              refine top_i (y := Int32.ofInt (mxV (scM σ N) (64 * a))) (h42) ?_
              refine lv_icmp_le (tgt := 113) hx hb dX8_laysBest_106 (by decide) (fun c_106 => ?_) (fun c_106 => ?_)
              · have r_106 := c_106
                rw [hhr, ← hx64] at c_106
                have c_106 := (oI_le (hxV_rng (σ := σ) hn8 a 64).1 (hxV_rng (σ := σ) hn8 a 64).2 (mxV_rng (σ := σ) hn8 (64 * a)).1 (mxV_rng (σ := σ) hn8 (64 * a)).2).mp c_106
                refine lv_iload_n hx hb dX8_laysBest_113 rfl (lv_at hl 1 rfl) ?_
                refine lv_aload_n hx hb dX8_laysBest_114 rfl (lv_at hl 3 rfl) ?_
                refine va_get (D := G.1) (ci := 8) (v := .int (w1 42)) (C := RX8) (T := TX8) (N := 44) hx hb hts hin8 hown hK.1 hP 0 rfl rfl 42 (by decide) f238 (fun _ h9 => h9) rfl dX8_laysBest_115 ?_
                refine top_i (y := Int32.ofInt (mxV (scM σ N) (64 * a))) (h42) ?_
                refine lv_icmp_ne (tgt := 134) hx hb dX8_laysBest_118 (by decide) (fun c_118 => ?_) (fun c_118 => ?_)
                · rw [hhr, ← hx64] at c_118
                  have c_118 := fun e9 => c_118 ((oI_inj (hxV_rng (σ := σ) hn8 a 64).1 (hxV_rng (σ := σ) hn8 a 64).2 (mxV_rng (σ := σ) hn8 (64 * a)).1 (mxV_rng (σ := σ) hn8 (64 * a)).2).mpr e9)
                  refine lv_aload_n hx hb dX8_laysBest_134 rfl (lv_at hl 3 rfl) ?_
                  refine va_get (D := G.1) (ci := 8) (v := .int (w1 43)) (C := RX8) (T := TX8) (N := 44) hx hb hts hin8 hown hK.1 hP 0 rfl rfl 43 (by decide) f241 (fun _ h9 => h9) rfl dX8_laysBest_135 ?_
                  refine top_i (y := nI (plV (scM σ N) a)) (h43) ?_
                  refine va_put (D := G.1) (ci := 8) (v := .int (nI (plV (scM σ N) a))) (ty := .int) (C := RX8) (T := TX8) (N := 44) hx hb hts hin8 tyX8 tyX8_ok nmX8 hown hK.1 hP hD hS 0 rfl rfl 43 (by decide) f241 (fun _ h9 => h9) rfl (by decide +kernel) rfl rfl (Nat.le_of_ble_eq_true rfl) dX8_laysBest_138 (fun H locs hP hD hS => ?_)
                  have hP : va_P G.1 vwCl [oB h 8 (oF8 (upd w1 43 (nI (plV (scM σ N) a))) q), aZ G (q 9) 64 ip, aI G (q 10) 64 se, aI G (q 11) 640 be, aI G (q 12) 640 he, aI G (q 13) 17 sa, aI G (q 36) 8 g36, aI G (q 37) 10 g37, aI G (q 38) 8 g38, aI G (q 39) 10 g39, aI G (q 40) 8 g40] H := hP
                  have hD : va_D A [oB h 8 (oF8 (upd w1 43 (nI (plV (scM σ N) a))) q), aZ G (q 9) 64 ip, aI G (q 10) 64 se, aI G (q 11) 640 be, aI G (q 12) 640 he, aI G (q 13) 17 sa, aI G (q 36) 8 g36, aI G (q 37) 10 g37, aI G (q 38) 8 g38, aI G (q 39) 10 g39, aI G (q 40) 8 g40] := hD
                  refine lv_aload_n hx hb dX8_laysBest_141 rfl (lv_at hl 3 rfl) ?_
                  refine lv_iload_n hx hb dX8_laysBest_142 rfl (lv_at hl 1 rfl) ?_
                  refine lv_aload_n hx hb dX8_laysBest_143 rfl (lv_at hl 3 rfl) ?_
                  refine va_get (D := G.1) (ci := 8) (v := .int (w1 42)) (C := RX8) (T := TX8) (N := 44) hx hb hts hin8 hown hK.1 hP 0 rfl rfl 42 (by decide) f238 (fun _ h9 => h9) rfl dX8_laysBest_144 ?_
                  refine top_i (y := Int32.ofInt (mxV (scM σ N) (64 * a))) (h42) ?_
                  refine lv_icmp_le (tgt := 154) hx hb dX8_laysBest_147 (by decide) (fun c_147 => ?_) (fun c_147 => ?_)
                  · refine lv_aload_n hx hb dX8_laysBest_154 rfl (lv_at hl 3 rfl) ?_
                    refine va_get (D := G.1) (ci := 8) (v := .int (w1 42)) (C := RX8) (T := TX8) (N := 44) hx hb hts hin8 hown hK.1 hP 0 rfl rfl 42 (by decide) f238 (fun _ h9 => h9) rfl dX8_laysBest_155 ?_
                    refine top_i (y := Int32.ofInt (mxV (scM σ N) (64 * a))) (h42) ?_
                    refine va_put (D := G.1) (ci := 8) (v := .int (Int32.ofInt (mxV (scM σ N) (64 * a)))) (ty := .int) (C := RX8) (T := TX8) (N := 44) hx hb hts hin8 tyX8 tyX8_ok nmX8 hown hK.1 hP hD hS 0 rfl rfl 42 (by decide) f238 (fun _ h9 => h9) rfl (by decide +kernel) rfl rfl (Nat.le_of_ble_eq_true rfl) dX8_laysBest_158 (fun H locs hP hD hS => ?_)
                    have hP : va_P G.1 vwCl [oB h 8 (oF8 (upd (upd w1 43 (nI (plV (scM σ N) a))) 42 (Int32.ofInt (mxV (scM σ N) (64 * a)))) q), aZ G (q 9) 64 ip, aI G (q 10) 64 se, aI G (q 11) 640 be, aI G (q 12) 640 he, aI G (q 13) 17 sa, aI G (q 36) 8 g36, aI G (q 37) 10 g37, aI G (q 38) 8 g38, aI G (q 39) 10 g39, aI G (q 40) 8 g40] H := hP
                    have hD : va_D A [oB h 8 (oF8 (upd (upd w1 43 (nI (plV (scM σ N) a))) 42 (Int32.ofInt (mxV (scM σ N) (64 * a)))) q), aZ G (q 9) 64 ip, aI G (q 10) 64 se, aI G (q 11) 640 be, aI G (q 12) 640 he, aI G (q 13) 17 sa, aI G (q 36) 8 g36, aI G (q 37) 10 g37, aI G (q 38) 8 g38, aI G (q 39) 10 g39, aI G (q 40) 8 g40] := hD
                    refine lv_iinc (v := nI (a + 1)) (lv' := [(1, .int (nI (a + 1))), (3, .int (nI j)), (2, .int hr), (0, .ref h)]) hx hb dX8_laysBest_161 hl (k := 2) rfl (inc_nI _ 1) (by decide) rfl (fun ls hl => ?_)
                    refine lv_goto (tgt := 12) hx hb dX8_laysBest_164 (by decide) ?_
                    exact ih12 (a + 1) (upd (upd w1 43 (nI (plV (scM σ N) a))) 42 (Int32.ofInt (mxV (scM σ N) (64 * a)))) g36 g37 g38 g39 g40 (by omega) (by omega) (by rw [mx_b64n c_106]; exact pk_us) (by rw [pl_no c_106 (Or.inl c_118)]; exact (pk_un (by decide)).trans pk_us) (h41x.imp id (fun q => ((pk_un (by decide)).trans (pk_un (by decide))).trans q)) (fun k9 e1 e2 e3 => ((pk_un e2).trans (pk_un e3)).trans (hsm1 k9 e1 e2 e3)) _ _ hP hD hS _ (lv_sub hl [0, 3] rfl)
                  · exact absurd r_106 c_147
                · rw [hhr, ← hx64] at c_118
                  have c_118 := (oI_inj (hxV_rng (σ := σ) hn8 a 64).1 (hxV_rng (σ := σ) hn8 a 64).2 (mxV_rng (σ := σ) hn8 (64 * a)).1 (mxV_rng (σ := σ) hn8 (64 * a)).2).mp c_118
                  refine lv_iload_n hx hb dX8_laysBest_121 rfl (lv_at hl 1 rfl) ?_
                  refine lv_if_lt (tgt := 134) hx hb dX8_laysBest_122 (by decide) (fun c_122 => ?_) (fun c_122 => ?_)
                  · rw [hhr, ← hx64] at c_122
                    have c_122 := (oI_neg (hxV_rng (σ := σ) hn8 a 64).1 (hxV_rng (σ := σ) hn8 a 64).2).mp c_122
                    refine lv_aload_n hx hb dX8_laysBest_134 rfl (lv_at hl 3 rfl) ?_
                    refine va_get (D := G.1) (ci := 8) (v := .int (w1 43)) (C := RX8) (T := TX8) (N := 44) hx hb hts hin8 hown hK.1 hP 0 rfl rfl 43 (by decide) f241 (fun _ h9 => h9) rfl dX8_laysBest_135 ?_
                    refine top_i (y := nI (plV (scM σ N) a)) (h43) ?_
                    refine va_put (D := G.1) (ci := 8) (v := .int (nI (plV (scM σ N) a))) (ty := .int) (C := RX8) (T := TX8) (N := 44) hx hb hts hin8 tyX8 tyX8_ok nmX8 hown hK.1 hP hD hS 0 rfl rfl 43 (by decide) f241 (fun _ h9 => h9) rfl (by decide +kernel) rfl rfl (Nat.le_of_ble_eq_true rfl) dX8_laysBest_138 (fun H locs hP hD hS => ?_)
                    have hP : va_P G.1 vwCl [oB h 8 (oF8 (upd w1 43 (nI (plV (scM σ N) a))) q), aZ G (q 9) 64 ip, aI G (q 10) 64 se, aI G (q 11) 640 be, aI G (q 12) 640 he, aI G (q 13) 17 sa, aI G (q 36) 8 g36, aI G (q 37) 10 g37, aI G (q 38) 8 g38, aI G (q 39) 10 g39, aI G (q 40) 8 g40] H := hP
                    have hD : va_D A [oB h 8 (oF8 (upd w1 43 (nI (plV (scM σ N) a))) q), aZ G (q 9) 64 ip, aI G (q 10) 64 se, aI G (q 11) 640 be, aI G (q 12) 640 he, aI G (q 13) 17 sa, aI G (q 36) 8 g36, aI G (q 37) 10 g37, aI G (q 38) 8 g38, aI G (q 39) 10 g39, aI G (q 40) 8 g40] := hD
                    refine lv_aload_n hx hb dX8_laysBest_141 rfl (lv_at hl 3 rfl) ?_
                    refine lv_iload_n hx hb dX8_laysBest_142 rfl (lv_at hl 1 rfl) ?_
                    refine lv_aload_n hx hb dX8_laysBest_143 rfl (lv_at hl 3 rfl) ?_
                    refine va_get (D := G.1) (ci := 8) (v := .int (w1 42)) (C := RX8) (T := TX8) (N := 44) hx hb hts hin8 hown hK.1 hP 0 rfl rfl 42 (by decide) f238 (fun _ h9 => h9) rfl dX8_laysBest_144 ?_
                    refine top_i (y := Int32.ofInt (mxV (scM σ N) (64 * a))) (h42) ?_
                    refine lv_icmp_le (tgt := 154) hx hb dX8_laysBest_147 (by decide) (fun c_147 => ?_) (fun c_147 => ?_)
                    · refine lv_aload_n hx hb dX8_laysBest_154 rfl (lv_at hl 3 rfl) ?_
                      refine va_get (D := G.1) (ci := 8) (v := .int (w1 42)) (C := RX8) (T := TX8) (N := 44) hx hb hts hin8 hown hK.1 hP 0 rfl rfl 42 (by decide) f238 (fun _ h9 => h9) rfl dX8_laysBest_155 ?_
                      refine top_i (y := Int32.ofInt (mxV (scM σ N) (64 * a))) (h42) ?_
                      refine va_put (D := G.1) (ci := 8) (v := .int (Int32.ofInt (mxV (scM σ N) (64 * a)))) (ty := .int) (C := RX8) (T := TX8) (N := 44) hx hb hts hin8 tyX8 tyX8_ok nmX8 hown hK.1 hP hD hS 0 rfl rfl 42 (by decide) f238 (fun _ h9 => h9) rfl (by decide +kernel) rfl rfl (Nat.le_of_ble_eq_true rfl) dX8_laysBest_158 (fun H locs hP hD hS => ?_)
                      have hP : va_P G.1 vwCl [oB h 8 (oF8 (upd (upd w1 43 (nI (plV (scM σ N) a))) 42 (Int32.ofInt (mxV (scM σ N) (64 * a)))) q), aZ G (q 9) 64 ip, aI G (q 10) 64 se, aI G (q 11) 640 be, aI G (q 12) 640 he, aI G (q 13) 17 sa, aI G (q 36) 8 g36, aI G (q 37) 10 g37, aI G (q 38) 8 g38, aI G (q 39) 10 g39, aI G (q 40) 8 g40] H := hP
                      have hD : va_D A [oB h 8 (oF8 (upd (upd w1 43 (nI (plV (scM σ N) a))) 42 (Int32.ofInt (mxV (scM σ N) (64 * a)))) q), aZ G (q 9) 64 ip, aI G (q 10) 64 se, aI G (q 11) 640 be, aI G (q 12) 640 he, aI G (q 13) 17 sa, aI G (q 36) 8 g36, aI G (q 37) 10 g37, aI G (q 38) 8 g38, aI G (q 39) 10 g39, aI G (q 40) 8 g40] := hD
                      refine lv_iinc (v := nI (a + 1)) (lv' := [(1, .int (nI (a + 1))), (3, .int (nI j)), (2, .int hr), (0, .ref h)]) hx hb dX8_laysBest_161 hl (k := 2) rfl (inc_nI _ 1) (by decide) rfl (fun ls hl => ?_)
                      refine lv_goto (tgt := 12) hx hb dX8_laysBest_164 (by decide) ?_
                      exact ih12 (a + 1) (upd (upd w1 43 (nI (plV (scM σ N) a))) 42 (Int32.ofInt (mxV (scM σ N) (64 * a)))) g36 g37 g38 g39 g40 (by omega) (by omega) (by rw [mx_b64n c_106]; exact pk_us) (by rw [pl_no c_106 (Or.inr c_122)]; exact (pk_un (by decide)).trans pk_us) (h41x.imp id (fun q => ((pk_un (by decide)).trans (pk_un (by decide))).trans q)) (fun k9 e1 e2 e3 => ((pk_un e2).trans (pk_un e3)).trans (hsm1 k9 e1 e2 e3)) _ _ hP hD hS _ (lv_sub hl [0, 3] rfl)
                    · exact absurd r_106 c_147
                  · rw [hhr, ← hx64] at c_122
                    have c_122 := fun e9 => c_122 ((oI_neg (hxV_rng (σ := σ) hn8 a 64).1 (hxV_rng (σ := σ) hn8 a 64).2).mpr e9)
                    refine lv_aload_n hx hb dX8_laysBest_125 rfl (lv_at hl 3 rfl) ?_
                    refine va_get (D := G.1) (ci := 8) (v := .int (w1 43)) (C := RX8) (T := TX8) (N := 44) hx hb hts hin8 hown hK.1 hP 0 rfl rfl 43 (by decide) f241 (fun _ h9 => h9) rfl dX8_laysBest_126 ?_
                    refine top_i (y := nI (plV (scM σ N) a)) (h43) ?_
                    refine lv_iconst (v := 1) hx hb dX8_laysBest_129 (by decide) ?_
                    refine lv_iadd hx hb dX8_laysBest_130 ?_
                    refine top_i (y := nI (plV (scM σ N) a + 1)) (nI_1 _) ?_
                    refine lv_goto (tgt := 138) hx hb dX8_laysBest_131 (by decide) ?_
                    refine va_put (D := G.1) (ci := 8) (v := .int (nI (plV (scM σ N) a + 1))) (ty := .int) (C := RX8) (T := TX8) (N := 44) hx hb hts hin8 tyX8 tyX8_ok nmX8 hown hK.1 hP hD hS 0 rfl rfl 43 (by decide) f241 (fun _ h9 => h9) rfl (by decide +kernel) rfl rfl (Nat.le_of_ble_eq_true rfl) dX8_laysBest_138 (fun H locs hP hD hS => ?_)
                    have hP : va_P G.1 vwCl [oB h 8 (oF8 (upd w1 43 (nI (plV (scM σ N) a + 1))) q), aZ G (q 9) 64 ip, aI G (q 10) 64 se, aI G (q 11) 640 be, aI G (q 12) 640 he, aI G (q 13) 17 sa, aI G (q 36) 8 g36, aI G (q 37) 10 g37, aI G (q 38) 8 g38, aI G (q 39) 10 g39, aI G (q 40) 8 g40] H := hP
                    have hD : va_D A [oB h 8 (oF8 (upd w1 43 (nI (plV (scM σ N) a + 1))) q), aZ G (q 9) 64 ip, aI G (q 10) 64 se, aI G (q 11) 640 be, aI G (q 12) 640 he, aI G (q 13) 17 sa, aI G (q 36) 8 g36, aI G (q 37) 10 g37, aI G (q 38) 8 g38, aI G (q 39) 10 g39, aI G (q 40) 8 g40] := hD
                    refine lv_aload_n hx hb dX8_laysBest_141 rfl (lv_at hl 3 rfl) ?_
                    refine lv_iload_n hx hb dX8_laysBest_142 rfl (lv_at hl 1 rfl) ?_
                    refine lv_aload_n hx hb dX8_laysBest_143 rfl (lv_at hl 3 rfl) ?_
                    refine va_get (D := G.1) (ci := 8) (v := .int (w1 42)) (C := RX8) (T := TX8) (N := 44) hx hb hts hin8 hown hK.1 hP 0 rfl rfl 42 (by decide) f238 (fun _ h9 => h9) rfl dX8_laysBest_144 ?_
                    refine top_i (y := Int32.ofInt (mxV (scM σ N) (64 * a))) (h42) ?_
                    refine lv_icmp_le (tgt := 154) hx hb dX8_laysBest_147 (by decide) (fun c_147 => ?_) (fun c_147 => ?_)
                    · refine lv_aload_n hx hb dX8_laysBest_154 rfl (lv_at hl 3 rfl) ?_
                      refine va_get (D := G.1) (ci := 8) (v := .int (w1 42)) (C := RX8) (T := TX8) (N := 44) hx hb hts hin8 hown hK.1 hP 0 rfl rfl 42 (by decide) f238 (fun _ h9 => h9) rfl dX8_laysBest_155 ?_
                      refine top_i (y := Int32.ofInt (mxV (scM σ N) (64 * a))) (h42) ?_
                      refine va_put (D := G.1) (ci := 8) (v := .int (Int32.ofInt (mxV (scM σ N) (64 * a)))) (ty := .int) (C := RX8) (T := TX8) (N := 44) hx hb hts hin8 tyX8 tyX8_ok nmX8 hown hK.1 hP hD hS 0 rfl rfl 42 (by decide) f238 (fun _ h9 => h9) rfl (by decide +kernel) rfl rfl (Nat.le_of_ble_eq_true rfl) dX8_laysBest_158 (fun H locs hP hD hS => ?_)
                      have hP : va_P G.1 vwCl [oB h 8 (oF8 (upd (upd w1 43 (nI (plV (scM σ N) a + 1))) 42 (Int32.ofInt (mxV (scM σ N) (64 * a)))) q), aZ G (q 9) 64 ip, aI G (q 10) 64 se, aI G (q 11) 640 be, aI G (q 12) 640 he, aI G (q 13) 17 sa, aI G (q 36) 8 g36, aI G (q 37) 10 g37, aI G (q 38) 8 g38, aI G (q 39) 10 g39, aI G (q 40) 8 g40] H := hP
                      have hD : va_D A [oB h 8 (oF8 (upd (upd w1 43 (nI (plV (scM σ N) a + 1))) 42 (Int32.ofInt (mxV (scM σ N) (64 * a)))) q), aZ G (q 9) 64 ip, aI G (q 10) 64 se, aI G (q 11) 640 be, aI G (q 12) 640 he, aI G (q 13) 17 sa, aI G (q 36) 8 g36, aI G (q 37) 10 g37, aI G (q 38) 8 g38, aI G (q 39) 10 g39, aI G (q 40) 8 g40] := hD
                      refine lv_iinc (v := nI (a + 1)) (lv' := [(1, .int (nI (a + 1))), (3, .int (nI j)), (2, .int hr), (0, .ref h)]) hx hb dX8_laysBest_161 hl (k := 2) rfl (inc_nI _ 1) (by decide) rfl (fun ls hl => ?_)
                      refine lv_goto (tgt := 12) hx hb dX8_laysBest_164 (by decide) ?_
                      exact ih12 (a + 1) (upd (upd w1 43 (nI (plV (scM σ N) a + 1))) 42 (Int32.ofInt (mxV (scM σ N) (64 * a)))) g36 g37 g38 g39 g40 (by omega) (by omega) (by rw [mx_b64n c_106]; exact pk_us) (by rw [pl_eq c_118 (Int.not_lt.mp c_122)]; exact (pk_un (by decide)).trans pk_us) (h41x.imp id (fun q => ((pk_un (by decide)).trans (pk_un (by decide))).trans q)) (fun k9 e1 e2 e3 => ((pk_un e2).trans (pk_un e3)).trans (hsm1 k9 e1 e2 e3)) _ _ hP hD hS _ (lv_sub hl [0, 3] rfl)
                    · exact absurd r_106 c_147
              · have r_106 := c_106
                rw [hhr, ← hx64] at c_106
                have c_106 := fun e9 => c_106 ((oI_le (hxV_rng (σ := σ) hn8 a 64).1 (hxV_rng (σ := σ) hn8 a 64).2 (mxV_rng (σ := σ) hn8 (64 * a)).1 (mxV_rng (σ := σ) hn8 (64 * a)).2).mpr e9)
                refine lv_iconst (v := 1) hx hb dX8_laysBest_109 (by decide) ?_
                refine lv_goto (tgt := 138) hx hb dX8_laysBest_110 (by decide) ?_
                refine va_put (D := G.1) (ci := 8) (v := .int 1) (ty := .int) (C := RX8) (T := TX8) (N := 44) hx hb hts hin8 tyX8 tyX8_ok nmX8 hown hK.1 hP hD hS 0 rfl rfl 43 (by decide) f241 (fun _ h9 => h9) rfl (by decide +kernel) rfl rfl (Nat.le_of_ble_eq_true rfl) dX8_laysBest_138 (fun H locs hP hD hS => ?_)
                have hP : va_P G.1 vwCl [oB h 8 (oF8 (upd w1 43 1) q), aZ G (q 9) 64 ip, aI G (q 10) 64 se, aI G (q 11) 640 be, aI G (q 12) 640 he, aI G (q 13) 17 sa, aI G (q 36) 8 g36, aI G (q 37) 10 g37, aI G (q 38) 8 g38, aI G (q 39) 10 g39, aI G (q 40) 8 g40] H := hP
                have hD : va_D A [oB h 8 (oF8 (upd w1 43 1) q), aZ G (q 9) 64 ip, aI G (q 10) 64 se, aI G (q 11) 640 be, aI G (q 12) 640 he, aI G (q 13) 17 sa, aI G (q 36) 8 g36, aI G (q 37) 10 g37, aI G (q 38) 8 g38, aI G (q 39) 10 g39, aI G (q 40) 8 g40] := hD
                refine lv_aload_n hx hb dX8_laysBest_141 rfl (lv_at hl 3 rfl) ?_
                refine lv_iload_n hx hb dX8_laysBest_142 rfl (lv_at hl 1 rfl) ?_
                refine lv_aload_n hx hb dX8_laysBest_143 rfl (lv_at hl 3 rfl) ?_
                refine va_get (D := G.1) (ci := 8) (v := .int (w1 42)) (C := RX8) (T := TX8) (N := 44) hx hb hts hin8 hown hK.1 hP 0 rfl rfl 42 (by decide) f238 (fun _ h9 => h9) rfl dX8_laysBest_144 ?_
                refine top_i (y := Int32.ofInt (mxV (scM σ N) (64 * a))) (h42) ?_
                refine lv_icmp_le (tgt := 154) hx hb dX8_laysBest_147 (by decide) (fun c_147 => ?_) (fun c_147 => ?_)
                · exact absurd c_147 r_106
                · refine lv_iload_n hx hb dX8_laysBest_150 rfl (lv_at hl 1 rfl) ?_
                  refine lv_goto (tgt := 158) hx hb dX8_laysBest_151 (by decide) ?_
                  refine va_put (D := G.1) (ci := 8) (v := .int hr) (ty := .int) (C := RX8) (T := TX8) (N := 44) hx hb hts hin8 tyX8 tyX8_ok nmX8 hown hK.1 hP hD hS 0 rfl rfl 42 (by decide) f238 (fun _ h9 => h9) rfl (by decide +kernel) rfl rfl (Nat.le_of_ble_eq_true rfl) dX8_laysBest_158 (fun H locs hP hD hS => ?_)
                  have hP : va_P G.1 vwCl [oB h 8 (oF8 (upd (upd w1 43 1) 42 hr) q), aZ G (q 9) 64 ip, aI G (q 10) 64 se, aI G (q 11) 640 be, aI G (q 12) 640 he, aI G (q 13) 17 sa, aI G (q 36) 8 g36, aI G (q 37) 10 g37, aI G (q 38) 8 g38, aI G (q 39) 10 g39, aI G (q 40) 8 g40] H := hP
                  have hD : va_D A [oB h 8 (oF8 (upd (upd w1 43 1) 42 hr) q), aZ G (q 9) 64 ip, aI G (q 10) 64 se, aI G (q 11) 640 be, aI G (q 12) 640 he, aI G (q 13) 17 sa, aI G (q 36) 8 g36, aI G (q 37) 10 g37, aI G (q 38) 8 g38, aI G (q 39) 10 g39, aI G (q 40) 8 g40] := hD
                  refine lv_iinc (v := nI (a + 1)) (lv' := [(1, .int (nI (a + 1))), (3, .int (nI j)), (2, .int hr), (0, .ref h)]) hx hb dX8_laysBest_161 hl (k := 2) rfl (inc_nI _ 1) (by decide) rfl (fun ls hl => ?_)
                  refine lv_goto (tgt := 12) hx hb dX8_laysBest_164 (by decide) ?_
                  exact ih12 (a + 1) (upd (upd w1 43 1) 42 hr) g36 g37 g38 g39 g40 (by omega) (by omega) (by rw [mx_b64u c_106, hx64, ← hhr]; exact pk_us) (by rw [pl_up c_106]; exact (pk_un (by decide)).trans pk_us) (h41x.imp id (fun q => ((pk_un (by decide)).trans (pk_un (by decide))).trans q)) (fun k9 e1 e2 e3 => ((pk_un e2).trans (pk_un e3)).trans (hsm1 k9 e1 e2 e3)) _ _ hP hD hS _ (lv_sub hl [0, 3] rfl)
            · have c_25 : ¬ 64 ≤ j := fun hne => c_25 ((c_le (a := 64) (b := j) rfl rfl (by omega) (by omega)).mpr hne)
              refine lv_aload_n hx hb dX8_laysBest_28 rfl (lv_at hl 3 rfl) ?_
              refine va_get (D := G.1) (ci := 8) (v := .ref (q 9)) (C := RX8) (T := TX8) (N := 44) hx hb hts hin8 hown hK.1 hP 0 rfl rfl 9 (by decide) f25 (fun _ h9 => h9) rfl dX8_laysBest_29 ?_
              refine lv_iload_n hx hb dX8_laysBest_32 rfl (lv_at hl 2 rfl) ?_
              refine al_z hx hb hK.1 hP 1 2 rfl rfl (j := a) (by omega) (Nat.le_of_ble_eq_true rfl) dX8_laysBest_33 ?_
              refine top_i (y := b2i (decide (cPk σ a = 0))) (hip _ (by omega)) ?_
              refine lv_if_eq (tgt := 100) hx hb dX8_laysBest_34 (by decide) (fun c_34 => ?_) (fun c_34 => ?_)
              · have c_34 : (decide (cPk σ a = 0)) = false := b2i_0.mp c_34
                have hcn : ¬ cPk σ a = 0 := of_decide_eq_false c_34
                have hj0 : j = 0 := hpj.resolve_left hcn
                have hx64 : hxV (scM σ N) a 64 = hxV (scM σ N) a j := hx_none hcn hj0
                have h41x : mxV (scM σ N) (64 * (a + 1)) ≤ -1 ∨ w1 41 = nI (agV (scM σ N) (64 * (a + 1))) := by obtain ⟨e8, e9⟩ := ag_none (N := N) hcn 64 (by omega); show mxV (scM σ N) (64 * a + 64) ≤ -1 ∨ w1 41 = nI (agV (scM σ N) (64 * a + 64)); rw [e8, e9]; have e7 := h41; rw [hj0] at e7; exact e7
                refine lv_aload_n hx hb dX8_laysBest_100 rfl (lv_at hl 3 rfl) ?_
                refine lv_iload_n hx hb dX8_laysBest_101 rfl (lv_at hl 1 rfl) ?_
                refine lv_aload_n hx hb dX8_laysBest_102 rfl (lv_at hl 3 rfl) ?_
                refine va_get (D := G.1) (ci := 8) (v := .int (w1 42)) (C := RX8) (T := TX8) (N := 44) hx hb hts hin8 hown hK.1 hP 0 rfl rfl 42 (by decide) f238 (fun _ h9 => h9) rfl dX8_laysBest_103 ?_
                refine top_i (y := Int32.ofInt (mxV (scM σ N) (64 * a))) (h42) ?_
                refine lv_icmp_le (tgt := 113) hx hb dX8_laysBest_106 (by decide) (fun c_106 => ?_) (fun c_106 => ?_)
                · have r_106 := c_106
                  rw [hhr, ← hx64] at c_106
                  have c_106 := (oI_le (hxV_rng (σ := σ) hn8 a 64).1 (hxV_rng (σ := σ) hn8 a 64).2 (mxV_rng (σ := σ) hn8 (64 * a)).1 (mxV_rng (σ := σ) hn8 (64 * a)).2).mp c_106
                  refine lv_iload_n hx hb dX8_laysBest_113 rfl (lv_at hl 1 rfl) ?_
                  refine lv_aload_n hx hb dX8_laysBest_114 rfl (lv_at hl 3 rfl) ?_
                  refine va_get (D := G.1) (ci := 8) (v := .int (w1 42)) (C := RX8) (T := TX8) (N := 44) hx hb hts hin8 hown hK.1 hP 0 rfl rfl 42 (by decide) f238 (fun _ h9 => h9) rfl dX8_laysBest_115 ?_
                  refine top_i (y := Int32.ofInt (mxV (scM σ N) (64 * a))) (h42) ?_
                  refine lv_icmp_ne (tgt := 134) hx hb dX8_laysBest_118 (by decide) (fun c_118 => ?_) (fun c_118 => ?_)
                  · rw [hhr, ← hx64] at c_118
                    have c_118 := fun e9 => c_118 ((oI_inj (hxV_rng (σ := σ) hn8 a 64).1 (hxV_rng (σ := σ) hn8 a 64).2 (mxV_rng (σ := σ) hn8 (64 * a)).1 (mxV_rng (σ := σ) hn8 (64 * a)).2).mpr e9)
                    refine lv_aload_n hx hb dX8_laysBest_134 rfl (lv_at hl 3 rfl) ?_
                    refine va_get (D := G.1) (ci := 8) (v := .int (w1 43)) (C := RX8) (T := TX8) (N := 44) hx hb hts hin8 hown hK.1 hP 0 rfl rfl 43 (by decide) f241 (fun _ h9 => h9) rfl dX8_laysBest_135 ?_
                    refine top_i (y := nI (plV (scM σ N) a)) (h43) ?_
                    refine va_put (D := G.1) (ci := 8) (v := .int (nI (plV (scM σ N) a))) (ty := .int) (C := RX8) (T := TX8) (N := 44) hx hb hts hin8 tyX8 tyX8_ok nmX8 hown hK.1 hP hD hS 0 rfl rfl 43 (by decide) f241 (fun _ h9 => h9) rfl (by decide +kernel) rfl rfl (Nat.le_of_ble_eq_true rfl) dX8_laysBest_138 (fun H locs hP hD hS => ?_)
                    have hP : va_P G.1 vwCl [oB h 8 (oF8 (upd w1 43 (nI (plV (scM σ N) a))) q), aZ G (q 9) 64 ip, aI G (q 10) 64 se, aI G (q 11) 640 be, aI G (q 12) 640 he, aI G (q 13) 17 sa, aI G (q 36) 8 g36, aI G (q 37) 10 g37, aI G (q 38) 8 g38, aI G (q 39) 10 g39, aI G (q 40) 8 g40] H := hP
                    have hD : va_D A [oB h 8 (oF8 (upd w1 43 (nI (plV (scM σ N) a))) q), aZ G (q 9) 64 ip, aI G (q 10) 64 se, aI G (q 11) 640 be, aI G (q 12) 640 he, aI G (q 13) 17 sa, aI G (q 36) 8 g36, aI G (q 37) 10 g37, aI G (q 38) 8 g38, aI G (q 39) 10 g39, aI G (q 40) 8 g40] := hD
                    refine lv_aload_n hx hb dX8_laysBest_141 rfl (lv_at hl 3 rfl) ?_
                    refine lv_iload_n hx hb dX8_laysBest_142 rfl (lv_at hl 1 rfl) ?_
                    refine lv_aload_n hx hb dX8_laysBest_143 rfl (lv_at hl 3 rfl) ?_
                    refine va_get (D := G.1) (ci := 8) (v := .int (w1 42)) (C := RX8) (T := TX8) (N := 44) hx hb hts hin8 hown hK.1 hP 0 rfl rfl 42 (by decide) f238 (fun _ h9 => h9) rfl dX8_laysBest_144 ?_
                    refine top_i (y := Int32.ofInt (mxV (scM σ N) (64 * a))) (h42) ?_
                    refine lv_icmp_le (tgt := 154) hx hb dX8_laysBest_147 (by decide) (fun c_147 => ?_) (fun c_147 => ?_)
                    · refine lv_aload_n hx hb dX8_laysBest_154 rfl (lv_at hl 3 rfl) ?_
                      refine va_get (D := G.1) (ci := 8) (v := .int (w1 42)) (C := RX8) (T := TX8) (N := 44) hx hb hts hin8 hown hK.1 hP 0 rfl rfl 42 (by decide) f238 (fun _ h9 => h9) rfl dX8_laysBest_155 ?_
                      refine top_i (y := Int32.ofInt (mxV (scM σ N) (64 * a))) (h42) ?_
                      refine va_put (D := G.1) (ci := 8) (v := .int (Int32.ofInt (mxV (scM σ N) (64 * a)))) (ty := .int) (C := RX8) (T := TX8) (N := 44) hx hb hts hin8 tyX8 tyX8_ok nmX8 hown hK.1 hP hD hS 0 rfl rfl 42 (by decide) f238 (fun _ h9 => h9) rfl (by decide +kernel) rfl rfl (Nat.le_of_ble_eq_true rfl) dX8_laysBest_158 (fun H locs hP hD hS => ?_)
                      have hP : va_P G.1 vwCl [oB h 8 (oF8 (upd (upd w1 43 (nI (plV (scM σ N) a))) 42 (Int32.ofInt (mxV (scM σ N) (64 * a)))) q), aZ G (q 9) 64 ip, aI G (q 10) 64 se, aI G (q 11) 640 be, aI G (q 12) 640 he, aI G (q 13) 17 sa, aI G (q 36) 8 g36, aI G (q 37) 10 g37, aI G (q 38) 8 g38, aI G (q 39) 10 g39, aI G (q 40) 8 g40] H := hP
                      have hD : va_D A [oB h 8 (oF8 (upd (upd w1 43 (nI (plV (scM σ N) a))) 42 (Int32.ofInt (mxV (scM σ N) (64 * a)))) q), aZ G (q 9) 64 ip, aI G (q 10) 64 se, aI G (q 11) 640 be, aI G (q 12) 640 he, aI G (q 13) 17 sa, aI G (q 36) 8 g36, aI G (q 37) 10 g37, aI G (q 38) 8 g38, aI G (q 39) 10 g39, aI G (q 40) 8 g40] := hD
                      refine lv_iinc (v := nI (a + 1)) (lv' := [(1, .int (nI (a + 1))), (3, .int (nI j)), (2, .int hr), (0, .ref h)]) hx hb dX8_laysBest_161 hl (k := 2) rfl (inc_nI _ 1) (by decide) rfl (fun ls hl => ?_)
                      refine lv_goto (tgt := 12) hx hb dX8_laysBest_164 (by decide) ?_
                      exact ih12 (a + 1) (upd (upd w1 43 (nI (plV (scM σ N) a))) 42 (Int32.ofInt (mxV (scM σ N) (64 * a)))) g36 g37 g38 g39 g40 (by omega) (by omega) (by rw [mx_b64n c_106]; exact pk_us) (by rw [pl_no c_106 (Or.inl c_118)]; exact (pk_un (by decide)).trans pk_us) (h41x.imp id (fun q => ((pk_un (by decide)).trans (pk_un (by decide))).trans q)) (fun k9 e1 e2 e3 => ((pk_un e2).trans (pk_un e3)).trans (hsm1 k9 e1 e2 e3)) _ _ hP hD hS _ (lv_sub hl [0, 3] rfl)
                    · exact absurd r_106 c_147
                  · rw [hhr, ← hx64] at c_118
                    have c_118 := (oI_inj (hxV_rng (σ := σ) hn8 a 64).1 (hxV_rng (σ := σ) hn8 a 64).2 (mxV_rng (σ := σ) hn8 (64 * a)).1 (mxV_rng (σ := σ) hn8 (64 * a)).2).mp c_118
                    refine lv_iload_n hx hb dX8_laysBest_121 rfl (lv_at hl 1 rfl) ?_
                    refine lv_if_lt (tgt := 134) hx hb dX8_laysBest_122 (by decide) (fun c_122 => ?_) (fun c_122 => ?_)
                    · rw [hhr, ← hx64] at c_122
                      have c_122 := (oI_neg (hxV_rng (σ := σ) hn8 a 64).1 (hxV_rng (σ := σ) hn8 a 64).2).mp c_122
                      refine lv_aload_n hx hb dX8_laysBest_134 rfl (lv_at hl 3 rfl) ?_
                      refine va_get (D := G.1) (ci := 8) (v := .int (w1 43)) (C := RX8) (T := TX8) (N := 44) hx hb hts hin8 hown hK.1 hP 0 rfl rfl 43 (by decide) f241 (fun _ h9 => h9) rfl dX8_laysBest_135 ?_
                      refine top_i (y := nI (plV (scM σ N) a)) (h43) ?_
                      refine va_put (D := G.1) (ci := 8) (v := .int (nI (plV (scM σ N) a))) (ty := .int) (C := RX8) (T := TX8) (N := 44) hx hb hts hin8 tyX8 tyX8_ok nmX8 hown hK.1 hP hD hS 0 rfl rfl 43 (by decide) f241 (fun _ h9 => h9) rfl (by decide +kernel) rfl rfl (Nat.le_of_ble_eq_true rfl) dX8_laysBest_138 (fun H locs hP hD hS => ?_)
                      have hP : va_P G.1 vwCl [oB h 8 (oF8 (upd w1 43 (nI (plV (scM σ N) a))) q), aZ G (q 9) 64 ip, aI G (q 10) 64 se, aI G (q 11) 640 be, aI G (q 12) 640 he, aI G (q 13) 17 sa, aI G (q 36) 8 g36, aI G (q 37) 10 g37, aI G (q 38) 8 g38, aI G (q 39) 10 g39, aI G (q 40) 8 g40] H := hP
                      have hD : va_D A [oB h 8 (oF8 (upd w1 43 (nI (plV (scM σ N) a))) q), aZ G (q 9) 64 ip, aI G (q 10) 64 se, aI G (q 11) 640 be, aI G (q 12) 640 he, aI G (q 13) 17 sa, aI G (q 36) 8 g36, aI G (q 37) 10 g37, aI G (q 38) 8 g38, aI G (q 39) 10 g39, aI G (q 40) 8 g40] := hD
                      refine lv_aload_n hx hb dX8_laysBest_141 rfl (lv_at hl 3 rfl) ?_
                      refine lv_iload_n hx hb dX8_laysBest_142 rfl (lv_at hl 1 rfl) ?_
                      refine lv_aload_n hx hb dX8_laysBest_143 rfl (lv_at hl 3 rfl) ?_
                      refine va_get (D := G.1) (ci := 8) (v := .int (w1 42)) (C := RX8) (T := TX8) (N := 44) hx hb hts hin8 hown hK.1 hP 0 rfl rfl 42 (by decide) f238 (fun _ h9 => h9) rfl dX8_laysBest_144 ?_
                      refine top_i (y := Int32.ofInt (mxV (scM σ N) (64 * a))) (h42) ?_
                      refine lv_icmp_le (tgt := 154) hx hb dX8_laysBest_147 (by decide) (fun c_147 => ?_) (fun c_147 => ?_)
                      · refine lv_aload_n hx hb dX8_laysBest_154 rfl (lv_at hl 3 rfl) ?_
                        refine va_get (D := G.1) (ci := 8) (v := .int (w1 42)) (C := RX8) (T := TX8) (N := 44) hx hb hts hin8 hown hK.1 hP 0 rfl rfl 42 (by decide) f238 (fun _ h9 => h9) rfl dX8_laysBest_155 ?_
                        refine top_i (y := Int32.ofInt (mxV (scM σ N) (64 * a))) (h42) ?_
                        refine va_put (D := G.1) (ci := 8) (v := .int (Int32.ofInt (mxV (scM σ N) (64 * a)))) (ty := .int) (C := RX8) (T := TX8) (N := 44) hx hb hts hin8 tyX8 tyX8_ok nmX8 hown hK.1 hP hD hS 0 rfl rfl 42 (by decide) f238 (fun _ h9 => h9) rfl (by decide +kernel) rfl rfl (Nat.le_of_ble_eq_true rfl) dX8_laysBest_158 (fun H locs hP hD hS => ?_)
                        have hP : va_P G.1 vwCl [oB h 8 (oF8 (upd (upd w1 43 (nI (plV (scM σ N) a))) 42 (Int32.ofInt (mxV (scM σ N) (64 * a)))) q), aZ G (q 9) 64 ip, aI G (q 10) 64 se, aI G (q 11) 640 be, aI G (q 12) 640 he, aI G (q 13) 17 sa, aI G (q 36) 8 g36, aI G (q 37) 10 g37, aI G (q 38) 8 g38, aI G (q 39) 10 g39, aI G (q 40) 8 g40] H := hP
                        have hD : va_D A [oB h 8 (oF8 (upd (upd w1 43 (nI (plV (scM σ N) a))) 42 (Int32.ofInt (mxV (scM σ N) (64 * a)))) q), aZ G (q 9) 64 ip, aI G (q 10) 64 se, aI G (q 11) 640 be, aI G (q 12) 640 he, aI G (q 13) 17 sa, aI G (q 36) 8 g36, aI G (q 37) 10 g37, aI G (q 38) 8 g38, aI G (q 39) 10 g39, aI G (q 40) 8 g40] := hD
                        refine lv_iinc (v := nI (a + 1)) (lv' := [(1, .int (nI (a + 1))), (3, .int (nI j)), (2, .int hr), (0, .ref h)]) hx hb dX8_laysBest_161 hl (k := 2) rfl (inc_nI _ 1) (by decide) rfl (fun ls hl => ?_)
                        refine lv_goto (tgt := 12) hx hb dX8_laysBest_164 (by decide) ?_
                        exact ih12 (a + 1) (upd (upd w1 43 (nI (plV (scM σ N) a))) 42 (Int32.ofInt (mxV (scM σ N) (64 * a)))) g36 g37 g38 g39 g40 (by omega) (by omega) (by rw [mx_b64n c_106]; exact pk_us) (by rw [pl_no c_106 (Or.inr c_122)]; exact (pk_un (by decide)).trans pk_us) (h41x.imp id (fun q => ((pk_un (by decide)).trans (pk_un (by decide))).trans q)) (fun k9 e1 e2 e3 => ((pk_un e2).trans (pk_un e3)).trans (hsm1 k9 e1 e2 e3)) _ _ hP hD hS _ (lv_sub hl [0, 3] rfl)
                      · exact absurd r_106 c_147
                    · rw [hhr, ← hx64] at c_122
                      have c_122 := fun e9 => c_122 ((oI_neg (hxV_rng (σ := σ) hn8 a 64).1 (hxV_rng (σ := σ) hn8 a 64).2).mpr e9)
                      refine lv_aload_n hx hb dX8_laysBest_125 rfl (lv_at hl 3 rfl) ?_
                      refine va_get (D := G.1) (ci := 8) (v := .int (w1 43)) (C := RX8) (T := TX8) (N := 44) hx hb hts hin8 hown hK.1 hP 0 rfl rfl 43 (by decide) f241 (fun _ h9 => h9) rfl dX8_laysBest_126 ?_
                      refine top_i (y := nI (plV (scM σ N) a)) (h43) ?_
                      refine lv_iconst (v := 1) hx hb dX8_laysBest_129 (by decide) ?_
                      refine lv_iadd hx hb dX8_laysBest_130 ?_
                      refine top_i (y := nI (plV (scM σ N) a + 1)) (nI_1 _) ?_
                      refine lv_goto (tgt := 138) hx hb dX8_laysBest_131 (by decide) ?_
                      refine va_put (D := G.1) (ci := 8) (v := .int (nI (plV (scM σ N) a + 1))) (ty := .int) (C := RX8) (T := TX8) (N := 44) hx hb hts hin8 tyX8 tyX8_ok nmX8 hown hK.1 hP hD hS 0 rfl rfl 43 (by decide) f241 (fun _ h9 => h9) rfl (by decide +kernel) rfl rfl (Nat.le_of_ble_eq_true rfl) dX8_laysBest_138 (fun H locs hP hD hS => ?_)
                      have hP : va_P G.1 vwCl [oB h 8 (oF8 (upd w1 43 (nI (plV (scM σ N) a + 1))) q), aZ G (q 9) 64 ip, aI G (q 10) 64 se, aI G (q 11) 640 be, aI G (q 12) 640 he, aI G (q 13) 17 sa, aI G (q 36) 8 g36, aI G (q 37) 10 g37, aI G (q 38) 8 g38, aI G (q 39) 10 g39, aI G (q 40) 8 g40] H := hP
                      have hD : va_D A [oB h 8 (oF8 (upd w1 43 (nI (plV (scM σ N) a + 1))) q), aZ G (q 9) 64 ip, aI G (q 10) 64 se, aI G (q 11) 640 be, aI G (q 12) 640 he, aI G (q 13) 17 sa, aI G (q 36) 8 g36, aI G (q 37) 10 g37, aI G (q 38) 8 g38, aI G (q 39) 10 g39, aI G (q 40) 8 g40] := hD
                      refine lv_aload_n hx hb dX8_laysBest_141 rfl (lv_at hl 3 rfl) ?_
                      refine lv_iload_n hx hb dX8_laysBest_142 rfl (lv_at hl 1 rfl) ?_
                      refine lv_aload_n hx hb dX8_laysBest_143 rfl (lv_at hl 3 rfl) ?_
                      refine va_get (D := G.1) (ci := 8) (v := .int (w1 42)) (C := RX8) (T := TX8) (N := 44) hx hb hts hin8 hown hK.1 hP 0 rfl rfl 42 (by decide) f238 (fun _ h9 => h9) rfl dX8_laysBest_144 ?_
                      refine top_i (y := Int32.ofInt (mxV (scM σ N) (64 * a))) (h42) ?_
                      refine lv_icmp_le (tgt := 154) hx hb dX8_laysBest_147 (by decide) (fun c_147 => ?_) (fun c_147 => ?_)
                      · refine lv_aload_n hx hb dX8_laysBest_154 rfl (lv_at hl 3 rfl) ?_
                        refine va_get (D := G.1) (ci := 8) (v := .int (w1 42)) (C := RX8) (T := TX8) (N := 44) hx hb hts hin8 hown hK.1 hP 0 rfl rfl 42 (by decide) f238 (fun _ h9 => h9) rfl dX8_laysBest_155 ?_
                        refine top_i (y := Int32.ofInt (mxV (scM σ N) (64 * a))) (h42) ?_
                        refine va_put (D := G.1) (ci := 8) (v := .int (Int32.ofInt (mxV (scM σ N) (64 * a)))) (ty := .int) (C := RX8) (T := TX8) (N := 44) hx hb hts hin8 tyX8 tyX8_ok nmX8 hown hK.1 hP hD hS 0 rfl rfl 42 (by decide) f238 (fun _ h9 => h9) rfl (by decide +kernel) rfl rfl (Nat.le_of_ble_eq_true rfl) dX8_laysBest_158 (fun H locs hP hD hS => ?_)
                        have hP : va_P G.1 vwCl [oB h 8 (oF8 (upd (upd w1 43 (nI (plV (scM σ N) a + 1))) 42 (Int32.ofInt (mxV (scM σ N) (64 * a)))) q), aZ G (q 9) 64 ip, aI G (q 10) 64 se, aI G (q 11) 640 be, aI G (q 12) 640 he, aI G (q 13) 17 sa, aI G (q 36) 8 g36, aI G (q 37) 10 g37, aI G (q 38) 8 g38, aI G (q 39) 10 g39, aI G (q 40) 8 g40] H := hP
                        have hD : va_D A [oB h 8 (oF8 (upd (upd w1 43 (nI (plV (scM σ N) a + 1))) 42 (Int32.ofInt (mxV (scM σ N) (64 * a)))) q), aZ G (q 9) 64 ip, aI G (q 10) 64 se, aI G (q 11) 640 be, aI G (q 12) 640 he, aI G (q 13) 17 sa, aI G (q 36) 8 g36, aI G (q 37) 10 g37, aI G (q 38) 8 g38, aI G (q 39) 10 g39, aI G (q 40) 8 g40] := hD
                        refine lv_iinc (v := nI (a + 1)) (lv' := [(1, .int (nI (a + 1))), (3, .int (nI j)), (2, .int hr), (0, .ref h)]) hx hb dX8_laysBest_161 hl (k := 2) rfl (inc_nI _ 1) (by decide) rfl (fun ls hl => ?_)
                        refine lv_goto (tgt := 12) hx hb dX8_laysBest_164 (by decide) ?_
                        exact ih12 (a + 1) (upd (upd w1 43 (nI (plV (scM σ N) a + 1))) 42 (Int32.ofInt (mxV (scM σ N) (64 * a)))) g36 g37 g38 g39 g40 (by omega) (by omega) (by rw [mx_b64n c_106]; exact pk_us) (by rw [pl_eq c_118 (Int.not_lt.mp c_122)]; exact (pk_un (by decide)).trans pk_us) (h41x.imp id (fun q => ((pk_un (by decide)).trans (pk_un (by decide))).trans q)) (fun k9 e1 e2 e3 => ((pk_un e2).trans (pk_un e3)).trans (hsm1 k9 e1 e2 e3)) _ _ hP hD hS _ (lv_sub hl [0, 3] rfl)
                      · exact absurd r_106 c_147
                · have r_106 := c_106
                  rw [hhr, ← hx64] at c_106
                  have c_106 := fun e9 => c_106 ((oI_le (hxV_rng (σ := σ) hn8 a 64).1 (hxV_rng (σ := σ) hn8 a 64).2 (mxV_rng (σ := σ) hn8 (64 * a)).1 (mxV_rng (σ := σ) hn8 (64 * a)).2).mpr e9)
                  refine lv_iconst (v := 1) hx hb dX8_laysBest_109 (by decide) ?_
                  refine lv_goto (tgt := 138) hx hb dX8_laysBest_110 (by decide) ?_
                  refine va_put (D := G.1) (ci := 8) (v := .int 1) (ty := .int) (C := RX8) (T := TX8) (N := 44) hx hb hts hin8 tyX8 tyX8_ok nmX8 hown hK.1 hP hD hS 0 rfl rfl 43 (by decide) f241 (fun _ h9 => h9) rfl (by decide +kernel) rfl rfl (Nat.le_of_ble_eq_true rfl) dX8_laysBest_138 (fun H locs hP hD hS => ?_)
                  have hP : va_P G.1 vwCl [oB h 8 (oF8 (upd w1 43 1) q), aZ G (q 9) 64 ip, aI G (q 10) 64 se, aI G (q 11) 640 be, aI G (q 12) 640 he, aI G (q 13) 17 sa, aI G (q 36) 8 g36, aI G (q 37) 10 g37, aI G (q 38) 8 g38, aI G (q 39) 10 g39, aI G (q 40) 8 g40] H := hP
                  have hD : va_D A [oB h 8 (oF8 (upd w1 43 1) q), aZ G (q 9) 64 ip, aI G (q 10) 64 se, aI G (q 11) 640 be, aI G (q 12) 640 he, aI G (q 13) 17 sa, aI G (q 36) 8 g36, aI G (q 37) 10 g37, aI G (q 38) 8 g38, aI G (q 39) 10 g39, aI G (q 40) 8 g40] := hD
                  refine lv_aload_n hx hb dX8_laysBest_141 rfl (lv_at hl 3 rfl) ?_
                  refine lv_iload_n hx hb dX8_laysBest_142 rfl (lv_at hl 1 rfl) ?_
                  refine lv_aload_n hx hb dX8_laysBest_143 rfl (lv_at hl 3 rfl) ?_
                  refine va_get (D := G.1) (ci := 8) (v := .int (w1 42)) (C := RX8) (T := TX8) (N := 44) hx hb hts hin8 hown hK.1 hP 0 rfl rfl 42 (by decide) f238 (fun _ h9 => h9) rfl dX8_laysBest_144 ?_
                  refine top_i (y := Int32.ofInt (mxV (scM σ N) (64 * a))) (h42) ?_
                  refine lv_icmp_le (tgt := 154) hx hb dX8_laysBest_147 (by decide) (fun c_147 => ?_) (fun c_147 => ?_)
                  · exact absurd c_147 r_106
                  · refine lv_iload_n hx hb dX8_laysBest_150 rfl (lv_at hl 1 rfl) ?_
                    refine lv_goto (tgt := 158) hx hb dX8_laysBest_151 (by decide) ?_
                    refine va_put (D := G.1) (ci := 8) (v := .int hr) (ty := .int) (C := RX8) (T := TX8) (N := 44) hx hb hts hin8 tyX8 tyX8_ok nmX8 hown hK.1 hP hD hS 0 rfl rfl 42 (by decide) f238 (fun _ h9 => h9) rfl (by decide +kernel) rfl rfl (Nat.le_of_ble_eq_true rfl) dX8_laysBest_158 (fun H locs hP hD hS => ?_)
                    have hP : va_P G.1 vwCl [oB h 8 (oF8 (upd (upd w1 43 1) 42 hr) q), aZ G (q 9) 64 ip, aI G (q 10) 64 se, aI G (q 11) 640 be, aI G (q 12) 640 he, aI G (q 13) 17 sa, aI G (q 36) 8 g36, aI G (q 37) 10 g37, aI G (q 38) 8 g38, aI G (q 39) 10 g39, aI G (q 40) 8 g40] H := hP
                    have hD : va_D A [oB h 8 (oF8 (upd (upd w1 43 1) 42 hr) q), aZ G (q 9) 64 ip, aI G (q 10) 64 se, aI G (q 11) 640 be, aI G (q 12) 640 he, aI G (q 13) 17 sa, aI G (q 36) 8 g36, aI G (q 37) 10 g37, aI G (q 38) 8 g38, aI G (q 39) 10 g39, aI G (q 40) 8 g40] := hD
                    refine lv_iinc (v := nI (a + 1)) (lv' := [(1, .int (nI (a + 1))), (3, .int (nI j)), (2, .int hr), (0, .ref h)]) hx hb dX8_laysBest_161 hl (k := 2) rfl (inc_nI _ 1) (by decide) rfl (fun ls hl => ?_)
                    refine lv_goto (tgt := 12) hx hb dX8_laysBest_164 (by decide) ?_
                    exact ih12 (a + 1) (upd (upd w1 43 1) 42 hr) g36 g37 g38 g39 g40 (by omega) (by omega) (by rw [mx_b64u c_106, hx64, ← hhr]; exact pk_us) (by rw [pl_up c_106]; exact (pk_un (by decide)).trans pk_us) (h41x.imp id (fun q => ((pk_un (by decide)).trans (pk_un (by decide))).trans q)) (fun k9 e1 e2 e3 => ((pk_un e2).trans (pk_un e3)).trans (hsm1 k9 e1 e2 e3)) _ _ hP hD hS _ (lv_sub hl [0, 3] rfl)
              · have c_34 : (decide (cPk σ a = 0)) = true := b2i_n0.mp c_34
                have hc : cPk σ a = 0 := of_decide_eq_true c_34
                have hLMw := LM_v hLM0 (hsm1 1 (by decide) (by decide) (by decide)) (hsm1 5 (by decide) (by decide) (by decide)) (hsm1 8 (by decide) (by decide) (by decide))
                refine lv_aload_n hx hb dX8_laysBest_37 rfl (lv_at hl 3 rfl) ?_
                refine lv_iload_n hx hb dX8_laysBest_38 rfl (lv_at hl 2 rfl) ?_
                refine lv_iload_n hx hb dX8_laysBest_39 rfl (lv_at hl 0 rfl) ?_
                refine lv_bipush (v := -9) hx hb dX8_laysBest_40 (by decide) ?_
                refine lv_bipush (v := -9) hx hb dX8_laysBest_42 (by decide) ?_
                refine ca_i (wr := [aZ G (q 9) 64 ip]) (va_runV (As := [.int (nI a), .int (nI j), .int (-9), .int (-9)]) (rest := []) ⟨hx, hb, hml, hown, hts⟩ ((c_X8_scoreOf l G h w1 q px py hi la lb ip se be he σ sa g36 g37 g38 g39 g40 N a j (-9) (-9) (hLMw) (hSM) (by omega) (by omega) (hc)) _) (cwV 4 hts gX8_laysBest_X8_scoreOf rfl rfl rfl (by decide +kernel) ⟨Nat.le_of_ble_eq_true rfl, Nat.le_of_ble_eq_true rfl⟩) (cPre_V hK hP hD [0, 2, 3, 4, 5, 6, 7, 8, 9, 10] (by decide) rfl 0 8 rfl rfl) rfl rfl hl.1 rfl (lv_room (Nat.le_of_ble_eq_true rfl)) dX8_laysBest_44 ⟨Nat.zero_le _, Nat.zero_le _⟩) hP hD hS hA [0, 2, 3, 4, 5, 6, 7, 8, 9, 10] [1] rfl rfl (by decide) (by decide) [1, 0, 2, 3, 4, 5, 6, 7, 8, 9, 10] (fun u_44 => [oB h 8 (oF8 w1 q), aZ G (q 9) 64 ip, aI G (q 10) 64 se, aI G (q 11) 640 be, aI G (q 12) 640 he, aI G (q 13) 17 sa, aI G (q 36) 8 u_44.1, aI G (q 37) 10 u_44.2.1, aI G (q 38) 8 u_44.2.2.1, aI G (q 39) 10 u_44.2.2.2.1, aI G (q 40) 8 u_44.2.2.2.2]) (by decide) (fun _ => rfl) (fun r_44 u_44 H locs q_44 hP hD hS => ?_)
                obtain rfl : r_44 = nI (sc (gS σ N a j (-9) (-9)) N.1) := q_44
                have hP : va_P G.1 vwCl [oB h 8 (oF8 w1 q), aZ G (q 9) 64 ip, aI G (q 10) 64 se, aI G (q 11) 640 be, aI G (q 12) 640 he, aI G (q 13) 17 sa, aI G (q 36) 8 u_44.1, aI G (q 37) 10 u_44.2.1, aI G (q 38) 8 u_44.2.2.1, aI G (q 39) 10 u_44.2.2.2.1, aI G (q 40) 8 u_44.2.2.2.2] H := hP
                have hD : va_D A [oB h 8 (oF8 w1 q), aZ G (q 9) 64 ip, aI G (q 10) 64 se, aI G (q 11) 640 be, aI G (q 12) 640 he, aI G (q 13) 17 sa, aI G (q 36) 8 u_44.1, aI G (q 37) 10 u_44.2.1, aI G (q 38) 8 u_44.2.2.1, aI G (q 39) 10 u_44.2.2.2.1, aI G (q 40) 8 u_44.2.2.2.2] := hD
                refine top_i (y := Int32.ofInt (scM σ N (64 * a + j))) (by rw [sM_at (by omega) hc]; rfl) ?_
                refine lv_istore (lv' := [(4, .int (Int32.ofInt (scM σ N (64 * a + j)))), (3, .int (nI j)), (2, .int hr), (1, .int (nI a)), (0, .ref h)]) hx hb dX8_laysBest_47 hl (by decide) rfl (fun ls hl => ?_)
                refine lv_aload_n hx hb dX8_laysBest_49 rfl (lv_at hl 4 rfl) ?_
                refine lv_iload hx hb dX8_laysBest_50 (lv_at hl 0 rfl) ?_
                refine lv_aload_n hx hb dX8_laysBest_52 rfl (lv_at hl 4 rfl) ?_
                refine va_get (D := G.1) (ci := 8) (v := .int (w1 42)) (C := RX8) (T := TX8) (N := 44) hx hb hts hin8 hown hK.1 hP 0 rfl rfl 42 (by decide) f238 (fun _ h9 => h9) rfl dX8_laysBest_53 ?_
                refine top_i (y := Int32.ofInt (mxV (scM σ N) (64 * a))) (h42) ?_
                refine lv_icmp_le (tgt := 74) hx hb dX8_laysBest_56 (by decide) (fun c_56 => ?_) (fun c_56 => ?_)
                · have c_56 := (oI_le (sM_rng (σ := σ) hn8 (64 * a + j)).1 (sM_rng (σ := σ) hn8 (64 * a + j)).2 (mxV_rng (σ := σ) hn8 (64 * a)).1 (mxV_rng (σ := σ) hn8 (64 * a)).2).mp c_56
                  refine lv_aload_n hx hb dX8_laysBest_74 rfl (lv_at hl 4 rfl) ?_
                  refine va_get (D := G.1) (ci := 8) (v := .int (w1 41)) (C := RX8) (T := TX8) (N := 44) hx hb hts hin8 hown hK.1 hP 0 rfl rfl 41 (by decide) f244 (fun _ h9 => h9) rfl dX8_laysBest_75 ?_
                  refine va_put (D := G.1) (ci := 8) (v := .int (w1 41)) (ty := .int) (C := RX8) (T := TX8) (N := 44) hx hb hts hin8 tyX8 tyX8_ok nmX8 hown hK.1 hP hD hS 0 rfl rfl 41 (by decide) f244 (fun _ h9 => h9) rfl (by decide +kernel) rfl rfl (Nat.le_of_ble_eq_true rfl) dX8_laysBest_78 (fun H locs hP hD hS => ?_)
                  have hP : va_P G.1 vwCl [oB h 8 (oF8 (upd w1 41 (w1 41)) q), aZ G (q 9) 64 ip, aI G (q 10) 64 se, aI G (q 11) 640 be, aI G (q 12) 640 he, aI G (q 13) 17 sa, aI G (q 36) 8 u_44.1, aI G (q 37) 10 u_44.2.1, aI G (q 38) 8 u_44.2.2.1, aI G (q 39) 10 u_44.2.2.2.1, aI G (q 40) 8 u_44.2.2.2.2] H := hP
                  have hD : va_D A [oB h 8 (oF8 (upd w1 41 (w1 41)) q), aZ G (q 9) 64 ip, aI G (q 10) 64 se, aI G (q 11) 640 be, aI G (q 12) 640 he, aI G (q 13) 17 sa, aI G (q 36) 8 u_44.1, aI G (q 37) 10 u_44.2.1, aI G (q 38) 8 u_44.2.2.1, aI G (q 39) 10 u_44.2.2.2.1, aI G (q 40) 8 u_44.2.2.2.2] := hD
                  refine lv_iload hx hb dX8_laysBest_81 (lv_at hl 0 rfl) ?_
                  refine lv_iload_n hx hb dX8_laysBest_83 rfl (lv_at hl 2 rfl) ?_
                  refine lv_icmp_le (tgt := 92) hx hb dX8_laysBest_84 (by decide) (fun c_84 => ?_) (fun c_84 => ?_)
                  · rw [hhr] at c_84
                    have c_84 := (oI_le (sM_rng (σ := σ) hn8 (64 * a + j)).1 (sM_rng (σ := σ) hn8 (64 * a + j)).2 (hxV_rng (σ := σ) hn8 a j).1 (hxV_rng (σ := σ) hn8 a j).2).mp c_84
                    refine lv_iload_n hx hb dX8_laysBest_92 rfl (lv_at hl 2 rfl) ?_
                    refine lv_istore_n (lv' := [(2, .int hr), (4, .int (Int32.ofInt (scM σ N (64 * a + j)))), (3, .int (nI j)), (1, .int (nI a)), (0, .ref h)]) hx hb dX8_laysBest_93 rfl hl (by decide) rfl (fun ls hl => ?_)
                    refine lv_iinc (v := nI (j + 1)) (lv' := [(3, .int (nI (j + 1))), (2, .int hr), (4, .int (Int32.ofInt (scM σ N (64 * a + j)))), (1, .int (nI a)), (0, .ref h)]) hx hb dX8_laysBest_94 hl (k := 2) rfl (inc_nI _ 1) (by decide) rfl (fun ls hl => ?_)
                    refine lv_goto (tgt := 22) hx hb dX8_laysBest_97 (by decide) ?_
                    exact ih22 (j + 1) (upd w1 41 (w1 41)) hr u_44.1 u_44.2.1 u_44.2.2.1 u_44.2.2.2.1 u_44.2.2.2.2 (by omega) (by omega) (by rw [hx_no c_84]; exact hhr) ((pk_un (by decide)).trans h42) ((pk_un (by decide)).trans h43) (by obtain ⟨e8, e9⟩ := ag_no (s := (scM σ N)) (a := a) (j := j) (Or.inl c_56); rw [e8, e9]; exact h41.imp id (fun q => (pk_us.trans q))) (fun k9 e1 e2 e3 => (pk_un e1).trans (hsm1 k9 e1 e2 e3)) (Or.inl hc) _ _ hP hD hS _ (lv_sub hl [0, 1, 3, 4] rfl)
                  · rw [hhr] at c_84
                    have c_84 := fun e9 => c_84 ((oI_le (sM_rng (σ := σ) hn8 (64 * a + j)).1 (sM_rng (σ := σ) hn8 (64 * a + j)).2 (hxV_rng (σ := σ) hn8 a j).1 (hxV_rng (σ := σ) hn8 a j).2).mpr e9)
                    refine lv_iload hx hb dX8_laysBest_87 (lv_at hl 0 rfl) ?_
                    refine lv_goto (tgt := 93) hx hb dX8_laysBest_89 (by decide) ?_
                    refine lv_istore_n (lv' := [(2, .int (Int32.ofInt (scM σ N (64 * a + j)))), (4, .int (Int32.ofInt (scM σ N (64 * a + j)))), (3, .int (nI j)), (1, .int (nI a)), (0, .ref h)]) hx hb dX8_laysBest_93 rfl hl (by decide) rfl (fun ls hl => ?_)
                    refine lv_iinc (v := nI (j + 1)) (lv' := [(3, .int (nI (j + 1))), (2, .int (Int32.ofInt (scM σ N (64 * a + j)))), (4, .int (Int32.ofInt (scM σ N (64 * a + j)))), (1, .int (nI a)), (0, .ref h)]) hx hb dX8_laysBest_94 hl (k := 2) rfl (inc_nI _ 1) (by decide) rfl (fun ls hl => ?_)
                    refine lv_goto (tgt := 22) hx hb dX8_laysBest_97 (by decide) ?_
                    exact ih22 (j + 1) (upd w1 41 (w1 41)) (Int32.ofInt (scM σ N (64 * a + j))) u_44.1 u_44.2.1 u_44.2.2.1 u_44.2.2.2.1 u_44.2.2.2.2 (by omega) (by omega) (by rw [hx_up c_84]) ((pk_un (by decide)).trans h42) ((pk_un (by decide)).trans h43) (by obtain ⟨e8, e9⟩ := ag_no (s := (scM σ N)) (a := a) (j := j) (Or.inl c_56); rw [e8, e9]; exact h41.imp id (fun q => (pk_us.trans q))) (fun k9 e1 e2 e3 => (pk_un e1).trans (hsm1 k9 e1 e2 e3)) (Or.inl hc) _ _ hP hD hS _ (lv_sub hl [0, 1, 3, 4] rfl)
                · have c_56 := fun e9 => c_56 ((oI_le (sM_rng (σ := σ) hn8 (64 * a + j)).1 (sM_rng (σ := σ) hn8 (64 * a + j)).2 (mxV_rng (σ := σ) hn8 (64 * a)).1 (mxV_rng (σ := σ) hn8 (64 * a)).2).mpr e9)
                  refine lv_iload hx hb dX8_laysBest_59 (lv_at hl 0 rfl) ?_
                  refine lv_iload_n hx hb dX8_laysBest_61 rfl (lv_at hl 2 rfl) ?_
                  refine lv_icmp_le (tgt := 74) hx hb dX8_laysBest_62 (by decide) (fun c_62 => ?_) (fun c_62 => ?_)
                  · rw [hhr] at c_62
                    have c_62 := (oI_le (sM_rng (σ := σ) hn8 (64 * a + j)).1 (sM_rng (σ := σ) hn8 (64 * a + j)).2 (hxV_rng (σ := σ) hn8 a j).1 (hxV_rng (σ := σ) hn8 a j).2).mp c_62
                    refine lv_aload_n hx hb dX8_laysBest_74 rfl (lv_at hl 4 rfl) ?_
                    refine va_get (D := G.1) (ci := 8) (v := .int (w1 41)) (C := RX8) (T := TX8) (N := 44) hx hb hts hin8 hown hK.1 hP 0 rfl rfl 41 (by decide) f244 (fun _ h9 => h9) rfl dX8_laysBest_75 ?_
                    refine va_put (D := G.1) (ci := 8) (v := .int (w1 41)) (ty := .int) (C := RX8) (T := TX8) (N := 44) hx hb hts hin8 tyX8 tyX8_ok nmX8 hown hK.1 hP hD hS 0 rfl rfl 41 (by decide) f244 (fun _ h9 => h9) rfl (by decide +kernel) rfl rfl (Nat.le_of_ble_eq_true rfl) dX8_laysBest_78 (fun H locs hP hD hS => ?_)
                    have hP : va_P G.1 vwCl [oB h 8 (oF8 (upd w1 41 (w1 41)) q), aZ G (q 9) 64 ip, aI G (q 10) 64 se, aI G (q 11) 640 be, aI G (q 12) 640 he, aI G (q 13) 17 sa, aI G (q 36) 8 u_44.1, aI G (q 37) 10 u_44.2.1, aI G (q 38) 8 u_44.2.2.1, aI G (q 39) 10 u_44.2.2.2.1, aI G (q 40) 8 u_44.2.2.2.2] H := hP
                    have hD : va_D A [oB h 8 (oF8 (upd w1 41 (w1 41)) q), aZ G (q 9) 64 ip, aI G (q 10) 64 se, aI G (q 11) 640 be, aI G (q 12) 640 he, aI G (q 13) 17 sa, aI G (q 36) 8 u_44.1, aI G (q 37) 10 u_44.2.1, aI G (q 38) 8 u_44.2.2.1, aI G (q 39) 10 u_44.2.2.2.1, aI G (q 40) 8 u_44.2.2.2.2] := hD
                    refine lv_iload hx hb dX8_laysBest_81 (lv_at hl 0 rfl) ?_
                    refine lv_iload_n hx hb dX8_laysBest_83 rfl (lv_at hl 2 rfl) ?_
                    refine lv_icmp_le (tgt := 92) hx hb dX8_laysBest_84 (by decide) (fun c_84 => ?_) (fun c_84 => ?_)
                    · rw [hhr] at c_84
                      have c_84 := (oI_le (sM_rng (σ := σ) hn8 (64 * a + j)).1 (sM_rng (σ := σ) hn8 (64 * a + j)).2 (hxV_rng (σ := σ) hn8 a j).1 (hxV_rng (σ := σ) hn8 a j).2).mp c_84
                      refine lv_iload_n hx hb dX8_laysBest_92 rfl (lv_at hl 2 rfl) ?_
                      refine lv_istore_n (lv' := [(2, .int hr), (4, .int (Int32.ofInt (scM σ N (64 * a + j)))), (3, .int (nI j)), (1, .int (nI a)), (0, .ref h)]) hx hb dX8_laysBest_93 rfl hl (by decide) rfl (fun ls hl => ?_)
                      refine lv_iinc (v := nI (j + 1)) (lv' := [(3, .int (nI (j + 1))), (2, .int hr), (4, .int (Int32.ofInt (scM σ N (64 * a + j)))), (1, .int (nI a)), (0, .ref h)]) hx hb dX8_laysBest_94 hl (k := 2) rfl (inc_nI _ 1) (by decide) rfl (fun ls hl => ?_)
                      refine lv_goto (tgt := 22) hx hb dX8_laysBest_97 (by decide) ?_
                      exact ih22 (j + 1) (upd w1 41 (w1 41)) hr u_44.1 u_44.2.1 u_44.2.2.1 u_44.2.2.2.1 u_44.2.2.2.2 (by omega) (by omega) (by rw [hx_no c_84]; exact hhr) ((pk_un (by decide)).trans h42) ((pk_un (by decide)).trans h43) (by obtain ⟨e8, e9⟩ := ag_no (s := (scM σ N)) (a := a) (j := j) (Or.inr c_62); rw [e8, e9]; exact h41.imp id (fun q => (pk_us.trans q))) (fun k9 e1 e2 e3 => (pk_un e1).trans (hsm1 k9 e1 e2 e3)) (Or.inl hc) _ _ hP hD hS _ (lv_sub hl [0, 1, 3, 4] rfl)
                    · rw [hhr] at c_84
                      exact absurd ((oI_le (sM_rng (σ := σ) hn8 (64 * a + j)).1 (sM_rng (σ := σ) hn8 (64 * a + j)).2 (hxV_rng (σ := σ) hn8 a j).1 (hxV_rng (σ := σ) hn8 a j).2).mpr c_62) c_84
                  · rw [hhr] at c_62
                    have c_62 := fun e9 => c_62 ((oI_le (sM_rng (σ := σ) hn8 (64 * a + j)).1 (sM_rng (σ := σ) hn8 (64 * a + j)).2 (hxV_rng (σ := σ) hn8 a j).1 (hxV_rng (σ := σ) hn8 a j).2).mpr e9)
                    refine lv_bipush (v := 64) hx hb dX8_laysBest_65 (by decide) ?_
                    refine lv_iload_n hx hb dX8_laysBest_67 rfl (lv_at hl 3 rfl) ?_
                    refine lv_imul hx hb dX8_laysBest_68 ?_
                    refine lv_iload_n hx hb dX8_laysBest_69 rfl (lv_at hl 1 rfl) ?_
                    refine lv_iadd hx hb dX8_laysBest_70 ?_
                    refine top_i (y := nI (64 * a + j)) (mul64' a j) ?_
                    refine lv_goto (tgt := 78) hx hb dX8_laysBest_71 (by decide) ?_
                    refine va_put (D := G.1) (ci := 8) (v := .int (nI (64 * a + j))) (ty := .int) (C := RX8) (T := TX8) (N := 44) hx hb hts hin8 tyX8 tyX8_ok nmX8 hown hK.1 hP hD hS 0 rfl rfl 41 (by decide) f244 (fun _ h9 => h9) rfl (by decide +kernel) rfl rfl (Nat.le_of_ble_eq_true rfl) dX8_laysBest_78 (fun H locs hP hD hS => ?_)
                    have hP : va_P G.1 vwCl [oB h 8 (oF8 (upd w1 41 (nI (64 * a + j))) q), aZ G (q 9) 64 ip, aI G (q 10) 64 se, aI G (q 11) 640 be, aI G (q 12) 640 he, aI G (q 13) 17 sa, aI G (q 36) 8 u_44.1, aI G (q 37) 10 u_44.2.1, aI G (q 38) 8 u_44.2.2.1, aI G (q 39) 10 u_44.2.2.2.1, aI G (q 40) 8 u_44.2.2.2.2] H := hP
                    have hD : va_D A [oB h 8 (oF8 (upd w1 41 (nI (64 * a + j))) q), aZ G (q 9) 64 ip, aI G (q 10) 64 se, aI G (q 11) 640 be, aI G (q 12) 640 he, aI G (q 13) 17 sa, aI G (q 36) 8 u_44.1, aI G (q 37) 10 u_44.2.1, aI G (q 38) 8 u_44.2.2.1, aI G (q 39) 10 u_44.2.2.2.1, aI G (q 40) 8 u_44.2.2.2.2] := hD
                    refine lv_iload hx hb dX8_laysBest_81 (lv_at hl 0 rfl) ?_
                    refine lv_iload_n hx hb dX8_laysBest_83 rfl (lv_at hl 2 rfl) ?_
                    refine lv_icmp_le (tgt := 92) hx hb dX8_laysBest_84 (by decide) (fun c_84 => ?_) (fun c_84 => ?_)
                    · rw [hhr] at c_84
                      exact absurd ((oI_le (sM_rng (σ := σ) hn8 (64 * a + j)).1 (sM_rng (σ := σ) hn8 (64 * a + j)).2 (hxV_rng (σ := σ) hn8 a j).1 (hxV_rng (σ := σ) hn8 a j).2).mp c_84) c_62
                    · rw [hhr] at c_84
                      have c_84 := fun e9 => c_84 ((oI_le (sM_rng (σ := σ) hn8 (64 * a + j)).1 (sM_rng (σ := σ) hn8 (64 * a + j)).2 (hxV_rng (σ := σ) hn8 a j).1 (hxV_rng (σ := σ) hn8 a j).2).mpr e9)
                      refine lv_iload hx hb dX8_laysBest_87 (lv_at hl 0 rfl) ?_
                      refine lv_goto (tgt := 93) hx hb dX8_laysBest_89 (by decide) ?_
                      refine lv_istore_n (lv' := [(2, .int (Int32.ofInt (scM σ N (64 * a + j)))), (4, .int (Int32.ofInt (scM σ N (64 * a + j)))), (3, .int (nI j)), (1, .int (nI a)), (0, .ref h)]) hx hb dX8_laysBest_93 rfl hl (by decide) rfl (fun ls hl => ?_)
                      refine lv_iinc (v := nI (j + 1)) (lv' := [(3, .int (nI (j + 1))), (2, .int (Int32.ofInt (scM σ N (64 * a + j)))), (4, .int (Int32.ofInt (scM σ N (64 * a + j)))), (1, .int (nI a)), (0, .ref h)]) hx hb dX8_laysBest_94 hl (k := 2) rfl (inc_nI _ 1) (by decide) rfl (fun ls hl => ?_)
                      refine lv_goto (tgt := 22) hx hb dX8_laysBest_97 (by decide) ?_
                      exact ih22 (j + 1) (upd w1 41 (nI (64 * a + j))) (Int32.ofInt (scM σ N (64 * a + j))) u_44.1 u_44.2.1 u_44.2.2.1 u_44.2.2.2.1 u_44.2.2.2.2 (by omega) (by omega) (by rw [hx_up c_84]) ((pk_un (by decide)).trans h42) ((pk_un (by decide)).trans h43) (Or.inr (by rw [ag_up c_56 c_62]; exact pk_us)) (fun k9 e1 e2 e3 => (pk_un e1).trans (hsm1 k9 e1 e2 e3)) (Or.inl hc) _ _ hP hD hS _ (lv_sub hl [0, 1, 3, 4] rfl)
        exact loop_22 _ 0 w (-1) fx36 fx37 fx38 fx39 fx40 (Nat.lt_succ_self _) (Nat.zero_le _) (rfl) (hw42) (hw43) (hbv) (hsm) (Or.inr rfl) _ _ hP hD hS _ (lv_sub hl [0, 1, 2, 3] rfl)
  exact loop_12 _ 0 (upd (upd v 42 (-1)) 43 0) ft wh rA bA ha (Nat.lt_succ_self _) (Nat.zero_le _) (rfl) (rfl) (Or.inl (Int.le_refl _)) (fun k9 e1 e2 e3 => (pk_un e3).trans (pk_un e2)) _ _ hP hD hS _ (lv_sub hl [0, 1] rfl)

abbrev rX8_best : Room := { frames := 4, cells := 0, slots := 0, locals := 103 }
set_option maxHeartbeats 4000000 in
set_option maxRecDepth 100000 in
theorem c_X8_best (l : Launch) (G : kG) (h : Nat) (v : Nat → Int32) (q : Nat → Nat) (px : Nat → Int32) (py : Nat → Int32) (hi : Nat → Int32) (la : Nat → Int32) (lb : Nat → Int32) (ip : Nat → Int32) (se : Nat → Int32) (be : Nat → Int32) (he : Nat → Int32) (σ : PS) (sa : Nat → Int32) (ft : Nat → Int32) (wh : Nat → Int32) (rA : Nat → Int32) (bA : Nat → Int32) (ha : Nat → Int32) (N : NL) (x : Int32) (hLM : LM σ v px py hi la lb ip se be he) (hSM : SMr N sa) : Ci l G yX8_best wsX8_best rX8_best [.ref h, .int x] [oB h 8 (oF8 v q), aZ G (q 9) 64 ip, aI G (q 10) 64 se, aI G (q 11) 640 be, aI G (q 12) 640 he, aI G (q 13) 17 sa, aI G (q 36) 8 ft, aI G (q 37) 10 wh, aI G (q 38) 8 rA, aI G (q 39) 10 bA, aI G (q 40) 8 ha] (fun r (u : (Nat → Int32) × (Nat → Int32) × (Nat → Int32) × (Nat → Int32) × (Nat → Int32) × (Nat → Int32)) => (bsOk x = true → bsQ (scM σ N) 4096 x r) ∧ (bsOk x = false → r = -1) ∧ (∀ k, ¬ k = 0 → ¬ k = 41 → ¬ k = 42 → ¬ k = 43 → u.1 k = v k)) (fun u => [oB h 8 (oF8 u.1 q), aZ G (q 9) 64 ip, aI G (q 10) 64 se, aI G (q 11) 640 be, aI G (q 12) 640 he, aI G (q 13) 17 sa, aI G (q 36) 8 u.2.1, aI G (q 37) 10 u.2.2.1, aI G (q 38) 8 u.2.2.2.1, aI G (q 39) 10 u.2.2.2.2.1, aI G (q 40) 8 u.2.2.2.2.2]) := by
  refine Ci.of (cc := cX8_best) (maxL := 2) (by decide) rfl (Nat.le_of_ble_eq_true rfl) ?_
  intro pM eM sM mM bM tM cM Q A hx hb hts hown hml hA hK hP hD hS hret ls hl
  have hown : sM.vm.findClass RX8 = some mM.cls := hown
  have hl : lv_has ls 2 [(0, .ref h), (1, .int x)] := hl
  have hin8 : ∀ w ∈ u_ws RX8 TX8 44, w ∈ wsX8_best := by decide +kernel
  have f98 := hts (.fieldLink RX8 98 "HorizonPeaksModel" "thrown" "I") (by decide +kernel)
  have f238 := hts (.fieldLink RX8 238 "HorizonPeaksModel" "bestScore" "I") (by decide +kernel)
  have f244 := hts (.fieldLink RX8 244 "HorizonPeaksModel" "bestView" "I") (by decide +kernel)
  have hLM0 := hLM
  have hn8 := hSM.2.1
  refine lv_aload_n hx hb dX8_best_0 rfl (lv_at hl 0 rfl) ?_
  refine lv_iconst (v := 0) hx hb dX8_best_1 (by decide) ?_
  refine va_put (D := G.1) (ci := 8) (v := .int 0) (ty := .int) (C := RX8) (T := TX8) (N := 44) hx hb hts hin8 tyX8 tyX8_ok nmX8 hown hK.1 hP hD hS 0 rfl rfl 0 (by decide) f98 (fun _ h9 => h9) rfl (by decide +kernel) rfl rfl (Nat.le_of_ble_eq_true rfl) dX8_best_2 (fun H locs hP hD hS => ?_)
  have hP : va_P G.1 vwCl [oB h 8 (oF8 (upd v 0 0) q), aZ G (q 9) 64 ip, aI G (q 10) 64 se, aI G (q 11) 640 be, aI G (q 12) 640 he, aI G (q 13) 17 sa, aI G (q 36) 8 ft, aI G (q 37) 10 wh, aI G (q 38) 8 rA, aI G (q 39) 10 bA, aI G (q 40) 8 ha] H := hP
  have hD : va_D A [oB h 8 (oF8 (upd v 0 0) q), aZ G (q 9) 64 ip, aI G (q 10) 64 se, aI G (q 11) 640 be, aI G (q 12) 640 he, aI G (q 13) 17 sa, aI G (q 36) 8 ft, aI G (q 37) 10 wh, aI G (q 38) 8 rA, aI G (q 39) 10 bA, aI G (q 40) 8 ha] := hD
  refine lv_iload_n hx hb dX8_best_5 rfl (lv_at hl 1 rfl) ?_
  refine lv_iconst (v := 0) hx hb dX8_best_6 (by decide) ?_
  refine lv_iconst (v := 3) hx hb dX8_best_7 (by decide) ?_
  refine rd_i (va_runS (As := [.int x, .int 0, .int 3]) (rest := []) ⟨hx, hb, hml, hown, hts⟩ (c_X8_in l G x 0 3) (va_cwS 3 hts gX8_best_X8_in rfl rfl rfl (by decide +kernel) ⟨Nat.le_of_ble_eq_true rfl, Nat.le_of_ble_eq_true rfl⟩) (rPre_S hK hP [] rfl) rfl rfl hl.1 rfl (lv_room (Nat.le_of_ble_eq_true rfl)) dX8_best_8 ⟨Nat.zero_le _, Nat.zero_le _⟩) (fun r_8 q_8 => ?_)
  obtain rfl : r_8 = b2i (pIn x 0 3) := q_8
  refine lv_if_ne (tgt := 16) hx hb dX8_best_11 (by decide) (fun c_11 => ?_) (fun c_11 => ?_)
  · have c_11 : (pIn x 0 3) = true := b2i_n0.mp c_11
    refine lv_aload_n hx hb dX8_best_16 rfl (lv_at hl 0 rfl) ?_
    refine ca_v (wr := []) (va_runV (As := []) (rest := []) ⟨hx, hb, hml, hown, hts⟩ ((c_X8_laysBest l G h (upd v 0 0) q px py hi la lb ip se be he σ sa ft wh rA bA ha N (hLM0) (hSM)) _) (cwV 0 hts gX8_best_X8_laysBest rfl rfl rfl (by decide +kernel) ⟨Nat.le_of_ble_eq_true rfl, Nat.le_of_ble_eq_true rfl⟩) (cPre_V hK hP hD [0, 1, 2, 3, 4, 5, 6, 7, 8, 9, 10] (by decide) rfl 0 8 rfl rfl) rfl rfl hl.1 rfl (lv_room (Nat.le_of_ble_eq_true rfl)) dX8_best_17 ⟨Nat.zero_le _, Nat.zero_le _⟩) hP hD hS hA [0, 1, 2, 3, 4, 5, 6, 7, 8, 9, 10] [] rfl rfl (by decide) (by decide) [0, 1, 2, 3, 4, 5, 6, 7, 8, 9, 10] (fun u_17 => [oB h 8 (oF8 u_17.1 q), aZ G (q 9) 64 ip, aI G (q 10) 64 se, aI G (q 11) 640 be, aI G (q 12) 640 he, aI G (q 13) 17 sa, aI G (q 36) 8 u_17.2.1, aI G (q 37) 10 u_17.2.2.1, aI G (q 38) 8 u_17.2.2.2.1, aI G (q 39) 10 u_17.2.2.2.2.1, aI G (q 40) 8 u_17.2.2.2.2.2]) (by decide) (fun _ => rfl) (fun u_17 H locs q_17 hP hD hS => ?_)
    have q_17 : u_17.1 42 = Int32.ofInt (mxV (scM σ N) 4096) ∧ u_17.1 43 = nI (plV (scM σ N) 64) ∧ (mxV (scM σ N) 4096 ≤ -1 ∨ u_17.1 41 = nI (agV (scM σ N) 4096)) ∧ (∀ k, ¬ k = 41 → ¬ k = 42 → ¬ k = 43 → u_17.1 k = (upd v 0 0) k) := q_17
    have hP : va_P G.1 vwCl [oB h 8 (oF8 u_17.1 q), aZ G (q 9) 64 ip, aI G (q 10) 64 se, aI G (q 11) 640 be, aI G (q 12) 640 he, aI G (q 13) 17 sa, aI G (q 36) 8 u_17.2.1, aI G (q 37) 10 u_17.2.2.1, aI G (q 38) 8 u_17.2.2.2.1, aI G (q 39) 10 u_17.2.2.2.2.1, aI G (q 40) 8 u_17.2.2.2.2.2] H := hP
    have hD : va_D A [oB h 8 (oF8 u_17.1 q), aZ G (q 9) 64 ip, aI G (q 10) 64 se, aI G (q 11) 640 be, aI G (q 12) 640 he, aI G (q 13) 17 sa, aI G (q 36) 8 u_17.2.1, aI G (q 37) 10 u_17.2.2.1, aI G (q 38) 8 u_17.2.2.2.1, aI G (q 39) 10 u_17.2.2.2.2.1, aI G (q 40) 8 u_17.2.2.2.2.2] := hD
    refine lv_aload_n hx hb dX8_best_20 rfl (lv_at hl 0 rfl) ?_
    refine va_get (D := G.1) (ci := 8) (v := .int (u_17.1 42)) (C := RX8) (T := TX8) (N := 44) hx hb hts hin8 hown hK.1 hP 0 rfl rfl 42 (by decide) f238 (fun _ h9 => h9) rfl dX8_best_21 ?_
    refine top_i (y := Int32.ofInt (mxV (scM σ N) 4096)) (q_17.1) ?_
    refine lv_if_ge (tgt := 32) hx hb dX8_best_24 (by decide) (fun c_24 => ?_) (fun c_24 => ?_)
    · refine lv_iload_n hx hb dX8_best_32 rfl (lv_at hl 1 rfl) ?_
      refine lv_iconst (v := 3) hx hb dX8_best_33 (by decide) ?_
      refine lv_icmp_ne (tgt := 44) hx hb dX8_best_34 (by decide) (fun c_34 => ?_) (fun c_34 => ?_)
      · refine lv_aload_n hx hb dX8_best_44 rfl (lv_at hl 0 rfl) ?_
        refine va_get (D := G.1) (ci := 8) (v := .int (u_17.1 41)) (C := RX8) (T := TX8) (N := 44) hx hb hts hin8 hown hK.1 hP 0 rfl rfl 41 (by decide) f244 (fun _ h9 => h9) rfl dX8_best_45 ?_
        refine lv_iload_n hx hb dX8_best_48 rfl (lv_at hl 1 rfl) ?_
        refine rd_i (va_runS (As := [.int (u_17.1 41), .int x]) (rest := []) ⟨hx, hb, hml, hown, hts⟩ (c_X8_partOf l G (u_17.1 41) x) (va_cwS 2 hts gX8_best_X8_partOf rfl rfl rfl (by decide +kernel) ⟨Nat.le_of_ble_eq_true rfl, Nat.le_of_ble_eq_true rfl⟩) (rPre_S hK hP [] rfl) rfl rfl hl.1 rfl (lv_room (Nat.le_of_ble_eq_true rfl)) dX8_best_49 ⟨Nat.zero_le _, Nat.zero_le _⟩) (fun r_49 q_49 => ?_)
        obtain rfl : r_49 = pPart (u_17.1 41) x := q_49
        have hpost : (bsOk x = true → bsQ (scM σ N) 4096 x (pPart (u_17.1 41) x : Int32)) ∧ (bsOk x = false → (pPart (u_17.1 41) x : Int32) = -1) ∧ (∀ k, ¬ k = 0 → ¬ k = 41 → ¬ k = 42 → ¬ k = 43 → (u_17.1, u_17.2.1, u_17.2.2.1, u_17.2.2.2.1, u_17.2.2.2.2.1, u_17.2.2.2.2.2).1 k = v k) := by
          have hO : bsOk x = true := by rw [bs_in]; exact c_11
          have hM := mxV_rng (σ := σ) hn8 4096
          have hz : ¬ mxV (scM σ N) 4096 ≤ -1 := by have e8 := (oI_pos hM.1 hM.2).mp c_24; omega
          refine ⟨fun _ => bs_some hz ?_, fun h9 => absurd hO (ne_t h9), fun k e0 e1 e2 e3 => (q_17.2.2.2 k e1 e2 e3).trans (pk_un e0)⟩
          rw [if_neg c_34, q_17.2.2.1.resolve_left hz]
        exact hret _ (u_17.1, u_17.2.1, u_17.2.2.1, u_17.2.2.2.1, u_17.2.2.2.2.1, u_17.2.2.2.2.2) _ _ _ _ (hpost) (rfl) hP hD hS dX8_best_52
      · refine lv_aload_n hx hb dX8_best_37 rfl (lv_at hl 0 rfl) ?_
        refine va_get (D := G.1) (ci := 8) (v := .int (u_17.1 42)) (C := RX8) (T := TX8) (N := 44) hx hb hts hin8 hown hK.1 hP 0 rfl rfl 42 (by decide) f238 (fun _ h9 => h9) rfl dX8_best_38 ?_
        refine top_i (y := Int32.ofInt (mxV (scM σ N) 4096)) (q_17.1) ?_
        refine lv_goto (tgt := 52) hx hb dX8_best_41 (by decide) ?_
        have hpost : (bsOk x = true → bsQ (scM σ N) 4096 x (Int32.ofInt (mxV (scM σ N) 4096) : Int32)) ∧ (bsOk x = false → (Int32.ofInt (mxV (scM σ N) 4096) : Int32) = -1) ∧ (∀ k, ¬ k = 0 → ¬ k = 41 → ¬ k = 42 → ¬ k = 43 → (u_17.1, u_17.2.1, u_17.2.2.1, u_17.2.2.2.1, u_17.2.2.2.2.1, u_17.2.2.2.2.2).1 k = v k) := by
          have hO : bsOk x = true := by rw [bs_in]; exact c_11
          have hM := mxV_rng (σ := σ) hn8 4096
          have hz : ¬ mxV (scM σ N) 4096 ≤ -1 := by have e8 := (oI_pos hM.1 hM.2).mp c_24; omega
          refine ⟨fun _ => bs_some hz ?_, fun h9 => absurd hO (ne_t h9), fun k e0 e1 e2 e3 => (q_17.2.2.2 k e1 e2 e3).trans (pk_un e0)⟩
          rw [if_pos c_34]
        exact hret _ (u_17.1, u_17.2.1, u_17.2.2.1, u_17.2.2.2.1, u_17.2.2.2.2.1, u_17.2.2.2.2.2) _ _ _ _ (hpost) (rfl) hP hD hS dX8_best_52
    · refine lv_bipush (v := -9) hx hb dX8_best_27 (by decide) ?_
      refine lv_goto (tgt := 52) hx hb dX8_best_29 (by decide) ?_
      have hpost : (bsOk x = true → bsQ (scM σ N) 4096 x (-9 : Int32)) ∧ (bsOk x = false → (-9 : Int32) = -1) ∧ (∀ k, ¬ k = 0 → ¬ k = 41 → ¬ k = 42 → ¬ k = 43 → (u_17.1, u_17.2.1, u_17.2.2.1, u_17.2.2.2.1, u_17.2.2.2.2.1, u_17.2.2.2.2.2).1 k = v k) := by
        have hO : bsOk x = true := by rw [bs_in]; exact c_11
        have hM := mxV_rng (σ := σ) hn8 4096
        have hz : mxV (scM σ N) 4096 ≤ -1 := by have e8 : ¬ 0 ≤ mxV (scM σ N) 4096 := fun e9 => c_24 ((oI_pos hM.1 hM.2).mpr e9); omega
        exact ⟨fun _ => bs_none hz, fun h9 => absurd hO (ne_t h9), fun k e0 e1 e2 e3 => (q_17.2.2.2 k e1 e2 e3).trans (pk_un e0)⟩
      exact hret _ (u_17.1, u_17.2.1, u_17.2.2.1, u_17.2.2.2.1, u_17.2.2.2.2.1, u_17.2.2.2.2.2) _ _ _ _ (hpost) (rfl) hP hD hS dX8_best_52
  · have c_11 : (pIn x 0 3) = false := b2i_0.mp c_11
    refine lv_iconst (v := -1) hx hb dX8_best_14 (by decide) ?_
    have hpost : (bsOk x = true → bsQ (scM σ N) 4096 x (-1 : Int32)) ∧ (bsOk x = false → (-1 : Int32) = -1) ∧ (∀ k, ¬ k = 0 → ¬ k = 41 → ¬ k = 42 → ¬ k = 43 → (upd v 0 0, ft, wh, rA, bA, ha).1 k = v k) := by
      have hO : bsOk x = false := by rw [bs_in]; exact c_11
      exact ⟨fun h9 => absurd h9 (ne_t hO), fun _ => rfl, fun k e0 e1 e2 e3 => pk_un e0⟩
    exact hret _ (upd v 0 0, ft, wh, rA, bA, ha) _ _ _ _ (hpost) (rfl) hP hD hS dX8_best_15

abbrev rX8_doubt : Room := { frames := 4, cells := 0, slots := 0, locals := 103 }
set_option maxHeartbeats 4000000 in
set_option maxRecDepth 100000 in
theorem c_X8_doubt (l : Launch) (G : kG) (h : Nat) (v : Nat → Int32) (q : Nat → Nat) (px : Nat → Int32) (py : Nat → Int32) (hi : Nat → Int32) (la : Nat → Int32) (lb : Nat → Int32) (ip : Nat → Int32) (se : Nat → Int32) (be : Nat → Int32) (he : Nat → Int32) (σ : PS) (sa : Nat → Int32) (ft : Nat → Int32) (wh : Nat → Int32) (rA : Nat → Int32) (bA : Nat → Int32) (ha : Nat → Int32) (N : NL) (hLM : LM σ v px py hi la lb ip se be he) (hSM : SMr N sa) : Ci l G yX8_doubt wsX8_doubt rX8_doubt [.ref h] [oB h 8 (oF8 v q), aZ G (q 9) 64 ip, aI G (q 10) 64 se, aI G (q 11) 640 be, aI G (q 12) 640 he, aI G (q 13) 17 sa, aI G (q 36) 8 ft, aI G (q 37) 10 wh, aI G (q 38) 8 rA, aI G (q 39) 10 bA, aI G (q 40) 8 ha] (fun r (u : (Nat → Int32) × (Nat → Int32) × (Nat → Int32) × (Nat → Int32) × (Nat → Int32) × (Nat → Int32)) => r = nI (plV (scM σ N) 64) ∧ (∀ k, ¬ k = 0 → ¬ k = 41 → ¬ k = 42 → ¬ k = 43 → u.1 k = v k)) (fun u => [oB h 8 (oF8 u.1 q), aZ G (q 9) 64 ip, aI G (q 10) 64 se, aI G (q 11) 640 be, aI G (q 12) 640 he, aI G (q 13) 17 sa, aI G (q 36) 8 u.2.1, aI G (q 37) 10 u.2.2.1, aI G (q 38) 8 u.2.2.2.1, aI G (q 39) 10 u.2.2.2.2.1, aI G (q 40) 8 u.2.2.2.2.2]) := by
  refine Ci.of (cc := cX8_doubt) (maxL := 1) (by decide) rfl (Nat.le_of_ble_eq_true rfl) ?_
  intro pM eM sM mM bM tM cM Q A hx hb hts hown hml hA hK hP hD hS hret ls hl
  have hown : sM.vm.findClass RX8 = some mM.cls := hown
  have hl : lv_has ls 1 [(0, .ref h)] := hl
  have hin8 : ∀ w ∈ u_ws RX8 TX8 44, w ∈ wsX8_doubt := by decide +kernel
  have f98 := hts (.fieldLink RX8 98 "HorizonPeaksModel" "thrown" "I") (by decide +kernel)
  have f241 := hts (.fieldLink RX8 241 "HorizonPeaksModel" "bestPlaces" "I") (by decide +kernel)
  have hLM0 := hLM
  refine lv_aload_n hx hb dX8_doubt_0 rfl (lv_at hl 0 rfl) ?_
  refine lv_iconst (v := 0) hx hb dX8_doubt_1 (by decide) ?_
  refine va_put (D := G.1) (ci := 8) (v := .int 0) (ty := .int) (C := RX8) (T := TX8) (N := 44) hx hb hts hin8 tyX8 tyX8_ok nmX8 hown hK.1 hP hD hS 0 rfl rfl 0 (by decide) f98 (fun _ h9 => h9) rfl (by decide +kernel) rfl rfl (Nat.le_of_ble_eq_true rfl) dX8_doubt_2 (fun H locs hP hD hS => ?_)
  have hP : va_P G.1 vwCl [oB h 8 (oF8 (upd v 0 0) q), aZ G (q 9) 64 ip, aI G (q 10) 64 se, aI G (q 11) 640 be, aI G (q 12) 640 he, aI G (q 13) 17 sa, aI G (q 36) 8 ft, aI G (q 37) 10 wh, aI G (q 38) 8 rA, aI G (q 39) 10 bA, aI G (q 40) 8 ha] H := hP
  have hD : va_D A [oB h 8 (oF8 (upd v 0 0) q), aZ G (q 9) 64 ip, aI G (q 10) 64 se, aI G (q 11) 640 be, aI G (q 12) 640 he, aI G (q 13) 17 sa, aI G (q 36) 8 ft, aI G (q 37) 10 wh, aI G (q 38) 8 rA, aI G (q 39) 10 bA, aI G (q 40) 8 ha] := hD
  refine lv_aload_n hx hb dX8_doubt_5 rfl (lv_at hl 0 rfl) ?_
  refine ca_v (wr := []) (va_runV (As := []) (rest := []) ⟨hx, hb, hml, hown, hts⟩ ((c_X8_laysBest l G h (upd v 0 0) q px py hi la lb ip se be he σ sa ft wh rA bA ha N (hLM0) (hSM)) _) (cwV 0 hts gX8_doubt_X8_laysBest rfl rfl rfl (by decide +kernel) ⟨Nat.le_of_ble_eq_true rfl, Nat.le_of_ble_eq_true rfl⟩) (cPre_V hK hP hD [0, 1, 2, 3, 4, 5, 6, 7, 8, 9, 10] (by decide) rfl 0 8 rfl rfl) rfl rfl hl.1 rfl (lv_room (Nat.le_of_ble_eq_true rfl)) dX8_doubt_6 ⟨Nat.zero_le _, Nat.zero_le _⟩) hP hD hS hA [0, 1, 2, 3, 4, 5, 6, 7, 8, 9, 10] [] rfl rfl (by decide) (by decide) [0, 1, 2, 3, 4, 5, 6, 7, 8, 9, 10] (fun u_6 => [oB h 8 (oF8 u_6.1 q), aZ G (q 9) 64 ip, aI G (q 10) 64 se, aI G (q 11) 640 be, aI G (q 12) 640 he, aI G (q 13) 17 sa, aI G (q 36) 8 u_6.2.1, aI G (q 37) 10 u_6.2.2.1, aI G (q 38) 8 u_6.2.2.2.1, aI G (q 39) 10 u_6.2.2.2.2.1, aI G (q 40) 8 u_6.2.2.2.2.2]) (by decide) (fun _ => rfl) (fun u_6 H locs q_6 hP hD hS => ?_)
  have q_6 : u_6.1 42 = Int32.ofInt (mxV (scM σ N) 4096) ∧ u_6.1 43 = nI (plV (scM σ N) 64) ∧ (mxV (scM σ N) 4096 ≤ -1 ∨ u_6.1 41 = nI (agV (scM σ N) 4096)) ∧ (∀ k, ¬ k = 41 → ¬ k = 42 → ¬ k = 43 → u_6.1 k = (upd v 0 0) k) := q_6
  have hP : va_P G.1 vwCl [oB h 8 (oF8 u_6.1 q), aZ G (q 9) 64 ip, aI G (q 10) 64 se, aI G (q 11) 640 be, aI G (q 12) 640 he, aI G (q 13) 17 sa, aI G (q 36) 8 u_6.2.1, aI G (q 37) 10 u_6.2.2.1, aI G (q 38) 8 u_6.2.2.2.1, aI G (q 39) 10 u_6.2.2.2.2.1, aI G (q 40) 8 u_6.2.2.2.2.2] H := hP
  have hD : va_D A [oB h 8 (oF8 u_6.1 q), aZ G (q 9) 64 ip, aI G (q 10) 64 se, aI G (q 11) 640 be, aI G (q 12) 640 he, aI G (q 13) 17 sa, aI G (q 36) 8 u_6.2.1, aI G (q 37) 10 u_6.2.2.1, aI G (q 38) 8 u_6.2.2.2.1, aI G (q 39) 10 u_6.2.2.2.2.1, aI G (q 40) 8 u_6.2.2.2.2.2] := hD
  refine lv_aload_n hx hb dX8_doubt_9 rfl (lv_at hl 0 rfl) ?_
  refine va_get (D := G.1) (ci := 8) (v := .int (u_6.1 43)) (C := RX8) (T := TX8) (N := 44) hx hb hts hin8 hown hK.1 hP 0 rfl rfl 43 (by decide) f241 (fun _ h9 => h9) rfl dX8_doubt_10 ?_
  refine top_i (y := nI (plV (scM σ N) 64)) (q_6.2.1) ?_
  have hpost : (nI (plV (scM σ N) 64) : Int32) = nI (plV (scM σ N) 64) ∧ (∀ k, ¬ k = 0 → ¬ k = 41 → ¬ k = 42 → ¬ k = 43 → (u_6.1, u_6.2.1, u_6.2.2.1, u_6.2.2.2.1, u_6.2.2.2.2.1, u_6.2.2.2.2.2).1 k = v k) := by
    exact ⟨rfl, fun k e0 e1 e2 e3 => (q_6.2.2.2 k e1 e2 e3).trans (pk_un e0)⟩
  exact hret _ (u_6.1, u_6.2.1, u_6.2.2.1, u_6.2.2.2.1, u_6.2.2.2.2.1, u_6.2.2.2.2.2) _ _ _ _ (hpost) (rfl) hP hD hS dX8_doubt_13

abbrev rX8_unseen : Room := { frames := 3, cells := 0, slots := 0, locals := 79 }
set_option maxHeartbeats 4000000 in
set_option maxRecDepth 100000 in
theorem c_X8_unseen (l : Launch) (G : kG) (h : Nat) (v : Nat → Int32) (q : Nat → Nat) (px : Nat → Int32) (py : Nat → Int32) (hi : Nat → Int32) (la : Nat → Int32) (lb : Nat → Int32) (ip : Nat → Int32) (se : Nat → Int32) (be : Nat → Int32) (he : Nat → Int32) (σ : PS) (sa : Nat → Int32) (ft : Nat → Int32) (wh : Nat → Int32) (rA : Nat → Int32) (bA : Nat → Int32) (ha : Nat → Int32) (N : NL) (ca : Nat → Int32) (cl : Nat → Int32) (ci : Nat → Int32) (cc : Nat) (cpt : Nat → Nat) (clk : Nat → Nat) (cwh : Nat → Bool) (hLM : LM σ v px py hi la lb ip se be he) (hSM : SMr N sa) (hC : CRep cc cpt clk cwh (fun _ => v 18) ca cl ci) (hCp : ∀ k, k < cc → cPk σ (cpt k) = 0) : Ci l G yX8_unseen wsX8_unseen rX8_unseen [.ref h] [oB h 8 (oF8 v q), aI G (q 19) 6 ca, aI G (q 20) 6 cl, aI G (q 21) 6 ci, aI G (q 10) 64 se, aI G (q 11) 640 be, aI G (q 12) 640 he, aI G (q 13) 17 sa, aI G (q 36) 8 ft, aI G (q 37) 10 wh, aI G (q 38) 8 rA, aI G (q 39) 10 bA, aI G (q 40) 8 ha] (fun r (u : (Nat → Int32) × (Nat → Int32) × (Nat → Int32) × (Nat → Int32) × (Nat → Int32)) => r = gbits (unB σ N cc cpt clk cwh) (zn σ)) (fun u => [oB h 8 (oF8 (upd v 0 0) q), aI G (q 19) 6 ca, aI G (q 20) 6 cl, aI G (q 21) 6 ci, aI G (q 10) 64 se, aI G (q 11) 640 be, aI G (q 12) 640 he, aI G (q 13) 17 sa, aI G (q 36) 8 u.1, aI G (q 37) 10 u.2.1, aI G (q 38) 8 u.2.2.1, aI G (q 39) 10 u.2.2.2.1, aI G (q 40) 8 u.2.2.2.2]) := by
  refine Ci.of (cc := cX8_unseen) (maxL := 5) (by decide) rfl (Nat.le_of_ble_eq_true rfl) ?_
  intro pM eM sM mM bM tM cM Q A hx hb hts hown hml hA hK hP hD hS hret ls hl
  have hown : sM.vm.findClass RX8 = some mM.cls := hown
  have hl : lv_has ls 5 [(0, .ref h)] := hl
  have hin8 : ∀ w ∈ u_ws RX8 TX8 44, w ∈ wsX8_unseen := by decide +kernel
  have f98 := hts (.fieldLink RX8 98 "HorizonPeaksModel" "thrown" "I") (by decide +kernel)
  have f102 := hts (.fieldLink RX8 102 "HorizonPeaksModel" "peaks" "I") (by decide +kernel)
  have f160 := hts (.fieldLink RX8 160 "HorizonPeaksModel" "clouds" "I") (by decide +kernel)
  have f50 := hts (.fieldLink RX8 50 "HorizonPeaksModel" "cloudAt" "[I") (by decide +kernel)
  have f53 := hts (.fieldLink RX8 53 "HorizonPeaksModel" "cloudLook" "[I") (by decide +kernel)
  have f38 := hts (.fieldLink RX8 38 "HorizonPeaksModel" "s" "[I") (by decide +kernel)
  have f56 := hts (.fieldLink RX8 56 "HorizonPeaksModel" "cloudIs" "[I") (by decide +kernel)
  have hLM0 := hLM
  obtain ⟨hok, ⟨hv1, hv5, hv8⟩, har, hLP⟩ := hLM
  have hn10 := hok.1
  have hm8 := hok.2.1
  have hl3 := hok.2.2.1
  have hip : ∀ i, i < 64 → ip i = b2i (decide (cPk σ i = 0)) := fun i hh => (hLP i hh).1
  have hn8 := hSM.2.1
  have hv18 : v 18 = nI cc := hC.1
  have hc6 := hC.2.1
  refine lv_aload_n hx hb dX8_unseen_0 rfl (lv_at hl 0 rfl) ?_
  refine lv_iconst (v := 0) hx hb dX8_unseen_1 (by decide) ?_
  refine va_put (D := G.1) (ci := 8) (v := .int 0) (ty := .int) (C := RX8) (T := TX8) (N := 44) hx hb hts hin8 tyX8 tyX8_ok nmX8 hown hK.1 hP hD hS 0 rfl rfl 0 (by decide) f98 (fun _ h9 => h9) rfl (by decide +kernel) rfl rfl (Nat.le_of_ble_eq_true rfl) dX8_unseen_2 (fun H locs hP hD hS => ?_)
  have hP : va_P G.1 vwCl [oB h 8 (oF8 (upd v 0 0) q), aI G (q 19) 6 ca, aI G (q 20) 6 cl, aI G (q 21) 6 ci, aI G (q 10) 64 se, aI G (q 11) 640 be, aI G (q 12) 640 he, aI G (q 13) 17 sa, aI G (q 36) 8 ft, aI G (q 37) 10 wh, aI G (q 38) 8 rA, aI G (q 39) 10 bA, aI G (q 40) 8 ha] H := hP
  have hD : va_D A [oB h 8 (oF8 (upd v 0 0) q), aI G (q 19) 6 ca, aI G (q 20) 6 cl, aI G (q 21) 6 ci, aI G (q 10) 64 se, aI G (q 11) 640 be, aI G (q 12) 640 he, aI G (q 13) 17 sa, aI G (q 36) 8 ft, aI G (q 37) 10 wh, aI G (q 38) 8 rA, aI G (q 39) 10 bA, aI G (q 40) 8 ha] := hD
  refine lv_iconst (v := 0) hx hb dX8_unseen_5 (by decide) ?_
  refine lv_istore_n (lv' := [(1, .int 0), (0, .ref h)]) hx hb dX8_unseen_6 rfl hl (by decide) rfl (fun ls hl => ?_)
  refine lv_iconst (v := 0) hx hb dX8_unseen_7 (by decide) ?_
  refine lv_istore_n (lv' := [(2, .int 0), (1, .int 0), (0, .ref h)]) hx hb dX8_unseen_8 rfl hl (by decide) rfl (fun ls hl => ?_)
  have loop_9 : ∀ (nF : Nat) (p : Nat) (bits : Int32) (fx36 : Nat → Int32) (fx37 : Nat → Int32) (fx38 : Nat → Int32) (fx39 : Nat → Int32) (fx40 : Nat → Int32), (zn σ - p) < nF → (p ≤ zn σ) → (bits = gbits (unB σ N cc cpt clk cwh) p) → ∀ (H : Heap) (locs : List Loc), va_P G.1 vwCl [oB h 8 (oF8 (upd v 0 0) q), aI G (q 19) 6 ca, aI G (q 20) 6 cl, aI G (q 21) 6 ci, aI G (q 10) 64 se, aI G (q 11) 640 be, aI G (q 12) 640 he, aI G (q 13) 17 sa, aI G (q 36) 8 fx36, aI G (q 37) 10 fx37, aI G (q 38) 8 fx38, aI G (q 39) 10 fx39, aI G (q 40) 8 fx40] H → va_D A [oB h 8 (oF8 (upd v 0 0) q), aI G (q 19) 6 ca, aI G (q 20) 6 cl, aI G (q 21) 6 ci, aI G (q 10) 64 se, aI G (q 11) 640 be, aI G (q 12) 640 he, aI G (q 13) 17 sa, aI G (q 36) 8 fx36, aI G (q 37) 10 fx37, aI G (q 38) 8 fx38, aI G (q 39) 10 fx39, aI G (q 40) 8 fx40] → va_S A sM.heap H locs → ∀ (ls : Array Slot), lv_has ls 5 [(2, .int (nI p)), (1, .int bits), (0, .ref h)] → W pM l eM rX8_unseen sM mM [.ref h].toArray bM tM cM H locs 0 0 Q (F0 mM 9 ls []) := by
    intro nF
    induction nF with
    | zero => intro p bits fx36 fx37 fx38 fx39 fx40 hmF; exact absurd hmF (Nat.not_lt_zero _)
    | succ nF ih9 =>
      intro p bits fx36 fx37 fx38 fx39 fx40 hmF hp hbits H locs hP hD hS ls hl
      refine lv_iload_n hx hb dX8_unseen_9 rfl (lv_at hl 0 rfl) ?_
      refine lv_aload_n hx hb dX8_unseen_10 rfl (lv_at hl 2 rfl) ?_
      refine va_get (D := G.1) (ci := 8) (v := .int (v 1)) (C := RX8) (T := TX8) (N := 44) hx hb hts hin8 hown hK.1 hP 0 rfl rfl 1 (by decide) f102 (fun _ h9 => h9) rfl dX8_unseen_11 ?_
      refine top_i (y := nI (zn σ)) (hv1) ?_
      refine lv_icmp_ge (tgt := 121) hx hb dX8_unseen_14 (by decide) (fun c_14 => ?_) (fun c_14 => ?_)
      · have c_14 : (zn σ) ≤ p := (c_le (a := zn σ) (b := p) rfl rfl (by omega) (by omega)).mp c_14
        refine lv_iload_n hx hb dX8_unseen_121 rfl (lv_at hl 1 rfl) ?_
        exact hret _ (fx36, fx37, fx38, fx39, fx40) _ _ _ _ (by rw [hbits, show p = zn σ by omega]) (rfl) hP hD hS dX8_unseen_122
      · have c_14 : ¬ (zn σ) ≤ p := fun hne => c_14 ((c_le (a := zn σ) (b := p) rfl rfl (by omega) (by omega)).mpr hne)
        refine lv_iconst (v := 1) hx hb dX8_unseen_17 (by decide) ?_
        refine top_i (y := b2i true) (rfl) ?_
        refine lv_istore_n (lv' := [(3, .int (b2i true)), (2, .int (nI p)), (1, .int bits), (0, .ref h)]) hx hb dX8_unseen_18 rfl hl (by decide) rfl (fun ls hl => ?_)
        refine lv_iconst (v := 0) hx hb dX8_unseen_19 (by decide) ?_
        refine lv_istore (lv' := [(4, .int 0), (3, .int (b2i true)), (2, .int (nI p)), (1, .int bits), (0, .ref h)]) hx hb dX8_unseen_20 hl (by decide) rfl (fun ls hl => ?_)
        have loop_22 : ∀ (nF : Nat) (k : Nat) (b : Bool) (g36 : Nat → Int32) (g37 : Nat → Int32) (g38 : Nat → Int32) (g39 : Nat → Int32) (g40 : Nat → Int32), (cc - k) < nF → (k ≤ cc) → (b = !anyB (unF σ N cpt clk cwh p) k) → ∀ (H : Heap) (locs : List Loc), va_P G.1 vwCl [oB h 8 (oF8 (upd v 0 0) q), aI G (q 19) 6 ca, aI G (q 20) 6 cl, aI G (q 21) 6 ci, aI G (q 10) 64 se, aI G (q 11) 640 be, aI G (q 12) 640 he, aI G (q 13) 17 sa, aI G (q 36) 8 g36, aI G (q 37) 10 g37, aI G (q 38) 8 g38, aI G (q 39) 10 g39, aI G (q 40) 8 g40] H → va_D A [oB h 8 (oF8 (upd v 0 0) q), aI G (q 19) 6 ca, aI G (q 20) 6 cl, aI G (q 21) 6 ci, aI G (q 10) 64 se, aI G (q 11) 640 be, aI G (q 12) 640 he, aI G (q 13) 17 sa, aI G (q 36) 8 g36, aI G (q 37) 10 g37, aI G (q 38) 8 g38, aI G (q 39) 10 g39, aI G (q 40) 8 g40] → va_S A sM.heap H locs → ∀ (ls : Array Slot), lv_has ls 5 [(4, .int (nI k)), (3, .int (b2i b)), (2, .int (nI p)), (1, .int bits), (0, .ref h)] → W pM l eM rX8_unseen sM mM [.ref h].toArray bM tM cM H locs 0 0 Q (F0 mM 22 ls []) := by
          intro nF
          induction nF with
          | zero => intro k b g36 g37 g38 g39 g40 hmF; exact absurd hmF (Nat.not_lt_zero _)
          | succ nF ih22 =>
            intro k b g36 g37 g38 g39 g40 hmF hk hb9 H locs hP hD hS ls hl
            refine lv_iload hx hb dX8_unseen_22 (lv_at hl 0 rfl) ?_
            refine lv_aload_n hx hb dX8_unseen_24 rfl (lv_at hl 4 rfl) ?_
            refine va_get (D := G.1) (ci := 8) (v := .int (v 18)) (C := RX8) (T := TX8) (N := 44) hx hb hts hin8 hown hK.1 hP 0 rfl rfl 18 (by decide) f160 (fun _ h9 => h9) rfl dX8_unseen_25 ?_
            refine top_i (y := nI cc) (hv18) ?_
            refine lv_icmp_ge (tgt := 101) hx hb dX8_unseen_28 (by decide) (fun c_28 => ?_) (fun c_28 => ?_)
            · have c_28 : cc ≤ k := (c_le (a := cc) (b := k) rfl rfl (by omega) (by omega)).mp c_28
              have hx9 : unB σ N cc cpt clk cwh p = b := by unfold unB; rw [hb9, show k = cc by omega]
              refine lv_iload_n hx hb dX8_unseen_101 rfl (lv_at hl 3 rfl) ?_
              refine lv_iload_n hx hb dX8_unseen_102 rfl (lv_at hl 1 rfl) ?_
              refine lv_if_eq (tgt := 112) hx hb dX8_unseen_103 (by decide) (fun c_103 => ?_) (fun c_103 => ?_)
              · have c_103 : b = false := b2i_0.mp c_103
                refine lv_iconst (v := 0) hx hb dX8_unseen_112 (by decide) ?_
                refine lv_ior hx hb dX8_unseen_113 ?_
                refine lv_istore_n (lv' := [(1, .int (bits ||| 0)), (4, .int (nI k)), (3, .int (b2i b)), (2, .int (nI p)), (0, .ref h)]) hx hb dX8_unseen_114 rfl hl (by decide) rfl (fun ls hl => ?_)
                refine lv_iinc (v := nI (p + 1)) (lv' := [(2, .int (nI (p + 1))), (1, .int (bits ||| 0)), (4, .int (nI k)), (3, .int (b2i b)), (0, .ref h)]) hx hb dX8_unseen_115 hl (k := 3) rfl (inc_nI _ 1) (by decide) rfl (fun ls hl => ?_)
                refine lv_goto (tgt := 9) hx hb dX8_unseen_118 (by decide) ?_
                have hu9 : unB σ N cc cpt clk cwh p = false := hx9.trans c_103
                exact ih9 (p + 1) (bits ||| 0) g36 g37 g38 g39 g40 (by omega) (by omega) (by rw [gbits, if_neg (ne_t hu9), hbits]; exact or_0 _) _ _ hP hD hS _ (lv_sub hl [0, 1, 4] rfl)
              · have c_103 : b = true := b2i_n0.mp c_103
                refine lv_iconst (v := 1) hx hb dX8_unseen_106 (by decide) ?_
                refine lv_iload_n hx hb dX8_unseen_107 rfl (lv_at hl 2 rfl) ?_
                refine lv_ishl hx hb dX8_unseen_108 ?_
                refine lv_goto (tgt := 113) hx hb dX8_unseen_109 (by decide) ?_
                refine lv_ior hx hb dX8_unseen_113 ?_
                refine lv_istore_n (lv' := [(1, .int (bits ||| (1 <<< ((nI p) &&& 31)))), (4, .int (nI k)), (3, .int (b2i b)), (2, .int (nI p)), (0, .ref h)]) hx hb dX8_unseen_114 rfl hl (by decide) rfl (fun ls hl => ?_)
                refine lv_iinc (v := nI (p + 1)) (lv' := [(2, .int (nI (p + 1))), (1, .int (bits ||| (1 <<< ((nI p) &&& 31)))), (4, .int (nI k)), (3, .int (b2i b)), (0, .ref h)]) hx hb dX8_unseen_115 hl (k := 3) rfl (inc_nI _ 1) (by decide) rfl (fun ls hl => ?_)
                refine lv_goto (tgt := 9) hx hb dX8_unseen_118 (by decide) ?_
                have hu9 : unB σ N cc cpt clk cwh p = true := hx9.trans c_103
                exact ih9 (p + 1) (bits ||| (1 <<< ((nI p) &&& 31))) g36 g37 g38 g39 g40 (by omega) (by omega) (by rw [gbits, if_pos hu9, hbits]) _ _ hP hD hS _ (lv_sub hl [0, 1, 4] rfl)
            · have c_28 : ¬ cc ≤ k := fun hne => c_28 ((c_le (a := cc) (b := k) rfl rfl (by omega) (by omega)).mpr hne)
              refine lv_iload_n hx hb dX8_unseen_31 rfl (lv_at hl 1 rfl) ?_
              refine lv_if_eq (tgt := 101) hx hb dX8_unseen_32 (by decide) (fun c_32 => ?_) (fun c_32 => ?_)
              · have c_32 : b = false := b2i_0.mp c_32
                have hx9 : unB σ N cc cpt clk cwh p = b := by unfold unB; rw [c_32, anyB_mono (show k ≤ cc by omega) (by rw [c_32] at hb9; cases e9 : anyB (unF σ N cpt clk cwh p) k with | true => rfl | false => rw [e9] at hb9; cases hb9)]; rfl
                refine lv_iload_n hx hb dX8_unseen_101 rfl (lv_at hl 3 rfl) ?_
                refine lv_iload_n hx hb dX8_unseen_102 rfl (lv_at hl 1 rfl) ?_
                refine lv_if_eq (tgt := 112) hx hb dX8_unseen_103 (by decide) (fun c_103 => ?_) (fun c_103 => ?_)
                · have c_103 : b = false := b2i_0.mp c_103
                  refine lv_iconst (v := 0) hx hb dX8_unseen_112 (by decide) ?_
                  refine lv_ior hx hb dX8_unseen_113 ?_
                  refine lv_istore_n (lv' := [(1, .int (bits ||| 0)), (4, .int (nI k)), (3, .int (b2i b)), (2, .int (nI p)), (0, .ref h)]) hx hb dX8_unseen_114 rfl hl (by decide) rfl (fun ls hl => ?_)
                  refine lv_iinc (v := nI (p + 1)) (lv' := [(2, .int (nI (p + 1))), (1, .int (bits ||| 0)), (4, .int (nI k)), (3, .int (b2i b)), (0, .ref h)]) hx hb dX8_unseen_115 hl (k := 3) rfl (inc_nI _ 1) (by decide) rfl (fun ls hl => ?_)
                  refine lv_goto (tgt := 9) hx hb dX8_unseen_118 (by decide) ?_
                  have hu9 : unB σ N cc cpt clk cwh p = false := hx9.trans c_103
                  exact ih9 (p + 1) (bits ||| 0) g36 g37 g38 g39 g40 (by omega) (by omega) (by rw [gbits, if_neg (ne_t hu9), hbits]; exact or_0 _) _ _ hP hD hS _ (lv_sub hl [0, 1, 4] rfl)
                · have c_103 : b = true := b2i_n0.mp c_103
                  refine lv_iconst (v := 1) hx hb dX8_unseen_106 (by decide) ?_
                  refine lv_iload_n hx hb dX8_unseen_107 rfl (lv_at hl 2 rfl) ?_
                  refine lv_ishl hx hb dX8_unseen_108 ?_
                  refine lv_goto (tgt := 113) hx hb dX8_unseen_109 (by decide) ?_
                  refine lv_ior hx hb dX8_unseen_113 ?_
                  refine lv_istore_n (lv' := [(1, .int (bits ||| (1 <<< ((nI p) &&& 31)))), (4, .int (nI k)), (3, .int (b2i b)), (2, .int (nI p)), (0, .ref h)]) hx hb dX8_unseen_114 rfl hl (by decide) rfl (fun ls hl => ?_)
                  refine lv_iinc (v := nI (p + 1)) (lv' := [(2, .int (nI (p + 1))), (1, .int (bits ||| (1 <<< ((nI p) &&& 31)))), (4, .int (nI k)), (3, .int (b2i b)), (0, .ref h)]) hx hb dX8_unseen_115 hl (k := 3) rfl (inc_nI _ 1) (by decide) rfl (fun ls hl => ?_)
                  refine lv_goto (tgt := 9) hx hb dX8_unseen_118 (by decide) ?_
                  have hu9 : unB σ N cc cpt clk cwh p = true := hx9.trans c_103
                  exact ih9 (p + 1) (bits ||| (1 <<< ((nI p) &&& 31))) g36 g37 g38 g39 g40 (by omega) (by omega) (by rw [gbits, if_pos hu9, hbits]) _ _ hP hD hS _ (lv_sub hl [0, 1, 4] rfl)
              · have c_32 : b = true := b2i_n0.mp c_32
                refine lv_aload_n hx hb dX8_unseen_35 rfl (lv_at hl 4 rfl) ?_
                refine lv_aload_n hx hb dX8_unseen_36 rfl (lv_at hl 4 rfl) ?_
                refine va_get (D := G.1) (ci := 8) (v := .ref (q 19)) (C := RX8) (T := TX8) (N := 44) hx hb hts hin8 hown hK.1 hP 0 rfl rfl 19 (by decide) f50 (fun _ h9 => h9) rfl dX8_unseen_37 ?_
                refine lv_iload hx hb dX8_unseen_40 (lv_at hl 0 rfl) ?_
                refine al_i hx hb hK.1 hP 1 0 rfl rfl (j := k) (by omega) (Nat.le_of_ble_eq_true rfl) dX8_unseen_42 ?_
                refine top_i (y := nI (cpt k)) ((hC.2.2 k (by omega)).1) ?_
                refine lv_aload_n hx hb dX8_unseen_43 rfl (lv_at hl 4 rfl) ?_
                refine va_get (D := G.1) (ci := 8) (v := .ref (q 20)) (C := RX8) (T := TX8) (N := 44) hx hb hts hin8 hown hK.1 hP 0 rfl rfl 20 (by decide) f53 (fun _ h9 => h9) rfl dX8_unseen_44 ?_
                refine lv_iload hx hb dX8_unseen_47 (lv_at hl 0 rfl) ?_
                refine al_i hx hb hK.1 hP 2 0 rfl rfl (j := k) (by omega) (Nat.le_of_ble_eq_true rfl) dX8_unseen_49 ?_
                refine top_i (y := nI (clk k)) ((hC.2.2 k (by omega)).2.2.1) ?_
                refine lv_bipush (v := -9) hx hb dX8_unseen_50 (by decide) ?_
                refine lv_iload_n hx hb dX8_unseen_52 rfl (lv_at hl 2 rfl) ?_
                refine ca_i (wr := [aI G (q 19) 6 ca, aI G (q 20) 6 cl, aI G (q 21) 6 ci]) (va_runV (As := [.int (nI (cpt k)), .int (nI (clk k)), .int (-9), .int (nI p)]) (rest := []) ⟨hx, hb, hml, hown, hts⟩ ((c_X8_scoreOf l G h (upd v 0 0) q px py hi la lb ip se be he σ sa g36 g37 g38 g39 g40 N (cpt k) (clk k) (-9) (nI p) (hLM0) (hSM) ((hC.2.2 k (by omega)).2.1) ((hC.2.2 k (by omega)).2.2.2.1) (hCp k (by omega))) _) (cwV 4 hts gX8_unseen_X8_scoreOf rfl rfl rfl (by decide +kernel) ⟨Nat.le_of_ble_eq_true rfl, Nat.le_of_ble_eq_true rfl⟩) (cPre_V hK hP hD [0, 4, 5, 6, 7, 8, 9, 10, 11, 12] (by decide) rfl 0 8 rfl rfl) rfl rfl hl.1 rfl (lv_room (Nat.le_of_ble_eq_true rfl)) dX8_unseen_53 ⟨Nat.zero_le _, Nat.zero_le _⟩) hP hD hS hA [0, 4, 5, 6, 7, 8, 9, 10, 11, 12] [1, 2, 3] rfl rfl (by decide) (by decide) [3, 0, 1, 2, 4, 5, 6, 7, 8, 9, 10, 11, 12] (fun u_53 => [oB h 8 (oF8 (upd v 0 0) q), aI G (q 19) 6 ca, aI G (q 20) 6 cl, aI G (q 21) 6 ci, aI G (q 10) 64 se, aI G (q 11) 640 be, aI G (q 12) 640 he, aI G (q 13) 17 sa, aI G (q 36) 8 u_53.1, aI G (q 37) 10 u_53.2.1, aI G (q 38) 8 u_53.2.2.1, aI G (q 39) 10 u_53.2.2.2.1, aI G (q 40) 8 u_53.2.2.2.2]) (by decide) (fun _ => rfl) (fun r_53 u_53 H locs q_53 hP hD hS => ?_)
                obtain rfl : r_53 = nI (sc (gS σ N (cpt k) (clk k) (-9) (nI p)) N.1) := q_53
                have hP : va_P G.1 vwCl [oB h 8 (oF8 (upd v 0 0) q), aI G (q 19) 6 ca, aI G (q 20) 6 cl, aI G (q 21) 6 ci, aI G (q 10) 64 se, aI G (q 11) 640 be, aI G (q 12) 640 he, aI G (q 13) 17 sa, aI G (q 36) 8 u_53.1, aI G (q 37) 10 u_53.2.1, aI G (q 38) 8 u_53.2.2.1, aI G (q 39) 10 u_53.2.2.2.1, aI G (q 40) 8 u_53.2.2.2.2] H := hP
                have hD : va_D A [oB h 8 (oF8 (upd v 0 0) q), aI G (q 19) 6 ca, aI G (q 20) 6 cl, aI G (q 21) 6 ci, aI G (q 10) 64 se, aI G (q 11) 640 be, aI G (q 12) 640 he, aI G (q 13) 17 sa, aI G (q 36) 8 u_53.1, aI G (q 37) 10 u_53.2.1, aI G (q 38) 8 u_53.2.2.1, aI G (q 39) 10 u_53.2.2.2.1, aI G (q 40) 8 u_53.2.2.2.2] := hD
                have hsl9 := sc_le (gS σ N (cpt k) (clk k) (-9) (nI p)) N.1
                refine lv_aload_n hx hb dX8_unseen_56 rfl (lv_at hl 4 rfl) ?_
                refine va_get (D := G.1) (ci := 8) (v := .ref (q 13)) (C := RX8) (T := TX8) (N := 44) hx hb hts hin8 hown hK.1 hP 0 rfl rfl 13 (by decide) f38 (fun _ h9 => h9) rfl dX8_unseen_57 ?_
                refine lv_iconst (v := 0) hx hb dX8_unseen_60 (by decide) ?_
                refine top_i (y := nI 0) rfl ?_
                refine al_i hx hb hK.1 hP 7 0 rfl rfl (j := 0) (by omega) (Nat.le_of_ble_eq_true rfl) dX8_unseen_61 ?_
                refine top_i (y := nI N.1) (hSM.1) ?_
                refine lv_icmp_ne (tgt := 69) hx hb dX8_unseen_62 (by decide) (fun c_62 => ?_) (fun c_62 => ?_)
                · have c_62 : ¬ (sc (gS σ N (cpt k) (clk k) (-9) (nI p)) N.1) = N.1 := fun hne => c_62 ((c_eq (a := sc (gS σ N (cpt k) (clk k) (-9) (nI p)) N.1) (b := N.1) rfl rfl (by omega) (by omega)).mpr hne)
                  have h62 : decide (sc (gS σ N (cpt k) (clk k) (-9) (nI p)) N.1 = N.1) = false := decide_eq_false c_62
                  refine lv_iconst (v := 0) hx hb dX8_unseen_69 (by decide) ?_
                  refine lv_aload_n hx hb dX8_unseen_70 rfl (lv_at hl 4 rfl) ?_
                  refine va_get (D := G.1) (ci := 8) (v := .ref (q 21)) (C := RX8) (T := TX8) (N := 44) hx hb hts hin8 hown hK.1 hP 0 rfl rfl 21 (by decide) f56 (fun _ h9 => h9) rfl dX8_unseen_71 ?_
                  refine lv_iload hx hb dX8_unseen_74 (lv_at hl 0 rfl) ?_
                  refine al_i hx hb hK.1 hP 3 0 rfl rfl (j := k) (by omega) (Nat.le_of_ble_eq_true rfl) dX8_unseen_76 ?_
                  refine top_i (y := b2i (cwh k)) ((hC.2.2 k (by omega)).2.2.2.2) ?_
                  refine lv_iconst (v := 1) hx hb dX8_unseen_77 (by decide) ?_
                  refine lv_icmp_ne (tgt := 85) hx hb dX8_unseen_78 (by decide) (fun c_78 => ?_) (fun c_78 => ?_)
                  · have h78 : cwh k = false := b2i_n1.mp c_78
                    refine lv_iconst (v := 0) hx hb dX8_unseen_85 (by decide) ?_
                    refine lv_icmp_ne (tgt := 93) hx hb dX8_unseen_86 (by decide) (fun c_86 => ?_) (fun c_86 => ?_)
                    · exfalso
                      revert c_86
                      decide
                    · refine lv_iconst (v := 1) hx hb dX8_unseen_89 (by decide) ?_
                      refine top_i (y := b2i true) (rfl) ?_
                      refine lv_goto (tgt := 94) hx hb dX8_unseen_90 (by decide) ?_
                      refine lv_istore_n (lv' := [(3, .int (b2i true)), (4, .int (nI k)), (2, .int (nI p)), (1, .int bits), (0, .ref h)]) hx hb dX8_unseen_94 rfl hl (by decide) rfl (fun ls hl => ?_)
                      refine lv_iinc (v := nI (k + 1)) (lv' := [(4, .int (nI (k + 1))), (3, .int (b2i true)), (2, .int (nI p)), (1, .int bits), (0, .ref h)]) hx hb dX8_unseen_95 hl (k := 1) rfl (inc_nI _ 1) (by decide) rfl (fun ls hl => ?_)
                      refine lv_goto (tgt := 22) hx hb dX8_unseen_98 (by decide) ?_
                      have hf9 : unF σ N cpt clk cwh p k = false := by unfold unF; rw [h62, h78]; rfl
                      exact ih22 (k + 1) true u_53.1 u_53.2.1 u_53.2.2.1 u_53.2.2.2.1 u_53.2.2.2.2 (by omega) (by omega) (by rw [anyB_s, Bool.not_or, ← hb9, c_32, hf9]; rfl) _ _ hP hD hS _ (lv_sub hl [0, 1, 2, 3, 4] rfl)
                  · have h78 : cwh k = true := b2i_1.mp c_78
                    refine lv_iconst (v := 1) hx hb dX8_unseen_81 (by decide) ?_
                    refine lv_goto (tgt := 86) hx hb dX8_unseen_82 (by decide) ?_
                    refine lv_icmp_ne (tgt := 93) hx hb dX8_unseen_86 (by decide) (fun c_86 => ?_) (fun c_86 => ?_)
                    · refine lv_iconst (v := 0) hx hb dX8_unseen_93 (by decide) ?_
                      refine top_i (y := b2i false) (rfl) ?_
                      refine lv_istore_n (lv' := [(3, .int (b2i false)), (4, .int (nI k)), (2, .int (nI p)), (1, .int bits), (0, .ref h)]) hx hb dX8_unseen_94 rfl hl (by decide) rfl (fun ls hl => ?_)
                      refine lv_iinc (v := nI (k + 1)) (lv' := [(4, .int (nI (k + 1))), (3, .int (b2i false)), (2, .int (nI p)), (1, .int bits), (0, .ref h)]) hx hb dX8_unseen_95 hl (k := 1) rfl (inc_nI _ 1) (by decide) rfl (fun ls hl => ?_)
                      refine lv_goto (tgt := 22) hx hb dX8_unseen_98 (by decide) ?_
                      have hf9 : unF σ N cpt clk cwh p k = true := by unfold unF; rw [h62, h78]; rfl
                      exact ih22 (k + 1) false u_53.1 u_53.2.1 u_53.2.2.1 u_53.2.2.2.1 u_53.2.2.2.2 (by omega) (by omega) (by rw [anyB_s, Bool.not_or, ← hb9, c_32, hf9]; rfl) _ _ hP hD hS _ (lv_sub hl [0, 1, 2, 3, 4] rfl)
                    · exfalso
                      revert c_86
                      decide
                · have c_62 : (sc (gS σ N (cpt k) (clk k) (-9) (nI p)) N.1) = N.1 := (c_eq (a := sc (gS σ N (cpt k) (clk k) (-9) (nI p)) N.1) (b := N.1) rfl rfl (by omega) (by omega)).mp c_62
                  have h62 : decide (sc (gS σ N (cpt k) (clk k) (-9) (nI p)) N.1 = N.1) = true := decide_eq_true c_62
                  refine lv_iconst (v := 1) hx hb dX8_unseen_65 (by decide) ?_
                  refine lv_goto (tgt := 70) hx hb dX8_unseen_66 (by decide) ?_
                  refine lv_aload_n hx hb dX8_unseen_70 rfl (lv_at hl 4 rfl) ?_
                  refine va_get (D := G.1) (ci := 8) (v := .ref (q 21)) (C := RX8) (T := TX8) (N := 44) hx hb hts hin8 hown hK.1 hP 0 rfl rfl 21 (by decide) f56 (fun _ h9 => h9) rfl dX8_unseen_71 ?_
                  refine lv_iload hx hb dX8_unseen_74 (lv_at hl 0 rfl) ?_
                  refine al_i hx hb hK.1 hP 3 0 rfl rfl (j := k) (by omega) (Nat.le_of_ble_eq_true rfl) dX8_unseen_76 ?_
                  refine top_i (y := b2i (cwh k)) ((hC.2.2 k (by omega)).2.2.2.2) ?_
                  refine lv_iconst (v := 1) hx hb dX8_unseen_77 (by decide) ?_
                  refine lv_icmp_ne (tgt := 85) hx hb dX8_unseen_78 (by decide) (fun c_78 => ?_) (fun c_78 => ?_)
                  · have h78 : cwh k = false := b2i_n1.mp c_78
                    refine lv_iconst (v := 0) hx hb dX8_unseen_85 (by decide) ?_
                    refine lv_icmp_ne (tgt := 93) hx hb dX8_unseen_86 (by decide) (fun c_86 => ?_) (fun c_86 => ?_)
                    · refine lv_iconst (v := 0) hx hb dX8_unseen_93 (by decide) ?_
                      refine top_i (y := b2i false) (rfl) ?_
                      refine lv_istore_n (lv' := [(3, .int (b2i false)), (4, .int (nI k)), (2, .int (nI p)), (1, .int bits), (0, .ref h)]) hx hb dX8_unseen_94 rfl hl (by decide) rfl (fun ls hl => ?_)
                      refine lv_iinc (v := nI (k + 1)) (lv' := [(4, .int (nI (k + 1))), (3, .int (b2i false)), (2, .int (nI p)), (1, .int bits), (0, .ref h)]) hx hb dX8_unseen_95 hl (k := 1) rfl (inc_nI _ 1) (by decide) rfl (fun ls hl => ?_)
                      refine lv_goto (tgt := 22) hx hb dX8_unseen_98 (by decide) ?_
                      have hf9 : unF σ N cpt clk cwh p k = true := by unfold unF; rw [h62, h78]; rfl
                      exact ih22 (k + 1) false u_53.1 u_53.2.1 u_53.2.2.1 u_53.2.2.2.1 u_53.2.2.2.2 (by omega) (by omega) (by rw [anyB_s, Bool.not_or, ← hb9, c_32, hf9]; rfl) _ _ hP hD hS _ (lv_sub hl [0, 1, 2, 3, 4] rfl)
                    · exfalso
                      revert c_86
                      decide
                  · have h78 : cwh k = true := b2i_1.mp c_78
                    refine lv_iconst (v := 1) hx hb dX8_unseen_81 (by decide) ?_
                    refine lv_goto (tgt := 86) hx hb dX8_unseen_82 (by decide) ?_
                    refine lv_icmp_ne (tgt := 93) hx hb dX8_unseen_86 (by decide) (fun c_86 => ?_) (fun c_86 => ?_)
                    · exfalso
                      revert c_86
                      decide
                    · refine lv_iconst (v := 1) hx hb dX8_unseen_89 (by decide) ?_
                      refine top_i (y := b2i true) (rfl) ?_
                      refine lv_goto (tgt := 94) hx hb dX8_unseen_90 (by decide) ?_
                      refine lv_istore_n (lv' := [(3, .int (b2i true)), (4, .int (nI k)), (2, .int (nI p)), (1, .int bits), (0, .ref h)]) hx hb dX8_unseen_94 rfl hl (by decide) rfl (fun ls hl => ?_)
                      refine lv_iinc (v := nI (k + 1)) (lv' := [(4, .int (nI (k + 1))), (3, .int (b2i true)), (2, .int (nI p)), (1, .int bits), (0, .ref h)]) hx hb dX8_unseen_95 hl (k := 1) rfl (inc_nI _ 1) (by decide) rfl (fun ls hl => ?_)
                      refine lv_goto (tgt := 22) hx hb dX8_unseen_98 (by decide) ?_
                      have hf9 : unF σ N cpt clk cwh p k = false := by unfold unF; rw [h62, h78]; rfl
                      exact ih22 (k + 1) true u_53.1 u_53.2.1 u_53.2.2.1 u_53.2.2.2.1 u_53.2.2.2.2 (by omega) (by omega) (by rw [anyB_s, Bool.not_or, ← hb9, c_32, hf9]; rfl) _ _ hP hD hS _ (lv_sub hl [0, 1, 2, 3, 4] rfl)
        exact loop_22 _ 0 true fx36 fx37 fx38 fx39 fx40 (Nat.lt_succ_self _) (Nat.zero_le _) (rfl) _ _ hP hD hS _ (lv_sub hl [0, 1, 2, 3, 4] rfl)
  exact loop_9 _ 0 0 ft wh rA bA ha (Nat.lt_succ_self _) (Nat.zero_le _) (rfl) _ _ hP hD hS _ (lv_sub hl [0, 1, 2] rfl)
