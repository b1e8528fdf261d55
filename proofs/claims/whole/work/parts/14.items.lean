/-! what a text tells: peaks (x, y, high), ridges, slack -/
abbrev PS : Type := Nat × (Nat → Nat) × (Nat → Nat) × (Nat → Nat) × Nat × (Nat → Nat) × (Nat → Nat) × Nat
def zn (σ : PS) : Nat := σ.1
def zx (σ : PS) : Nat → Nat := σ.2.1
def zy (σ : PS) : Nat → Nat := σ.2.2.1
def zz (σ : PS) : Nat → Nat := σ.2.2.2.1
def zm (σ : PS) : Nat := σ.2.2.2.2.1
def za (σ : PS) : Nat → Nat := σ.2.2.2.2.2.1
def zb (σ : PS) : Nat → Nat := σ.2.2.2.2.2.2.1
def zl (σ : PS) : Nat := σ.2.2.2.2.2.2.2
def PS0 : PS := (0, fun _ => 0, fun _ => 0, fun _ => 0, 0, fun _ => 0, fun _ => 0, 1)
def updN (f : Nat → Nat) (k x : Nat) : Nat → Nat := fun j => if j = k then x else f j
theorem updN_s {f : Nat → Nat} {k x : Nat} : updN f k x k = x := by simp [updN]
theorem updN_n {f : Nat → Nat} {k x j : Nat} (h : j ≠ k) : updN f k x j = f j := by simp [updN, h]
def addP (σ : PS) (x y z : Nat) : PS := (zn σ + 1, updN (zx σ) (zn σ) x, updN (zy σ) (zn σ) y, updN (zz σ) (zn σ) z, zm σ, za σ, zb σ, zl σ)
def addR (σ : PS) (a b : Nat) : PS := (zn σ, zx σ, zy σ, zz σ, zm σ + 1, updN (za σ) (zm σ) a, updN (zb σ) (zm σ) b, zl σ)
def setS (σ : PS) (s : Nat) : PS := (zn σ, zx σ, zy σ, zz σ, zm σ, za σ, zb σ, s)
def pAtN (X Y : Nat → Nat) (n i : Nat) : Bool := anyB (fun p => decide (X p * 8 + Y p = i)) n
def okPS (σ : PS) : Prop := zn σ ≤ 10 ∧ zm σ ≤ 8 ∧ zl σ ≤ 3 ∧ (∀ p, p < zn σ → zx σ p < 8 ∧ zy σ p < 8 ∧ 1 ≤ zz σ p ∧ zz σ p ≤ 40) ∧ (∀ r, r < zm σ → za σ r < zn σ ∧ zb σ r < zn σ ∧ za σ r ≠ zb σ r) ∧ (∀ p q, p < q → q < zn σ → zx σ p * 8 + zy σ p ≠ zx σ q * 8 + zy σ q)
def arL (σ : PS) (xs ys hs fs ss pk : Nat → Int32) : Prop := (∀ p, p < zn σ → xs p = nI (zx σ p) ∧ ys p = nI (zy σ p) ∧ hs p = nI (zz σ p)) ∧ (∀ r, r < zm σ → fs r = nI (za σ r) ∧ ss r = nI (zb σ r)) ∧ (∀ i, i < 64 → pk i = b2i (pAtN (zx σ) (zy σ) (zn σ) i))
def obL (σ : PS) (v : Nat → Int32) : Prop := v 3 = nI (zn σ) ∧ v 6 = nI (zm σ) ∧ v 7 = nI (zl σ)
theorem okPS0 : okPS PS0 := ⟨by decide, by decide, by decide, fun p h => absurd h (Nat.not_lt_zero p), fun p h => absurd h (Nat.not_lt_zero p), fun p q _ h => absurd h (Nat.not_lt_zero q)⟩
theorem okPS_P {σ : PS} {x y z : Nat} (h : okPS σ) (hn : zn σ < 10) (hx : x < 8) (hy : y < 8) (hz : 1 ≤ z ∧ z ≤ 40) (hp : pAtN (zx σ) (zy σ) (zn σ) (x * 8 + y) = false) : okPS (addP σ x y z) := by
  obtain ⟨h1, h2, h3, h4, h5, h6⟩ := h
  refine ⟨?_, h2, h3, ?_, ?_, ?_⟩
  · show zn σ + 1 ≤ 10; omega
  · intro p hp2
    show updN (zx σ) (zn σ) x p < 8 ∧ updN (zy σ) (zn σ) y p < 8 ∧ 1 ≤ updN (zz σ) (zn σ) z p ∧ updN (zz σ) (zn σ) z p ≤ 40
    by_cases e : p = zn σ
    · rw [e, updN_s, updN_s, updN_s]; exact ⟨hx, hy, hz.1, hz.2⟩
    · rw [updN_n e, updN_n e, updN_n e]
      exact h4 p (by have : p < zn σ + 1 := hp2; omega)
  · intro r hr
    obtain ⟨a1, a2, a3⟩ := h5 r hr
    exact ⟨Nat.lt_succ_of_lt a1, Nat.lt_succ_of_lt a2, a3⟩
  · intro p q hpq hq
    have hq' : q < zn σ + 1 := hq
    show updN (zx σ) (zn σ) x p * 8 + updN (zy σ) (zn σ) y p ≠ updN (zx σ) (zn σ) x q * 8 + updN (zy σ) (zn σ) y q
    by_cases e : q = zn σ
    · rw [e, updN_s, updN_s, updN_n (by omega), updN_n (by omega)]
      have := anyB_no.mp hp p (by omega)
      simpa using this
    · rw [updN_n e, updN_n e, updN_n (by omega), updN_n (by omega)]
      exact h6 p q hpq (by omega)
theorem okPS_R {σ : PS} {a b : Nat} (h : okPS σ) (hm : zm σ < 8) (ha : a < zn σ) (hb : b < zn σ) (hab : a ≠ b) : okPS (addR σ a b) := by
  obtain ⟨h1, h2, h3, h4, h5, h6⟩ := h
  refine ⟨h1, ?_, h3, h4, ?_, h6⟩
  · show zm σ + 1 ≤ 8; omega
  · intro r hr
    have hr' : r < zm σ + 1 := hr
    show updN (za σ) (zm σ) a r < zn σ ∧ updN (zb σ) (zm σ) b r < zn σ ∧ updN (za σ) (zm σ) a r ≠ updN (zb σ) (zm σ) b r
    by_cases e : r = zm σ
    · rw [e, updN_s, updN_s]; exact ⟨ha, hb, hab⟩
    · rw [updN_n e, updN_n e]; exact h5 r (by omega)
theorem okPS_S {σ : PS} {s : Nat} (h : okPS σ) (hs : s ≤ 3) : okPS (setS σ s) := ⟨h.1, h.2.1, hs, h.2.2.2⟩
theorem arL_P {σ : PS} {xs ys hs fs ss pk : Nat → Int32} {x y z : Nat} (h : arL σ xs ys hs fs ss pk) (hx : x < 8) (hy : y < 8) : arL (addP σ x y z) (upd xs (zn σ) (nI x)) (upd ys (zn σ) (nI y)) (upd hs (zn σ) (nI z)) fs ss (upd pk (x * 8 + y) 1) := by
  obtain ⟨h1, h2, h3⟩ := h
  refine ⟨?_, h2, ?_⟩
  · intro p hp
    have hp' : p < zn σ + 1 := hp
    show upd xs (zn σ) (nI x) p = nI (updN (zx σ) (zn σ) x p) ∧ upd ys (zn σ) (nI y) p = nI (updN (zy σ) (zn σ) y p) ∧ upd hs (zn σ) (nI z) p = nI (updN (zz σ) (zn σ) z p)
    by_cases e : p = zn σ
    · rw [e, pk_us, pk_us, pk_us, updN_s, updN_s, updN_s]; exact ⟨rfl, rfl, rfl⟩
    · rw [pk_un e, pk_un e, pk_un e, updN_n e, updN_n e, updN_n e]; exact h1 p (by omega)
  · intro i hi
    show upd pk (x * 8 + y) 1 i = b2i (pAtN (updN (zx σ) (zn σ) x) (updN (zy σ) (zn σ) y) (zn σ + 1) i)
    have e2 : pAtN (updN (zx σ) (zn σ) x) (updN (zy σ) (zn σ) y) (zn σ + 1) i = (pAtN (zx σ) (zy σ) (zn σ) i || decide (x * 8 + y = i)) := by
      unfold pAtN
      rw [anyB, updN_s, updN_s]
      congr 1
      exact anyB_cong (fun k hk => by rw [updN_n (by omega), updN_n (by omega)])
    rw [e2]
    by_cases e : i = x * 8 + y
    · rw [e, pk_us]; simp [b2i]
    · rw [pk_un e, h3 i hi]
      simp [Ne.symm e]
theorem arL_R {σ : PS} {xs ys hs fs ss pk : Nat → Int32} {a b : Nat} (h : arL σ xs ys hs fs ss pk) : arL (addR σ a b) xs ys hs (upd fs (zm σ) (nI a)) (upd ss (zm σ) (nI b)) pk := by
  obtain ⟨h1, h2, h3⟩ := h
  refine ⟨h1, ?_, h3⟩
  intro r hr
  have hr' : r < zm σ + 1 := hr
  show upd fs (zm σ) (nI a) r = nI (updN (za σ) (zm σ) a r) ∧ upd ss (zm σ) (nI b) r = nI (updN (zb σ) (zm σ) b r)
  by_cases e : r = zm σ
  · rw [e, pk_us, pk_us, updN_s, updN_s]; exact ⟨rfl, rfl⟩
  · rw [pk_un e, pk_un e, updN_n e, updN_n e]; exact h2 r (by omega)
theorem arL_S {σ : PS} {xs ys hs fs ss pk : Nat → Int32} {s : Nat} (h : arL σ xs ys hs fs ss pk) : arL (setS σ s) xs ys hs fs ss pk := h
theorem arL_0 {xs ys hs fs ss pk : Nat → Int32} (h : ∀ i, i < 64 → pk i = 0) : arL PS0 xs ys hs fs ss pk := ⟨fun p h => absurd h (Nat.not_lt_zero p), fun p h => absurd h (Nat.not_lt_zero p), h⟩
def itPeak (tx : Nat → Int32) (len : Nat) (σ : PS) (s0 i : Nat) : (Bool × Nat × Nat) × PS :=
  if 10 ≤ zn σ then ((false, s0, i), σ)
  else if tN tx len i 0 7 = false then ((false, tkS tx len i, tkE tx len i), σ)
  else if tN tx len (tkE tx len i) 0 7 = false then ((false, tkS tx len (tkE tx len i), tkE tx len (tkE tx len i)), σ)
  else if pAtN (zx σ) (zy σ) (zn σ) (tkV tx len i * 8 + tkV tx len (tkE tx len i)) = true then ((false, tkS tx len (tkE tx len i), tkE tx len (tkE tx len i)), σ)
  else if tN tx len (tkE tx len (tkE tx len i)) 1 40 = false then ((false, tkS tx len (tkE tx len (tkE tx len i)), tkE tx len (tkE tx len (tkE tx len i))), σ)
  else if tkK tx len (tkE tx len (tkE tx len (tkE tx len i))) = 59 then ((true, tkS tx len (tkE tx len (tkE tx len (tkE tx len i))), tkE tx len (tkE tx len (tkE tx len (tkE tx len i)))), addP σ (tkV tx len i) (tkV tx len (tkE tx len i)) (tkV tx len (tkE tx len (tkE tx len i))))
  else ((false, tkS tx len (tkE tx len (tkE tx len (tkE tx len i))), tkE tx len (tkE tx len (tkE tx len (tkE tx len i)))), σ)
def itRidge (tx : Nat → Int32) (len : Nat) (σ : PS) (s0 i : Nat) : (Bool × Nat × Nat) × PS :=
  if 8 ≤ zm σ then ((false, s0, i), σ)
  else if tN tx len i 0 (nI (zn σ) - 1) = false then ((false, tkS tx len i, tkE tx len i), σ)
  else if tN tx len (tkE tx len i) 0 (nI (zn σ) - 1) = false then ((false, tkS tx len (tkE tx len i), tkE tx len (tkE tx len i)), σ)
  else if tkV tx len (tkE tx len i) = tkV tx len i then ((false, tkS tx len (tkE tx len i), tkE tx len (tkE tx len i)), σ)
  else if tkK tx len (tkE tx len (tkE tx len i)) = 59 then ((true, tkS tx len (tkE tx len (tkE tx len i)), tkE tx len (tkE tx len (tkE tx len i))), addR σ (tkV tx len i) (tkV tx len (tkE tx len i)))
  else ((false, tkS tx len (tkE tx len (tkE tx len i)), tkE tx len (tkE tx len (tkE tx len i))), σ)
def itSlack (tx : Nat → Int32) (len : Nat) (σ : PS) (i : Nat) : (Bool × Nat × Nat) × PS :=
  if tN tx len i 0 3 = false then ((false, tkS tx len i, tkE tx len i), σ)
  else if tkK tx len (tkE tx len i) = 59 then ((true, tkS tx len (tkE tx len i), tkE tx len (tkE tx len i)), setS σ (tkV tx len i))
  else ((false, tkS tx len (tkE tx len i), tkE tx len (tkE tx len i)), σ)
theorem tN_V {tx : Nat → Int32} {len i lo hi : Nat} (hl : lo < 2147483648) (hh : hi < 2147483648) (h : tN tx len i (nI lo) (nI hi) = true) : lo ≤ tkV tx len i ∧ tkV tx len i ≤ hi := by
  simp only [tN, Bool.and_eq_true, Bool.not_eq_true', decide_eq_false_iff_not] at h
  have hv := tkV_le tx len i
  obtain ⟨-, h1, h2⟩ := h
  rw [c_lt rfl rfl (by omega) hl] at h1
  rw [c_lt rfl rfl hh (by omega)] at h2
  omega
theorem tN_V1 {tx : Nat → Int32} {len i n : Nat} (hn : n ≤ 10) (h : tN tx len i 0 (nI n - 1) = true) : tkV tx len i < n := by
  cases n with
  | zero =>
    simp only [tN, Bool.and_eq_true, Bool.not_eq_true', decide_eq_false_iff_not] at h
    have hv := tkV_le tx len i
    refine absurd ?_ h.2.2
    rw [Int32.lt_iff_toInt_lt, nI_toInt (by omega)]
    show (-1 : Int) < _
    omega
  | succ n =>
    rw [nI_pred] at h
    have := (tN_V (lo := 0) (by omega) (by omega) h).2
    omega
theorem ne_f {b : Bool} (h : b = true) : ¬ b = false := by rw [h]; decide
theorem ne_t {b : Bool} (h : b = false) : ¬ b = true := by rw [h]; decide
abbrev rX5_readsPeak : Room := { frames := 4, cells := 0, slots := 0, locals := 85 }
set_option maxHeartbeats 4000000 in
set_option maxRecDepth 100000 in
theorem c_X5_readsPeak (l : Launch) (G : kG) (h : Nat) (v : Nat → Int32) (q : Nat → Nat) (tx : Nat → Int32) (h2 : Nat) (v2 : Nat → Int32) (q2 : Nat → Nat) (xs : Nat → Int32) (ys : Nat → Int32) (hs : Nat → Int32) (fs : Nat → Int32) (ss : Nat → Int32) (pk : Nat → Int32) (σ : PS) (len : Nat) (s0 : Nat) (i : Nat) (hv1 : v 1 = nI len) (hlen : len ≤ 140) (hv3 : v 3 = nI i) (hi : i ≤ len) (hok : okPS σ) (hob : obL σ v2) (har : arL σ xs ys hs fs ss pk) (hv2 : v 2 = nI s0) : Ci l G yX5_readsPeak wsX5_readsPeak rX5_readsPeak [.ref h, .ref h2] [oB h 5 (oF5 v q), aI G (q 0) 140 tx, oB h2 1 (oF1 v2 q2), aI G (q2 0) 10 xs, aI G (q2 1) 10 ys, aI G (q2 2) 10 hs, aZ G (q2 8) 64 pk] (fun r (u : (Nat → Int32) × (Nat → Int32) × (Nat → Int32) × (Nat → Int32) × (Nat → Int32) × (Nat → Int32)) => r = b2i (itPeak tx len σ s0 i).1.1 ∧ u.1 1 = nI len ∧ u.1 2 = nI (itPeak tx len σ s0 i).1.2.1 ∧ u.1 3 = nI (itPeak tx len σ s0 i).1.2.2 ∧ obL (itPeak tx len σ s0 i).2 u.2.1 ∧ arL (itPeak tx len σ s0 i).2 u.2.2.1 u.2.2.2.1 u.2.2.2.2.1 fs ss u.2.2.2.2.2) (fun u => [oB h 5 (oF5 u.1 q), aI G (q 0) 140 tx, oB h2 1 (oF1 u.2.1 q2), aI G (q2 0) 10 u.2.2.1, aI G (q2 1) 10 u.2.2.2.1, aI G (q2 2) 10 u.2.2.2.2.1, aZ G (q2 8) 64 u.2.2.2.2.2]) := by
  refine Ci.of (cc := cX5_readsPeak) (maxL := 5) (by decide) rfl (Nat.le_of_ble_eq_true rfl) ?_
  intro pM eM sM mM bM tM cM Q A hx hb hts hown hml hA hK hP hD hS hret ls hl
  have hown : sM.vm.findClass RX5 = some mM.cls := hown
  have hl : lv_has ls 5 [(0, .ref h), (1, .ref h2)] := hl
  have hin1 : ∀ w ∈ u_ws RX1 TX1 11, w ∈ wsX5_readsPeak := by decide +kernel
  have hin5 : ∀ w ∈ u_ws RX5 TX5 6, w ∈ wsX5_readsPeak := by decide +kernel
  have f46 := hts (.fieldLink RX5 46 "HorizonPeaks$Land" "peaks" "I") (by decide +kernel)
  have f53 := hts (.fieldLink RX5 53 "HorizonPeaks$Text" "value" "I") (by decide +kernel)
  have hn10 := hok.1
  refine lv_aload_n hx hb dX5_readsPeak_0 rfl (lv_at hl 1 rfl) ?_
  refine va_get (D := G.1) (ci := 1) (v := .int (v2 3)) (C := RX1) (T := TX1) (N := 11) hx hb hts hin1 hown hK.1 hP 2 rfl rfl 3 (by decide) f46 (fun _ h9 => h9) rfl dX5_readsPeak_1 ?_
  refine top_i (y := nI (zn σ)) (hob.1) ?_
  refine lv_bipush (v := 10) hx hb dX5_readsPeak_4 (by decide) ?_
  refine lv_icmp_ge (tgt := 19) hx hb dX5_readsPeak_6 (by decide) (fun c_6 => ?_) (fun c_6 => ?_)
  · have c_6 : 10 ≤ (zn σ) := (c_le (a := 10) (b := zn σ) rfl rfl (by omega) (by omega)).mp c_6
    refine lv_iconst (v := 0) hx hb dX5_readsPeak_19 (by decide) ?_
    have hpost : 0 = b2i (itPeak tx len σ s0 i).1.1 ∧ (v, v2, xs, ys, hs, pk).1 1 = nI len ∧ (v, v2, xs, ys, hs, pk).1 2 = nI (itPeak tx len σ s0 i).1.2.1 ∧ (v, v2, xs, ys, hs, pk).1 3 = nI (itPeak tx len σ s0 i).1.2.2 ∧ obL (itPeak tx len σ s0 i).2 (v, v2, xs, ys, hs, pk).2.1 ∧ arL (itPeak tx len σ s0 i).2 (v, v2, xs, ys, hs, pk).2.2.1 (v, v2, xs, ys, hs, pk).2.2.2.1 (v, v2, xs, ys, hs, pk).2.2.2.2.1 fs ss (v, v2, xs, ys, hs, pk).2.2.2.2.2 := by
      have e : itPeak tx len σ s0 i = ((false, s0, i), σ) := by rw [itPeak, if_pos c_6]
      rw [e]
      exact ⟨rfl, hv1, hv2, hv3, hob, har⟩
    exact hret _ (v, v2, xs, ys, hs, pk) _ _ _ _ (hpost) (rfl) hP hD hS dX5_readsPeak_20
  · have c_6 : ¬ 10 ≤ (zn σ) := fun hne => c_6 ((c_le (a := 10) (b := zn σ) rfl rfl (by omega) (by omega)).mpr hne)
    refine lv_aload_n hx hb dX5_readsPeak_9 rfl (lv_at hl 0 rfl) ?_
    refine lv_iconst (v := 0) hx hb dX5_readsPeak_10 (by decide) ?_
    refine lv_bipush (v := 7) hx hb dX5_readsPeak_11 (by decide) ?_
    refine ca_i (wr := [oB h2 1 (oF1 v2 q2), aI G (q2 0) 10 xs, aI G (q2 1) 10 ys, aI G (q2 2) 10 hs, aZ G (q2 8) 64 pk]) (va_runV (As := [.int 0, .int 7]) (rest := []) ⟨hx, hb, hml, hown, hts⟩ ((c_X5_readsNumber l G h v q tx len i 0 7 (hv1) (hlen) (hv3) (hi)) _) (cwV 2 hts gX5_readsPeak_X5_readsNumber rfl rfl rfl (by decide +kernel) ⟨Nat.le_of_ble_eq_true rfl, Nat.le_of_ble_eq_true rfl⟩) (cPre_V hK hP hD [0, 1] (by decide) rfl 0 5 rfl rfl) rfl rfl hl.1 rfl (lv_room (Nat.le_of_ble_eq_true rfl)) dX5_readsPeak_13 ⟨Nat.zero_le _, Nat.zero_le _⟩) hP hD hS hA [0, 1] [2, 3, 4, 5, 6] rfl rfl (by decide) (by decide) [5, 6, 0, 1, 2, 3, 4] (fun u_13 => [oB h 5 (oF5 u_13 q), aI G (q 0) 140 tx, oB h2 1 (oF1 v2 q2), aI G (q2 0) 10 xs, aI G (q2 1) 10 ys, aI G (q2 2) 10 hs, aZ G (q2 8) 64 pk]) (by decide) (fun _ => rfl) (fun r_13 u_13 H locs q_13 hP hD hS => ?_)
    obtain ⟨rfl, q_13⟩ : r_13 = b2i (tN tx len i 0 7) ∧ (u_13 1 = nI len ∧ u_13 2 = nI (tkS tx len i) ∧ u_13 3 = nI (tkE tx len i) ∧ u_13 4 = tkK tx len i ∧ (tN tx len i 0 7 = true → u_13 5 = nI (tkV tx len i))) := q_13
    have hP : va_P G.1 vwCl [oB h 5 (oF5 u_13 q), aI G (q 0) 140 tx, oB h2 1 (oF1 v2 q2), aI G (q2 0) 10 xs, aI G (q2 1) 10 ys, aI G (q2 2) 10 hs, aZ G (q2 8) 64 pk] H := hP
    have hD : va_D A [oB h 5 (oF5 u_13 q), aI G (q 0) 140 tx, oB h2 1 (oF1 v2 q2), aI G (q2 0) 10 xs, aI G (q2 1) 10 ys, aI G (q2 2) 10 hs, aZ G (q2 8) 64 pk] := hD
    refine lv_if_ne (tgt := 21) hx hb dX5_readsPeak_16 (by decide) (fun c_16 => ?_) (fun c_16 => ?_)
    · have c_16 : (tN tx len i 0 7) = true := b2i_n0.mp c_16
      have hV0 := (tN_V (lo := 0) (hi := 7) (by decide) (by decide) c_16).2
      refine lv_aload_n hx hb dX5_readsPeak_21 rfl (lv_at hl 0 rfl) ?_
      refine va_get (D := G.1) (ci := 5) (v := .int (u_13 5)) (C := RX5) (T := TX5) (N := 6) hx hb hts hin5 hown hK.1 hP 0 rfl rfl 5 (by decide) f53 (fun _ h9 => h9) rfl dX5_readsPeak_22 ?_
      refine top_i (y := nI (tkV tx len i)) (q_13.2.2.2.2 c_16) ?_
      refine lv_istore_n (lv' := [(2, .int (nI (tkV tx len i))), (0, .ref h), (1, .ref h2)]) hx hb dX5_readsPeak_25 rfl hl (by decide) rfl (fun ls hl => ?_)
      refine lv_aload_n hx hb dX5_readsPeak_26 rfl (lv_at hl 1 rfl) ?_
      refine lv_iconst (v := 0) hx hb dX5_readsPeak_27 (by decide) ?_
      refine lv_bipush (v := 7) hx hb dX5_readsPeak_28 (by decide) ?_
      refine ca_i (wr := [oB h2 1 (oF1 v2 q2), aI G (q2 0) 10 xs, aI G (q2 1) 10 ys, aI G (q2 2) 10 hs, aZ G (q2 8) 64 pk]) (va_runV (As := [.int 0, .int 7]) (rest := []) ⟨hx, hb, hml, hown, hts⟩ ((c_X5_readsNumber l G h u_13 q tx len (tkE tx len i) 0 7 (q_13.1) (hlen) (q_13.2.2.1) ((tk_le hi).2.2)) _) (cwV 2 hts gX5_readsPeak_X5_readsNumber rfl rfl rfl (by decide +kernel) ⟨Nat.le_of_ble_eq_true rfl, Nat.le_of_ble_eq_true rfl⟩) (cPre_V hK hP hD [0, 1] (by decide) rfl 0 5 rfl rfl) rfl rfl hl.1 rfl (lv_room (Nat.le_of_ble_eq_true rfl)) dX5_readsPeak_30 ⟨Nat.zero_le _, Nat.zero_le _⟩) hP hD hS hA [0, 1] [2, 3, 4, 5, 6] rfl rfl (by decide) (by decide) [5, 6, 0, 1, 2, 3, 4] (fun u_30 => [oB h 5 (oF5 u_30 q), aI G (q 0) 140 tx, oB h2 1 (oF1 v2 q2), aI G (q2 0) 10 xs, aI G (q2 1) 10 ys, aI G (q2 2) 10 hs, aZ G (q2 8) 64 pk]) (by decide) (fun _ => rfl) (fun r_30 u_30 H locs q_30 hP hD hS => ?_)
      obtain ⟨rfl, q_30⟩ : r_30 = b2i (tN tx len (tkE tx len i) 0 7) ∧ (u_30 1 = nI len ∧ u_30 2 = nI (tkS tx len (tkE tx len i)) ∧ u_30 3 = nI (tkE tx len (tkE tx len i)) ∧ u_30 4 = tkK tx len (tkE tx len i) ∧ (tN tx len (tkE tx len i) 0 7 = true → u_30 5 = nI (tkV tx len (tkE tx len i)))) := q_30
      have hP : va_P G.1 vwCl [oB h 5 (oF5 u_30 q), aI G (q 0) 140 tx, oB h2 1 (oF1 v2 q2), aI G (q2 0) 10 xs, aI G (q2 1) 10 ys, aI G (q2 2) 10 hs, aZ G (q2 8) 64 pk] H := hP
      have hD : va_D A [oB h 5 (oF5 u_30 q), aI G (q 0) 140 tx, oB h2 1 (oF1 v2 q2), aI G (q2 0) 10 xs, aI G (q2 1) 10 ys, aI G (q2 2) 10 hs, aZ G (q2 8) 64 pk] := hD
      refine lv_if_ne (tgt := 38) hx hb dX5_readsPeak_33 (by decide) (fun c_33 => ?_) (fun c_33 => ?_)
      · have c_33 : (tN tx len (tkE tx len i) 0 7) = true := b2i_n0.mp c_33
        have hV1 := (tN_V (lo := 0) (hi := 7) (by decide) (by decide) c_33).2
        refine lv_aload_n hx hb dX5_readsPeak_38 rfl (lv_at hl 1 rfl) ?_
        refine va_get (D := G.1) (ci := 5) (v := .int (u_30 5)) (C := RX5) (T := TX5) (N := 6) hx hb hts hin5 hown hK.1 hP 0 rfl rfl 5 (by decide) f53 (fun _ h9 => h9) rfl dX5_readsPeak_39 ?_
        refine top_i (y := nI (tkV tx len (tkE tx len i))) (q_30.2.2.2.2 c_33) ?_
        refine lv_istore_n (lv' := [(3, .int (nI (tkV tx len (tkE tx len i)))), (2, .int (nI (tkV tx len i))), (0, .ref h), (1, .ref h2)]) hx hb dX5_readsPeak_42 rfl hl (by decide) rfl (fun ls hl => ?_)
        refine lv_aload_n hx hb dX5_readsPeak_43 rfl (lv_at hl 3 rfl) ?_
        refine lv_iload_n hx hb dX5_readsPeak_44 rfl (lv_at hl 1 rfl) ?_
        refine lv_iload_n hx hb dX5_readsPeak_45 rfl (lv_at hl 0 rfl) ?_
        refine rd_i (va_runV (As := [.int (nI (tkV tx len i)), .int (nI (tkV tx len (tkE tx len i)))]) (rest := []) ⟨hx, hb, hml, hown, hts⟩ (c_X1_isPlace l G h2 v2 q2 pk (nI (tkV tx len i)) (nI (tkV tx len (tkE tx len i)))) (cwV 2 hts gX5_readsPeak_X1_isPlace rfl rfl rfl (by decide +kernel) ⟨Nat.le_of_ble_eq_true rfl, Nat.le_of_ble_eq_true rfl⟩) (rPre_V hK hP [2, 6] rfl 0 1 rfl rfl) rfl rfl hl.1 rfl (lv_room (Nat.le_of_ble_eq_true rfl)) dX5_readsPeak_46 ⟨Nat.zero_le _, Nat.zero_le _⟩) (fun r_46 q_46 => ?_)
        obtain rfl : r_46 = b2i (pPlace pk (nI (tkV tx len i)) (nI (tkV tx len (tkE tx len i)))) := q_46
        refine lv_if_eq (tgt := 62) hx hb dX5_readsPeak_49 (by decide) (fun c_49 => ?_) (fun c_49 => ?_)
        · have c_49 : (pPlace pk (nI (tkV tx len i)) (nI (tkV tx len (tkE tx len i)))) = false := b2i_0.mp c_49
          refine lv_iconst (v := 0) hx hb dX5_readsPeak_62 (by decide) ?_
          have hpost : 0 = b2i (itPeak tx len σ s0 i).1.1 ∧ (u_30, v2, xs, ys, hs, pk).1 1 = nI len ∧ (u_30, v2, xs, ys, hs, pk).1 2 = nI (itPeak tx len σ s0 i).1.2.1 ∧ (u_30, v2, xs, ys, hs, pk).1 3 = nI (itPeak tx len σ s0 i).1.2.2 ∧ obL (itPeak tx len σ s0 i).2 (u_30, v2, xs, ys, hs, pk).2.1 ∧ arL (itPeak tx len σ s0 i).2 (u_30, v2, xs, ys, hs, pk).2.2.1 (u_30, v2, xs, ys, hs, pk).2.2.2.1 (u_30, v2, xs, ys, hs, pk).2.2.2.2.1 fs ss (u_30, v2, xs, ys, hs, pk).2.2.2.2.2 := by
            have hpa : pAtN (zx σ) (zy σ) (zn σ) (tkV tx len i * 8 + tkV tx len (tkE tx len i)) = true := by
              rw [pPlace_nI pk (by omega) (by omega), har.2.2 _ (by omega)] at c_49
              revert c_49; cases pAtN (zx σ) (zy σ) (zn σ) (tkV tx len i * 8 + tkV tx len (tkE tx len i)) <;> decide
            have e : itPeak tx len σ s0 i = ((false, tkS tx len (tkE tx len i), tkE tx len (tkE tx len i)), σ) := by rw [itPeak, if_neg c_6, if_neg (ne_f c_16), if_neg (ne_f c_33), if_pos hpa]
            rw [e]
            obtain ⟨k1, k2, k3, k4, k5⟩ := q_30
            exact ⟨rfl, k1, k2, k3, hob, har⟩
          exact hret _ (u_30, v2, xs, ys, hs, pk) _ _ _ _ (hpost) (rfl) hP hD hS dX5_readsPeak_63
        · have c_49 : (pPlace pk (nI (tkV tx len i)) (nI (tkV tx len (tkE tx len i)))) = true := b2i_n0.mp c_49
          have hpf : pAtN (zx σ) (zy σ) (zn σ) (tkV tx len i * 8 + tkV tx len (tkE tx len i)) = false := by
            rw [pPlace_nI pk (by omega) (by omega), har.2.2 _ (by omega)] at c_49
            revert c_49; cases pAtN (zx σ) (zy σ) (zn σ) (tkV tx len i * 8 + tkV tx len (tkE tx len i)) <;> decide
          refine lv_aload_n hx hb dX5_readsPeak_52 rfl (lv_at hl 2 rfl) ?_
          refine lv_iconst (v := 1) hx hb dX5_readsPeak_53 (by decide) ?_
          refine lv_bipush (v := 40) hx hb dX5_readsPeak_54 (by decide) ?_
          refine ca_i (wr := [oB h2 1 (oF1 v2 q2), aI G (q2 0) 10 xs, aI G (q2 1) 10 ys, aI G (q2 2) 10 hs, aZ G (q2 8) 64 pk]) (va_runV (As := [.int 1, .int 40]) (rest := []) ⟨hx, hb, hml, hown, hts⟩ ((c_X5_readsNumber l G h u_30 q tx len (tkE tx len (tkE tx len i)) 1 40 (q_30.1) (hlen) (q_30.2.2.1) ((tk_le (tk_le hi).2.2).2.2)) _) (cwV 2 hts gX5_readsPeak_X5_readsNumber rfl rfl rfl (by decide +kernel) ⟨Nat.le_of_ble_eq_true rfl, Nat.le_of_ble_eq_true rfl⟩) (cPre_V hK hP hD [0, 1] (by decide) rfl 0 5 rfl rfl) rfl rfl hl.1 rfl (lv_room (Nat.le_of_ble_eq_true rfl)) dX5_readsPeak_56 ⟨Nat.zero_le _, Nat.zero_le _⟩) hP hD hS hA [0, 1] [2, 3, 4, 5, 6] rfl rfl (by decide) (by decide) [5, 6, 0, 1, 2, 3, 4] (fun u_56 => [oB h 5 (oF5 u_56 q), aI G (q 0) 140 tx, oB h2 1 (oF1 v2 q2), aI G (q2 0) 10 xs, aI G (q2 1) 10 ys, aI G (q2 2) 10 hs, aZ G (q2 8) 64 pk]) (by decide) (fun _ => rfl) (fun r_56 u_56 H locs q_56 hP hD hS => ?_)
          obtain ⟨rfl, q_56⟩ : r_56 = b2i (tN tx len (tkE tx len (tkE tx len i)) 1 40) ∧ (u_56 1 = nI len ∧ u_56 2 = nI (tkS tx len (tkE tx len (tkE tx len i))) ∧ u_56 3 = nI (tkE tx len (tkE tx len (tkE tx len i))) ∧ u_56 4 = tkK tx len (tkE tx len (tkE tx len i)) ∧ (tN tx len (tkE tx len (tkE tx len i)) 1 40 = true → u_56 5 = nI (tkV tx len (tkE tx len (tkE tx len i))))) := q_56
          have hP : va_P G.1 vwCl [oB h 5 (oF5 u_56 q), aI G (q 0) 140 tx, oB h2 1 (oF1 v2 q2), aI G (q2 0) 10 xs, aI G (q2 1) 10 ys, aI G (q2 2) 10 hs, aZ G (q2 8) 64 pk] H := hP
          have hD : va_D A [oB h 5 (oF5 u_56 q), aI G (q 0) 140 tx, oB h2 1 (oF1 v2 q2), aI G (q2 0) 10 xs, aI G (q2 1) 10 ys, aI G (q2 2) 10 hs, aZ G (q2 8) 64 pk] := hD
          refine lv_if_ne (tgt := 64) hx hb dX5_readsPeak_59 (by decide) (fun c_59 => ?_) (fun c_59 => ?_)
          · have c_59 : (tN tx len (tkE tx len (tkE tx len i)) 1 40) = true := b2i_n0.mp c_59
            have hV2 := tN_V (lo := 1) (hi := 40) (by decide) (by decide) c_59
            refine lv_aload_n hx hb dX5_readsPeak_64 rfl (lv_at hl 2 rfl) ?_
            refine va_get (D := G.1) (ci := 5) (v := .int (u_56 5)) (C := RX5) (T := TX5) (N := 6) hx hb hts hin5 hown hK.1 hP 0 rfl rfl 5 (by decide) f53 (fun _ h9 => h9) rfl dX5_readsPeak_65 ?_
            refine top_i (y := nI (tkV tx len (tkE tx len (tkE tx len i)))) (q_56.2.2.2.2 c_59) ?_
            refine lv_istore (lv' := [(4, .int (nI (tkV tx len (tkE tx len (tkE tx len i))))), (3, .int (nI (tkV tx len (tkE tx len i)))), (2, .int (nI (tkV tx len i))), (0, .ref h), (1, .ref h2)]) hx hb dX5_readsPeak_68 hl (by decide) rfl (fun ls hl => ?_)
            refine lv_aload_n hx hb dX5_readsPeak_70 rfl (lv_at hl 3 rfl) ?_
            refine ca_i (wr := [oB h2 1 (oF1 v2 q2), aI G (q2 0) 10 xs, aI G (q2 1) 10 ys, aI G (q2 2) 10 hs, aZ G (q2 8) 64 pk]) (va_runV (As := []) (rest := []) ⟨hx, hb, hml, hown, hts⟩ ((c_X5_readsItemEnd l G h u_56 q tx len (tkE tx len (tkE tx len (tkE tx len i))) (q_56.1) (hlen) (q_56.2.2.1) ((tk_le (tk_le (tk_le hi).2.2).2.2).2.2)) _) (cwV 0 hts gX5_readsPeak_X5_readsItemEnd rfl rfl rfl (by decide +kernel) ⟨Nat.le_of_ble_eq_true rfl, Nat.le_of_ble_eq_true rfl⟩) (cPre_V hK hP hD [0, 1] (by decide) rfl 0 5 rfl rfl) rfl rfl hl.1 rfl (lv_room (Nat.le_of_ble_eq_true rfl)) dX5_readsPeak_71 ⟨Nat.zero_le _, Nat.zero_le _⟩) hP hD hS hA [0, 1] [2, 3, 4, 5, 6] rfl rfl (by decide) (by decide) [5, 6, 0, 1, 2, 3, 4] (fun u_71 => [oB h 5 (oF5 u_71 q), aI G (q 0) 140 tx, oB h2 1 (oF1 v2 q2), aI G (q2 0) 10 xs, aI G (q2 1) 10 ys, aI G (q2 2) 10 hs, aZ G (q2 8) 64 pk]) (by decide) (fun _ => rfl) (fun r_71 u_71 H locs q_71 hP hD hS => ?_)
            obtain ⟨rfl, q_71⟩ : r_71 = b2i (decide (tkK tx len (tkE tx len (tkE tx len (tkE tx len i))) = 59)) ∧ (u_71 1 = nI len ∧ u_71 2 = nI (tkS tx len (tkE tx len (tkE tx len (tkE tx len i)))) ∧ u_71 3 = nI (tkE tx len (tkE tx len (tkE tx len (tkE tx len i)))) ∧ u_71 4 = tkK tx len (tkE tx len (tkE tx len (tkE tx len i)))) := q_71
            have hP : va_P G.1 vwCl [oB h 5 (oF5 u_71 q), aI G (q 0) 140 tx, oB h2 1 (oF1 v2 q2), aI G (q2 0) 10 xs, aI G (q2 1) 10 ys, aI G (q2 2) 10 hs, aZ G (q2 8) 64 pk] H := hP
            have hD : va_D A [oB h 5 (oF5 u_71 q), aI G (q 0) 140 tx, oB h2 1 (oF1 v2 q2), aI G (q2 0) 10 xs, aI G (q2 1) 10 ys, aI G (q2 2) 10 hs, aZ G (q2 8) 64 pk] := hD
            refine lv_if_ne (tgt := 79) hx hb dX5_readsPeak_74 (by decide) (fun c_74 => ?_) (fun c_74 => ?_)
            · have c_74 : (decide (tkK tx len (tkE tx len (tkE tx len (tkE tx len i))) = 59)) = true := b2i_n0.mp c_74
              refine lv_aload_n hx hb dX5_readsPeak_79 rfl (lv_at hl 4 rfl) ?_
              refine lv_iload_n hx hb dX5_readsPeak_80 rfl (lv_at hl 2 rfl) ?_
              refine lv_iload_n hx hb dX5_readsPeak_81 rfl (lv_at hl 1 rfl) ?_
              refine lv_iload hx hb dX5_readsPeak_82 (lv_at hl 0 rfl) ?_
              refine ca_v (wr := [oB h 5 (oF5 u_71 q), aI G (q 0) 140 tx]) (va_runV (As := [.int (nI (tkV tx len i)), .int (nI (tkV tx len (tkE tx len i))), .int (nI (tkV tx len (tkE tx len (tkE tx len i))))]) (rest := []) ⟨hx, hb, hml, hown, hts⟩ ((c_X1_addPeak l G h2 v2 q2 xs ys hs pk (zn σ) (tkV tx len i) (tkV tx len (tkE tx len i)) (nI (tkV tx len (tkE tx len (tkE tx len i)))) (hob.1) (by omega) (by omega) (by omega) (by rw [har.2.2 _ (by omega), hpf]; rfl)) _) (cwV 3 hts gX5_readsPeak_X1_addPeak rfl rfl rfl (by decide +kernel) ⟨Nat.le_of_ble_eq_true rfl, Nat.le_of_ble_eq_true rfl⟩) (cPre_V hK hP hD [2, 3, 4, 5, 6] (by decide) rfl 0 1 rfl rfl) rfl rfl hl.1 rfl (lv_room (Nat.le_of_ble_eq_true rfl)) dX5_readsPeak_84 ⟨Nat.zero_le _, Nat.zero_le _⟩) hP hD hS hA [2, 3, 4, 5, 6] [0, 1] rfl rfl (by decide) (by decide) [0, 1, 2, 3, 4, 5, 6] (fun u_84 => [oB h 5 (oF5 u_71 q), aI G (q 0) 140 tx, oB h2 1 (oF1 (upd v2 3 (nI ((zn σ) + 1))) q2), aI G (q2 0) 10 (upd xs (zn σ) (nI (tkV tx len i))), aI G (q2 1) 10 (upd ys (zn σ) (nI (tkV tx len (tkE tx len i)))), aI G (q2 2) 10 (upd hs (zn σ) (nI (tkV tx len (tkE tx len (tkE tx len i))))), aZ G (q2 8) 64 (upd pk ((tkV tx len i) * 8 + (tkV tx len (tkE tx len i))) 1)]) (by decide) (fun _ => rfl) (fun u_84 H locs q_84 hP hD hS => ?_)
              have hP : va_P G.1 vwCl [oB h 5 (oF5 u_71 q), aI G (q 0) 140 tx, oB h2 1 (oF1 (upd v2 3 (nI ((zn σ) + 1))) q2), aI G (q2 0) 10 (upd xs (zn σ) (nI (tkV tx len i))), aI G (q2 1) 10 (upd ys (zn σ) (nI (tkV tx len (tkE tx len i)))), aI G (q2 2) 10 (upd hs (zn σ) (nI (tkV tx len (tkE tx len (tkE tx len i))))), aZ G (q2 8) 64 (upd pk ((tkV tx len i) * 8 + (tkV tx len (tkE tx len i))) 1)] H := hP
              have hD : va_D A [oB h 5 (oF5 u_71 q), aI G (q 0) 140 tx, oB h2 1 (oF1 (upd v2 3 (nI ((zn σ) + 1))) q2), aI G (q2 0) 10 (upd xs (zn σ) (nI (tkV tx len i))), aI G (q2 1) 10 (upd ys (zn σ) (nI (tkV tx len (tkE tx len i)))), aI G (q2 2) 10 (upd hs (zn σ) (nI (tkV tx len (tkE tx len (tkE tx len i))))), aZ G (q2 8) 64 (upd pk ((tkV tx len i) * 8 + (tkV tx len (tkE tx len i))) 1)] := hD
              refine lv_iconst (v := 1) hx hb dX5_readsPeak_87 (by decide) ?_
              have hpost : 1 = b2i (itPeak tx len σ s0 i).1.1 ∧ (u_71, upd v2 3 (nI ((zn σ) + 1)), upd xs (zn σ) (nI (tkV tx len i)), upd ys (zn σ) (nI (tkV tx len (tkE tx len i))), upd hs (zn σ) (nI (tkV tx len (tkE tx len (tkE tx len i)))), upd pk ((tkV tx len i) * 8 + (tkV tx len (tkE tx len i))) 1).1 1 = nI len ∧ (u_71, upd v2 3 (nI ((zn σ) + 1)), upd xs (zn σ) (nI (tkV tx len i)), upd ys (zn σ) (nI (tkV tx len (tkE tx len i))), upd hs (zn σ) (nI (tkV tx len (tkE tx len (tkE tx len i)))), upd pk ((tkV tx len i) * 8 + (tkV tx len (tkE tx len i))) 1).1 2 = nI (itPeak tx len σ s0 i).1.2.1 ∧ (u_71, upd v2 3 (nI ((zn σ) + 1)), upd xs (zn σ) (nI (tkV tx len i)), upd ys (zn σ) (nI (tkV tx len (tkE tx len i))), upd hs (zn σ) (nI (tkV tx len (tkE tx len (tkE tx len i)))), upd pk ((tkV tx len i) * 8 + (tkV tx len (tkE tx len i))) 1).1 3 = nI (itPeak tx len σ s0 i).1.2.2 ∧ obL (itPeak tx len σ s0 i).2 (u_71, upd v2 3 (nI ((zn σ) + 1)), upd xs (zn σ) (nI (tkV tx len i)), upd ys (zn σ) (nI (tkV tx len (tkE tx len i))), upd hs (zn σ) (nI (tkV tx len (tkE tx len (tkE tx len i)))), upd pk ((tkV tx len i) * 8 + (tkV tx len (tkE tx len i))) 1).2.1 ∧ arL (itPeak tx len σ s0 i).2 (u_71, upd v2 3 (nI ((zn σ) + 1)), upd xs (zn σ) (nI (tkV tx len i)), upd ys (zn σ) (nI (tkV tx len (tkE tx len i))), upd hs (zn σ) (nI (tkV tx len (tkE tx len (tkE tx len i)))), upd pk ((tkV tx len i) * 8 + (tkV tx len (tkE tx len i))) 1).2.2.1 (u_71, upd v2 3 (nI ((zn σ) + 1)), upd xs (zn σ) (nI (tkV tx len i)), upd ys (zn σ) (nI (tkV tx len (tkE tx len i))), upd hs (zn σ) (nI (tkV tx len (tkE tx len (tkE tx len i)))), upd pk ((tkV tx len i) * 8 + (tkV tx len (tkE tx len i))) 1).2.2.2.1 (u_71, upd v2 3 (nI ((zn σ) + 1)), upd xs (zn σ) (nI (tkV tx len i)), upd ys (zn σ) (nI (tkV tx len (tkE tx len i))), upd hs (zn σ) (nI (tkV tx len (tkE tx len (tkE tx len i)))), upd pk ((tkV tx len i) * 8 + (tkV tx len (tkE tx len i))) 1).2.2.2.2.1 fs ss (u_71, upd v2 3 (nI ((zn σ) + 1)), upd xs (zn σ) (nI (tkV tx len i)), upd ys (zn σ) (nI (tkV tx len (tkE tx len i))), upd hs (zn σ) (nI (tkV tx len (tkE tx len (tkE tx len i)))), upd pk ((tkV tx len i) * 8 + (tkV tx len (tkE tx len i))) 1).2.2.2.2.2 := by
                have hpb : pAtN (zx σ) (zy σ) (zn σ) (tkV tx len i * 8 + tkV tx len (tkE tx len i)) = false := hpf
                have e : itPeak tx len σ s0 i = ((true, tkS tx len (tkE tx len (tkE tx len (tkE tx len i))), tkE tx len (tkE tx len (tkE tx len (tkE tx len i)))), addP σ (tkV tx len i) (tkV tx len (tkE tx len i)) (tkV tx len (tkE tx len (tkE tx len i)))) := by rw [itPeak, if_neg c_6, if_neg (ne_f c_16), if_neg (ne_f c_33), if_neg (ne_t hpb), if_neg (ne_f c_59), if_pos (of_decide_eq_true c_74)]
                rw [e]
                obtain ⟨k1, k2, k3, k4⟩ := q_71
                exact ⟨rfl, k1, k2, k3, ⟨rfl, hob.2.1, hob.2.2⟩, arL_P har (by omega) (by omega)⟩
              exact hret _ (u_71, upd v2 3 (nI ((zn σ) + 1)), upd xs (zn σ) (nI (tkV tx len i)), upd ys (zn σ) (nI (tkV tx len (tkE tx len i))), upd hs (zn σ) (nI (tkV tx len (tkE tx len (tkE tx len i)))), upd pk ((tkV tx len i) * 8 + (tkV tx len (tkE tx len i))) 1) _ _ _ _ (hpost) (rfl) hP hD hS dX5_readsPeak_88
            · have c_74 : (decide (tkK tx len (tkE tx len (tkE tx len (tkE tx len i))) = 59)) = false := b2i_0.mp c_74
              refine lv_iconst (v := 0) hx hb dX5_readsPeak_77 (by decide) ?_
              have hpost : 0 = b2i (itPeak tx len σ s0 i).1.1 ∧ (u_71, v2, xs, ys, hs, pk).1 1 = nI len ∧ (u_71, v2, xs, ys, hs, pk).1 2 = nI (itPeak tx len σ s0 i).1.2.1 ∧ (u_71, v2, xs, ys, hs, pk).1 3 = nI (itPeak tx len σ s0 i).1.2.2 ∧ obL (itPeak tx len σ s0 i).2 (u_71, v2, xs, ys, hs, pk).2.1 ∧ arL (itPeak tx len σ s0 i).2 (u_71, v2, xs, ys, hs, pk).2.2.1 (u_71, v2, xs, ys, hs, pk).2.2.2.1 (u_71, v2, xs, ys, hs, pk).2.2.2.2.1 fs ss (u_71, v2, xs, ys, hs, pk).2.2.2.2.2 := by
                have hpb : pAtN (zx σ) (zy σ) (zn σ) (tkV tx len i * 8 + tkV tx len (tkE tx len i)) = false := hpf
                have e : itPeak tx len σ s0 i = ((false, tkS tx len (tkE tx len (tkE tx len (tkE tx len i))), tkE tx len (tkE tx len (tkE tx len (tkE tx len i)))), σ) := by rw [itPeak, if_neg c_6, if_neg (ne_f c_16), if_neg (ne_f c_33), if_neg (ne_t hpb), if_neg (ne_f c_59), if_neg (of_decide_eq_false c_74)]
                rw [e]
                obtain ⟨k1, k2, k3, k4⟩ := q_71
                exact ⟨rfl, k1, k2, k3, hob, har⟩
              exact hret _ (u_71, v2, xs, ys, hs, pk) _ _ _ _ (hpost) (rfl) hP hD hS dX5_readsPeak_78
          · have c_59 : (tN tx len (tkE tx len (tkE tx len i)) 1 40) = false := b2i_0.mp c_59
            refine lv_iconst (v := 0) hx hb dX5_readsPeak_62 (by decide) ?_
            have hpost : 0 = b2i (itPeak tx len σ s0 i).1.1 ∧ (u_56, v2, xs, ys, hs, pk).1 1 = nI len ∧ (u_56, v2, xs, ys, hs, pk).1 2 = nI (itPeak tx len σ s0 i).1.2.1 ∧ (u_56, v2, xs, ys, hs, pk).1 3 = nI (itPeak tx len σ s0 i).1.2.2 ∧ obL (itPeak tx len σ s0 i).2 (u_56, v2, xs, ys, hs, pk).2.1 ∧ arL (itPeak tx len σ s0 i).2 (u_56, v2, xs, ys, hs, pk).2.2.1 (u_56, v2, xs, ys, hs, pk).2.2.2.1 (u_56, v2, xs, ys, hs, pk).2.2.2.2.1 fs ss (u_56, v2, xs, ys, hs, pk).2.2.2.2.2 := by
              have hpb : pAtN (zx σ) (zy σ) (zn σ) (tkV tx len i * 8 + tkV tx len (tkE tx len i)) = false := hpf
              have e : itPeak tx len σ s0 i = ((false, tkS tx len (tkE tx len (tkE tx len i)), tkE tx len (tkE tx len (tkE tx len i))), σ) := by rw [itPeak, if_neg c_6, if_neg (ne_f c_16), if_neg (ne_f c_33), if_neg (ne_t hpb), if_pos c_59]
              rw [e]
              obtain ⟨k1, k2, k3, k4, k5⟩ := q_56
              exact ⟨rfl, k1, k2, k3, hob, har⟩
            exact hret _ (u_56, v2, xs, ys, hs, pk) _ _ _ _ (hpost) (rfl) hP hD hS dX5_readsPeak_63
      · have c_33 : (tN tx len (tkE tx len i) 0 7) = false := b2i_0.mp c_33
        refine lv_iconst (v := 0) hx hb dX5_readsPeak_36 (by decide) ?_
        have hpost : 0 = b2i (itPeak tx len σ s0 i).1.1 ∧ (u_30, v2, xs, ys, hs, pk).1 1 = nI len ∧ (u_30, v2, xs, ys, hs, pk).1 2 = nI (itPeak tx len σ s0 i).1.2.1 ∧ (u_30, v2, xs, ys, hs, pk).1 3 = nI (itPeak tx len σ s0 i).1.2.2 ∧ obL (itPeak tx len σ s0 i).2 (u_30, v2, xs, ys, hs, pk).2.1 ∧ arL (itPeak tx len σ s0 i).2 (u_30, v2, xs, ys, hs, pk).2.2.1 (u_30, v2, xs, ys, hs, pk).2.2.2.1 (u_30, v2, xs, ys, hs, pk).2.2.2.2.1 fs ss (u_30, v2, xs, ys, hs, pk).2.2.2.2.2 := by
          have e : itPeak tx len σ s0 i = ((false, tkS tx len (tkE tx len i), tkE tx len (tkE tx len i)), σ) := by rw [itPeak, if_neg c_6, if_neg (ne_f c_16), if_pos c_33]
          rw [e]
          obtain ⟨k1, k2, k3, k4, k5⟩ := q_30
          exact ⟨rfl, k1, k2, k3, hob, har⟩
        exact hret _ (u_30, v2, xs, ys, hs, pk) _ _ _ _ (hpost) (rfl) hP hD hS dX5_readsPeak_37
    · have c_16 : (tN tx len i 0 7) = false := b2i_0.mp c_16
      refine lv_iconst (v := 0) hx hb dX5_readsPeak_19 (by decide) ?_
      have hpost : 0 = b2i (itPeak tx len σ s0 i).1.1 ∧ (u_13, v2, xs, ys, hs, pk).1 1 = nI len ∧ (u_13, v2, xs, ys, hs, pk).1 2 = nI (itPeak tx len σ s0 i).1.2.1 ∧ (u_13, v2, xs, ys, hs, pk).1 3 = nI (itPeak tx len σ s0 i).1.2.2 ∧ obL (itPeak tx len σ s0 i).2 (u_13, v2, xs, ys, hs, pk).2.1 ∧ arL (itPeak tx len σ s0 i).2 (u_13, v2, xs, ys, hs, pk).2.2.1 (u_13, v2, xs, ys, hs, pk).2.2.2.1 (u_13, v2, xs, ys, hs, pk).2.2.2.2.1 fs ss (u_13, v2, xs, ys, hs, pk).2.2.2.2.2 := by
        have e : itPeak tx len σ s0 i = ((false, tkS tx len i, tkE tx len i), σ) := by rw [itPeak, if_neg c_6, if_pos c_16]
        rw [e]
        obtain ⟨k1, k2, k3, k4, k5⟩ := q_13
        exact ⟨rfl, k1, k2, k3, hob, har⟩
      exact hret _ (u_13, v2, xs, ys, hs, pk) _ _ _ _ (hpost) (rfl) hP hD hS dX5_readsPeak_20

abbrev rX5_readsRidge : Room := { frames := 4, cells := 0, slots := 0, locals := 85 }
set_option maxHeartbeats 4000000 in
set_option maxRecDepth 100000 in
theorem c_X5_readsRidge (l : Launch) (G : kG) (h : Nat) (v : Nat → Int32) (q : Nat → Nat) (tx : Nat → Int32) (h2 : Nat) (v2 : Nat → Int32) (q2 : Nat → Nat) (xs : Nat → Int32) (ys : Nat → Int32) (hs : Nat → Int32) (fs : Nat → Int32) (ss : Nat → Int32) (pk : Nat → Int32) (σ : PS) (len : Nat) (s0 : Nat) (i : Nat) (hv1 : v 1 = nI len) (hlen : len ≤ 140) (hv3 : v 3 = nI i) (hi : i ≤ len) (hok : okPS σ) (hob : obL σ v2) (har : arL σ xs ys hs fs ss pk) (hv2 : v 2 = nI s0) : Ci l G yX5_readsRidge wsX5_readsRidge rX5_readsRidge [.ref h, .ref h2] [oB h 5 (oF5 v q), aI G (q 0) 140 tx, oB h2 1 (oF1 v2 q2), aI G (q2 4) 8 fs, aI G (q2 5) 8 ss] (fun r (u : (Nat → Int32) × (Nat → Int32) × (Nat → Int32) × (Nat → Int32)) => r = b2i (itRidge tx len σ s0 i).1.1 ∧ u.1 1 = nI len ∧ u.1 2 = nI (itRidge tx len σ s0 i).1.2.1 ∧ u.1 3 = nI (itRidge tx len σ s0 i).1.2.2 ∧ obL (itRidge tx len σ s0 i).2 u.2.1 ∧ arL (itRidge tx len σ s0 i).2 xs ys hs u.2.2.1 u.2.2.2 pk) (fun u => [oB h 5 (oF5 u.1 q), aI G (q 0) 140 tx, oB h2 1 (oF1 u.2.1 q2), aI G (q2 4) 8 u.2.2.1, aI G (q2 5) 8 u.2.2.2]) := by
  refine Ci.of (cc := cX5_readsRidge) (maxL := 4) (by decide) rfl (Nat.le_of_ble_eq_true rfl) ?_
  intro pM eM sM mM bM tM cM Q A hx hb hts hown hml hA hK hP hD hS hret ls hl
  have hown : sM.vm.findClass RX5 = some mM.cls := hown
  have hl : lv_has ls 4 [(0, .ref h), (1, .ref h2)] := hl
  have hin1 : ∀ w ∈ u_ws RX1 TX1 11, w ∈ wsX5_readsRidge := by decide +kernel
  have hin5 : ∀ w ∈ u_ws RX5 TX5 6, w ∈ wsX5_readsRidge := by decide +kernel
  have f67 := hts (.fieldLink RX5 67 "HorizonPeaks$Land" "ridges" "I") (by decide +kernel)
  have f46 := hts (.fieldLink RX5 46 "HorizonPeaks$Land" "peaks" "I") (by decide +kernel)
  have f53 := hts (.fieldLink RX5 53 "HorizonPeaks$Text" "value" "I") (by decide +kernel)
  have hn10 := hok.1
  have hm8 := hok.2.1
  have hVa := tkV_le tx len i
  have hVb := tkV_le tx len (tkE tx len i)
  refine lv_aload_n hx hb dX5_readsRidge_0 rfl (lv_at hl 1 rfl) ?_
  refine va_get (D := G.1) (ci := 1) (v := .int (v2 6)) (C := RX1) (T := TX1) (N := 11) hx hb hts hin1 hown hK.1 hP 2 rfl rfl 6 (by decide) f67 (fun _ h9 => h9) rfl dX5_readsRidge_1 ?_
  refine top_i (y := nI (zm σ)) (hob.2.1) ?_
  refine lv_bipush (v := 8) hx hb dX5_readsRidge_4 (by decide) ?_
  refine lv_icmp_ge (tgt := 23) hx hb dX5_readsRidge_6 (by decide) (fun c_6 => ?_) (fun c_6 => ?_)
  · have c_6 : 8 ≤ (zm σ) := (c_le (a := 8) (b := zm σ) rfl rfl (by omega) (by omega)).mp c_6
    refine lv_iconst (v := 0) hx hb dX5_readsRidge_23 (by decide) ?_
    have hpost : 0 = b2i (itRidge tx len σ s0 i).1.1 ∧ (v, v2, fs, ss).1 1 = nI len ∧ (v, v2, fs, ss).1 2 = nI (itRidge tx len σ s0 i).1.2.1 ∧ (v, v2, fs, ss).1 3 = nI (itRidge tx len σ s0 i).1.2.2 ∧ obL (itRidge tx len σ s0 i).2 (v, v2, fs, ss).2.1 ∧ arL (itRidge tx len σ s0 i).2 xs ys hs (v, v2, fs, ss).2.2.1 (v, v2, fs, ss).2.2.2 pk := by
      have e : itRidge tx len σ s0 i = ((false, s0, i), σ) := by rw [itRidge, if_pos c_6]
      rw [e]
      exact ⟨rfl, hv1, hv2, hv3, hob, har⟩
    exact hret _ (v, v2, fs, ss) _ _ _ _ (hpost) (rfl) hP hD hS dX5_readsRidge_24
  · have c_6 : ¬ 8 ≤ (zm σ) := fun hne => c_6 ((c_le (a := 8) (b := zm σ) rfl rfl (by omega) (by omega)).mpr hne)
    refine lv_aload_n hx hb dX5_readsRidge_9 rfl (lv_at hl 0 rfl) ?_
    refine lv_iconst (v := 0) hx hb dX5_readsRidge_10 (by decide) ?_
    refine lv_aload_n hx hb dX5_readsRidge_11 rfl (lv_at hl 1 rfl) ?_
    refine va_get (D := G.1) (ci := 1) (v := .int (v2 3)) (C := RX1) (T := TX1) (N := 11) hx hb hts hin1 hown hK.1 hP 2 rfl rfl 3 (by decide) f46 (fun _ h9 => h9) rfl dX5_readsRidge_12 ?_
    refine top_i (y := nI (zn σ)) (hob.1) ?_
    refine lv_iconst (v := 1) hx hb dX5_readsRidge_15 (by decide) ?_
    refine lv_isub hx hb dX5_readsRidge_16 ?_
    refine ca_i (wr := [oB h2 1 (oF1 v2 q2), aI G (q2 4) 8 fs, aI G (q2 5) 8 ss]) (va_runV (As := [.int 0, .int ((nI (zn σ)) - 1)]) (rest := []) ⟨hx, hb, hml, hown, hts⟩ ((c_X5_readsNumber l G h v q tx len i 0 ((nI (zn σ)) - 1) (hv1) (hlen) (hv3) (hi)) _) (cwV 2 hts gX5_readsRidge_X5_readsNumber rfl rfl rfl (by decide +kernel) ⟨Nat.le_of_ble_eq_true rfl, Nat.le_of_ble_eq_true rfl⟩) (cPre_V hK hP hD [0, 1] (by decide) rfl 0 5 rfl rfl) rfl rfl hl.1 rfl (lv_room (Nat.le_of_ble_eq_true rfl)) dX5_readsRidge_17 ⟨Nat.zero_le _, Nat.zero_le _⟩) hP hD hS hA [0, 1] [2, 3, 4] rfl rfl (by decide) (by decide) [3, 4, 0, 1, 2] (fun u_17 => [oB h 5 (oF5 u_17 q), aI G (q 0) 140 tx, oB h2 1 (oF1 v2 q2), aI G (q2 4) 8 fs, aI G (q2 5) 8 ss]) (by decide) (fun _ => rfl) (fun r_17 u_17 H locs q_17 hP hD hS => ?_)
    obtain ⟨rfl, q_17⟩ : r_17 = b2i (tN tx len i 0 ((nI (zn σ)) - 1)) ∧ (u_17 1 = nI len ∧ u_17 2 = nI (tkS tx len i) ∧ u_17 3 = nI (tkE tx len i) ∧ u_17 4 = tkK tx len i ∧ (tN tx len i 0 ((nI (zn σ)) - 1) = true → u_17 5 = nI (tkV tx len i))) := q_17
    have hP : va_P G.1 vwCl [oB h 5 (oF5 u_17 q), aI G (q 0) 140 tx, oB h2 1 (oF1 v2 q2), aI G (q2 4) 8 fs, aI G (q2 5) 8 ss] H := hP
    have hD : va_D A [oB h 5 (oF5 u_17 q), aI G (q 0) 140 tx, oB h2 1 (oF1 v2 q2), aI G (q2 4) 8 fs, aI G (q2 5) 8 ss] := hD
    refine lv_if_ne (tgt := 25) hx hb dX5_readsRidge_20 (by decide) (fun c_20 => ?_) (fun c_20 => ?_)
    · have c_20 : (tN tx len i 0 ((nI (zn σ)) - 1)) = true := b2i_n0.mp c_20
      have hA0 := tN_V1 hn10 c_20
      refine lv_aload_n hx hb dX5_readsRidge_25 rfl (lv_at hl 0 rfl) ?_
      refine va_get (D := G.1) (ci := 5) (v := .int (u_17 5)) (C := RX5) (T := TX5) (N := 6) hx hb hts hin5 hown hK.1 hP 0 rfl rfl 5 (by decide) f53 (fun _ h9 => h9) rfl dX5_readsRidge_26 ?_
      refine top_i (y := nI (tkV tx len i)) (q_17.2.2.2.2 c_20) ?_
      refine lv_istore_n (lv' := [(2, .int (nI (tkV tx len i))), (0, .ref h), (1, .ref h2)]) hx hb dX5_readsRidge_29 rfl hl (by decide) rfl (fun ls hl => ?_)
      refine lv_aload_n hx hb dX5_readsRidge_30 rfl (lv_at hl 1 rfl) ?_
      refine lv_iconst (v := 0) hx hb dX5_readsRidge_31 (by decide) ?_
      refine lv_aload_n hx hb dX5_readsRidge_32 rfl (lv_at hl 2 rfl) ?_
      refine va_get (D := G.1) (ci := 1) (v := .int (v2 3)) (C := RX1) (T := TX1) (N := 11) hx hb hts hin1 hown hK.1 hP 2 rfl rfl 3 (by decide) f46 (fun _ h9 => h9) rfl dX5_readsRidge_33 ?_
      refine top_i (y := nI (zn σ)) (hob.1) ?_
      refine lv_iconst (v := 1) hx hb dX5_readsRidge_36 (by decide) ?_
      refine lv_isub hx hb dX5_readsRidge_37 ?_
      refine ca_i (wr := [oB h2 1 (oF1 v2 q2), aI G (q2 4) 8 fs, aI G (q2 5) 8 ss]) (va_runV (As := [.int 0, .int ((nI (zn σ)) - 1)]) (rest := []) ⟨hx, hb, hml, hown, hts⟩ ((c_X5_readsNumber l G h u_17 q tx len (tkE tx len i) 0 ((nI (zn σ)) - 1) (q_17.1) (hlen) (q_17.2.2.1) ((tk_le hi).2.2)) _) (cwV 2 hts gX5_readsRidge_X5_readsNumber rfl rfl rfl (by decide +kernel) ⟨Nat.le_of_ble_eq_true rfl, Nat.le_of_ble_eq_true rfl⟩) (cPre_V hK hP hD [0, 1] (by decide) rfl 0 5 rfl rfl) rfl rfl hl.1 rfl (lv_room (Nat.le_of_ble_eq_true rfl)) dX5_readsRidge_38 ⟨Nat.zero_le _, Nat.zero_le _⟩) hP hD hS hA [0, 1] [2, 3, 4] rfl rfl (by decide) (by decide) [3, 4, 0, 1, 2] (fun u_38 => [oB h 5 (oF5 u_38 q), aI G (q 0) 140 tx, oB h2 1 (oF1 v2 q2), aI G (q2 4) 8 fs, aI G (q2 5) 8 ss]) (by decide) (fun _ => rfl) (fun r_38 u_38 H locs q_38 hP hD hS => ?_)
      obtain ⟨rfl, q_38⟩ : r_38 = b2i (tN tx len (tkE tx len i) 0 ((nI (zn σ)) - 1)) ∧ (u_38 1 = nI len ∧ u_38 2 = nI (tkS tx len (tkE tx len i)) ∧ u_38 3 = nI (tkE tx len (tkE tx len i)) ∧ u_38 4 = tkK tx len (tkE tx len i) ∧ (tN tx len (tkE tx len i) 0 ((nI (zn σ)) - 1) = true → u_38 5 = nI (tkV tx len (tkE tx len i)))) := q_38
      have hP : va_P G.1 vwCl [oB h 5 (oF5 u_38 q), aI G (q 0) 140 tx, oB h2 1 (oF1 v2 q2), aI G (q2 4) 8 fs, aI G (q2 5) 8 ss] H := hP
      have hD : va_D A [oB h 5 (oF5 u_38 q), aI G (q 0) 140 tx, oB h2 1 (oF1 v2 q2), aI G (q2 4) 8 fs, aI G (q2 5) 8 ss] := hD
      refine lv_if_ne (tgt := 46) hx hb dX5_readsRidge_41 (by decide) (fun c_41 => ?_) (fun c_41 => ?_)
      · have c_41 : (tN tx len (tkE tx len i) 0 ((nI (zn σ)) - 1)) = true := b2i_n0.mp c_41
        have hA1 := tN_V1 hn10 c_41
        refine lv_aload_n hx hb dX5_readsRidge_46 rfl (lv_at hl 1 rfl) ?_
        refine va_get (D := G.1) (ci := 5) (v := .int (u_38 5)) (C := RX5) (T := TX5) (N := 6) hx hb hts hin5 hown hK.1 hP 0 rfl rfl 5 (by decide) f53 (fun _ h9 => h9) rfl dX5_readsRidge_47 ?_
        refine top_i (y := nI (tkV tx len (tkE tx len i))) (q_38.2.2.2.2 c_41) ?_
        refine lv_istore_n (lv' := [(3, .int (nI (tkV tx len (tkE tx len i)))), (2, .int (nI (tkV tx len i))), (0, .ref h), (1, .ref h2)]) hx hb dX5_readsRidge_50 rfl hl (by decide) rfl (fun ls hl => ?_)
        refine lv_iload_n hx hb dX5_readsRidge_51 rfl (lv_at hl 0 rfl) ?_
        refine lv_iload_n hx hb dX5_readsRidge_52 rfl (lv_at hl 1 rfl) ?_
        refine lv_icmp_eq (tgt := 63) hx hb dX5_readsRidge_53 (by decide) (fun c_53 => ?_) (fun c_53 => ?_)
        · have c_53 : (tkV tx len (tkE tx len i)) = (tkV tx len i) := (c_eq (a := tkV tx len (tkE tx len i)) (b := tkV tx len i) rfl rfl (by omega) (by omega)).mp c_53
          refine lv_iconst (v := 0) hx hb dX5_readsRidge_63 (by decide) ?_
          have hpost : 0 = b2i (itRidge tx len σ s0 i).1.1 ∧ (u_38, v2, fs, ss).1 1 = nI len ∧ (u_38, v2, fs, ss).1 2 = nI (itRidge tx len σ s0 i).1.2.1 ∧ (u_38, v2, fs, ss).1 3 = nI (itRidge tx len σ s0 i).1.2.2 ∧ obL (itRidge tx len σ s0 i).2 (u_38, v2, fs, ss).2.1 ∧ arL (itRidge tx len σ s0 i).2 xs ys hs (u_38, v2, fs, ss).2.2.1 (u_38, v2, fs, ss).2.2.2 pk := by
            have e : itRidge tx len σ s0 i = ((false, tkS tx len (tkE tx len i), tkE tx len (tkE tx len i)), σ) := by rw [itRidge, if_neg c_6, if_neg (ne_f c_20), if_neg (ne_f c_41), if_pos c_53]
            rw [e]
            obtain ⟨k1, k2, k3, k4, k5⟩ := q_38
            exact ⟨rfl, k1, k2, k3, hob, har⟩
          exact hret _ (u_38, v2, fs, ss) _ _ _ _ (hpost) (rfl) hP hD hS dX5_readsRidge_64
        · have c_53 : ¬ (tkV tx len (tkE tx len i)) = (tkV tx len i) := fun hne => c_53 ((c_eq (a := tkV tx len (tkE tx len i)) (b := tkV tx len i) rfl rfl (by omega) (by omega)).mpr hne)
          refine lv_aload_n hx hb dX5_readsRidge_56 rfl (lv_at hl 2 rfl) ?_
          refine ca_i (wr := [oB h2 1 (oF1 v2 q2), aI G (q2 4) 8 fs, aI G (q2 5) 8 ss]) (va_runV (As := []) (rest := []) ⟨hx, hb, hml, hown, hts⟩ ((c_X5_readsItemEnd l G h u_38 q tx len (tkE tx len (tkE tx len i)) (q_38.1) (hlen) (q_38.2.2.1) ((tk_le (tk_le hi).2.2).2.2)) _) (cwV 0 hts gX5_readsRidge_X5_readsItemEnd rfl rfl rfl (by decide +kernel) ⟨Nat.le_of_ble_eq_true rfl, Nat.le_of_ble_eq_true rfl⟩) (cPre_V hK hP hD [0, 1] (by decide) rfl 0 5 rfl rfl) rfl rfl hl.1 rfl (lv_room (Nat.le_of_ble_eq_true rfl)) dX5_readsRidge_57 ⟨Nat.zero_le _, Nat.zero_le _⟩) hP hD hS hA [0, 1] [2, 3, 4] rfl rfl (by decide) (by decide) [3, 4, 0, 1, 2] (fun u_57 => [oB h 5 (oF5 u_57 q), aI G (q 0) 140 tx, oB h2 1 (oF1 v2 q2), aI G (q2 4) 8 fs, aI G (q2 5) 8 ss]) (by decide) (fun _ => rfl) (fun r_57 u_57 H locs q_57 hP hD hS => ?_)
          obtain ⟨rfl, q_57⟩ : r_57 = b2i (decide (tkK tx len (tkE tx len (tkE tx len i)) = 59)) ∧ (u_57 1 = nI len ∧ u_57 2 = nI (tkS tx len (tkE tx len (tkE tx len i))) ∧ u_57 3 = nI (tkE tx len (tkE tx len (tkE tx len i))) ∧ u_57 4 = tkK tx len (tkE tx len (tkE tx len i))) := q_57
          have hP : va_P G.1 vwCl [oB h 5 (oF5 u_57 q), aI G (q 0) 140 tx, oB h2 1 (oF1 v2 q2), aI G (q2 4) 8 fs, aI G (q2 5) 8 ss] H := hP
          have hD : va_D A [oB h 5 (oF5 u_57 q), aI G (q 0) 140 tx, oB h2 1 (oF1 v2 q2), aI G (q2 4) 8 fs, aI G (q2 5) 8 ss] := hD
          refine lv_if_ne (tgt := 65) hx hb dX5_readsRidge_60 (by decide) (fun c_60 => ?_) (fun c_60 => ?_)
          · have c_60 : (decide (tkK tx len (tkE tx len (tkE tx len i)) = 59)) = true := b2i_n0.mp c_60
            refine lv_aload_n hx hb dX5_readsRidge_65 rfl (lv_at hl 3 rfl) ?_
            refine lv_iload_n hx hb dX5_readsRidge_66 rfl (lv_at hl 1 rfl) ?_
            refine lv_iload_n hx hb dX5_readsRidge_67 rfl (lv_at hl 0 rfl) ?_
            refine ca_v (wr := [oB h 5 (oF5 u_57 q), aI G (q 0) 140 tx]) (va_runV (As := [.int (nI (tkV tx len i)), .int (nI (tkV tx len (tkE tx len i)))]) (rest := []) ⟨hx, hb, hml, hown, hts⟩ ((c_X1_addRidge l G h2 v2 q2 fs ss (zn σ) (zm σ) (tkV tx len i) (tkV tx len (tkE tx len i)) (hob.1) (hn10) (hob.2.1) (by omega) (hA0) (hA1)) _) (cwV 2 hts gX5_readsRidge_X1_addRidge rfl rfl rfl (by decide +kernel) ⟨Nat.le_of_ble_eq_true rfl, Nat.le_of_ble_eq_true rfl⟩) (cPre_V hK hP hD [2, 3, 4] (by decide) rfl 0 1 rfl rfl) rfl rfl hl.1 rfl (lv_room (Nat.le_of_ble_eq_true rfl)) dX5_readsRidge_68 ⟨Nat.zero_le _, Nat.zero_le _⟩) hP hD hS hA [2, 3, 4] [0, 1] rfl rfl (by decide) (by decide) [0, 1, 2, 3, 4] (fun u_68 => [oB h 5 (oF5 u_57 q), aI G (q 0) 140 tx, oB h2 1 (oF1 (upd v2 6 (nI ((zm σ) + 1))) q2), aI G (q2 4) 8 (upd fs (zm σ) (nI (tkV tx len i))), aI G (q2 5) 8 (upd ss (zm σ) (nI (tkV tx len (tkE tx len i))))]) (by decide) (fun _ => rfl) (fun u_68 H locs q_68 hP hD hS => ?_)
            have hP : va_P G.1 vwCl [oB h 5 (oF5 u_57 q), aI G (q 0) 140 tx, oB h2 1 (oF1 (upd v2 6 (nI ((zm σ) + 1))) q2), aI G (q2 4) 8 (upd fs (zm σ) (nI (tkV tx len i))), aI G (q2 5) 8 (upd ss (zm σ) (nI (tkV tx len (tkE tx len i))))] H := hP
            have hD : va_D A [oB h 5 (oF5 u_57 q), aI G (q 0) 140 tx, oB h2 1 (oF1 (upd v2 6 (nI ((zm σ) + 1))) q2), aI G (q2 4) 8 (upd fs (zm σ) (nI (tkV tx len i))), aI G (q2 5) 8 (upd ss (zm σ) (nI (tkV tx len (tkE tx len i))))] := hD
            refine lv_iconst (v := 1) hx hb dX5_readsRidge_71 (by decide) ?_
            have hpost : 1 = b2i (itRidge tx len σ s0 i).1.1 ∧ (u_57, upd v2 6 (nI ((zm σ) + 1)), upd fs (zm σ) (nI (tkV tx len i)), upd ss (zm σ) (nI (tkV tx len (tkE tx len i)))).1 1 = nI len ∧ (u_57, upd v2 6 (nI ((zm σ) + 1)), upd fs (zm σ) (nI (tkV tx len i)), upd ss (zm σ) (nI (tkV tx len (tkE tx len i)))).1 2 = nI (itRidge tx len σ s0 i).1.2.1 ∧ (u_57, upd v2 6 (nI ((zm σ) + 1)), upd fs (zm σ) (nI (tkV tx len i)), upd ss (zm σ) (nI (tkV tx len (tkE tx len i)))).1 3 = nI (itRidge tx len σ s0 i).1.2.2 ∧ obL (itRidge tx len σ s0 i).2 (u_57, upd v2 6 (nI ((zm σ) + 1)), upd fs (zm σ) (nI (tkV tx len i)), upd ss (zm σ) (nI (tkV tx len (tkE tx len i)))).2.1 ∧ arL (itRidge tx len σ s0 i).2 xs ys hs (u_57, upd v2 6 (nI ((zm σ) + 1)), upd fs (zm σ) (nI (tkV tx len i)), upd ss (zm σ) (nI (tkV tx len (tkE tx len i)))).2.2.1 (u_57, upd v2 6 (nI ((zm σ) + 1)), upd fs (zm σ) (nI (tkV tx len i)), upd ss (zm σ) (nI (tkV tx len (tkE tx len i)))).2.2.2 pk := by
              have e : itRidge tx len σ s0 i = ((true, tkS tx len (tkE tx len (tkE tx len i)), tkE tx len (tkE tx len (tkE tx len i))), addR σ (tkV tx len i) (tkV tx len (tkE tx len i))) := by rw [itRidge, if_neg c_6, if_neg (ne_f c_20), if_neg (ne_f c_41), if_neg c_53, if_pos (of_decide_eq_true c_60)]
              rw [e]
              obtain ⟨k1, k2, k3, k4⟩ := q_57
              exact ⟨rfl, k1, k2, k3, ⟨hob.1, rfl, hob.2.2⟩, arL_R har⟩
            exact hret _ (u_57, upd v2 6 (nI ((zm σ) + 1)), upd fs (zm σ) (nI (tkV tx len i)), upd ss (zm σ) (nI (tkV tx len (tkE tx len i)))) _ _ _ _ (hpost) (rfl) hP hD hS dX5_readsRidge_72
          · have c_60 : (decide (tkK tx len (tkE tx len (tkE tx len i)) = 59)) = false := b2i_0.mp c_60
            refine lv_iconst (v := 0) hx hb dX5_readsRidge_63 (by decide) ?_
            have hpost : 0 = b2i (itRidge tx len σ s0 i).1.1 ∧ (u_57, v2, fs, ss).1 1 = nI len ∧ (u_57, v2, fs, ss).1 2 = nI (itRidge tx len σ s0 i).1.2.1 ∧ (u_57, v2, fs, ss).1 3 = nI (itRidge tx len σ s0 i).1.2.2 ∧ obL (itRidge tx len σ s0 i).2 (u_57, v2, fs, ss).2.1 ∧ arL (itRidge tx len σ s0 i).2 xs ys hs (u_57, v2, fs, ss).2.2.1 (u_57, v2, fs, ss).2.2.2 pk := by
              have e : itRidge tx len σ s0 i = ((false, tkS tx len (tkE tx len (tkE tx len i)), tkE tx len (tkE tx len (tkE tx len i))), σ) := by rw [itRidge, if_neg c_6, if_neg (ne_f c_20), if_neg (ne_f c_41), if_neg c_53, if_neg (of_decide_eq_false c_60)]
              rw [e]
              obtain ⟨k1, k2, k3, k4⟩ := q_57
              exact ⟨rfl, k1, k2, k3, hob, har⟩
            exact hret _ (u_57, v2, fs, ss) _ _ _ _ (hpost) (rfl) hP hD hS dX5_readsRidge_64
      · have c_41 : (tN tx len (tkE tx len i) 0 ((nI (zn σ)) - 1)) = false := b2i_0.mp c_41
        refine lv_iconst (v := 0) hx hb dX5_readsRidge_44 (by decide) ?_
        have hpost : 0 = b2i (itRidge tx len σ s0 i).1.1 ∧ (u_38, v2, fs, ss).1 1 = nI len ∧ (u_38, v2, fs, ss).1 2 = nI (itRidge tx len σ s0 i).1.2.1 ∧ (u_38, v2, fs, ss).1 3 = nI (itRidge tx len σ s0 i).1.2.2 ∧ obL (itRidge tx len σ s0 i).2 (u_38, v2, fs, ss).2.1 ∧ arL (itRidge tx len σ s0 i).2 xs ys hs (u_38, v2, fs, ss).2.2.1 (u_38, v2, fs, ss).2.2.2 pk := by
          have e : itRidge tx len σ s0 i = ((false, tkS tx len (tkE tx len i), tkE tx len (tkE tx len i)), σ) := by rw [itRidge, if_neg c_6, if_neg (ne_f c_20), if_pos c_41]
          rw [e]
          obtain ⟨k1, k2, k3, k4, k5⟩ := q_38
          exact ⟨rfl, k1, k2, k3, hob, har⟩
        exact hret _ (u_38, v2, fs, ss) _ _ _ _ (hpost) (rfl) hP hD hS dX5_readsRidge_45
    · have c_20 : (tN tx len i 0 ((nI (zn σ)) - 1)) = false := b2i_0.mp c_20
      refine lv_iconst (v := 0) hx hb dX5_readsRidge_23 (by decide) ?_
      have hpost : 0 = b2i (itRidge tx len σ s0 i).1.1 ∧ (u_17, v2, fs, ss).1 1 = nI len ∧ (u_17, v2, fs, ss).1 2 = nI (itRidge tx len σ s0 i).1.2.1 ∧ (u_17, v2, fs, ss).1 3 = nI (itRidge tx len σ s0 i).1.2.2 ∧ obL (itRidge tx len σ s0 i).2 (u_17, v2, fs, ss).2.1 ∧ arL (itRidge tx len σ s0 i).2 xs ys hs (u_17, v2, fs, ss).2.2.1 (u_17, v2, fs, ss).2.2.2 pk := by
        have e : itRidge tx len σ s0 i = ((false, tkS tx len i, tkE tx len i), σ) := by rw [itRidge, if_neg c_6, if_pos c_20]
        rw [e]
        obtain ⟨k1, k2, k3, k4, k5⟩ := q_17
        exact ⟨rfl, k1, k2, k3, hob, har⟩
      exact hret _ (u_17, v2, fs, ss) _ _ _ _ (hpost) (rfl) hP hD hS dX5_readsRidge_24

abbrev rX5_readsSlack : Room := { frames := 4, cells := 0, slots := 0, locals := 85 }
set_option maxHeartbeats 4000000 in
set_option maxRecDepth 100000 in
theorem c_X5_readsSlack (l : Launch) (G : kG) (h : Nat) (v : Nat → Int32) (q : Nat → Nat) (tx : Nat → Int32) (h2 : Nat) (v2 : Nat → Int32) (q2 : Nat → Nat) (xs : Nat → Int32) (ys : Nat → Int32) (hs : Nat → Int32) (fs : Nat → Int32) (ss : Nat → Int32) (pk : Nat → Int32) (σ : PS) (len : Nat) (i : Nat) (hv1 : v 1 = nI len) (hlen : len ≤ 140) (hv3 : v 3 = nI i) (hi : i ≤ len) (hok : okPS σ) (hob : obL σ v2) (har : arL σ xs ys hs fs ss pk) : Ci l G yX5_readsSlack wsX5_readsSlack rX5_readsSlack [.ref h, .ref h2] [oB h 5 (oF5 v q), aI G (q 0) 140 tx, oB h2 1 (oF1 v2 q2)] (fun r (u : (Nat → Int32) × (Nat → Int32)) => r = b2i (itSlack tx len σ i).1.1 ∧ u.1 1 = nI len ∧ u.1 2 = nI (itSlack tx len σ i).1.2.1 ∧ u.1 3 = nI (itSlack tx len σ i).1.2.2 ∧ obL (itSlack tx len σ i).2 u.2 ∧ arL (itSlack tx len σ i).2 xs ys hs fs ss pk) (fun u => [oB h 5 (oF5 u.1 q), aI G (q 0) 140 tx, oB h2 1 (oF1 u.2 q2)]) := by
  refine Ci.of (cc := cX5_readsSlack) (maxL := 3) (by decide) rfl (Nat.le_of_ble_eq_true rfl) ?_
  intro pM eM sM mM bM tM cM Q A hx hb hts hown hml hA hK hP hD hS hret ls hl
  have hown : sM.vm.findClass RX5 = some mM.cls := hown
  have hl : lv_has ls 3 [(0, .ref h), (1, .ref h2)] := hl
  have hin1 : ∀ w ∈ u_ws RX1 TX1 11, w ∈ wsX5_readsSlack := by decide +kernel
  have hin5 : ∀ w ∈ u_ws RX5 TX5 6, w ∈ wsX5_readsSlack := by decide +kernel
  have f53 := hts (.fieldLink RX5 53 "HorizonPeaks$Text" "value" "I") (by decide +kernel)
  have f74 := hts (.fieldLink RX5 74 "HorizonPeaks$Land" "slack" "I") (by decide +kernel)
  refine lv_aload_n hx hb dX5_readsSlack_0 rfl (lv_at hl 0 rfl) ?_
  refine lv_iconst (v := 0) hx hb dX5_readsSlack_1 (by decide) ?_
  refine lv_iconst (v := 3) hx hb dX5_readsSlack_2 (by decide) ?_
  refine ca_i (wr := [oB h2 1 (oF1 v2 q2)]) (va_runV (As := [.int 0, .int 3]) (rest := []) ⟨hx, hb, hml, hown, hts⟩ ((c_X5_readsNumber l G h v q tx len i 0 3 (hv1) (hlen) (hv3) (hi)) _) (cwV 2 hts gX5_readsSlack_X5_readsNumber rfl rfl rfl (by decide +kernel) ⟨Nat.le_of_ble_eq_true rfl, Nat.le_of_ble_eq_true rfl⟩) (cPre_V hK hP hD [0, 1] (by decide) rfl 0 5 rfl rfl) rfl rfl hl.1 rfl (lv_room (Nat.le_of_ble_eq_true rfl)) dX5_readsSlack_3 ⟨Nat.zero_le _, Nat.zero_le _⟩) hP hD hS hA [0, 1] [2] rfl rfl (by decide) (by decide) [1, 2, 0] (fun u_3 => [oB h 5 (oF5 u_3 q), aI G (q 0) 140 tx, oB h2 1 (oF1 v2 q2)]) (by decide) (fun _ => rfl) (fun r_3 u_3 H locs q_3 hP hD hS => ?_)
  obtain ⟨rfl, q_3⟩ : r_3 = b2i (tN tx len i 0 3) ∧ (u_3 1 = nI len ∧ u_3 2 = nI (tkS tx len i) ∧ u_3 3 = nI (tkE tx len i) ∧ u_3 4 = tkK tx len i ∧ (tN tx len i 0 3 = true → u_3 5 = nI (tkV tx len i))) := q_3
  have hP : va_P G.1 vwCl [oB h 5 (oF5 u_3 q), aI G (q 0) 140 tx, oB h2 1 (oF1 v2 q2)] H := hP
  have hD : va_D A [oB h 5 (oF5 u_3 q), aI G (q 0) 140 tx, oB h2 1 (oF1 v2 q2)] := hD
  refine lv_if_ne (tgt := 11) hx hb dX5_readsSlack_6 (by decide) (fun c_6 => ?_) (fun c_6 => ?_)
  · have c_6 : (tN tx len i 0 3) = true := b2i_n0.mp c_6
    refine lv_aload_n hx hb dX5_readsSlack_11 rfl (lv_at hl 0 rfl) ?_
    refine va_get (D := G.1) (ci := 5) (v := .int (u_3 5)) (C := RX5) (T := TX5) (N := 6) hx hb hts hin5 hown hK.1 hP 0 rfl rfl 5 (by decide) f53 (fun _ h9 => h9) rfl dX5_readsSlack_12 ?_
    refine top_i (y := nI (tkV tx len i)) (q_3.2.2.2.2 c_6) ?_
    refine lv_istore_n (lv' := [(2, .int (nI (tkV tx len i))), (0, .ref h), (1, .ref h2)]) hx hb dX5_readsSlack_15 rfl hl (by decide) rfl (fun ls hl => ?_)
    refine lv_aload_n hx hb dX5_readsSlack_16 rfl (lv_at hl 1 rfl) ?_
    refine ca_i (wr := [oB h2 1 (oF1 v2 q2)]) (va_runV (As := []) (rest := []) ⟨hx, hb, hml, hown, hts⟩ ((c_X5_readsItemEnd l G h u_3 q tx len (tkE tx len i) (q_3.1) (hlen) (q_3.2.2.1) ((tk_le hi).2.2)) _) (cwV 0 hts gX5_readsSlack_X5_readsItemEnd rfl rfl rfl (by decide +kernel) ⟨Nat.le_of_ble_eq_true rfl, Nat.le_of_ble_eq_true rfl⟩) (cPre_V hK hP hD [0, 1] (by decide) rfl 0 5 rfl rfl) rfl rfl hl.1 rfl (lv_room (Nat.le_of_ble_eq_true rfl)) dX5_readsSlack_17 ⟨Nat.zero_le _, Nat.zero_le _⟩) hP hD hS hA [0, 1] [2] rfl rfl (by decide) (by decide) [1, 2, 0] (fun u_17 => [oB h 5 (oF5 u_17 q), aI G (q 0) 140 tx, oB h2 1 (oF1 v2 q2)]) (by decide) (fun _ => rfl) (fun r_17 u_17 H locs q_17 hP hD hS => ?_)
    obtain ⟨rfl, q_17⟩ : r_17 = b2i (decide (tkK tx len (tkE tx len i) = 59)) ∧ (u_17 1 = nI len ∧ u_17 2 = nI (tkS tx len (tkE tx len i)) ∧ u_17 3 = nI (tkE tx len (tkE tx len i)) ∧ u_17 4 = tkK tx len (tkE tx len i)) := q_17
    have hP : va_P G.1 vwCl [oB h 5 (oF5 u_17 q), aI G (q 0) 140 tx, oB h2 1 (oF1 v2 q2)] H := hP
    have hD : va_D A [oB h 5 (oF5 u_17 q), aI G (q 0) 140 tx, oB h2 1 (oF1 v2 q2)] := hD
    refine lv_if_ne (tgt := 25) hx hb dX5_readsSlack_20 (by decide) (fun c_20 => ?_) (fun c_20 => ?_)
    · have c_20 : (decide (tkK tx len (tkE tx len i) = 59)) = true := b2i_n0.mp c_20
      refine lv_aload_n hx hb dX5_readsSlack_25 rfl (lv_at hl 2 rfl) ?_
      refine lv_iload_n hx hb dX5_readsSlack_26 rfl (lv_at hl 0 rfl) ?_
      refine va_put (D := G.1) (ci := 1) (v := .int (nI (tkV tx len i))) (ty := .int) (C := RX1) (T := TX1) (N := 11) hx hb hts hin1 tyX1 tyX1_ok nmX1 hown hK.1 hP hD hS 2 rfl rfl 7 (by decide) f74 (fun _ h9 => h9) rfl (by decide +kernel) rfl rfl (Nat.le_of_ble_eq_true rfl) dX5_readsSlack_27 (fun H locs hP hD hS => ?_)
      have hP : va_P G.1 vwCl [oB h 5 (oF5 u_17 q), aI G (q 0) 140 tx, oB h2 1 (oF1 (upd v2 7 (nI (tkV tx len i))) q2)] H := hP
      have hD : va_D A [oB h 5 (oF5 u_17 q), aI G (q 0) 140 tx, oB h2 1 (oF1 (upd v2 7 (nI (tkV tx len i))) q2)] := hD
      refine lv_iconst (v := 1) hx hb dX5_readsSlack_30 (by decide) ?_
      have hpost : 1 = b2i (itSlack tx len σ i).1.1 ∧ (u_17, upd v2 7 (nI (tkV tx len i))).1 1 = nI len ∧ (u_17, upd v2 7 (nI (tkV tx len i))).1 2 = nI (itSlack tx len σ i).1.2.1 ∧ (u_17, upd v2 7 (nI (tkV tx len i))).1 3 = nI (itSlack tx len σ i).1.2.2 ∧ obL (itSlack tx len σ i).2 (u_17, upd v2 7 (nI (tkV tx len i))).2 ∧ arL (itSlack tx len σ i).2 xs ys hs fs ss pk := by
        have e : itSlack tx len σ i = ((true, tkS tx len (tkE tx len i), tkE tx len (tkE tx len i)), setS σ (tkV tx len i)) := by rw [itSlack, if_neg (ne_f c_6), if_pos (of_decide_eq_true c_20)]
        rw [e]
        obtain ⟨k1, k2, k3, k4⟩ := q_17
        exact ⟨rfl, k1, k2, k3, ⟨hob.1, hob.2.1, rfl⟩, har⟩
      exact hret _ (u_17, upd v2 7 (nI (tkV tx len i))) _ _ _ _ (hpost) (rfl) hP hD hS dX5_readsSlack_31
    · have c_20 : (decide (tkK tx len (tkE tx len i) = 59)) = false := b2i_0.mp c_20
      refine lv_iconst (v := 0) hx hb dX5_readsSlack_23 (by decide) ?_
      have hpost : 0 = b2i (itSlack tx len σ i).1.1 ∧ (u_17, v2).1 1 = nI len ∧ (u_17, v2).1 2 = nI (itSlack tx len σ i).1.2.1 ∧ (u_17, v2).1 3 = nI (itSlack tx len σ i).1.2.2 ∧ obL (itSlack tx len σ i).2 (u_17, v2).2 ∧ arL (itSlack tx len σ i).2 xs ys hs fs ss pk := by
        have e : itSlack tx len σ i = ((false, tkS tx len (tkE tx len i), tkE tx len (tkE tx len i)), σ) := by rw [itSlack, if_neg (ne_f c_6), if_neg (of_decide_eq_false c_20)]
        rw [e]
        obtain ⟨k1, k2, k3, k4⟩ := q_17
        exact ⟨rfl, k1, k2, k3, hob, har⟩
      exact hret _ (u_17, v2) _ _ _ _ (hpost) (rfl) hP hD hS dX5_readsSlack_24
  · have c_6 : (tN tx len i 0 3) = false := b2i_0.mp c_6
    refine lv_iconst (v := 0) hx hb dX5_readsSlack_9 (by decide) ?_
    have hpost : 0 = b2i (itSlack tx len σ i).1.1 ∧ (u_3, v2).1 1 = nI len ∧ (u_3, v2).1 2 = nI (itSlack tx len σ i).1.2.1 ∧ (u_3, v2).1 3 = nI (itSlack tx len σ i).1.2.2 ∧ obL (itSlack tx len σ i).2 (u_3, v2).2 ∧ arL (itSlack tx len σ i).2 xs ys hs fs ss pk := by
      have e : itSlack tx len σ i = ((false, tkS tx len i, tkE tx len i), σ) := by rw [itSlack, if_pos c_6]
      rw [e]
      obtain ⟨k1, k2, k3, k4, k5⟩ := q_3
      exact ⟨rfl, k1, k2, k3, hob, har⟩
    exact hret _ (u_3, v2) _ _ _ _ (hpost) (rfl) hP hD hS dX5_readsSlack_10
