/-! the two worlds -/
abbrev XS : Type := (Nat → Nat → Int32) × (Nat → Nat → Int32) × (Nat → Int64)
abbrev MS : Type := (Nat → Int32) × (Nat → Nat → Int32)
def updF (f : Nat → Nat → Int32) (k : Nat) (g : Nat → Int32) : Nat → Nat → Int32 := fun i => if i = k then g else f i
theorem updF_s {f : Nat → Nat → Int32} {k : Nat} {g : Nat → Int32} : updF f k g k = g := if_pos rfl
theorem updF_n {f : Nat → Nat → Int32} {k i : Nat} {g : Nat → Int32} (h : i ≠ k) : updF f k g i = f i := if_neg h
def q7 (a : Nat → Nat) : Nat → Nat := fun k => match k with
  | 0 => a 0
  | 1 => a 2
  | 2 => a 11
  | 3 => a 20
  | 4 => a 23
  | 5 => a 55
  | 6 => a 62
  | 7 => a 66
  | _ => a 73
def qT (a : Nat → Nat) : Nat → Nat := fun _ => a 1
def qL (a : Nat → Nat) (b : Nat) : Nat → Nat := fun k => match k with
  | 0 => a (b + 1)
  | 1 => a (b + 2)
  | 2 => a (b + 3)
  | 4 => a (b + 4)
  | 5 => a (b + 5)
  | 8 => a (b + 6)
  | 9 => a (b + 7)
  | _ => a (b + 8)
def qN (a : Nat → Nat) (b : Nat) : Nat → Nat := fun k => match k with
  | 0 => a (b + 1)
  | _ => a (b + 2)
def qP (a : Nat → Nat) : Nat → Nat := fun _ => a 24
def qC (a : Nat → Nat) : Nat → Nat := fun k => match k with
  | 0 => a 63
  | 1 => a 64
  | _ => a 65
def rgA (a : Nat → Nat) (k : Nat) : Nat := a (25 + 3 * k)
def imA (a : Nat → Nat) (k : Nat) : Nat := a (67 + 3 * k)
def XW (G : kG) (h : Nat) (a : Nat → Nat) (X : XS) : va_W := [oB (h) 7 (oF7 (fun _ => 0) (q7 a)), oB (q7 a 0) 5 (oF5 (X.1 0) (qT a)), aI G (qT a 0) 140 (X.2.1 1), oB (q7 a 1) 1 (oF1 (X.1 2) (qL a 2)), aI G (qL a 2 0) 10 (X.2.1 3), aI G (qL a 2 1) 10 (X.2.1 4), aI G (qL a 2 2) 10 (X.2.1 5), aI G (qL a 2 4) 8 (X.2.1 6), aI G (qL a 2 5) 8 (X.2.1 7), aZ G (qL a 2 8) 64 (X.2.1 8), aI G (qL a 2 9) 64 (X.2.1 9), aI G (qL a 2 10) 10 (X.2.1 10), oB (q7 a 2) 1 (oF1 (X.1 11) (qL a 11)), aI G (qL a 11 0) 10 (X.2.1 12), aI G (qL a 11 1) 10 (X.2.1 13), aI G (qL a 11 2) 10 (X.2.1 14), aI G (qL a 11 4) 8 (X.2.1 15), aI G (qL a 11 5) 8 (X.2.1 16), aZ G (qL a 11 8) 64 (X.2.1 17), aI G (qL a 11 9) 64 (X.2.1 18), aI G (qL a 11 10) 10 (X.2.1 19), oB (q7 a 3) 3 (oF3 (X.1 20) (qN a 20)), aI G (qN a 20 0) 8 (X.2.1 21), aI G (qN a 20 1) 8 (X.2.1 22), oB (q7 a 4) 4 (oF4 (X.1 23) (qP a)), aN G (qP a 0) 10 (fun k => some (rgA a k)), oB (rgA a 0) 3 (oF3 (X.1 25) (qN a 25)), aI G (qN a 25 0) 8 (X.2.1 26), aI G (qN a 25 1) 8 (X.2.1 27), oB (rgA a 1) 3 (oF3 (X.1 28) (qN a 28)), aI G (qN a 28 0) 8 (X.2.1 29), aI G (qN a 28 1) 8 (X.2.1 30), oB (rgA a 2) 3 (oF3 (X.1 31) (qN a 31)), aI G (qN a 31 0) 8 (X.2.1 32), aI G (qN a 31 1) 8 (X.2.1 33), oB (rgA a 3) 3 (oF3 (X.1 34) (qN a 34)), aI G (qN a 34 0) 8 (X.2.1 35), aI G (qN a 34 1) 8 (X.2.1 36), oB (rgA a 4) 3 (oF3 (X.1 37) (qN a 37)), aI G (qN a 37 0) 8 (X.2.1 38), aI G (qN a 37 1) 8 (X.2.1 39), oB (rgA a 5) 3 (oF3 (X.1 40) (qN a 40)), aI G (qN a 40 0) 8 (X.2.1 41), aI G (qN a 40 1) 8 (X.2.1 42), oB (rgA a 6) 3 (oF3 (X.1 43) (qN a 43)), aI G (qN a 43 0) 8 (X.2.1 44), aI G (qN a 43 1) 8 (X.2.1 45), oB (rgA a 7) 3 (oF3 (X.1 46) (qN a 46)), aI G (qN a 46 0) 8 (X.2.1 47), aI G (qN a 46 1) 8 (X.2.1 48), oB (rgA a 8) 3 (oF3 (X.1 49) (qN a 49)), aI G (qN a 49 0) 8 (X.2.1 50), aI G (qN a 49 1) 8 (X.2.1 51), oB (rgA a 9) 3 (oF3 (X.1 52) (qN a 52)), aI G (qN a 52 0) 8 (X.2.1 53), aI G (qN a 52 1) 8 (X.2.1 54), oB (q7 a 5) 6 (oF6 (X.1 55) (qVw (q7 a 1) (q7 a 3) (a 56) (a 59) (a 60) (a 61))), oB (a 56) 2 (oF2 (X.1 56) (qN a 56)), aI G (qN a 56 0) 8 (X.2.1 57), aI G (qN a 56 1) 10 (X.2.1 58), aI G (a 59) 4096 (X.2.1 59), aJ G (a 60) 80 X.2.2, aI G (a 61) 8 (X.2.1 61), oB (q7 a 6) 0 (oF0 (X.1 62) (qC a)), aI G (qC a 0) 6 (X.2.1 63), aI G (qC a 1) 6 (X.2.1 64), aZ G (qC a 2) 6 (X.2.1 65), aN G (q7 a 7) 2 (fun k => some (imA a k)), oB (imA a 0) 3 (oF3 (X.1 67) (qN a 67)), aI G (qN a 67 0) 8 (X.2.1 68), aI G (qN a 67 1) 8 (X.2.1 69), oB (imA a 1) 3 (oF3 (X.1 70) (qN a 70)), aI G (qN a 70 0) 8 (X.2.1 71), aI G (qN a 70 1) 8 (X.2.1 72), aZ G (q7 a 8) 2 (X.2.1 73)]
def MW (G : kG) (h : Nat) (q : Nat → Nat) (M : MS) : va_W := [oB h 8 (oF8 M.1 q), aI G (q 2) 10 (M.2 2), aI G (q 3) 10 (M.2 3), aI G (q 4) 10 (M.2 4), aI G (q 6) 8 (M.2 6), aI G (q 7) 8 (M.2 7), aZ G (q 9) 64 (M.2 9), aI G (q 10) 64 (M.2 10), aI G (q 11) 640 (M.2 11), aI G (q 12) 640 (M.2 12), aI G (q 13) 17 (M.2 13), aI G (q 14) 170 (M.2 14), aI G (q 16) 34 (M.2 16), aZ G (q 17) 2 (M.2 17), aI G (q 19) 6 (M.2 19), aI G (q 20) 6 (M.2 20), aI G (q 21) 6 (M.2 21), aI G (q 23) 140 (M.2 23), aI G (q 29) 10 (M.2 29), aI G (q 30) 10 (M.2 30), aI G (q 31) 10 (M.2 31), aI G (q 33) 8 (M.2 33), aI G (q 34) 8 (M.2 34), aI G (q 36) 8 (M.2 36), aI G (q 37) 10 (M.2 37), aI G (q 38) 8 (M.2 38), aI G (q 39) 10 (M.2 39), aI G (q 40) 8 (M.2 40)]
theorem XW_len (G : kG) (h : Nat) (a : Nat → Nat) (X : XS) : (XW G h a X).length = 75 := rfl
theorem MW_len (G : kG) (h : Nat) (q : Nat → Nat) (M : MS) : (MW G h q M).length = 28 := rfl
abbrev TT : Type := Nat × (Nat → Int32)
abbrev PT : Type := Nat × (Nat → NL)
abbrev CT : Type := Nat × (Nat → Nat) × (Nat → Nat) × (Nat → Bool)
abbrev IT : Type := (Nat → Bool) × (Nat → NL)
abbrev AS : Type := PS × NL × TT × PT × CT × IT
def okT (T : TT) : Prop := T.1 ≤ 140 ∧ ∀ k, k < T.1 → ∃ c : Nat, c ≤ 255 ∧ T.2 k = nI c
def okC (σ : PS) (C : CT) : Prop := ∀ k, k < C.1 → C.2.1 k < 64 ∧ cPk σ (C.2.1 k) = 0
def xT (T : TT) (X : XS) : Prop := X.1 0 1 = nI T.1 ∧ X.2.1 1 = T.2 ∧ okT T
def xL (σ : PS) (X : XS) : Prop := LOK σ (X.1 2) (X.2.1 3) (X.2.1 4) (X.2.1 5) (X.2.1 6) (X.2.1 7) (X.2.1 8) (X.2.1 9)
def xN (N : NL) (X : XS) : Prop := NRep N (X.1 20) (X.2.1 21) (X.2.1 22)
def rgR (N : NL) (X : XS) (k : Nat) : Prop := NRep N (X.1 (25 + 3 * k)) (X.2.1 (26 + 3 * k)) (X.2.1 (27 + 3 * k))
def xP (P : PT) (X : XS) : Prop := ∃ j, j < 10 ∧ X.1 23 1 = nI j ∧ X.1 23 2 = nI P.1 ∧ P.1 ≤ 10 ∧ ∀ i, i < P.1 → rgR (P.2 i) X ((j + 10 - P.1 + i) % 10)
def xV (σ : PS) (N : NL) (X : XS) : Prop := X.1 55 4 = 0 ∨ (X.1 55 4 = 1 ∧ KVs (scM σ N) N.1 4096 (X.1 55) (X.2.1 59))
def xC (σ : PS) (C : CT) (X : XS) : Prop := CRep C.1 C.2.1 C.2.2.1 C.2.2.2 (X.1 62) (X.2.1 63) (X.2.1 64) (X.2.1 65) ∧ okC σ C
def imR (N : NL) (X : XS) (k : Nat) : Prop := NRep N (X.1 (67 + 3 * k)) (X.2.1 (68 + 3 * k)) (X.2.1 (69 + 3 * k))
def xI (I : IT) (X : XS) : Prop := ∀ i, i < 2 → X.2.1 73 i = b2i (I.1 i) ∧ (I.1 i = true → imR (I.2 i) X i)
def XI (A : AS) (X : XS) : Prop := xT A.2.2.1 X ∧ xL A.1 X ∧ xN A.2.1 X ∧ xP A.2.2.2.1 X ∧ xV A.1 A.2.1 X ∧ xC A.1 A.2.2.2.2.1 X ∧ xI A.2.2.2.2.2 X
def mT (T : TT) (M : MS) : Prop := M.1 22 = nI T.1 ∧ M.2 23 = T.2 ∧ okT T
def mL (σ : PS) (M : MS) : Prop := LM σ M.1 (M.2 2) (M.2 3) (M.2 4) (M.2 6) (M.2 7) (M.2 9) (M.2 10) (M.2 11) (M.2 12)
def mN (N : NL) (M : MS) : Prop := SMr N (M.2 13)
def mP (P : PT) (M : MS) : Prop := M.1 15 = nI P.1 ∧ PMr P.1 P.2 (M.2 14)
def mC (σ : PS) (C : CT) (M : MS) : Prop := CRep C.1 C.2.1 C.2.2.1 C.2.2.2 (fun _ => M.1 18) (M.2 19) (M.2 20) (M.2 21) ∧ okC σ C
def mI (I : IT) (M : MS) : Prop := ∀ i, i < 2 → M.2 17 i = b2i (I.1 i) ∧ (I.1 i = true → SMr (I.2 i) (fun k => M.2 16 (17 * i + k)))
def MI (A : AS) (M : MS) : Prop := mT A.2.2.1 M ∧ mL A.1 M ∧ mN A.2.1 M ∧ mP A.2.2.2.1 M ∧ mC A.1 A.2.2.2.2.1 M ∧ mI A.2.2.2.2.2 M
/-- what becomes of the state -/
def psP (D : Bool) (N : NL) (P : PT) : PT := if D = true then (min (P.1 + 1) 10, pshN P.1 P.2 N) else P
def ldN (A : AS) (RR : (Bool × Nat) × PS) : AS := if RR.1.1 = true then (RR.2, (0, fun _ => 0, fun _ => 0), (0, A.2.2.1.2), (0, A.2.2.2.1.2), (0, A.2.2.2.2.1.2), (fun _ => false, A.2.2.2.2.2.2)) else A
def skR (σ : PS) (x y z : Int32) : Int32 := if skQ σ x y z = true then nI (skN σ (ptN x y) z.toNatClampNeg).1 else -1
def skM (σ : PS) (N : NL) (x y z : Int32) : NL := if skQ σ x y z = true then skN σ (ptN x y) z.toNatClampNeg else N
def unN (N : NL) (P : PT) : NL := if P.1 = 0 then N else P.2 (P.1 - 1)
def clN (σ : PS) (C : CT) (x y z w : Int32) : CT := if clO (cPk σ) x y z w = true ∧ C.1 < 6 then (C.1 + 1, updN C.2.1 C.1 (ptN x y), updN C.2.2.1 C.1 z.toNatClampNeg, updB C.2.2.2 C.1 (decide (w = 1))) else C
def updNL (f : Nat → NL) (k : Nat) (x : NL) : Nat → NL := fun j => if j = k then x else f j
def kpN (I : IT) (N : NL) (x : Int32) : IT := if imOk x = true then (updB I.1 x.toNatClampNeg true, updNL I.2 x.toNatClampNeg N) else I
def bkQ (I : IT) (x : Int32) : Bool := imOk x && I.1 x.toNatClampNeg
def bkR (I : IT) (x : Int32) : Int32 := if imOk x = true then (if I.1 x.toNatClampNeg = true then nI (I.2 x.toNatClampNeg).1 else -2) else -1
def bkN (I : IT) (N : NL) (x : Int32) : NL := if bkQ I x = true then I.2 x.toNatClampNeg else N
def bkP (I : IT) (P : PT) (x : Int32) : PT := if bkQ I x = true then (0, P.2) else P
theorem im_ex (x : Int32) : ∃ k0, k0 < 2 ∧ (imOk x = true → x = nI k0) := by
  cases e : imOk x with
  | false => exact ⟨0, by omega, fun h => by cases h⟩
  | true =>
    rw [im_in] at e
    obtain ⟨k, hk, hx⟩ := pIn1e e
    exact ⟨k, hk, fun _ => hx⟩
theorem rgR_eq {N : NL} {X X' : XS} {k : Nat} (h1 : X'.1 (25 + 3 * k) = X.1 (25 + 3 * k)) (h2 : X'.2.1 (26 + 3 * k) = X.2.1 (26 + 3 * k)) (h3 : X'.2.1 (27 + 3 * k) = X.2.1 (27 + 3 * k)) (h : rgR N X k) : rgR N X' k := by unfold rgR; rw [h1, h2, h3]; exact h
theorem xP_same {P : PT} {X X' : XS} (h1 : X'.1 23 = X.1 23) (h2 : ∀ k, k < 10 → X'.1 (25 + 3 * k) = X.1 (25 + 3 * k) ∧ X'.2.1 (26 + 3 * k) = X.2.1 (26 + 3 * k) ∧ X'.2.1 (27 + 3 * k) = X.2.1 (27 + 3 * k)) (h : xP P X) : xP P X' := by
  obtain ⟨j, hj, e1, e2, e3, e4⟩ := h
  exact ⟨j, hj, by rw [h1]; exact e1, by rw [h1]; exact e2, e3, fun i hi => by obtain ⟨a1, a2, a3⟩ := h2 _ (Nat.mod_lt (j + 10 - P.1 + i) (show 0 < 10 by omega)); exact rgR_eq a1 a2 a3 (e4 i hi)⟩
theorem xP_push {P : PT} {N : NL} {X X' : XS} {j : Nat} (hj : j < 10) (hU : P.1 ≤ 10) (h : ∀ i, i < P.1 → rgR (P.2 i) X ((j + 10 - P.1 + i) % 10)) (h1 : X'.1 23 1 = nI ((j + 1) % 10)) (h2 : X'.1 23 2 = nI (min (P.1 + 1) 10)) (h3 : rgR N X' j) (h4 : ∀ M k, k < 10 → k ≠ j → rgR M X k → rgR M X' k) : xP (min (P.1 + 1) 10, pshN P.1 P.2 N) X' := by
  refine ⟨(j + 1) % 10, Nat.mod_lt _ (by omega), h1, h2, Nat.min_le_right _ _, fun i hi => ?_⟩
  have hi : i < min (P.1 + 1) 10 := hi
  show rgR (pshN P.1 P.2 N i) X' (((j + 1) % 10 + 10 - min (P.1 + 1) 10 + i) % 10)
  unfold pshN
  by_cases c : P.1 = 10
  · rw [if_pos c, show min (P.1 + 1) 10 = 10 by omega]
    by_cases d : i = 9
    · rw [if_pos d, d, show ((j + 1) % 10 + 10 - 10 + 9) % 10 = j by omega]; exact h3
    · rw [if_neg d]
      have h5 := h (i + 1) (by omega)
      rw [c, show (j + 10 - 10 + (i + 1)) % 10 = ((j + 1) % 10 + 10 - 10 + i) % 10 by omega] at h5
      exact h4 _ _ (Nat.mod_lt _ (by omega)) (by omega) h5
  · rw [if_neg c, show min (P.1 + 1) 10 = P.1 + 1 by omega]
    by_cases d : i = P.1
    · rw [if_pos d, d, show ((j + 1) % 10 + 10 - (P.1 + 1) + P.1) % 10 = j by omega]; exact h3
    · rw [if_neg d]
      have h5 := h i (by omega)
      rw [show (j + 10 - P.1 + i) % 10 = ((j + 1) % 10 + 10 - (P.1 + 1) + i) % 10 by omega] at h5
      exact h4 _ _ (Nat.mod_lt _ (by omega)) (by omega) h5
theorem xI_same {I : IT} {X X' : XS} (h1 : X'.2.1 73 = X.2.1 73) (h2 : ∀ k, k < 2 → X'.1 (67 + 3 * k) = X.1 (67 + 3 * k) ∧ X'.2.1 (68 + 3 * k) = X.2.1 (68 + 3 * k) ∧ X'.2.1 (69 + 3 * k) = X.2.1 (69 + 3 * k)) (h : xI I X) : xI I X' := fun i hi => by
  obtain ⟨a1, a2, a3⟩ := h2 i hi
  refine ⟨by rw [h1]; exact (h i hi).1, fun e => ?_⟩
  unfold imR
  rw [a1, a2, a3]
  exact (h i hi).2 e
theorem Ci.lift2 {S S' : Type} {l : Launch} {G : kG} {y : MethodName} {ws : List Cond} {rm : Room} {av : List Value} {wc wb wr : va_W} {post : Int32 → S → Prop} {W1 : S → va_W} {post' : Int32 → S' → Prop} {W1' : S' → va_W} (c : Ci l G y ws rm av wc post W1) (f : S → S') (isC isR isB : List Nat)
    (hC : isC.map (fun i => wb[i]?) = wc.map some) (hnC : va_nd isC = true) (hR : isR.map (fun i => wb[i]?) = wr.map some) (hn : va_nd isR = true) (hdis : ∀ i ∈ isR, i ∉ isC) (hnB : va_nd isB = true) (hB : ∀ u, isB.map (fun i => (wr ++ W1 u)[i]?) = (W1' (f u)).map some) (hp : ∀ r u, post r u → post' r (f u)) : Ci l G y ws rm av wb post' W1' := by
  intro sz
  refine MetFree.mono (c sz) ?_ (fun _ _ _ _ _ q => q) ?_
  · rintro a s ⟨e1, e2, hP, hK, hD⟩
    exact ⟨e1, e2, sub_PP (A := fun _ => True) hP isC hC, hK, hD.sub isC hnC hC⟩
  · rintro a s o t ⟨e1, e2, hP, hK, hD⟩ ⟨⟨⟨r, u, ho, hpost, hP1, hD1⟩, hF⟩, L, hE, hL⟩
    subst e2
    obtain ⟨hP2, hD2⟩ := va_join hP (hD.self (sz := s.heap.size)) isC isR hC hR hn hdis (fun q h1 h2 => hF.2 q h1 h2) (fun q h => va_A_sub hC h) hP1 hD1
    exact ⟨⟨⟨r, f u, ho, hp r u hpost, sub_PP (A := fun _ => True) hP2 isB (hB u), hD2.sub isB hnB (hB u)⟩, ⟨hF.1, fun q h1 h2 => hF.2 q h1 (fun h3 => h2 (va_A_sub hC h3))⟩⟩, L, hE, fun q hq => va_A_sub hC (hL q hq)⟩
theorem tyOk_of {x : Int32} (h : tyOk x = true) : ∃ c : Nat, c ≤ 255 ∧ x = nI c := by
  simp only [tyOk, Bool.and_eq_true, Bool.not_eq_true', decide_eq_false_iff_not, decide_eq_true_eq] at h
  exact nI_of2 (n := 255) (M := 255) (by decide) h.1 h.2
theorem okT_type {T : TT} {x : Int32} (h : okT T) : okT (tyN T.1 x, tyX T.2 T.1 x) := by
  unfold tyN tyX
  by_cases c : tyOk x = true ∧ T.1 < 140
  · rw [if_pos c, if_pos c]
    refine ⟨by show T.1 + 1 ≤ 140; omega, fun k hk => ?_⟩
    have hk : k < T.1 + 1 := hk
    by_cases d : k = T.1
    · obtain ⟨e, e1, e2⟩ := tyOk_of c.1
      exact ⟨e, e1, by rw [d]; exact pk_us.trans e2⟩
    · obtain ⟨e, e1, e2⟩ := h.2 k (by omega)
      exact ⟨e, e1, (pk_un d).trans e2⟩
  · rw [if_neg c, if_neg c]; exact h
theorem okT_0 {f : Nat → Int32} : okT (0, f) := ⟨Nat.zero_le _, fun k hk => absurd hk (Nat.not_lt_zero k)⟩
