/-! The canonical land: what is seen, bearings, how high, which comes ahead -/
def cX (σ : PS) : Nat → Int32 := fun p => nI (zx σ p)
def cY (σ : PS) : Nat → Int32 := fun p => nI (zy σ p)
def cH (σ : PS) : Nat → Int32 := fun p => nI (zz σ p)
def cPk (σ : PS) : Nat → Int32 := fun i => b2i (pAtN (zx σ) (zy σ) (zn σ) i)
def cVi (σ : PS) (pt p : Nat) : Bool := !ghid (cX σ) (cY σ) (cH σ) (zn σ) (za σ) (zb σ) (zm σ) pt p
def cVis (σ : PS) : Nat → Int32 := gvis (cX σ) (cY σ) (cH σ) (zn σ) (za σ) (zb σ) (zm σ) (cPk σ)
def cBe (σ : PS) (pt p : Nat) : Nat := (gbear (gx (cX σ) pt p) (gy (cY σ) pt p)).toNatClampNeg
def cHg (σ : PS) (pt p : Nat) : Nat := (gstand (cX σ) (cY σ) (cH σ) pt p).toNatClampNeg
def cGa (σ : PS) (pt p q : Nat) : Bool := gahead (cX σ) (cY σ) pt p q
def dI (a : Nat) : Int32 := Int32.ofInt ((a : Int) - 7)
def allN (f : Nat → Bool) : Nat → Bool
  | 0 => true
  | n + 1 => f n && allN f n
theorem allN_at {f : Nat → Bool} : ∀ {n : Nat}, allN f n = true → ∀ {k : Nat}, k < n → f k = true
  | n + 1, h, k, hk => by
    rw [allN, Bool.and_eq_true] at h
    rcases Nat.lt_succ_iff_lt_or_eq.mp hk with q | q
    · exact allN_at h.2 q
    · rw [q]; exact h.1
theorem dI_sub_tab : allN (fun x => allN (fun y => decide (nI x - nI y = dI (x + 7 - y))) 8) 8 = true := by decide +kernel
theorem dI_sub {x y : Nat} (hx : x < 8) (hy : y < 8) : nI x - nI y = dI (x + 7 - y) := of_decide_eq_true (allN_at (allN_at dI_sub_tab hx) hy)
def dW (a b : Nat) : Int32 := imax (iabs (dI a)) (iabs (dI b))
def bChk (a b : Nat) : Bool := (decide (a = 7) && decide (b = 7)) || (decide (mbear (dI a) (dI b) = gbear (dI a) (dI b)) && decide (gbear (dI a) (dI b) = nI (gbear (dI a) (dI b)).toNatClampNeg) && decide ((gbear (dI a) (dI b)).toNatClampNeg < 64) && (decide (isz (dI a) < isz (dI b)) || !decide (dI a = 0)) && (decide (isz (dI b) ≤ isz (dI a)) || !decide (dI b = 0)) && (mup (dI a) (dI b) == !ghalf (dI a) (dI b)) && decide (dW a b = nI (dW a b).toNatClampNeg) && decide (1 ≤ (dW a b).toNatClampNeg) && decide ((dW a b).toNatClampNeg ≤ 7))
theorem b_tab : allN (fun a => allN (fun b => bChk a b) 15) 15 = true := by decide +kernel
theorem b_at {a b : Nat} (ha : a < 15) (hb : b < 15) (h : ¬ (a = 7 ∧ b = 7)) : mbear (dI a) (dI b) = gbear (dI a) (dI b) ∧ gbear (dI a) (dI b) = nI (gbear (dI a) (dI b)).toNatClampNeg ∧ (gbear (dI a) (dI b)).toNatClampNeg < 64 ∧ (isz (dI b) ≤ isz (dI a) → ¬ dI a = 0) ∧ (isz (dI a) < isz (dI b) → ¬ dI b = 0) ∧ mup (dI a) (dI b) = !ghalf (dI a) (dI b) ∧ dW a b = nI (dW a b).toNatClampNeg ∧ 1 ≤ (dW a b).toNatClampNeg ∧ (dW a b).toNatClampNeg ≤ 7 := by
  have t := allN_at (allN_at b_tab ha) hb
  unfold bChk at t
  simp only [Bool.or_eq_true, Bool.and_eq_true, decide_eq_true_eq, beq_iff_eq, Bool.not_eq_true', decide_eq_false_iff_not] at t
  rcases t with t | t
  · exact absurd t h
  · obtain ⟨⟨⟨⟨⟨⟨⟨⟨t1, t2⟩, t3⟩, t4⟩, t5⟩, t6⟩, t7⟩, t8⟩, t9⟩ := t
    refine ⟨t1, t2, t3, fun q => t4.resolve_left (fun r => ?_), fun q => t5.resolve_left (fun r => ?_), t6, t7, t8, t9⟩
    · rw [Int32.lt_iff_toInt_lt] at r; rw [Int32.le_iff_toInt_le] at q; omega
    · rw [Int32.lt_iff_toInt_lt] at q; rw [Int32.le_iff_toInt_le] at r; omega
/-! which comes ahead: a key -/
def ahD (dx dy ex ey : Int32) : Bool := if ghalf dx dy = ghalf ex ey then decide (0 < dx * ey - dy * ex) || (decide (dx * ey - dy * ex = 0) && !decide (imax (iabs ex) (iabs ey) ≤ imax (iabs dx) (iabs dy))) else !ghalf dx dy
def kyT (a b : Nat) : Int := if b = 7 then 0 else 3000 - ((a : Int) - 7) * (420 / ((b : Int) - 7))
def kyW (a b : Nat) : Nat := Nat.max (Nat.max (a - 7) (7 - a)) (Nat.max (b - 7) (7 - b))
def kyH (a b : Nat) : Int := if b < 7 ∨ (b = 7 ∧ a < 7) then 100000 else 0
def ky (a b : Nat) : Int := kyH a b + kyT a b * 8 + kyW a b
def aChk (a b c d : Nat) : Bool := (decide (a = 7) && decide (b = 7)) || (decide (c = 7) && decide (d = 7)) || ((ahD (dI a) (dI b) (dI c) (dI d) == decide (ky a b < ky c d)) && (!decide (ky a b = ky c d) || (decide (a = c) && decide (b = d))))
set_option maxHeartbeats 4000000 in
theorem a_tab : allN (fun a => allN (fun b => allN (fun c => allN (fun d => aChk a b c d) 15) 15) 15) 15 = true := by decide +kernel
