/-! the class over its world: images -/
set_option maxHeartbeats 4000000 in
set_option maxRecDepth 100000 in
theorem x_keep (l : Launch) (G : kG) (h : Nat) (a : Nat → Nat) (X : XS) (σ : PS) (N : NL) (T : TT) (P : PT) (C : CT) (I : IT) (x : Int32) (hX : XI (σ, N, T, P, C, I) X) : Ci l G yX7_keep wsX7_keep rX7_keep [.ref h, .int x] (XW G h a X) (fun r X' => (r = (if imOk x = true then nI N.1 else -1)) ∧ XI (σ, N, T, P, C, kpN I N x) X') (XW G h a) := by
  obtain ⟨hT, hL, hN, hPp, hV, hC, hI⟩ := hX
  have hT : xT T X := hT
  have hL : xL σ X := hL
  have hN : xN N X := hN
  have hPp : xP P X := hPp
  have hV : xV σ N X := hV
  have hC : xC σ C X := hC
  have hI : xI I X := hI
  obtain ⟨k0, hk0, hx0⟩ := im_ex x
  rcases (show k0 = 0 ∨ k0 = 1 by omega) with rfl | rfl
  · have key : ∀ (r : Int32) (u : (Nat → Int32) × (Nat → Int32) × (Nat → Int32) × (Nat → Int32)), (r = (if imOk x = true then nI N.1 else -1) ∧ (imOk x = true → NRep N u.1 u.2.1 u.2.2.1 ∧ u.2.2.2 = upd (X.2.1 73) 0 1) ∧ (imOk x = false → u.1 = (X.1 (67 + 3 * 0)) ∧ u.2.1 = (X.2.1 (68 + 3 * 0)) ∧ u.2.2.1 = (X.2.1 (69 + 3 * 0)) ∧ u.2.2.2 = (X.2.1 73))) → (fun (r : Int32) (X' : XS) => (r = (if imOk x = true then nI N.1 else -1)) ∧ XI (σ, N, T, P, C, kpN I N x) X') r (updF (X.1) (67 + 3 * 0) (u.1), updF (updF (updF (X.2.1) (68 + 3 * 0) (u.2.1)) (69 + 3 * 0) (u.2.2.1)) (73) (u.2.2.2), X.2.2) := by
      rintro r ⟨u1, u2, u3, u4⟩ ⟨h1, h2, h3⟩
      cases e : imOk x with
      | true =>
        obtain ⟨g1, g2⟩ := h2 e
        have g2 : u4 = upd (X.2.1 73) 0 1 := g2
        refine ⟨h1.trans (by rw [e]), hT, hL, hN, xP_same (X := X) rfl (fun k hk => ⟨(updF_n (by omega)), ((updF_n (by omega)).trans ((updF_n (by omega)).trans (updF_n (by omega)))), ((updF_n (by omega)).trans ((updF_n (by omega)).trans (updF_n (by omega))))⟩) hPp, hV, hC, ?_⟩
        show xI (kpN I N x) _
        rw [kpN, if_pos e, hx0 e, nI_clamp (by omega)]
        intro i hi
        rcases (show i = 0 ∨ i = 1 by omega) with rfl | rfl
        · exact ⟨by show u4 0 = b2i true; rw [g2]; exact pk_us, fun _ => g1⟩
        · exact ⟨by show u4 1 = b2i (I.1 1); rw [g2, pk_un (by decide)]; exact (hI 1 (by omega)).1, fun q => (hI 1 (by omega)).2 q⟩
      | false =>
        obtain ⟨q1, q2, q3, q4⟩ := h3 e
        have q1 : u1 = X.1 67 := q1
        have q2 : u2 = X.2.1 68 := q2
        have q3 : u3 = X.2.1 69 := q3
        have q4 : u4 = X.2.1 73 := q4
        subst q1 q2 q3 q4
        refine ⟨h1.trans (by rw [e]), hT, hL, hN, xP_same (X := X) rfl (fun k hk => ⟨(updF_n (by omega)), ((updF_n (by omega)).trans ((updF_n (by omega)).trans (updF_n (by omega)))), ((updF_n (by omega)).trans ((updF_n (by omega)).trans (updF_n (by omega))))⟩) hPp, hV, hC, ?_⟩
        show xI (kpN I N x) _
        rw [kpN, if_neg (ne_t e)]
        exact xI_same (X := X) rfl (fun k hk => by rcases (show k = 0 ∨ k = 1 by omega) with rfl | rfl <;> exact ⟨rfl, rfl, rfl⟩) hI
    exact Ci.lift2 (W1' := XW G h a) (wr := [oB (q7 a 0) 5 (oF5 (X.1 0) (qT a)), aI G (qT a 0) 140 (X.2.1 1), oB (q7 a 1) 1 (oF1 (X.1 2) (qL a 2)), aI G (qL a 2 0) 10 (X.2.1 3), aI G (qL a 2 1) 10 (X.2.1 4), aI G (qL a 2 2) 10 (X.2.1 5), aI G (qL a 2 4) 8 (X.2.1 6), aI G (qL a 2 5) 8 (X.2.1 7), aZ G (qL a 2 8) 64 (X.2.1 8), aI G (qL a 2 9) 64 (X.2.1 9), aI G (qL a 2 10) 10 (X.2.1 10), oB (q7 a 2) 1 (oF1 (X.1 11) (qL a 11)), aI G (qL a 11 0) 10 (X.2.1 12), aI G (qL a 11 1) 10 (X.2.1 13), aI G (qL a 11 2) 10 (X.2.1 14), aI G (qL a 11 4) 8 (X.2.1 15), aI G (qL a 11 5) 8 (X.2.1 16), aZ G (qL a 11 8) 64 (X.2.1 17), aI G (qL a 11 9) 64 (X.2.1 18), aI G (qL a 11 10) 10 (X.2.1 19), oB (q7 a 4) 4 (oF4 (X.1 23) (qP a)), aN G (qP a 0) 10 (fun k => some (rgA a k)), oB (rgA a 0) 3 (oF3 (X.1 25) (qN a 25)), aI G (qN a 25 0) 8 (X.2.1 26), aI G (qN a 25 1) 8 (X.2.1 27), oB (rgA a 1) 3 (oF3 (X.1 28) (qN a 28)), aI G (qN a 28 0) 8 (X.2.1 29), aI G (qN a 28 1) 8 (X.2.1 30), oB (rgA a 2) 3 (oF3 (X.1 31) (qN a 31)), aI G (qN a 31 0) 8 (X.2.1 32), aI G (qN a 31 1) 8 (X.2.1 33), oB (rgA a 3) 3 (oF3 (X.1 34) (qN a 34)), aI G (qN a 34 0) 8 (X.2.1 35), aI G (qN a 34 1) 8 (X.2.1 36), oB (rgA a 4) 3 (oF3 (X.1 37) (qN a 37)), aI G (qN a 37 0) 8 (X.2.1 38), aI G (qN a 37 1) 8 (X.2.1 39), oB (rgA a 5) 3 (oF3 (X.1 40) (qN a 40)), aI G (qN a 40 0) 8 (X.2.1 41), aI G (qN a 40 1) 8 (X.2.1 42), oB (rgA a 6) 3 (oF3 (X.1 43) (qN a 43)), aI G (qN a 43 0) 8 (X.2.1 44), aI G (qN a 43 1) 8 (X.2.1 45), oB (rgA a 7) 3 (oF3 (X.1 46) (qN a 46)), aI G (qN a 46 0) 8 (X.2.1 47), aI G (qN a 46 1) 8 (X.2.1 48), oB (rgA a 8) 3 (oF3 (X.1 49) (qN a 49)), aI G (qN a 49 0) 8 (X.2.1 50), aI G (qN a 49 1) 8 (X.2.1 51), oB (rgA a 9) 3 (oF3 (X.1 52) (qN a 52)), aI G (qN a 52 0) 8 (X.2.1 53), aI G (qN a 52 1) 8 (X.2.1 54), oB (q7 a 5) 6 (oF6 (X.1 55) (qVw (q7 a 1) (q7 a 3) (a 56) (a 59) (a 60) (a 61))), oB (a 56) 2 (oF2 (X.1 56) (qN a 56)), aI G (qN a 56 0) 8 (X.2.1 57), aI G (qN a 56 1) 10 (X.2.1 58), aI G (a 59) 4096 (X.2.1 59), aJ G (a 60) 80 X.2.2, aI G (a 61) 8 (X.2.1 61), oB (q7 a 6) 0 (oF0 (X.1 62) (qC a)), aI G (qC a 0) 6 (X.2.1 63), aI G (qC a 1) 6 (X.2.1 64), aZ G (qC a 2) 6 (X.2.1 65), oB (imA a 1) 3 (oF3 (X.1 70) (qN a 70)), aI G (qN a 70 0) 8 (X.2.1 71), aI G (qN a 70 1) 8 (X.2.1 72)]) (c_X7_keep l G h (fun _ => 0) (q7 a) (X.1 20) (qN a 20) (X.2.1 21) (X.2.1 22) (imA a) (X.1 (67 + 3 * 0)) (qN a (67 + 3 * 0)) (X.2.1 (68 + 3 * 0)) (X.2.1 (69 + 3 * 0)) (X.2.1 73) x (N) (0) (hN) (by omega) (hx0)) (fun u => (updF (X.1) (67 + 3 * 0) (u.1), updF (updF (updF (X.2.1) (68 + 3 * 0) (u.2.1)) (69 + 3 * 0) (u.2.2.1)) (73) (u.2.2.2), X.2.2)) [0, 21, 22, 23, 67, 68, 69, 70, 74] [1, 2, 3, 4, 5, 6, 7, 8, 9, 10, 11, 12, 13, 14, 15, 16, 17, 18, 19, 20, 24, 25, 26, 27, 28, 29, 30, 31, 32, 33, 34, 35, 36, 37, 38, 39, 40, 41, 42, 43, 44, 45, 46, 47, 48, 49, 50, 51, 52, 53, 54, 55, 56, 57, 58, 59, 60, 61, 62, 63, 64, 65, 66, 71, 72, 73] [66, 0, 1, 2, 3, 4, 5, 6, 7, 8, 9, 10, 11, 12, 13, 14, 15, 16, 17, 18, 19, 67, 68, 69, 20, 21, 22, 23, 24, 25, 26, 27, 28, 29, 30, 31, 32, 33, 34, 35, 36, 37, 38, 39, 40, 41, 42, 43, 44, 45, 46, 47, 48, 49, 50, 51, 52, 53, 54, 55, 56, 57, 58, 59, 60, 61, 62, 70, 71, 72, 73, 63, 64, 65, 74] rfl (by decide) rfl (by decide) (by decide) (by decide) (fun _ => rfl) (fun r u hu => key r u hu)
  · have key : ∀ (r : Int32) (u : (Nat → Int32) × (Nat → Int32) × (Nat → Int32) × (Nat → Int32)), (r = (if imOk x = true then nI N.1 else -1) ∧ (imOk x = true → NRep N u.1 u.2.1 u.2.2.1 ∧ u.2.2.2 = upd (X.2.1 73) 1 1) ∧ (imOk x = false → u.1 = (X.1 (67 + 3 * 1)) ∧ u.2.1 = (X.2.1 (68 + 3 * 1)) ∧ u.2.2.1 = (X.2.1 (69 + 3 * 1)) ∧ u.2.2.2 = (X.2.1 73))) → (fun (r : Int32) (X' : XS) => (r = (if imOk x = true then nI N.1 else -1)) ∧ XI (σ, N, T, P, C, kpN I N x) X') r (updF (X.1) (67 + 3 * 1) (u.1), updF (updF (updF (X.2.1) (68 + 3 * 1) (u.2.1)) (69 + 3 * 1) (u.2.2.1)) (73) (u.2.2.2), X.2.2) := by
      rintro r ⟨u1, u2, u3, u4⟩ ⟨h1, h2, h3⟩
      cases e : imOk x with
      | true =>
        obtain ⟨g1, g2⟩ := h2 e
        have g2 : u4 = upd (X.2.1 73) 1 1 := g2
        refine ⟨h1.trans (by rw [e]), hT, hL, hN, xP_same (X := X) rfl (fun k hk => ⟨(updF_n (by omega)), ((updF_n (by omega)).trans ((updF_n (by omega)).trans (updF_n (by omega)))), ((updF_n (by omega)).trans ((updF_n (by omega)).trans (updF_n (by omega))))⟩) hPp, hV, hC, ?_⟩
        show xI (kpN I N x) _
        rw [kpN, if_pos e, hx0 e, nI_clamp (by omega)]
        intro i hi
        rcases (show i = 0 ∨ i = 1 by omega) with rfl | rfl
        · exact ⟨by show u4 0 = b2i (I.1 0); rw [g2, pk_un (by decide)]; exact (hI 0 (by omega)).1, fun q => (hI 0 (by omega)).2 q⟩
        · exact ⟨by show u4 1 = b2i true; rw [g2]; exact pk_us, fun _ => g1⟩
      | false =>
        obtain ⟨q1, q2, q3, q4⟩ := h3 e
        have q1 : u1 = X.1 70 := q1
        have q2 : u2 = X.2.1 71 := q2
        have q3 : u3 = X.2.1 72 := q3
        have q4 : u4 = X.2.1 73 := q4
        subst q1 q2 q3 q4
        refine ⟨h1.trans (by rw [e]), hT, hL, hN, xP_same (X := X) rfl (fun k hk => ⟨(updF_n (by omega)), ((updF_n (by omega)).trans ((updF_n (by omega)).trans (updF_n (by omega)))), ((updF_n (by omega)).trans ((updF_n (by omega)).trans (updF_n (by omega))))⟩) hPp, hV, hC, ?_⟩
        show xI (kpN I N x) _
        rw [kpN, if_neg (ne_t e)]
        exact xI_same (X := X) rfl (fun k hk => by rcases (show k = 0 ∨ k = 1 by omega) with rfl | rfl <;> exact ⟨rfl, rfl, rfl⟩) hI
    exact Ci.lift2 (W1' := XW G h a) (wr := [oB (q7 a 0) 5 (oF5 (X.1 0) (qT a)), aI G (qT a 0) 140 (X.2.1 1), oB (q7 a 1) 1 (oF1 (X.1 2) (qL a 2)), aI G (qL a 2 0) 10 (X.2.1 3), aI G (qL a 2 1) 10 (X.2.1 4), aI G (qL a 2 2) 10 (X.2.1 5), aI G (qL a 2 4) 8 (X.2.1 6), aI G (qL a 2 5) 8 (X.2.1 7), aZ G (qL a 2 8) 64 (X.2.1 8), aI G (qL a 2 9) 64 (X.2.1 9), aI G (qL a 2 10) 10 (X.2.1 10), oB (q7 a 2) 1 (oF1 (X.1 11) (qL a 11)), aI G (qL a 11 0) 10 (X.2.1 12), aI G (qL a 11 1) 10 (X.2.1 13), aI G (qL a 11 2) 10 (X.2.1 14), aI G (qL a 11 4) 8 (X.2.1 15), aI G (qL a 11 5) 8 (X.2.1 16), aZ G (qL a 11 8) 64 (X.2.1 17), aI G (qL a 11 9) 64 (X.2.1 18), aI G (qL a 11 10) 10 (X.2.1 19), oB (q7 a 4) 4 (oF4 (X.1 23) (qP a)), aN G (qP a 0) 10 (fun k => some (rgA a k)), oB (rgA a 0) 3 (oF3 (X.1 25) (qN a 25)), aI G (qN a 25 0) 8 (X.2.1 26), aI G (qN a 25 1) 8 (X.2.1 27), oB (rgA a 1) 3 (oF3 (X.1 28) (qN a 28)), aI G (qN a 28 0) 8 (X.2.1 29), aI G (qN a 28 1) 8 (X.2.1 30), oB (rgA a 2) 3 (oF3 (X.1 31) (qN a 31)), aI G (qN a 31 0) 8 (X.2.1 32), aI G (qN a 31 1) 8 (X.2.1 33), oB (rgA a 3) 3 (oF3 (X.1 34) (qN a 34)), aI G (qN a 34 0) 8 (X.2.1 35), aI G (qN a 34 1) 8 (X.2.1 36), oB (rgA a 4) 3 (oF3 (X.1 37) (qN a 37)), aI G (qN a 37 0) 8 (X.2.1 38), aI G (qN a 37 1) 8 (X.2.1 39), oB (rgA a 5) 3 (oF3 (X.1 40) (qN a 40)), aI G (qN a 40 0) 8 (X.2.1 41), aI G (qN a 40 1) 8 (X.2.1 42), oB (rgA a 6) 3 (oF3 (X.1 43) (qN a 43)), aI G (qN a 43 0) 8 (X.2.1 44), aI G (qN a 43 1) 8 (X.2.1 45), oB (rgA a 7) 3 (oF3 (X.1 46) (qN a 46)), aI G (qN a 46 0) 8 (X.2.1 47), aI G (qN a 46 1) 8 (X.2.1 48), oB (rgA a 8) 3 (oF3 (X.1 49) (qN a 49)), aI G (qN a 49 0) 8 (X.2.1 50), aI G (qN a 49 1) 8 (X.2.1 51), oB (rgA a 9) 3 (oF3 (X.1 52) (qN a 52)), aI G (qN a 52 0) 8 (X.2.1 53), aI G (qN a 52 1) 8 (X.2.1 54), oB (q7 a 5) 6 (oF6 (X.1 55) (qVw (q7 a 1) (q7 a 3) (a 56) (a 59) (a 60) (a 61))), oB (a 56) 2 (oF2 (X.1 56) (qN a 56)), aI G (qN a 56 0) 8 (X.2.1 57), aI G (qN a 56 1) 10 (X.2.1 58), aI G (a 59) 4096 (X.2.1 59), aJ G (a 60) 80 X.2.2, aI G (a 61) 8 (X.2.1 61), oB (q7 a 6) 0 (oF0 (X.1 62) (qC a)), aI G (qC a 0) 6 (X.2.1 63), aI G (qC a 1) 6 (X.2.1 64), aZ G (qC a 2) 6 (X.2.1 65), oB (imA a 0) 3 (oF3 (X.1 67) (qN a 67)), aI G (qN a 67 0) 8 (X.2.1 68), aI G (qN a 67 1) 8 (X.2.1 69)]) (c_X7_keep l G h (fun _ => 0) (q7 a) (X.1 20) (qN a 20) (X.2.1 21) (X.2.1 22) (imA a) (X.1 (67 + 3 * 1)) (qN a (67 + 3 * 1)) (X.2.1 (68 + 3 * 1)) (X.2.1 (69 + 3 * 1)) (X.2.1 73) x (N) (1) (hN) (by omega) (hx0)) (fun u => (updF (X.1) (67 + 3 * 1) (u.1), updF (updF (updF (X.2.1) (68 + 3 * 1) (u.2.1)) (69 + 3 * 1) (u.2.2.1)) (73) (u.2.2.2), X.2.2)) [0, 21, 22, 23, 67, 71, 72, 73, 74] [1, 2, 3, 4, 5, 6, 7, 8, 9, 10, 11, 12, 13, 14, 15, 16, 17, 18, 19, 20, 24, 25, 26, 27, 28, 29, 30, 31, 32, 33, 34, 35, 36, 37, 38, 39, 40, 41, 42, 43, 44, 45, 46, 47, 48, 49, 50, 51, 52, 53, 54, 55, 56, 57, 58, 59, 60, 61, 62, 63, 64, 65, 66, 68, 69, 70] [66, 0, 1, 2, 3, 4, 5, 6, 7, 8, 9, 10, 11, 12, 13, 14, 15, 16, 17, 18, 19, 67, 68, 69, 20, 21, 22, 23, 24, 25, 26, 27, 28, 29, 30, 31, 32, 33, 34, 35, 36, 37, 38, 39, 40, 41, 42, 43, 44, 45, 46, 47, 48, 49, 50, 51, 52, 53, 54, 55, 56, 57, 58, 59, 60, 61, 62, 70, 63, 64, 65, 71, 72, 73, 74] rfl (by decide) rfl (by decide) (by decide) (by decide) (fun _ => rfl) (fun r u hu => key r u hu)
set_option maxHeartbeats 4000000 in
set_option maxRecDepth 100000 in
theorem x_back (l : Launch) (G : kG) (h : Nat) (a : Nat → Nat) (X : XS) (σ : PS) (N : NL) (T : TT) (P : PT) (C : CT) (I : IT) (x : Int32) (hX : XI (σ, N, T, P, C, I) X) : Ci l G yX7_back wsX7_back rX7_back [.ref h, .int x] (XW G h a X) (fun r X' => (r = bkR I x) ∧ XI (σ, bkN I N x, T, bkP I P x, C, I) X') (XW G h a) := by
  obtain ⟨hT, hL, hN, hPp, hV, hC, hI⟩ := hX
  have hT : xT T X := hT
  have hL : xL σ X := hL
  have hN : xN N X := hN
  have hPp : xP P X := hPp
  have hV : xV σ N X := hV
  have hC : xC σ C X := hC
  have hI : xI I X := hI
  obtain ⟨k0, hk0, hx0⟩ := im_ex x
  rcases (show k0 = 0 ∨ k0 = 1 by omega) with rfl | rfl
  · have key : ∀ (r : Int32) (u : (Nat → Int32) × (Nat → Int32) × (Nat → Int32) × (Nat → Int32) × (Nat → Int32)), (r = (if imOk x = true then (if (X.2.1 73) 0 = 0 then -2 else nI (I.2 0).1) else -1) ∧ (imOk x = true ∧ ¬ (X.2.1 73) 0 = 0 → NRep (I.2 0) u.1 u.2.1 u.2.2.1 ∧ u.2.2.2.1 2 = 0 ∧ u.2.2.2.1 1 = (X.1 23) 1 ∧ u.2.2.2.2 4 = 0) ∧ (imOk x = false ∨ (X.2.1 73) 0 = 0 → u.1 = (X.1 20) ∧ u.2.1 = (X.2.1 21) ∧ u.2.2.1 = (X.2.1 22) ∧ u.2.2.2.1 = (X.1 23) ∧ u.2.2.2.2 = (X.1 55))) → (fun (r : Int32) (X' : XS) => (r = bkR I x) ∧ XI (σ, bkN I N x, T, bkP I P x, C, I) X') r (updF (updF (updF (X.1) (20) (u.1)) (23) (u.2.2.2.1)) (55) (u.2.2.2.2), updF (updF (X.2.1) (21) (u.2.1)) (22) (u.2.2.1), X.2.2) := by
      rintro r ⟨u1, u2, u3, u4, u5⟩ ⟨h1, h2, h3⟩
      cases e : imOk x with
      | false =>
        have eq : bkQ I x = false := by rw [bkQ, e]; rfl
        obtain ⟨q1, q2, q3, q4, q5⟩ := h3 (Or.inl e)
        have q1 : u1 = X.1 20 := q1
        have q2 : u2 = X.2.1 21 := q2
        have q3 : u3 = X.2.1 22 := q3
        have q4 : u4 = X.1 23 := q4
        have q5 : u5 = X.1 55 := q5
        subst q1 q2 q3 q4 q5
        have eN : bkN I N x = N := by rw [bkN, if_neg (ne_t eq)]
        have eP : bkP I P x = P := by rw [bkP, if_neg (ne_t eq)]
        refine ⟨h1.trans (by rw [bkR, if_neg (ne_t e), if_neg (ne_t e)]), ?_⟩
        show XI (σ, bkN I N x, T, bkP I P x, C, I) _
        rw [eN, eP]
        exact ⟨hT, hL, hN, xP_same (X := X) rfl (fun k hk => ⟨((updF_n (by omega)).trans ((updF_n (by omega)).trans (updF_n (by omega)))), ((updF_n (by omega)).trans (updF_n (by omega))), ((updF_n (by omega)).trans (updF_n (by omega)))⟩) hPp, hV, hC, xI_same (X := X) rfl (fun k hk => ⟨((updF_n (by omega)).trans ((updF_n (by omega)).trans (updF_n (by omega)))), ((updF_n (by omega)).trans (updF_n (by omega))), ((updF_n (by omega)).trans (updF_n (by omega)))⟩) hI⟩
      | true =>
        have hx := hx0 e
        have hk9 : X.2.1 73 0 = b2i (I.1 0) := (hI 0 (by omega)).1
        have hxn : x.toNatClampNeg = 0 := by rw [hx, nI_clamp (by omega)]
        cases e2 : I.1 0 with
        | false =>
          have ez : X.2.1 73 0 = 0 := by rw [hk9, e2]; rfl
          have eq : bkQ I x = false := by rw [bkQ, e, hxn, e2]; rfl
          obtain ⟨q1, q2, q3, q4, q5⟩ := h3 (Or.inr ez)
          have q1 : u1 = X.1 20 := q1
          have q2 : u2 = X.2.1 21 := q2
          have q3 : u3 = X.2.1 22 := q3
          have q4 : u4 = X.1 23 := q4
          have q5 : u5 = X.1 55 := q5
          subst q1 q2 q3 q4 q5
          have eN : bkN I N x = N := by rw [bkN, if_neg (ne_t eq)]
          have eP : bkP I P x = P := by rw [bkP, if_neg (ne_t eq)]
          refine ⟨h1.trans (by rw [bkR, if_pos e, if_pos e, if_pos ez, hxn, if_neg (ne_t e2)]), ?_⟩
          show XI (σ, bkN I N x, T, bkP I P x, C, I) _
          rw [eN, eP]
          exact ⟨hT, hL, hN, xP_same (X := X) rfl (fun k hk => ⟨((updF_n (by omega)).trans ((updF_n (by omega)).trans (updF_n (by omega)))), ((updF_n (by omega)).trans (updF_n (by omega))), ((updF_n (by omega)).trans (updF_n (by omega)))⟩) hPp, hV, hC, xI_same (X := X) rfl (fun k hk => ⟨((updF_n (by omega)).trans ((updF_n (by omega)).trans (updF_n (by omega)))), ((updF_n (by omega)).trans (updF_n (by omega))), ((updF_n (by omega)).trans (updF_n (by omega)))⟩) hI⟩
        | true =>
          have ez : ¬ X.2.1 73 0 = 0 := by rw [hk9, e2]; decide
          have eq : bkQ I x = true := by rw [bkQ, e, hxn, e2]; rfl
          have eN : bkN I N x = I.2 0 := by rw [bkN, if_pos eq, hxn]
          have eP : bkP I P x = (0, P.2) := by rw [bkP, if_pos eq]
          obtain ⟨g1, g2, g3, g4⟩ := h2 ⟨e, ez⟩
          obtain ⟨j, hj, hv1, hv2, hU, hRg⟩ := hPp
          refine ⟨h1.trans (by rw [bkR, if_pos e, if_pos e, if_neg ez, hxn, if_pos e2]), ?_⟩
          show XI (σ, bkN I N x, T, bkP I P x, C, I) _
          rw [eN, eP]
          exact ⟨hT, hL, g1, ⟨j, hj, (show u4 1 = X.1 23 1 from g3).trans hv1, g2, Nat.zero_le _, fun i hi => absurd hi (Nat.not_lt_zero i)⟩, Or.inl g4, hC, xI_same (X := X) rfl (fun k hk => ⟨((updF_n (by omega)).trans ((updF_n (by omega)).trans (updF_n (by omega)))), ((updF_n (by omega)).trans (updF_n (by omega))), ((updF_n (by omega)).trans (updF_n (by omega)))⟩) hI⟩
    exact Ci.lift2 (W1' := XW G h a) (wr := [oB (q7 a 0) 5 (oF5 (X.1 0) (qT a)), aI G (qT a 0) 140 (X.2.1 1), oB (q7 a 1) 1 (oF1 (X.1 2) (qL a 2)), aI G (qL a 2 0) 10 (X.2.1 3), aI G (qL a 2 1) 10 (X.2.1 4), aI G (qL a 2 2) 10 (X.2.1 5), aI G (qL a 2 4) 8 (X.2.1 6), aI G (qL a 2 5) 8 (X.2.1 7), aZ G (qL a 2 8) 64 (X.2.1 8), aI G (qL a 2 9) 64 (X.2.1 9), aI G (qL a 2 10) 10 (X.2.1 10), oB (q7 a 2) 1 (oF1 (X.1 11) (qL a 11)), aI G (qL a 11 0) 10 (X.2.1 12), aI G (qL a 11 1) 10 (X.2.1 13), aI G (qL a 11 2) 10 (X.2.1 14), aI G (qL a 11 4) 8 (X.2.1 15), aI G (qL a 11 5) 8 (X.2.1 16), aZ G (qL a 11 8) 64 (X.2.1 17), aI G (qL a 11 9) 64 (X.2.1 18), aI G (qL a 11 10) 10 (X.2.1 19), aN G (qP a 0) 10 (fun k => some (rgA a k)), oB (rgA a 0) 3 (oF3 (X.1 25) (qN a 25)), aI G (qN a 25 0) 8 (X.2.1 26), aI G (qN a 25 1) 8 (X.2.1 27), oB (rgA a 1) 3 (oF3 (X.1 28) (qN a 28)), aI G (qN a 28 0) 8 (X.2.1 29), aI G (qN a 28 1) 8 (X.2.1 30), oB (rgA a 2) 3 (oF3 (X.1 31) (qN a 31)), aI G (qN a 31 0) 8 (X.2.1 32), aI G (qN a 31 1) 8 (X.2.1 33), oB (rgA a 3) 3 (oF3 (X.1 34) (qN a 34)), aI G (qN a 34 0) 8 (X.2.1 35), aI G (qN a 34 1) 8 (X.2.1 36), oB (rgA a 4) 3 (oF3 (X.1 37) (qN a 37)), aI G (qN a 37 0) 8 (X.2.1 38), aI G (qN a 37 1) 8 (X.2.1 39), oB (rgA a 5) 3 (oF3 (X.1 40) (qN a 40)), aI G (qN a 40 0) 8 (X.2.1 41), aI G (qN a 40 1) 8 (X.2.1 42), oB (rgA a 6) 3 (oF3 (X.1 43) (qN a 43)), aI G (qN a 43 0) 8 (X.2.1 44), aI G (qN a 43 1) 8 (X.2.1 45), oB (rgA a 7) 3 (oF3 (X.1 46) (qN a 46)), aI G (qN a 46 0) 8 (X.2.1 47), aI G (qN a 46 1) 8 (X.2.1 48), oB (rgA a 8) 3 (oF3 (X.1 49) (qN a 49)), aI G (qN a 49 0) 8 (X.2.1 50), aI G (qN a 49 1) 8 (X.2.1 51), oB (rgA a 9) 3 (oF3 (X.1 52) (qN a 52)), aI G (qN a 52 0) 8 (X.2.1 53), aI G (qN a 52 1) 8 (X.2.1 54), oB (a 56) 2 (oF2 (X.1 56) (qN a 56)), aI G (qN a 56 0) 8 (X.2.1 57), aI G (qN a 56 1) 10 (X.2.1 58), aI G (a 59) 4096 (X.2.1 59), aJ G (a 60) 80 X.2.2, aI G (a 61) 8 (X.2.1 61), oB (q7 a 6) 0 (oF0 (X.1 62) (qC a)), aI G (qC a 0) 6 (X.2.1 63), aI G (qC a 1) 6 (X.2.1 64), aZ G (qC a 2) 6 (X.2.1 65), oB (imA a 1) 3 (oF3 (X.1 70) (qN a 70)), aI G (qN a 70 0) 8 (X.2.1 71), aI G (qN a 70 1) 8 (X.2.1 72)]) (c_X7_back l G h (fun _ => 0) (q7 a) (X.1 20) (qN a 20) (X.2.1 21) (X.2.1 22) (X.1 23) (qP a) (X.1 55) (qVw (q7 a 1) (q7 a 3) (a 56) (a 59) (a 60) (a 61)) (imA a) (X.1 (67 + 3 * 0)) (qN a (67 + 3 * 0)) (X.2.1 (68 + 3 * 0)) (X.2.1 (69 + 3 * 0)) (X.2.1 73) x (I.2 0) (0) (fun hz => (hI 0 (by omega)).2 (by cases e : I.1 0 with | true => rfl | false => exact absurd ((hI 0 (by omega)).1.trans (by rw [e]; rfl)) hz)) (by omega) (hx0)) (fun u => (updF (updF (updF (X.1) (20) (u.1)) (23) (u.2.2.2.1)) (55) (u.2.2.2.2), updF (updF (X.2.1) (21) (u.2.1)) (22) (u.2.2.1), X.2.2)) [0, 21, 22, 23, 24, 56, 67, 68, 69, 70, 74] [1, 2, 3, 4, 5, 6, 7, 8, 9, 10, 11, 12, 13, 14, 15, 16, 17, 18, 19, 20, 25, 26, 27, 28, 29, 30, 31, 32, 33, 34, 35, 36, 37, 38, 39, 40, 41, 42, 43, 44, 45, 46, 47, 48, 49, 50, 51, 52, 53, 54, 55, 57, 58, 59, 60, 61, 62, 63, 64, 65, 66, 71, 72, 73] [64, 0, 1, 2, 3, 4, 5, 6, 7, 8, 9, 10, 11, 12, 13, 14, 15, 16, 17, 18, 19, 65, 66, 67, 68, 20, 21, 22, 23, 24, 25, 26, 27, 28, 29, 30, 31, 32, 33, 34, 35, 36, 37, 38, 39, 40, 41, 42, 43, 44, 45, 46, 47, 48, 49, 50, 69, 51, 52, 53, 54, 55, 56, 57, 58, 59, 60, 70, 71, 72, 73, 61, 62, 63, 74] rfl (by decide) rfl (by decide) (by decide) (by decide) (fun _ => rfl) (fun r u hu => key r u hu)
  · have key : ∀ (r : Int32) (u : (Nat → Int32) × (Nat → Int32) × (Nat → Int32) × (Nat → Int32) × (Nat → Int32)), (r = (if imOk x = true then (if (X.2.1 73) 1 = 0 then -2 else nI (I.2 1).1) else -1) ∧ (imOk x = true ∧ ¬ (X.2.1 73) 1 = 0 → NRep (I.2 1) u.1 u.2.1 u.2.2.1 ∧ u.2.2.2.1 2 = 0 ∧ u.2.2.2.1 1 = (X.1 23) 1 ∧ u.2.2.2.2 4 = 0) ∧ (imOk x = false ∨ (X.2.1 73) 1 = 0 → u.1 = (X.1 20) ∧ u.2.1 = (X.2.1 21) ∧ u.2.2.1 = (X.2.1 22) ∧ u.2.2.2.1 = (X.1 23) ∧ u.2.2.2.2 = (X.1 55))) → (fun (r : Int32) (X' : XS) => (r = bkR I x) ∧ XI (σ, bkN I N x, T, bkP I P x, C, I) X') r (updF (updF (updF (X.1) (20) (u.1)) (23) (u.2.2.2.1)) (55) (u.2.2.2.2), updF (updF (X.2.1) (21) (u.2.1)) (22) (u.2.2.1), X.2.2) := by
      rintro r ⟨u1, u2, u3, u4, u5⟩ ⟨h1, h2, h3⟩
      cases e : imOk x with
      | false =>
        have eq : bkQ I x = false := by rw [bkQ, e]; rfl
        obtain ⟨q1, q2, q3, q4, q5⟩ := h3 (Or.inl e)
        have q1 : u1 = X.1 20 := q1
        have q2 : u2 = X.2.1 21 := q2
        have q3 : u3 = X.2.1 22 := q3
        have q4 : u4 = X.1 23 := q4
        have q5 : u5 = X.1 55 := q5
        subst q1 q2 q3 q4 q5
        have eN : bkN I N x = N := by rw [bkN, if_neg (ne_t eq)]
        have eP : bkP I P x = P := by rw [bkP, if_neg (ne_t eq)]
        refine ⟨h1.trans (by rw [bkR, if_neg (ne_t e), if_neg (ne_t e)]), ?_⟩
        show XI (σ, bkN I N x, T, bkP I P x, C, I) _
        rw [eN, eP]
        exact ⟨hT, hL, hN, xP_same (X := X) rfl (fun k hk => ⟨((updF_n (by omega)).trans ((updF_n (by omega)).trans (updF_n (by omega)))), ((updF_n (by omega)).trans (updF_n (by omega))), ((updF_n (by omega)).trans (updF_n (by omega)))⟩) hPp, hV, hC, xI_same (X := X) rfl (fun k hk => ⟨((updF_n (by omega)).trans ((updF_n (by omega)).trans (updF_n (by omega)))), ((updF_n (by omega)).trans (updF_n (by omega))), ((updF_n (by omega)).trans (updF_n (by omega)))⟩) hI⟩
      | true =>
        have hx := hx0 e
        have hk9 : X.2.1 73 1 = b2i (I.1 1) := (hI 1 (by omega)).1
        have hxn : x.toNatClampNeg = 1 := by rw [hx, nI_clamp (by omega)]
        cases e2 : I.1 1 with
        | false =>
          have ez : X.2.1 73 1 = 0 := by rw [hk9, e2]; rfl
          have eq : bkQ I x = false := by rw [bkQ, e, hxn, e2]; rfl
          obtain ⟨q1, q2, q3, q4, q5⟩ := h3 (Or.inr ez)
          have q1 : u1 = X.1 20 := q1
          have q2 : u2 = X.2.1 21 := q2
          have q3 : u3 = X.2.1 22 := q3
          have q4 : u4 = X.1 23 := q4
          have q5 : u5 = X.1 55 := q5
          subst q1 q2 q3 q4 q5
          have eN : bkN I N x = N := by rw [bkN, if_neg (ne_t eq)]
          have eP : bkP I P x = P := by rw [bkP, if_neg (ne_t eq)]
          refine ⟨h1.trans (by rw [bkR, if_pos e, if_pos e, if_pos ez, hxn, if_neg (ne_t e2)]), ?_⟩
          show XI (σ, bkN I N x, T, bkP I P x, C, I) _
          rw [eN, eP]
          exact ⟨hT, hL, hN, xP_same (X := X) rfl (fun k hk => ⟨((updF_n (by omega)).trans ((updF_n (by omega)).trans (updF_n (by omega)))), ((updF_n (by omega)).trans (updF_n (by omega))), ((updF_n (by omega)).trans (updF_n (by omega)))⟩) hPp, hV, hC, xI_same (X := X) rfl (fun k hk => ⟨((updF_n (by omega)).trans ((updF_n (by omega)).trans (updF_n (by omega)))), ((updF_n (by omega)).trans (updF_n (by omega))), ((updF_n (by omega)).trans (updF_n (by omega)))⟩) hI⟩
        | true =>
          have ez : ¬ X.2.1 73 1 = 0 := by rw [hk9, e2]; decide
          have eq : bkQ I x = true := by rw [bkQ, e, hxn, e2]; rfl
          have eN : bkN I N x = I.2 1 := by rw [bkN, if_pos eq, hxn]
          have eP : bkP I P x = (0, P.2) := by rw [bkP, if_pos eq]
          obtain ⟨g1, g2, g3, g4⟩ := h2 ⟨e, ez⟩
          obtain ⟨j, hj, hv1, hv2, hU, hRg⟩ := hPp
          refine ⟨h1.trans (by rw [bkR, if_pos e, if_pos e, if_neg ez, hxn, if_pos e2]), ?_⟩
          show XI (σ, bkN I N x, T, bkP I P x, C, I) _
          rw [eN, eP]
          exact ⟨hT, hL, g1, ⟨j, hj, (show u4 1 = X.1 23 1 from g3).trans hv1, g2, Nat.zero_le _, fun i hi => absurd hi (Nat.not_lt_zero i)⟩, Or.inl g4, hC, xI_same (X := X) rfl (fun k hk => ⟨((updF_n (by omega)).trans ((updF_n (by omega)).trans (updF_n (by omega)))), ((updF_n (by omega)).trans (updF_n (by omega))), ((updF_n (by omega)).trans (updF_n (by omega)))⟩) hI⟩
    exact Ci.lift2 (W1' := XW G h a) (wr := [oB (q7 a 0) 5 (oF5 (X.1 0) (qT a)), aI G (qT a 0) 140 (X.2.1 1), oB (q7 a 1) 1 (oF1 (X.1 2) (qL a 2)), aI G (qL a 2 0) 10 (X.2.1 3), aI G (qL a 2 1) 10 (X.2.1 4), aI G (qL a 2 2) 10 (X.2.1 5), aI G (qL a 2 4) 8 (X.2.1 6), aI G (qL a 2 5) 8 (X.2.1 7), aZ G (qL a 2 8) 64 (X.2.1 8), aI G (qL a 2 9) 64 (X.2.1 9), aI G (qL a 2 10) 10 (X.2.1 10), oB (q7 a 2) 1 (oF1 (X.1 11) (qL a 11)), aI G (qL a 11 0) 10 (X.2.1 12), aI G (qL a 11 1) 10 (X.2.1 13), aI G (qL a 11 2) 10 (X.2.1 14), aI G (qL a 11 4) 8 (X.2.1 15), aI G (qL a 11 5) 8 (X.2.1 16), aZ G (qL a 11 8) 64 (X.2.1 17), aI G (qL a 11 9) 64 (X.2.1 18), aI G (qL a 11 10) 10 (X.2.1 19), aN G (qP a 0) 10 (fun k => some (rgA a k)), oB (rgA a 0) 3 (oF3 (X.1 25) (qN a 25)), aI G (qN a 25 0) 8 (X.2.1 26), aI G (qN a 25 1) 8 (X.2.1 27), oB (rgA a 1) 3 (oF3 (X.1 28) (qN a 28)), aI G (qN a 28 0) 8 (X.2.1 29), aI G (qN a 28 1) 8 (X.2.1 30), oB (rgA a 2) 3 (oF3 (X.1 31) (qN a 31)), aI G (qN a 31 0) 8 (X.2.1 32), aI G (qN a 31 1) 8 (X.2.1 33), oB (rgA a 3) 3 (oF3 (X.1 34) (qN a 34)), aI G (qN a 34 0) 8 (X.2.1 35), aI G (qN a 34 1) 8 (X.2.1 36), oB (rgA a 4) 3 (oF3 (X.1 37) (qN a 37)), aI G (qN a 37 0) 8 (X.2.1 38), aI G (qN a 37 1) 8 (X.2.1 39), oB (rgA a 5) 3 (oF3 (X.1 40) (qN a 40)), aI G (qN a 40 0) 8 (X.2.1 41), aI G (qN a 40 1) 8 (X.2.1 42), oB (rgA a 6) 3 (oF3 (X.1 43) (qN a 43)), aI G (qN a 43 0) 8 (X.2.1 44), aI G (qN a 43 1) 8 (X.2.1 45), oB (rgA a 7) 3 (oF3 (X.1 46) (qN a 46)), aI G (qN a 46 0) 8 (X.2.1 47), aI G (qN a 46 1) 8 (X.2.1 48), oB (rgA a 8) 3 (oF3 (X.1 49) (qN a 49)), aI G (qN a 49 0) 8 (X.2.1 50), aI G (qN a 49 1) 8 (X.2.1 51), oB (rgA a 9) 3 (oF3 (X.1 52) (qN a 52)), aI G (qN a 52 0) 8 (X.2.1 53), aI G (qN a 52 1) 8 (X.2.1 54), oB (a 56) 2 (oF2 (X.1 56) (qN a 56)), aI G (qN a 56 0) 8 (X.2.1 57), aI G (qN a 56 1) 10 (X.2.1 58), aI G (a 59) 4096 (X.2.1 59), aJ G (a 60) 80 X.2.2, aI G (a 61) 8 (X.2.1 61), oB (q7 a 6) 0 (oF0 (X.1 62) (qC a)), aI G (qC a 0) 6 (X.2.1 63), aI G (qC a 1) 6 (X.2.1 64), aZ G (qC a 2) 6 (X.2.1 65), oB (imA a 0) 3 (oF3 (X.1 67) (qN a 67)), aI G (qN a 67 0) 8 (X.2.1 68), aI G (qN a 67 1) 8 (X.2.1 69)]) (c_X7_back l G h (fun _ => 0) (q7 a) (X.1 20) (qN a 20) (X.2.1 21) (X.2.1 22) (X.1 23) (qP a) (X.1 55) (qVw (q7 a 1) (q7 a 3) (a 56) (a 59) (a 60) (a 61)) (imA a) (X.1 (67 + 3 * 1)) (qN a (67 + 3 * 1)) (X.2.1 (68 + 3 * 1)) (X.2.1 (69 + 3 * 1)) (X.2.1 73) x (I.2 1) (1) (fun hz => (hI 1 (by omega)).2 (by cases e : I.1 1 with | true => rfl | false => exact absurd ((hI 1 (by omega)).1.trans (by rw [e]; rfl)) hz)) (by omega) (hx0)) (fun u => (updF (updF (updF (X.1) (20) (u.1)) (23) (u.2.2.2.1)) (55) (u.2.2.2.2), updF (updF (X.2.1) (21) (u.2.1)) (22) (u.2.2.1), X.2.2)) [0, 21, 22, 23, 24, 56, 67, 71, 72, 73, 74] [1, 2, 3, 4, 5, 6, 7, 8, 9, 10, 11, 12, 13, 14, 15, 16, 17, 18, 19, 20, 25, 26, 27, 28, 29, 30, 31, 32, 33, 34, 35, 36, 37, 38, 39, 40, 41, 42, 43, 44, 45, 46, 47, 48, 49, 50, 51, 52, 53, 54, 55, 57, 58, 59, 60, 61, 62, 63, 64, 65, 66, 68, 69, 70] [64, 0, 1, 2, 3, 4, 5, 6, 7, 8, 9, 10, 11, 12, 13, 14, 15, 16, 17, 18, 19, 65, 66, 67, 68, 20, 21, 22, 23, 24, 25, 26, 27, 28, 29, 30, 31, 32, 33, 34, 35, 36, 37, 38, 39, 40, 41, 42, 43, 44, 45, 46, 47, 48, 49, 50, 69, 51, 52, 53, 54, 55, 56, 57, 58, 59, 60, 70, 61, 62, 63, 71, 72, 73, 74] rfl (by decide) rfl (by decide) (by decide) (by decide) (fun _ => rfl) (fun r u hu => key r u hu)
