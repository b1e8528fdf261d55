/-! the model over its world -/
theorem mT_v {T : TT} {M M' : MS} (h : mT T M) (h1 : M'.1 22 = M.1 22) (h2 : M'.2 23 = M.2 23) : mT T M' := ⟨h1.trans h.1, h2.trans h.2.1, h.2.2⟩
theorem mL_v {σ : PS} {M : MS} {w : Nat → Int32} {f : Nat → Nat → Int32} (h : mL σ M) (h1 : w 1 = M.1 1) (h5 : w 5 = M.1 5) (h8 : w 8 = M.1 8) (e2 : f 2 = M.2 2) (e3 : f 3 = M.2 3) (e4 : f 4 = M.2 4) (e6 : f 6 = M.2 6) (e7 : f 7 = M.2 7) (e9 : f 9 = M.2 9) (e10 : f 10 = M.2 10) (e11 : f 11 = M.2 11) (e12 : f 12 = M.2 12) : mL σ (w, f) := by
  unfold mL
  show LM σ w (f 2) (f 3) (f 4) (f 6) (f 7) (f 9) (f 10) (f 11) (f 12)
  rw [e2, e3, e4, e6, e7, e9, e10, e11, e12]
  exact LM_v h h1 h5 h8
theorem mP_v {P : PT} {M M' : MS} (h : mP P M) (h1 : M'.1 15 = M.1 15) (h2 : M'.2 14 = M.2 14) : mP P M' := ⟨h1.trans h.1, by rw [h2]; exact h.2⟩
theorem mC_v {σ : PS} {C : CT} {M M' : MS} (h : mC σ C M) (h1 : M'.1 18 = M.1 18) (h2 : M'.2 19 = M.2 19) (h3 : M'.2 20 = M.2 20) (h4 : M'.2 21 = M.2 21) : mC σ C M' := by unfold mC; rw [h1, h2, h3, h4]; exact h
theorem mP_do {D : Bool} {N : NL} {P : PT} {v v' pa' : Nat → Int32} {f : Nat → Nat → Int32} {pa : Nat → Int32} (hp : v 15 = nI P.1 ∧ PMr P.1 P.2 pa) (h : PQm D N P.1 P.2 v pa v' pa') (hf : f 14 = pa') : mP (psP D N P) (v', f) := by
  unfold psP
  cases D with
  | false =>
    rw [if_neg (by decide)]
    obtain ⟨a1, a2⟩ := h.2.1 rfl
    exact ⟨a1.trans hp.1, by show PMr P.1 P.2 (f 14); rw [hf, a2]; exact hp.2⟩
  | true =>
    rw [if_pos rfl]
    obtain ⟨a1, a2⟩ := h.1 rfl
    exact ⟨a1, by show PMr _ _ (f 14); rw [hf]; exact a2⟩
set_option maxHeartbeats 4000000 in
set_option maxRecDepth 100000 in
theorem y_type (l : Launch) (G : kG) (h : Nat) (q : Nat → Nat) (M : MS) (σ : PS) (N : NL) (T : TT) (P : PT) (C : CT) (I : IT) (x : Int32) (hM : MI (σ, N, T, P, C, I) M) : Ci l G yX8_type wsX8_type rX8_type [.ref h, .int x] (MW G h q M) (fun r M' => (r = tyR T.1 x) ∧ MI (σ, N, (tyN T.1 x, tyX T.2 T.1 x), P, C, I) M') (MW G h q) := by
  obtain ⟨hT, hL, hN, hP, hC, hI⟩ := hM
  have hT : mT T M := hT
  have hL : mL σ M := hL
  have hN : mN N M := hN
  have hP : mP P M := hP
  have hC : mC σ C M := hC
  have hI : mI I M := hI
  obtain ⟨hT1, hT2, hT3⟩ := hT
  exact Ci.lift2 (W1' := MW G h q) (wr := [aI G (q 2) 10 (M.2 2), aI G (q 3) 10 (M.2 3), aI G (q 4) 10 (M.2 4), aI G (q 6) 8 (M.2 6), aI G (q 7) 8 (M.2 7), aZ G (q 9) 64 (M.2 9), aI G (q 10) 64 (M.2 10), aI G (q 11) 640 (M.2 11), aI G (q 12) 640 (M.2 12), aI G (q 13) 17 (M.2 13), aI G (q 14) 170 (M.2 14), aI G (q 16) 34 (M.2 16), aZ G (q 17) 2 (M.2 17), aI G (q 19) 6 (M.2 19), aI G (q 20) 6 (M.2 20), aI G (q 21) 6 (M.2 21), aI G (q 29) 10 (M.2 29), aI G (q 30) 10 (M.2 30), aI G (q 31) 10 (M.2 31), aI G (q 33) 8 (M.2 33), aI G (q 34) 8 (M.2 34), aI G (q 36) 8 (M.2 36), aI G (q 37) 10 (M.2 37), aI G (q 38) 8 (M.2 38), aI G (q 39) 10 (M.2 39), aI G (q 40) 8 (M.2 40)]) (c_X8_type l G h M.1 q (M.2 23) x (T.1) (hT1) (hT3.1)) (fun u => (u.1, updF (M.2) 23 (u.2))) [0, 17] [1, 2, 3, 4, 5, 6, 7, 8, 9, 10, 11, 12, 13, 14, 15, 16, 18, 19, 20, 21, 22, 23, 24, 25, 26, 27] [26, 0, 1, 2, 3, 4, 5, 6, 7, 8, 9, 10, 11, 12, 13, 14, 15, 27, 16, 17, 18, 19, 20, 21, 22, 23, 24, 25] rfl (by decide) rfl (by decide) (by decide) (by decide) (fun _ => rfl) (fun r u hu => ⟨hu.1, ⟨hu.2.1, hu.2.2.1.trans (by rw [hT2]), okT_type hT3⟩, mL_v hL (hu.2.2.2 1 (by decide) (by decide)) (hu.2.2.2 5 (by decide) (by decide)) (hu.2.2.2 8 (by decide) (by decide)) rfl rfl rfl rfl rfl rfl rfl rfl rfl, hN, mP_v hP (hu.2.2.2 15 (by decide) (by decide)) rfl, mC_v hC (hu.2.2.2 18 (by decide) (by decide)) rfl rfl rfl, hI⟩)
set_option maxHeartbeats 4000000 in
set_option maxRecDepth 100000 in
theorem y_clear (l : Launch) (G : kG) (h : Nat) (q : Nat → Nat) (M : MS) (σ : PS) (N : NL) (T : TT) (P : PT) (C : CT) (I : IT) (hM : MI (σ, N, T, P, C, I) M) : Ci l G yX8_clear wsX8_clear rX8_clear [.ref h] (MW G h q M) (fun r M' => (r = nI T.1) ∧ MI (σ, N, (0, T.2), P, C, I) M') (MW G h q) := by
  obtain ⟨hT, hL, hN, hP, hC, hI⟩ := hM
  have hT : mT T M := hT
  have hL : mL σ M := hL
  have hN : mN N M := hN
  have hP : mP P M := hP
  have hC : mC σ C M := hC
  have hI : mI I M := hI
  obtain ⟨hT1, hT2, hT3⟩ := hT
  exact Ci.lift2 (W1' := MW G h q) (wr := [aI G (q 2) 10 (M.2 2), aI G (q 3) 10 (M.2 3), aI G (q 4) 10 (M.2 4), aI G (q 6) 8 (M.2 6), aI G (q 7) 8 (M.2 7), aZ G (q 9) 64 (M.2 9), aI G (q 10) 64 (M.2 10), aI G (q 11) 640 (M.2 11), aI G (q 12) 640 (M.2 12), aI G (q 13) 17 (M.2 13), aI G (q 14) 170 (M.2 14), aI G (q 16) 34 (M.2 16), aZ G (q 17) 2 (M.2 17), aI G (q 19) 6 (M.2 19), aI G (q 20) 6 (M.2 20), aI G (q 21) 6 (M.2 21), aI G (q 23) 140 (M.2 23), aI G (q 29) 10 (M.2 29), aI G (q 30) 10 (M.2 30), aI G (q 31) 10 (M.2 31), aI G (q 33) 8 (M.2 33), aI G (q 34) 8 (M.2 34), aI G (q 36) 8 (M.2 36), aI G (q 37) 10 (M.2 37), aI G (q 38) 8 (M.2 38), aI G (q 39) 10 (M.2 39), aI G (q 40) 8 (M.2 40)]) (c_X8_clear l G h M.1 q (T.1) (hT1)) (fun u => (u, M.2)) [0] [1, 2, 3, 4, 5, 6, 7, 8, 9, 10, 11, 12, 13, 14, 15, 16, 17, 18, 19, 20, 21, 22, 23, 24, 25, 26, 27] [27, 0, 1, 2, 3, 4, 5, 6, 7, 8, 9, 10, 11, 12, 13, 14, 15, 16, 17, 18, 19, 20, 21, 22, 23, 24, 25, 26] rfl (by decide) rfl (by decide) (by decide) (by decide) (fun _ => rfl) (fun r u hu => ⟨hu.1, ⟨hu.2.1, hT2, okT_0⟩, mL_v hL (hu.2.2 1 (by decide) (by decide)) (hu.2.2 5 (by decide) (by decide)) (hu.2.2 8 (by decide) (by decide)) rfl rfl rfl rfl rfl rfl rfl rfl rfl, hN, mP_v hP (hu.2.2 15 (by decide) (by decide)) rfl, mC_v hC (hu.2.2 18 (by decide) (by decide)) rfl rfl rfl, hI⟩)
set_option maxHeartbeats 4000000 in
set_option maxRecDepth 100000 in
theorem y_peak (l : Launch) (G : kG) (h : Nat) (q : Nat → Nat) (M : MS) (σ : PS) (N : NL) (T : TT) (P : PT) (C : CT) (I : IT) (x : Int32) (y : Int32) (hM : MI (σ, N, T, P, C, I) M) : Ci l G yX8_peak wsX8_peak rX8_peak [.ref h, .int x, .int y] (MW G h q M) (fun r M' => (r = pkR σ x y) ∧ MI (σ, N, T, P, C, I) M') (MW G h q) := by
  obtain ⟨hT, hL, hN, hP, hC, hI⟩ := hM
  have hT : mT T M := hT
  have hL : mL σ M := hL
  have hN : mN N M := hN
  have hP : mP P M := hP
  have hC : mC σ C M := hC
  have hI : mI I M := hI
  exact Ci.lift2 (W1' := MW G h q) (wr := [aI G (q 6) 8 (M.2 6), aI G (q 7) 8 (M.2 7), aZ G (q 9) 64 (M.2 9), aI G (q 10) 64 (M.2 10), aI G (q 11) 640 (M.2 11), aI G (q 12) 640 (M.2 12), aI G (q 13) 17 (M.2 13), aI G (q 14) 170 (M.2 14), aI G (q 16) 34 (M.2 16), aZ G (q 17) 2 (M.2 17), aI G (q 19) 6 (M.2 19), aI G (q 20) 6 (M.2 20), aI G (q 21) 6 (M.2 21), aI G (q 23) 140 (M.2 23), aI G (q 29) 10 (M.2 29), aI G (q 30) 10 (M.2 30), aI G (q 31) 10 (M.2 31), aI G (q 33) 8 (M.2 33), aI G (q 34) 8 (M.2 34), aI G (q 36) 8 (M.2 36), aI G (q 37) 10 (M.2 37), aI G (q 38) 8 (M.2 38), aI G (q 39) 10 (M.2 39), aI G (q 40) 8 (M.2 40)]) (c_X8_peak l G h M.1 q (M.2 2) (M.2 3) (M.2 4) (M.2 6) (M.2 7) (M.2 9) (M.2 10) (M.2 11) (M.2 12) (σ) x y (hL)) (fun u => (upd M.1 0 0, M.2)) [0, 1, 2, 3] [4, 5, 6, 7, 8, 9, 10, 11, 12, 13, 14, 15, 16, 17, 18, 19, 20, 21, 22, 23, 24, 25, 26, 27] [24, 25, 26, 27, 0, 1, 2, 3, 4, 5, 6, 7, 8, 9, 10, 11, 12, 13, 14, 15, 16, 17, 18, 19, 20, 21, 22, 23] rfl (by decide) rfl (by decide) (by decide) (by decide) (fun _ => rfl) (fun r u hu => ⟨hu, hT, hL, hN, hP, hC, hI⟩)
set_option maxHeartbeats 4000000 in
set_option maxRecDepth 100000 in
theorem y_ridge (l : Launch) (G : kG) (h : Nat) (q : Nat → Nat) (M : MS) (σ : PS) (N : NL) (T : TT) (P : PT) (C : CT) (I : IT) (x : Int32) (y : Int32) (hM : MI (σ, N, T, P, C, I) M) : Ci l G yX8_ridge wsX8_ridge rX8_ridge [.ref h, .int x, .int y] (MW G h q M) (fun r M' => (r = rdR σ x y) ∧ MI (σ, N, T, P, C, I) M') (MW G h q) := by
  obtain ⟨hT, hL, hN, hP, hC, hI⟩ := hM
  have hT : mT T M := hT
  have hL : mL σ M := hL
  have hN : mN N M := hN
  have hP : mP P M := hP
  have hC : mC σ C M := hC
  have hI : mI I M := hI
  exact Ci.lift2 (W1' := MW G h q) (wr := [aI G (q 2) 10 (M.2 2), aI G (q 3) 10 (M.2 3), aI G (q 4) 10 (M.2 4), aZ G (q 9) 64 (M.2 9), aI G (q 10) 64 (M.2 10), aI G (q 11) 640 (M.2 11), aI G (q 12) 640 (M.2 12), aI G (q 13) 17 (M.2 13), aI G (q 14) 170 (M.2 14), aI G (q 16) 34 (M.2 16), aZ G (q 17) 2 (M.2 17), aI G (q 19) 6 (M.2 19), aI G (q 20) 6 (M.2 20), aI G (q 21) 6 (M.2 21), aI G (q 23) 140 (M.2 23), aI G (q 29) 10 (M.2 29), aI G (q 30) 10 (M.2 30), aI G (q 31) 10 (M.2 31), aI G (q 33) 8 (M.2 33), aI G (q 34) 8 (M.2 34), aI G (q 36) 8 (M.2 36), aI G (q 37) 10 (M.2 37), aI G (q 38) 8 (M.2 38), aI G (q 39) 10 (M.2 39), aI G (q 40) 8 (M.2 40)]) (c_X8_ridge l G h M.1 q (M.2 2) (M.2 3) (M.2 4) (M.2 6) (M.2 7) (M.2 9) (M.2 10) (M.2 11) (M.2 12) σ x y (hL)) (fun u => (upd M.1 0 0, M.2)) [0, 4, 5] [1, 2, 3, 6, 7, 8, 9, 10, 11, 12, 13, 14, 15, 16, 17, 18, 19, 20, 21, 22, 23, 24, 25, 26, 27] [25, 0, 1, 2, 26, 27, 3, 4, 5, 6, 7, 8, 9, 10, 11, 12, 13, 14, 15, 16, 17, 18, 19, 20, 21, 22, 23, 24] rfl (by decide) rfl (by decide) (by decide) (by decide) (fun _ => rfl) (fun r u hu => ⟨hu, hT, hL, hN, hP, hC, hI⟩)
set_option maxHeartbeats 4000000 in
set_option maxRecDepth 100000 in
theorem y_seen (l : Launch) (G : kG) (h : Nat) (q : Nat → Nat) (M : MS) (σ : PS) (N : NL) (T : TT) (P : PT) (C : CT) (I : IT) (x : Int32) (y : Int32) (z : Int32) (hM : MI (σ, N, T, P, C, I) M) : Ci l G yX8_seen wsX8_seen rX8_seen [.ref h, .int x, .int y, .int z] (MW G h q M) (fun r M' => (r = seR (cPk σ) (cVis σ) (zn σ) x y z) ∧ MI (σ, N, T, P, C, I) M') (MW G h q) := by
  obtain ⟨hT, hL, hN, hP, hC, hI⟩ := hM
  have hT : mT T M := hT
  have hL : mL σ M := hL
  have hN : mN N M := hN
  have hP : mP P M := hP
  have hC : mC σ C M := hC
  have hI : mI I M := hI
  exact Ci.lift2 (W1' := MW G h q) (wr := [aI G (q 2) 10 (M.2 2), aI G (q 3) 10 (M.2 3), aI G (q 4) 10 (M.2 4), aI G (q 6) 8 (M.2 6), aI G (q 7) 8 (M.2 7), aI G (q 11) 640 (M.2 11), aI G (q 12) 640 (M.2 12), aI G (q 13) 17 (M.2 13), aI G (q 14) 170 (M.2 14), aI G (q 16) 34 (M.2 16), aZ G (q 17) 2 (M.2 17), aI G (q 19) 6 (M.2 19), aI G (q 20) 6 (M.2 20), aI G (q 21) 6 (M.2 21), aI G (q 23) 140 (M.2 23), aI G (q 29) 10 (M.2 29), aI G (q 30) 10 (M.2 30), aI G (q 31) 10 (M.2 31), aI G (q 33) 8 (M.2 33), aI G (q 34) 8 (M.2 34), aI G (q 36) 8 (M.2 36), aI G (q 37) 10 (M.2 37), aI G (q 38) 8 (M.2 38), aI G (q 39) 10 (M.2 39), aI G (q 40) 8 (M.2 40)]) (c_X8_seen l G h M.1 q (M.2 2) (M.2 3) (M.2 4) (M.2 6) (M.2 7) (M.2 9) (M.2 10) (M.2 11) (M.2 12) σ x y z (hL)) (fun u => (upd M.1 0 0, M.2)) [0, 6, 7] [1, 2, 3, 4, 5, 8, 9, 10, 11, 12, 13, 14, 15, 16, 17, 18, 19, 20, 21, 22, 23, 24, 25, 26, 27] [25, 0, 1, 2, 3, 4, 26, 27, 5, 6, 7, 8, 9, 10, 11, 12, 13, 14, 15, 16, 17, 18, 19, 20, 21, 22, 23, 24] rfl (by decide) rfl (by decide) (by decide) (by decide) (fun _ => rfl) (fun r u hu => ⟨hu, hT, hL, hN, hP, hC, hI⟩)
set_option maxHeartbeats 4000000 in
set_option maxRecDepth 100000 in
theorem y_bearing (l : Launch) (G : kG) (h : Nat) (q : Nat → Nat) (M : MS) (σ : PS) (N : NL) (T : TT) (P : PT) (C : CT) (I : IT) (x : Int32) (y : Int32) (z : Int32) (hM : MI (σ, N, T, P, C, I) M) : Ci l G yX8_bearing wsX8_bearing rX8_bearing [.ref h, .int x, .int y, .int z] (MW G h q M) (fun r M' => (r = cbeR σ x y z) ∧ MI (σ, N, T, P, C, I) M') (MW G h q) := by
  obtain ⟨hT, hL, hN, hP, hC, hI⟩ := hM
  have hT : mT T M := hT
  have hL : mL σ M := hL
  have hN : mN N M := hN
  have hP : mP P M := hP
  have hC : mC σ C M := hC
  have hI : mI I M := hI
  exact Ci.lift2 (W1' := MW G h q) (wr := [aI G (q 2) 10 (M.2 2), aI G (q 3) 10 (M.2 3), aI G (q 4) 10 (M.2 4), aI G (q 6) 8 (M.2 6), aI G (q 7) 8 (M.2 7), aI G (q 10) 64 (M.2 10), aI G (q 12) 640 (M.2 12), aI G (q 13) 17 (M.2 13), aI G (q 14) 170 (M.2 14), aI G (q 16) 34 (M.2 16), aZ G (q 17) 2 (M.2 17), aI G (q 19) 6 (M.2 19), aI G (q 20) 6 (M.2 20), aI G (q 21) 6 (M.2 21), aI G (q 23) 140 (M.2 23), aI G (q 29) 10 (M.2 29), aI G (q 30) 10 (M.2 30), aI G (q 31) 10 (M.2 31), aI G (q 33) 8 (M.2 33), aI G (q 34) 8 (M.2 34), aI G (q 36) 8 (M.2 36), aI G (q 37) 10 (M.2 37), aI G (q 38) 8 (M.2 38), aI G (q 39) 10 (M.2 39), aI G (q 40) 8 (M.2 40)]) (c_X8_bearing l G h M.1 q (M.2 2) (M.2 3) (M.2 4) (M.2 6) (M.2 7) (M.2 9) (M.2 10) (M.2 11) (M.2 12) σ x y z (hL)) (fun u => (upd M.1 0 0, M.2)) [0, 6, 8] [1, 2, 3, 4, 5, 7, 9, 10, 11, 12, 13, 14, 15, 16, 17, 18, 19, 20, 21, 22, 23, 24, 25, 26, 27] [25, 0, 1, 2, 3, 4, 26, 5, 27, 6, 7, 8, 9, 10, 11, 12, 13, 14, 15, 16, 17, 18, 19, 20, 21, 22, 23, 24] rfl (by decide) rfl (by decide) (by decide) (by decide) (fun _ => rfl) (fun r u hu => ⟨hu, hT, hL, hN, hP, hC, hI⟩)
set_option maxHeartbeats 4000000 in
set_option maxRecDepth 100000 in
theorem y_stands (l : Launch) (G : kG) (h : Nat) (q : Nat → Nat) (M : MS) (σ : PS) (N : NL) (T : TT) (P : PT) (C : CT) (I : IT) (x : Int32) (y : Int32) (z : Int32) (hM : MI (σ, N, T, P, C, I) M) : Ci l G yX8_stands wsX8_stands rX8_stands [.ref h, .int x, .int y, .int z] (MW G h q M) (fun r M' => (r = cstR σ x y z) ∧ MI (σ, N, T, P, C, I) M') (MW G h q) := by
  obtain ⟨hT, hL, hN, hP, hC, hI⟩ := hM
  have hT : mT T M := hT
  have hL : mL σ M := hL
  have hN : mN N M := hN
  have hP : mP P M := hP
  have hC : mC σ C M := hC
  have hI : mI I M := hI
  exact Ci.lift2 (W1' := MW G h q) (wr := [aI G (q 2) 10 (M.2 2), aI G (q 3) 10 (M.2 3), aI G (q 4) 10 (M.2 4), aI G (q 6) 8 (M.2 6), aI G (q 7) 8 (M.2 7), aI G (q 10) 64 (M.2 10), aI G (q 11) 640 (M.2 11), aI G (q 13) 17 (M.2 13), aI G (q 14) 170 (M.2 14), aI G (q 16) 34 (M.2 16), aZ G (q 17) 2 (M.2 17), aI G (q 19) 6 (M.2 19), aI G (q 20) 6 (M.2 20), aI G (q 21) 6 (M.2 21), aI G (q 23) 140 (M.2 23), aI G (q 29) 10 (M.2 29), aI G (q 30) 10 (M.2 30), aI G (q 31) 10 (M.2 31), aI G (q 33) 8 (M.2 33), aI G (q 34) 8 (M.2 34), aI G (q 36) 8 (M.2 36), aI G (q 37) 10 (M.2 37), aI G (q 38) 8 (M.2 38), aI G (q 39) 10 (M.2 39), aI G (q 40) 8 (M.2 40)]) (c_X8_stands l G h M.1 q (M.2 2) (M.2 3) (M.2 4) (M.2 6) (M.2 7) (M.2 9) (M.2 10) (M.2 11) (M.2 12) σ x y z (hL)) (fun u => (upd M.1 0 0, M.2)) [0, 6, 9] [1, 2, 3, 4, 5, 7, 8, 10, 11, 12, 13, 14, 15, 16, 17, 18, 19, 20, 21, 22, 23, 24, 25, 26, 27] [25, 0, 1, 2, 3, 4, 26, 5, 6, 27, 7, 8, 9, 10, 11, 12, 13, 14, 15, 16, 17, 18, 19, 20, 21, 22, 23, 24] rfl (by decide) rfl (by decide) (by decide) (by decide) (fun _ => rfl) (fun r u hu => ⟨hu, hT, hL, hN, hP, hC, hI⟩)
set_option maxHeartbeats 4000000 in
set_option maxRecDepth 100000 in
theorem y_panorama (l : Launch) (G : kG) (h : Nat) (q : Nat → Nat) (M : MS) (σ : PS) (N : NL) (T : TT) (P : PT) (C : CT) (I : IT) (x : Int32) (y : Int32) (z : Int32) (hM : MI (σ, N, T, P, C, I) M) : Ci l G yX8_panorama wsX8_panorama rX8_panorama [.ref h, .int x, .int y, .int z] (MW G h q M) (fun r M' => (paN σ x y z r) ∧ MI (σ, N, T, P, C, I) M') (MW G h q) := by
  obtain ⟨hT, hL, hN, hP, hC, hI⟩ := hM
  have hT : mT T M := hT
  have hL : mL σ M := hL
  have hN : mN N M := hN
  have hP : mP P M := hP
  have hC : mC σ C M := hC
  have hI : mI I M := hI
  exact Ci.lift2 (W1' := MW G h q) (wr := [aI G (q 4) 10 (M.2 4), aI G (q 6) 8 (M.2 6), aI G (q 7) 8 (M.2 7), aI G (q 11) 640 (M.2 11), aI G (q 12) 640 (M.2 12), aI G (q 13) 17 (M.2 13), aI G (q 14) 170 (M.2 14), aI G (q 16) 34 (M.2 16), aZ G (q 17) 2 (M.2 17), aI G (q 19) 6 (M.2 19), aI G (q 20) 6 (M.2 20), aI G (q 21) 6 (M.2 21), aI G (q 23) 140 (M.2 23), aI G (q 29) 10 (M.2 29), aI G (q 30) 10 (M.2 30), aI G (q 31) 10 (M.2 31), aI G (q 33) 8 (M.2 33), aI G (q 34) 8 (M.2 34), aI G (q 36) 8 (M.2 36), aI G (q 37) 10 (M.2 37), aI G (q 38) 8 (M.2 38), aI G (q 39) 10 (M.2 39), aI G (q 40) 8 (M.2 40)]) (c_X8_panorama l G h M.1 q (M.2 2) (M.2 3) (M.2 4) (M.2 6) (M.2 7) (M.2 9) (M.2 10) (M.2 11) (M.2 12) σ x y z (hL)) (fun u => (upd M.1 0 0, M.2)) [0, 6, 1, 2, 7] [3, 4, 5, 8, 9, 10, 11, 12, 13, 14, 15, 16, 17, 18, 19, 20, 21, 22, 23, 24, 25, 26, 27] [23, 25, 26, 0, 1, 2, 24, 27, 3, 4, 5, 6, 7, 8, 9, 10, 11, 12, 13, 14, 15, 16, 17, 18, 19, 20, 21, 22] rfl (by decide) rfl (by decide) (by decide) (by decide) (fun _ => rfl) (fun r u hu => ⟨hu, hT, hL, hN, hP, hC, hI⟩)
set_option maxHeartbeats 4000000 in
set_option maxRecDepth 100000 in
theorem y_notch (l : Launch) (G : kG) (h : Nat) (q : Nat → Nat) (M : MS) (σ : PS) (N : NL) (T : TT) (P : PT) (C : CT) (I : IT) (x : Int32) (y : Int32) (hM : MI (σ, N, T, P, C, I) M) : Ci l G yX8_notch wsX8_notch rX8_notch [.ref h, .int x, .int y] (MW G h q M) (fun r M' => (r = ntR N x y) ∧ MI (σ, N, T, P, C, I) M') (MW G h q) := by
  obtain ⟨hT, hL, hN, hP, hC, hI⟩ := hM
  have hT : mT T M := hT
  have hL : mL σ M := hL
  have hN : mN N M := hN
  have hP : mP P M := hP
  have hC : mC σ C M := hC
  have hI : mI I M := hI
  exact Ci.lift2 (W1' := MW G h q) (wr := [aI G (q 2) 10 (M.2 2), aI G (q 3) 10 (M.2 3), aI G (q 4) 10 (M.2 4), aI G (q 6) 8 (M.2 6), aI G (q 7) 8 (M.2 7), aZ G (q 9) 64 (M.2 9), aI G (q 10) 64 (M.2 10), aI G (q 11) 640 (M.2 11), aI G (q 12) 640 (M.2 12), aI G (q 14) 170 (M.2 14), aI G (q 16) 34 (M.2 16), aZ G (q 17) 2 (M.2 17), aI G (q 19) 6 (M.2 19), aI G (q 20) 6 (M.2 20), aI G (q 21) 6 (M.2 21), aI G (q 23) 140 (M.2 23), aI G (q 29) 10 (M.2 29), aI G (q 30) 10 (M.2 30), aI G (q 31) 10 (M.2 31), aI G (q 33) 8 (M.2 33), aI G (q 34) 8 (M.2 34), aI G (q 36) 8 (M.2 36), aI G (q 37) 10 (M.2 37), aI G (q 38) 8 (M.2 38), aI G (q 39) 10 (M.2 39), aI G (q 40) 8 (M.2 40)]) (c_X8_notch l G h M.1 q (M.2 13) N x y (hN)) (fun u => (upd M.1 0 0, M.2)) [0, 10] [1, 2, 3, 4, 5, 6, 7, 8, 9, 11, 12, 13, 14, 15, 16, 17, 18, 19, 20, 21, 22, 23, 24, 25, 26, 27] [26, 0, 1, 2, 3, 4, 5, 6, 7, 8, 27, 9, 10, 11, 12, 13, 14, 15, 16, 17, 18, 19, 20, 21, 22, 23, 24, 25] rfl (by decide) rfl (by decide) (by decide) (by decide) (fun _ => rfl) (fun r u hu => ⟨hu, hT, hL, hN, hP, hC, hI⟩)
set_option maxHeartbeats 4000000 in
set_option maxRecDepth 100000 in
theorem y_fits (l : Launch) (G : kG) (h : Nat) (q : Nat → Nat) (M : MS) (σ : PS) (N : NL) (T : TT) (P : PT) (C : CT) (I : IT) (x : Int32) (y : Int32) (z : Int32) (w : Int32) (w2 : Int32) (hM : MI (σ, N, T, P, C, I) M) : Ci l G yX8_fits wsX8_fits rX8_fits [.ref h, .int x, .int y, .int z, .int w, .int w2] (MW G h q M) (fun r M' => (r = ftR σ N x y z w w2) ∧ MI (σ, N, T, P, C, I) M') (MW G h q) := by
  obtain ⟨hT, hL, hN, hP, hC, hI⟩ := hM
  have hT : mT T M := hT
  have hL : mL σ M := hL
  have hN : mN N M := hN
  have hP : mP P M := hP
  have hC : mC σ C M := hC
  have hI : mI I M := hI
  exact Ci.lift2 (W1' := MW G h q) (wr := [aI G (q 2) 10 (M.2 2), aI G (q 3) 10 (M.2 3), aI G (q 4) 10 (M.2 4), aI G (q 6) 8 (M.2 6), aI G (q 7) 8 (M.2 7), aI G (q 14) 170 (M.2 14), aI G (q 16) 34 (M.2 16), aZ G (q 17) 2 (M.2 17), aI G (q 19) 6 (M.2 19), aI G (q 20) 6 (M.2 20), aI G (q 21) 6 (M.2 21), aI G (q 23) 140 (M.2 23), aI G (q 29) 10 (M.2 29), aI G (q 30) 10 (M.2 30), aI G (q 31) 10 (M.2 31), aI G (q 33) 8 (M.2 33), aI G (q 34) 8 (M.2 34), aI G (q 36) 8 (M.2 36), aI G (q 37) 10 (M.2 37), aI G (q 38) 8 (M.2 38), aI G (q 39) 10 (M.2 39), aI G (q 40) 8 (M.2 40)]) (c_X8_fits l G h M.1 q (M.2 2) (M.2 3) (M.2 4) (M.2 6) (M.2 7) (M.2 9) (M.2 10) (M.2 11) (M.2 12) σ (M.2 13) N x y z w w2 (hL) (hN)) (fun u => (upd M.1 0 0, M.2)) [0, 6, 7, 8, 9, 10] [1, 2, 3, 4, 5, 11, 12, 13, 14, 15, 16, 17, 18, 19, 20, 21, 22, 23, 24, 25, 26, 27] [22, 0, 1, 2, 3, 4, 23, 24, 25, 26, 27, 5, 6, 7, 8, 9, 10, 11, 12, 13, 14, 15, 16, 17, 18, 19, 20, 21] rfl (by decide) rfl (by decide) (by decide) (by decide) (fun _ => rfl) (fun r u hu => ⟨hu, hT, hL, hN, hP, hC, hI⟩)
set_option maxHeartbeats 4000000 in
set_option maxRecDepth 100000 in
theorem y_score (l : Launch) (G : kG) (h : Nat) (q : Nat → Nat) (M : MS) (σ : PS) (N : NL) (T : TT) (P : PT) (C : CT) (I : IT) (x : Int32) (y : Int32) (z : Int32) (hM : MI (σ, N, T, P, C, I) M) : Ci l G yX8_score wsX8_score rX8_score [.ref h, .int x, .int y, .int z] (MW G h q M) (fun r M' => (r = scR σ N x y z) ∧ MI (σ, N, T, P, C, I) M') (MW G h q) := by
  obtain ⟨hT, hL, hN, hP, hC, hI⟩ := hM
  have hT : mT T M := hT
  have hL : mL σ M := hL
  have hN : mN N M := hN
  have hP : mP P M := hP
  have hC : mC σ C M := hC
  have hI : mI I M := hI
  exact Ci.lift2 (W1' := MW G h q) (wr := [aI G (q 2) 10 (M.2 2), aI G (q 3) 10 (M.2 3), aI G (q 4) 10 (M.2 4), aI G (q 6) 8 (M.2 6), aI G (q 7) 8 (M.2 7), aI G (q 14) 170 (M.2 14), aI G (q 16) 34 (M.2 16), aZ G (q 17) 2 (M.2 17), aI G (q 19) 6 (M.2 19), aI G (q 20) 6 (M.2 20), aI G (q 21) 6 (M.2 21), aI G (q 23) 140 (M.2 23), aI G (q 29) 10 (M.2 29), aI G (q 30) 10 (M.2 30), aI G (q 31) 10 (M.2 31), aI G (q 33) 8 (M.2 33), aI G (q 34) 8 (M.2 34)]) (c_X8_score l G h M.1 q (M.2 2) (M.2 3) (M.2 4) (M.2 6) (M.2 7) (M.2 9) (M.2 10) (M.2 11) (M.2 12) σ (M.2 13) (M.2 36) (M.2 37) (M.2 38) (M.2 39) (M.2 40) N x y z (hL) (hN)) (fun u => (upd M.1 0 0, updF (updF (updF (updF (updF (M.2) 36 (u.1)) 37 (u.2.1)) 38 (u.2.2.1)) 39 (u.2.2.2.1)) 40 (u.2.2.2.2))) [0, 6, 7, 8, 9, 10, 23, 24, 25, 26, 27] [1, 2, 3, 4, 5, 11, 12, 13, 14, 15, 16, 17, 18, 19, 20, 21, 22] [17, 0, 1, 2, 3, 4, 18, 19, 20, 21, 22, 5, 6, 7, 8, 9, 10, 11, 12, 13, 14, 15, 16, 23, 24, 25, 26, 27] rfl (by decide) rfl (by decide) (by decide) (by decide) (fun _ => rfl) (fun r u hu => ⟨hu, hT, hL, hN, hP, hC, hI⟩)
set_option maxHeartbeats 4000000 in
set_option maxRecDepth 100000 in
theorem y_wholes (l : Launch) (G : kG) (h : Nat) (q : Nat → Nat) (M : MS) (σ : PS) (N : NL) (T : TT) (P : PT) (C : CT) (I : IT) (hM : MI (σ, N, T, P, C, I) M) : Ci l G yX8_wholes wsX8_wholes rX8_wholes [.ref h] (MW G h q M) (fun r M' => (r = nI (fb_ct (wlP σ N (-9) N.1) 4096)) ∧ MI (σ, N, T, P, C, I) M') (MW G h q) := by
  obtain ⟨hT, hL, hN, hP, hC, hI⟩ := hM
  have hT : mT T M := hT
  have hL : mL σ M := hL
  have hN : mN N M := hN
  have hP : mP P M := hP
  have hC : mC σ C M := hC
  have hI : mI I M := hI
  exact Ci.lift2 (W1' := MW G h q) (wr := [aI G (q 2) 10 (M.2 2), aI G (q 3) 10 (M.2 3), aI G (q 4) 10 (M.2 4), aI G (q 6) 8 (M.2 6), aI G (q 7) 8 (M.2 7), aI G (q 14) 170 (M.2 14), aI G (q 16) 34 (M.2 16), aZ G (q 17) 2 (M.2 17), aI G (q 19) 6 (M.2 19), aI G (q 20) 6 (M.2 20), aI G (q 21) 6 (M.2 21), aI G (q 23) 140 (M.2 23), aI G (q 29) 10 (M.2 29), aI G (q 30) 10 (M.2 30), aI G (q 31) 10 (M.2 31), aI G (q 33) 8 (M.2 33), aI G (q 34) 8 (M.2 34)]) (c_X8_wholes l G h M.1 q (M.2 2) (M.2 3) (M.2 4) (M.2 6) (M.2 7) (M.2 9) (M.2 10) (M.2 11) (M.2 12) σ (M.2 13) (M.2 36) (M.2 37) (M.2 38) (M.2 39) (M.2 40) N (hL) (hN)) (fun u => (upd M.1 0 0, updF (updF (updF (updF (updF (M.2) 36 (u.1)) 37 (u.2.1)) 38 (u.2.2.1)) 39 (u.2.2.2.1)) 40 (u.2.2.2.2))) [0, 6, 7, 8, 9, 10, 23, 24, 25, 26, 27] [1, 2, 3, 4, 5, 11, 12, 13, 14, 15, 16, 17, 18, 19, 20, 21, 22] [17, 0, 1, 2, 3, 4, 18, 19, 20, 21, 22, 5, 6, 7, 8, 9, 10, 11, 12, 13, 14, 15, 16, 23, 24, 25, 26, 27] rfl (by decide) rfl (by decide) (by decide) (by decide) (fun _ => rfl) (fun r u hu => ⟨hu, hT, hL, hN, hP, hC, hI⟩)
set_option maxHeartbeats 4000000 in
set_option maxRecDepth 100000 in
theorem y_whole (l : Launch) (G : kG) (h : Nat) (q : Nat → Nat) (M : MS) (σ : PS) (N : NL) (T : TT) (P : PT) (C : CT) (I : IT) (x : Int32) (y : Int32) (hM : MI (σ, N, T, P, C, I) M) : Ci l G yX8_whole wsX8_whole rX8_whole [.ref h, .int x, .int y] (MW G h q M) (fun r M' => ((whOk x y = true → ∃ w0, RK (wlP σ N (-9) N.1) 4096 x.toNatClampNeg w0 ∧ r = (if w0 = -9 then -9 else pPart w0 y)) ∧ (whOk x y = false → r = -1)) ∧ MI (σ, N, T, P, C, I) M') (MW G h q) := by
  obtain ⟨hT, hL, hN, hP, hC, hI⟩ := hM
  have hT : mT T M := hT
  have hL : mL σ M := hL
  have hN : mN N M := hN
  have hP : mP P M := hP
  have hC : mC σ C M := hC
  have hI : mI I M := hI
  exact Ci.lift2 (W1' := MW G h q) (wr := [aI G (q 2) 10 (M.2 2), aI G (q 3) 10 (M.2 3), aI G (q 4) 10 (M.2 4), aI G (q 6) 8 (M.2 6), aI G (q 7) 8 (M.2 7), aI G (q 14) 170 (M.2 14), aI G (q 16) 34 (M.2 16), aZ G (q 17) 2 (M.2 17), aI G (q 19) 6 (M.2 19), aI G (q 20) 6 (M.2 20), aI G (q 21) 6 (M.2 21), aI G (q 23) 140 (M.2 23), aI G (q 29) 10 (M.2 29), aI G (q 30) 10 (M.2 30), aI G (q 31) 10 (M.2 31), aI G (q 33) 8 (M.2 33), aI G (q 34) 8 (M.2 34)]) (c_X8_whole l G h M.1 q (M.2 2) (M.2 3) (M.2 4) (M.2 6) (M.2 7) (M.2 9) (M.2 10) (M.2 11) (M.2 12) σ (M.2 13) (M.2 36) (M.2 37) (M.2 38) (M.2 39) (M.2 40) N x y (hL) (hN)) (fun u => (upd M.1 0 0, updF (updF (updF (updF (updF (M.2) 36 (u.1)) 37 (u.2.1)) 38 (u.2.2.1)) 39 (u.2.2.2.1)) 40 (u.2.2.2.2))) [0, 6, 7, 8, 9, 10, 23, 24, 25, 26, 27] [1, 2, 3, 4, 5, 11, 12, 13, 14, 15, 16, 17, 18, 19, 20, 21, 22] [17, 0, 1, 2, 3, 4, 18, 19, 20, 21, 22, 5, 6, 7, 8, 9, 10, 11, 12, 13, 14, 15, 16, 23, 24, 25, 26, 27] rfl (by decide) rfl (by decide) (by decide) (by decide) (fun _ => rfl) (fun r u hu => ⟨hu, hT, hL, hN, hP, hC, hI⟩)
set_option maxHeartbeats 4000000 in
set_option maxRecDepth 100000 in
theorem y_odd (l : Launch) (G : kG) (h : Nat) (q : Nat → Nat) (M : MS) (σ : PS) (N : NL) (T : TT) (P : PT) (C : CT) (I : IT) (hM : MI (σ, N, T, P, C, I) M) : Ci l G yX8_odd wsX8_odd rX8_odd [.ref h] (MW G h q M) (fun r M' => ((N.1 = 0 ∧ r = -9) ∨ ∃ b, b < N.1 ∧ r = nI b ∧ ∀ k, k < N.1 → ctO σ N k ≤ ctO σ N b ∧ (k < b → ctO σ N k < ctO σ N b)) ∧ MI (σ, N, T, P, C, I) M') (MW G h q) := by
  obtain ⟨hT, hL, hN, hP, hC, hI⟩ := hM
  have hT : mT T M := hT
  have hL : mL σ M := hL
  have hN : mN N M := hN
  have hP : mP P M := hP
  have hC : mC σ C M := hC
  have hI : mI I M := hI
  exact Ci.lift2 (W1' := MW G h q) (wr := [aI G (q 2) 10 (M.2 2), aI G (q 3) 10 (M.2 3), aI G (q 4) 10 (M.2 4), aI G (q 6) 8 (M.2 6), aI G (q 7) 8 (M.2 7), aI G (q 14) 170 (M.2 14), aI G (q 16) 34 (M.2 16), aZ G (q 17) 2 (M.2 17), aI G (q 19) 6 (M.2 19), aI G (q 20) 6 (M.2 20), aI G (q 21) 6 (M.2 21), aI G (q 23) 140 (M.2 23), aI G (q 29) 10 (M.2 29), aI G (q 30) 10 (M.2 30), aI G (q 31) 10 (M.2 31), aI G (q 33) 8 (M.2 33), aI G (q 34) 8 (M.2 34)]) (c_X8_odd l G h M.1 q (M.2 2) (M.2 3) (M.2 4) (M.2 6) (M.2 7) (M.2 9) (M.2 10) (M.2 11) (M.2 12) σ (M.2 13) (M.2 36) (M.2 37) (M.2 38) (M.2 39) (M.2 40) N (hL) (hN)) (fun u => (upd M.1 0 0, updF (updF (updF (updF (updF (M.2) 36 (u.1)) 37 (u.2.1)) 38 (u.2.2.1)) 39 (u.2.2.2.1)) 40 (u.2.2.2.2))) [0, 6, 7, 8, 9, 10, 23, 24, 25, 26, 27] [1, 2, 3, 4, 5, 11, 12, 13, 14, 15, 16, 17, 18, 19, 20, 21, 22] [17, 0, 1, 2, 3, 4, 18, 19, 20, 21, 22, 5, 6, 7, 8, 9, 10, 11, 12, 13, 14, 15, 16, 23, 24, 25, 26, 27] rfl (by decide) rfl (by decide) (by decide) (by decide) (fun _ => rfl) (fun r u hu => ⟨hu, hT, hL, hN, hP, hC, hI⟩)
set_option maxHeartbeats 4000000 in
set_option maxRecDepth 100000 in
theorem y_best (l : Launch) (G : kG) (h : Nat) (q : Nat → Nat) (M : MS) (σ : PS) (N : NL) (T : TT) (P : PT) (C : CT) (I : IT) (x : Int32) (hM : MI (σ, N, T, P, C, I) M) : Ci l G yX8_best wsX8_best rX8_best [.ref h, .int x] (MW G h q M) (fun r M' => ((bsOk x = true → bsQ (scM σ N) 4096 x r) ∧ (bsOk x = false → r = -1)) ∧ MI (σ, N, T, P, C, I) M') (MW G h q) := by
  obtain ⟨hT, hL, hN, hP, hC, hI⟩ := hM
  have hT : mT T M := hT
  have hL : mL σ M := hL
  have hN : mN N M := hN
  have hP : mP P M := hP
  have hC : mC σ C M := hC
  have hI : mI I M := hI
  exact Ci.lift2 (W1' := MW G h q) (wr := [aI G (q 2) 10 (M.2 2), aI G (q 3) 10 (M.2 3), aI G (q 4) 10 (M.2 4), aI G (q 6) 8 (M.2 6), aI G (q 7) 8 (M.2 7), aI G (q 14) 170 (M.2 14), aI G (q 16) 34 (M.2 16), aZ G (q 17) 2 (M.2 17), aI G (q 19) 6 (M.2 19), aI G (q 20) 6 (M.2 20), aI G (q 21) 6 (M.2 21), aI G (q 23) 140 (M.2 23), aI G (q 29) 10 (M.2 29), aI G (q 30) 10 (M.2 30), aI G (q 31) 10 (M.2 31), aI G (q 33) 8 (M.2 33), aI G (q 34) 8 (M.2 34)]) (c_X8_best l G h M.1 q (M.2 2) (M.2 3) (M.2 4) (M.2 6) (M.2 7) (M.2 9) (M.2 10) (M.2 11) (M.2 12) σ (M.2 13) (M.2 36) (M.2 37) (M.2 38) (M.2 39) (M.2 40) N x (hL) (hN)) (fun u => (u.1, updF (updF (updF (updF (updF (M.2) 36 (u.2.1)) 37 (u.2.2.1)) 38 (u.2.2.2.1)) 39 (u.2.2.2.2.1)) 40 (u.2.2.2.2.2))) [0, 6, 7, 8, 9, 10, 23, 24, 25, 26, 27] [1, 2, 3, 4, 5, 11, 12, 13, 14, 15, 16, 17, 18, 19, 20, 21, 22] [17, 0, 1, 2, 3, 4, 18, 19, 20, 21, 22, 5, 6, 7, 8, 9, 10, 11, 12, 13, 14, 15, 16, 23, 24, 25, 26, 27] rfl (by decide) rfl (by decide) (by decide) (by decide) (fun _ => rfl) (fun r u hu => ⟨⟨hu.1, hu.2.1⟩, mT_v hT (hu.2.2 22 (by decide) (by decide) (by decide) (by decide)) rfl, mL_v hL (hu.2.2 1 (by decide) (by decide) (by decide) (by decide)) (hu.2.2 5 (by decide) (by decide) (by decide) (by decide)) (hu.2.2 8 (by decide) (by decide) (by decide) (by decide)) rfl rfl rfl rfl rfl rfl rfl rfl rfl, hN, mP_v hP (hu.2.2 15 (by decide) (by decide) (by decide) (by decide)) rfl, mC_v hC (hu.2.2 18 (by decide) (by decide) (by decide) (by decide)) rfl rfl rfl, hI⟩)
set_option maxHeartbeats 4000000 in
set_option maxRecDepth 100000 in
theorem y_doubt (l : Launch) (G : kG) (h : Nat) (q : Nat → Nat) (M : MS) (σ : PS) (N : NL) (T : TT) (P : PT) (C : CT) (I : IT) (hM : MI (σ, N, T, P, C, I) M) : Ci l G yX8_doubt wsX8_doubt rX8_doubt [.ref h] (MW G h q M) (fun r M' => (r = nI (plV (scM σ N) 64)) ∧ MI (σ, N, T, P, C, I) M') (MW G h q) := by
  obtain ⟨hT, hL, hN, hP, hC, hI⟩ := hM
  have hT : mT T M := hT
  have hL : mL σ M := hL
  have hN : mN N M := hN
  have hP : mP P M := hP
  have hC : mC σ C M := hC
  have hI : mI I M := hI
  exact Ci.lift2 (W1' := MW G h q) (wr := [aI G (q 2) 10 (M.2 2), aI G (q 3) 10 (M.2 3), aI G (q 4) 10 (M.2 4), aI G (q 6) 8 (M.2 6), aI G (q 7) 8 (M.2 7), aI G (q 14) 170 (M.2 14), aI G (q 16) 34 (M.2 16), aZ G (q 17) 2 (M.2 17), aI G (q 19) 6 (M.2 19), aI G (q 20) 6 (M.2 20), aI G (q 21) 6 (M.2 21), aI G (q 23) 140 (M.2 23), aI G (q 29) 10 (M.2 29), aI G (q 30) 10 (M.2 30), aI G (q 31) 10 (M.2 31), aI G (q 33) 8 (M.2 33), aI G (q 34) 8 (M.2 34)]) (c_X8_doubt l G h M.1 q (M.2 2) (M.2 3) (M.2 4) (M.2 6) (M.2 7) (M.2 9) (M.2 10) (M.2 11) (M.2 12) σ (M.2 13) (M.2 36) (M.2 37) (M.2 38) (M.2 39) (M.2 40) N (hL) (hN)) (fun u => (u.1, updF (updF (updF (updF (updF (M.2) 36 (u.2.1)) 37 (u.2.2.1)) 38 (u.2.2.2.1)) 39 (u.2.2.2.2.1)) 40 (u.2.2.2.2.2))) [0, 6, 7, 8, 9, 10, 23, 24, 25, 26, 27] [1, 2, 3, 4, 5, 11, 12, 13, 14, 15, 16, 17, 18, 19, 20, 21, 22] [17, 0, 1, 2, 3, 4, 18, 19, 20, 21, 22, 5, 6, 7, 8, 9, 10, 11, 12, 13, 14, 15, 16, 23, 24, 25, 26, 27] rfl (by decide) rfl (by decide) (by decide) (by decide) (fun _ => rfl) (fun r u hu => ⟨hu.1, mT_v hT (hu.2 22 (by decide) (by decide) (by decide) (by decide)) rfl, mL_v hL (hu.2 1 (by decide) (by decide) (by decide) (by decide)) (hu.2 5 (by decide) (by decide) (by decide) (by decide)) (hu.2 8 (by decide) (by decide) (by decide) (by decide)) rfl rfl rfl rfl rfl rfl rfl rfl rfl, hN, mP_v hP (hu.2 15 (by decide) (by decide) (by decide) (by decide)) rfl, mC_v hC (hu.2 18 (by decide) (by decide) (by decide) (by decide)) rfl rfl rfl, hI⟩)
set_option maxHeartbeats 4000000 in
set_option maxRecDepth 100000 in
theorem y_unseen (l : Launch) (G : kG) (h : Nat) (q : Nat → Nat) (M : MS) (σ : PS) (N : NL) (T : TT) (P : PT) (C : CT) (I : IT) (hM : MI (σ, N, T, P, C, I) M) : Ci l G yX8_unseen wsX8_unseen rX8_unseen [.ref h] (MW G h q M) (fun r M' => (r = gbits (unB σ N C.1 C.2.1 C.2.2.1 C.2.2.2) (zn σ)) ∧ MI (σ, N, T, P, C, I) M') (MW G h q) := by
  obtain ⟨hT, hL, hN, hP, hC, hI⟩ := hM
  have hT : mT T M := hT
  have hL : mL σ M := hL
  have hN : mN N M := hN
  have hP : mP P M := hP
  have hC : mC σ C M := hC
  have hI : mI I M := hI
  exact Ci.lift2 (W1' := MW G h q) (wr := [aI G (q 2) 10 (M.2 2), aI G (q 3) 10 (M.2 3), aI G (q 4) 10 (M.2 4), aI G (q 6) 8 (M.2 6), aI G (q 7) 8 (M.2 7), aZ G (q 9) 64 (M.2 9), aI G (q 14) 170 (M.2 14), aI G (q 16) 34 (M.2 16), aZ G (q 17) 2 (M.2 17), aI G (q 23) 140 (M.2 23), aI G (q 29) 10 (M.2 29), aI G (q 30) 10 (M.2 30), aI G (q 31) 10 (M.2 31), aI G (q 33) 8 (M.2 33), aI G (q 34) 8 (M.2 34)]) (c_X8_unseen l G h M.1 q (M.2 2) (M.2 3) (M.2 4) (M.2 6) (M.2 7) (M.2 9) (M.2 10) (M.2 11) (M.2 12) σ (M.2 13) (M.2 36) (M.2 37) (M.2 38) (M.2 39) (M.2 40) N (M.2 19) (M.2 20) (M.2 21) (C.1) (C.2.1) (C.2.2.1) (C.2.2.2) (hL) (hN) (hC.1) (fun k hk => (hC.2 k hk).2)) (fun u => (upd M.1 0 0, updF (updF (updF (updF (updF (M.2) 36 (u.1)) 37 (u.2.1)) 38 (u.2.2.1)) 39 (u.2.2.2.1)) 40 (u.2.2.2.2))) [0, 14, 15, 16, 7, 8, 9, 10, 23, 24, 25, 26, 27] [1, 2, 3, 4, 5, 6, 11, 12, 13, 17, 18, 19, 20, 21, 22] [15, 0, 1, 2, 3, 4, 5, 19, 20, 21, 22, 6, 7, 8, 16, 17, 18, 9, 10, 11, 12, 13, 14, 23, 24, 25, 26, 27] rfl (by decide) rfl (by decide) (by decide) (by decide) (fun _ => rfl) (fun r u hu => ⟨hu, hT, hL, hN, hP, hC, hI⟩)
set_option maxHeartbeats 4000000 in
set_option maxRecDepth 100000 in
theorem y_count (l : Launch) (G : kG) (h : Nat) (q : Nat → Nat) (M : MS) (σ : PS) (N : NL) (T : TT) (P : PT) (C : CT) (I : IT) (x : Int32) (hM : MI (σ, N, T, P, C, I) M) : Ci l G yX8_count wsX8_count rX8_count [.ref h, .int x] (MW G h q M) (fun r M' => (r = coR σ T.1 N.1 C.1 P.1 x) ∧ MI (σ, N, T, P, C, I) M') (MW G h q) := by
  obtain ⟨hT, hL, hN, hP, hC, hI⟩ := hM
  have hT : mT T M := hT
  have hL : mL σ M := hL
  have hN : mN N M := hN
  have hP : mP P M := hP
  have hC : mC σ C M := hC
  have hI : mI I M := hI
  exact Ci.lift2 (W1' := MW G h q) (wr := [aI G (q 2) 10 (M.2 2), aI G (q 3) 10 (M.2 3), aI G (q 4) 10 (M.2 4), aI G (q 6) 8 (M.2 6), aI G (q 7) 8 (M.2 7), aZ G (q 9) 64 (M.2 9), aI G (q 10) 64 (M.2 10), aI G (q 11) 640 (M.2 11), aI G (q 12) 640 (M.2 12), aI G (q 14) 170 (M.2 14), aI G (q 16) 34 (M.2 16), aZ G (q 17) 2 (M.2 17), aI G (q 19) 6 (M.2 19), aI G (q 20) 6 (M.2 20), aI G (q 21) 6 (M.2 21), aI G (q 23) 140 (M.2 23), aI G (q 29) 10 (M.2 29), aI G (q 30) 10 (M.2 30), aI G (q 31) 10 (M.2 31), aI G (q 33) 8 (M.2 33), aI G (q 34) 8 (M.2 34), aI G (q 36) 8 (M.2 36), aI G (q 37) 10 (M.2 37), aI G (q 38) 8 (M.2 38), aI G (q 39) 10 (M.2 39), aI G (q 40) 8 (M.2 40)]) (c_X8_count l G h M.1 q (M.2 13) σ (T.1) (N.1) (C.1) (P.1) x (hL.2.1.1) (hL.2.1.2.1) (hL.2.1.2.2) (hN.1) (hC.1.1) (hT.1) (hP.1)) (fun u => (upd M.1 0 0, M.2)) [0, 10] [1, 2, 3, 4, 5, 6, 7, 8, 9, 11, 12, 13, 14, 15, 16, 17, 18, 19, 20, 21, 22, 23, 24, 25, 26, 27] [26, 0, 1, 2, 3, 4, 5, 6, 7, 8, 27, 9, 10, 11, 12, 13, 14, 15, 16, 17, 18, 19, 20, 21, 22, 23, 24, 25] rfl (by decide) rfl (by decide) (by decide) (by decide) (fun _ => rfl) (fun r u hu => ⟨hu, hT, hL, hN, hP, hC, hI⟩)
set_option maxHeartbeats 4000000 in
set_option maxRecDepth 100000 in
theorem y_forget (l : Launch) (G : kG) (h : Nat) (q : Nat → Nat) (M : MS) (σ : PS) (N : NL) (T : TT) (P : PT) (C : CT) (I : IT) (hM : MI (σ, N, T, P, C, I) M) : Ci l G yX8_forget wsX8_forget rX8_forget [.ref h] (MW G h q M) (fun r M' => (r = nI C.1) ∧ MI (σ, N, T, P, (0, C.2), I) M') (MW G h q) := by
  obtain ⟨hT, hL, hN, hP, hC, hI⟩ := hM
  have hT : mT T M := hT
  have hL : mL σ M := hL
  have hN : mN N M := hN
  have hP : mP P M := hP
  have hC : mC σ C M := hC
  have hI : mI I M := hI
  exact Ci.lift2 (W1' := MW G h q) (wr := [aI G (q 2) 10 (M.2 2), aI G (q 3) 10 (M.2 3), aI G (q 4) 10 (M.2 4), aI G (q 6) 8 (M.2 6), aI G (q 7) 8 (M.2 7), aZ G (q 9) 64 (M.2 9), aI G (q 10) 64 (M.2 10), aI G (q 11) 640 (M.2 11), aI G (q 12) 640 (M.2 12), aI G (q 13) 17 (M.2 13), aI G (q 14) 170 (M.2 14), aI G (q 16) 34 (M.2 16), aZ G (q 17) 2 (M.2 17), aI G (q 19) 6 (M.2 19), aI G (q 20) 6 (M.2 20), aI G (q 21) 6 (M.2 21), aI G (q 23) 140 (M.2 23), aI G (q 29) 10 (M.2 29), aI G (q 30) 10 (M.2 30), aI G (q 31) 10 (M.2 31), aI G (q 33) 8 (M.2 33), aI G (q 34) 8 (M.2 34), aI G (q 36) 8 (M.2 36), aI G (q 37) 10 (M.2 37), aI G (q 38) 8 (M.2 38), aI G (q 39) 10 (M.2 39), aI G (q 40) 8 (M.2 40)]) (c_X8_forget l G h M.1 q (C.1) (hC.1.1)) (fun u => (u, M.2)) [0] [1, 2, 3, 4, 5, 6, 7, 8, 9, 10, 11, 12, 13, 14, 15, 16, 17, 18, 19, 20, 21, 22, 23, 24, 25, 26, 27] [27, 0, 1, 2, 3, 4, 5, 6, 7, 8, 9, 10, 11, 12, 13, 14, 15, 16, 17, 18, 19, 20, 21, 22, 23, 24, 25, 26] rfl (by decide) rfl (by decide) (by decide) (by decide) (fun _ => rfl) (fun r u hu => ⟨hu.1, mT_v hT (hu.2.2 22 (by decide) (by decide)) rfl, mL_v hL (hu.2.2 1 (by decide) (by decide)) (hu.2.2 5 (by decide) (by decide)) (hu.2.2 8 (by decide) (by decide)) rfl rfl rfl rfl rfl rfl rfl rfl rfl, hN, mP_v hP (hu.2.2 15 (by decide) (by decide)) rfl, ⟨⟨hu.2.1, Nat.zero_le _, fun k hk => absurd hk (Nat.not_lt_zero k)⟩, fun k hk => absurd hk (Nat.not_lt_zero k)⟩, hI⟩)
set_option maxHeartbeats 4000000 in
set_option maxRecDepth 100000 in
theorem y_notes (l : Launch) (G : kG) (h : Nat) (q : Nat → Nat) (M : MS) (σ : PS) (N : NL) (T : TT) (P : PT) (C : CT) (I : IT) (x : Int32) (y : Int32) (hM : MI (σ, N, T, P, C, I) M) : Ci l G yX8_notes wsX8_notes rX8_notes [.ref h, .int x, .int y] (MW G h q M) (fun r M' => (r = noR N x y) ∧ MI (σ, noN N x y, T, psP (noD N x y) N P, C, I) M') (MW G h q) := by
  obtain ⟨hT, hL, hN, hP, hC, hI⟩ := hM
  have hT : mT T M := hT
  have hL : mL σ M := hL
  have hN : mN N M := hN
  have hP : mP P M := hP
  have hC : mC σ C M := hC
  have hI : mI I M := hI
  exact Ci.lift2 (W1' := MW G h q) (wr := [aI G (q 2) 10 (M.2 2), aI G (q 3) 10 (M.2 3), aI G (q 4) 10 (M.2 4), aI G (q 6) 8 (M.2 6), aI G (q 7) 8 (M.2 7), aZ G (q 9) 64 (M.2 9), aI G (q 10) 64 (M.2 10), aI G (q 11) 640 (M.2 11), aI G (q 12) 640 (M.2 12), aI G (q 16) 34 (M.2 16), aZ G (q 17) 2 (M.2 17), aI G (q 19) 6 (M.2 19), aI G (q 20) 6 (M.2 20), aI G (q 21) 6 (M.2 21), aI G (q 23) 140 (M.2 23), aI G (q 29) 10 (M.2 29), aI G (q 30) 10 (M.2 30), aI G (q 31) 10 (M.2 31), aI G (q 33) 8 (M.2 33), aI G (q 34) 8 (M.2 34), aI G (q 36) 8 (M.2 36), aI G (q 37) 10 (M.2 37), aI G (q 38) 8 (M.2 38), aI G (q 39) 10 (M.2 39), aI G (q 40) 8 (M.2 40)]) (c_X8_notes l G h M.1 q (M.2 13) (M.2 14) (N) (P.1) (P.2) x y (hP.1) (hN) (hP.2)) (fun u => (u.1, updF (updF (M.2) 13 (u.2.1)) 14 (u.2.2))) [0, 10, 11] [1, 2, 3, 4, 5, 6, 7, 8, 9, 12, 13, 14, 15, 16, 17, 18, 19, 20, 21, 22, 23, 24, 25, 26, 27] [25, 0, 1, 2, 3, 4, 5, 6, 7, 8, 26, 27, 9, 10, 11, 12, 13, 14, 15, 16, 17, 18, 19, 20, 21, 22, 23, 24] rfl (by decide) rfl (by decide) (by decide) (by decide) (fun _ => rfl) (fun r u hu => ⟨hu.1, mT_v hT (hu.2.2.2.2 22 (by decide) (by decide)) rfl, mL_v hL (hu.2.2.2.2 1 (by decide) (by decide)) (hu.2.2.2.2 5 (by decide) (by decide)) (hu.2.2.2.2 8 (by decide) (by decide)) rfl rfl rfl rfl rfl rfl rfl rfl rfl, hu.2.1, mP_do hP hu.2.2 rfl, mC_v hC (hu.2.2.2.2 18 (by decide) (by decide)) rfl rfl rfl, hI⟩)
set_option maxHeartbeats 4000000 in
set_option maxRecDepth 100000 in
theorem y_erases (l : Launch) (G : kG) (h : Nat) (q : Nat → Nat) (M : MS) (σ : PS) (N : NL) (T : TT) (P : PT) (C : CT) (I : IT) (x : Int32) (hM : MI (σ, N, T, P, C, I) M) : Ci l G yX8_erases wsX8_erases rX8_erases [.ref h, .int x] (MW G h q M) (fun r M' => (r = erR N x) ∧ MI (σ, erN N x, T, psP (pHas (nI N.1) x) N P, C, I) M') (MW G h q) := by
  obtain ⟨hT, hL, hN, hP, hC, hI⟩ := hM
  have hT : mT T M := hT
  have hL : mL σ M := hL
  have hN : mN N M := hN
  have hP : mP P M := hP
  have hC : mC σ C M := hC
  have hI : mI I M := hI
  exact Ci.lift2 (W1' := MW G h q) (wr := [aI G (q 2) 10 (M.2 2), aI G (q 3) 10 (M.2 3), aI G (q 4) 10 (M.2 4), aI G (q 6) 8 (M.2 6), aI G (q 7) 8 (M.2 7), aZ G (q 9) 64 (M.2 9), aI G (q 10) 64 (M.2 10), aI G (q 11) 640 (M.2 11), aI G (q 12) 640 (M.2 12), aI G (q 16) 34 (M.2 16), aZ G (q 17) 2 (M.2 17), aI G (q 19) 6 (M.2 19), aI G (q 20) 6 (M.2 20), aI G (q 21) 6 (M.2 21), aI G (q 23) 140 (M.2 23), aI G (q 29) 10 (M.2 29), aI G (q 30) 10 (M.2 30), aI G (q 31) 10 (M.2 31), aI G (q 33) 8 (M.2 33), aI G (q 34) 8 (M.2 34), aI G (q 36) 8 (M.2 36), aI G (q 37) 10 (M.2 37), aI G (q 38) 8 (M.2 38), aI G (q 39) 10 (M.2 39), aI G (q 40) 8 (M.2 40)]) (c_X8_erases l G h M.1 q (M.2 13) (M.2 14) (N) (P.1) (P.2) x (hP.1) (hN) (hP.2)) (fun u => (u.1, updF (updF (M.2) 13 (u.2.1)) 14 (u.2.2))) [0, 10, 11] [1, 2, 3, 4, 5, 6, 7, 8, 9, 12, 13, 14, 15, 16, 17, 18, 19, 20, 21, 22, 23, 24, 25, 26, 27] [25, 0, 1, 2, 3, 4, 5, 6, 7, 8, 26, 27, 9, 10, 11, 12, 13, 14, 15, 16, 17, 18, 19, 20, 21, 22, 23, 24] rfl (by decide) rfl (by decide) (by decide) (by decide) (fun _ => rfl) (fun r u hu => ⟨hu.1, mT_v hT (hu.2.2.2.2 22 (by decide) (by decide)) rfl, mL_v hL (hu.2.2.2.2 1 (by decide) (by decide)) (hu.2.2.2.2 5 (by decide) (by decide)) (hu.2.2.2.2 8 (by decide) (by decide)) rfl rfl rfl rfl rfl rfl rfl rfl rfl, hu.2.1, mP_do hP hu.2.2 rfl, mC_v hC (hu.2.2.2.2 18 (by decide) (by decide)) rfl rfl rfl, hI⟩)
set_option maxHeartbeats 4000000 in
set_option maxRecDepth 100000 in
theorem y_mends (l : Launch) (G : kG) (h : Nat) (q : Nat → Nat) (M : MS) (σ : PS) (N : NL) (T : TT) (P : PT) (C : CT) (I : IT) (x : Int32) (y : Int32) (z : Int32) (hM : MI (σ, N, T, P, C, I) M) : Ci l G yX8_mends wsX8_mends rX8_mends [.ref h, .int x, .int y, .int z] (MW G h q M) (fun r M' => (r = meR N x y z) ∧ MI (σ, meN N x y z, T, psP (meD N x y z) N P, C, I) M') (MW G h q) := by
  obtain ⟨hT, hL, hN, hP, hC, hI⟩ := hM
  have hT : mT T M := hT
  have hL : mL σ M := hL
  have hN : mN N M := hN
  have hP : mP P M := hP
  have hC : mC σ C M := hC
  have hI : mI I M := hI
  exact Ci.lift2 (W1' := MW G h q) (wr := [aI G (q 2) 10 (M.2 2), aI G (q 3) 10 (M.2 3), aI G (q 4) 10 (M.2 4), aI G (q 6) 8 (M.2 6), aI G (q 7) 8 (M.2 7), aZ G (q 9) 64 (M.2 9), aI G (q 10) 64 (M.2 10), aI G (q 11) 640 (M.2 11), aI G (q 12) 640 (M.2 12), aI G (q 16) 34 (M.2 16), aZ G (q 17) 2 (M.2 17), aI G (q 19) 6 (M.2 19), aI G (q 20) 6 (M.2 20), aI G (q 21) 6 (M.2 21), aI G (q 23) 140 (M.2 23), aI G (q 29) 10 (M.2 29), aI G (q 30) 10 (M.2 30), aI G (q 31) 10 (M.2 31), aI G (q 33) 8 (M.2 33), aI G (q 34) 8 (M.2 34), aI G (q 36) 8 (M.2 36), aI G (q 37) 10 (M.2 37), aI G (q 38) 8 (M.2 38), aI G (q 39) 10 (M.2 39), aI G (q 40) 8 (M.2 40)]) (c_X8_mends l G h M.1 q (M.2 13) (M.2 14) (N) (P.1) (P.2) x y z (hP.1) (hN) (hP.2)) (fun u => (u.1, updF (updF (M.2) 13 (u.2.1)) 14 (u.2.2))) [0, 10, 11] [1, 2, 3, 4, 5, 6, 7, 8, 9, 12, 13, 14, 15, 16, 17, 18, 19, 20, 21, 22, 23, 24, 25, 26, 27] [25, 0, 1, 2, 3, 4, 5, 6, 7, 8, 26, 27, 9, 10, 11, 12, 13, 14, 15, 16, 17, 18, 19, 20, 21, 22, 23, 24] rfl (by decide) rfl (by decide) (by decide) (by decide) (fun _ => rfl) (fun r u hu => ⟨hu.1, mT_v hT (hu.2.2.2.2 22 (by decide) (by decide)) rfl, mL_v hL (hu.2.2.2.2 1 (by decide) (by decide)) (hu.2.2.2.2 5 (by decide) (by decide)) (hu.2.2.2.2 8 (by decide) (by decide)) rfl rfl rfl rfl rfl rfl rfl rfl rfl, hu.2.1, mP_do hP hu.2.2 rfl, mC_v hC (hu.2.2.2.2 18 (by decide) (by decide)) rfl rfl rfl, hI⟩)
set_option maxHeartbeats 4000000 in
set_option maxRecDepth 100000 in
theorem y_sketches (l : Launch) (G : kG) (h : Nat) (q : Nat → Nat) (M : MS) (σ : PS) (N : NL) (T : TT) (P : PT) (C : CT) (I : IT) (x : Int32) (y : Int32) (z : Int32) (hM : MI (σ, N, T, P, C, I) M) : Ci l G yX8_sketches wsX8_sketches rX8_sketches [.ref h, .int x, .int y, .int z] (MW G h q M) (fun r M' => (r = skR σ x y z) ∧ MI (σ, skM σ N x y z, T, psP (skQ σ x y z) N P, C, I) M') (MW G h q) := by
  obtain ⟨hT, hL, hN, hP, hC, hI⟩ := hM
  have hT : mT T M := hT
  have hL : mL σ M := hL
  have hN : mN N M := hN
  have hP : mP P M := hP
  have hC : mC σ C M := hC
  have hI : mI I M := hI
  have key : ∀ (r : Int32) (u : (Nat → Int32) × (Nat → Int32) × (Nat → Int32)), ((skQ σ x y z = true → r = nI (skN σ (ptN x y) z.toNatClampNeg).1 ∧ SMr (skN σ (ptN x y) z.toNatClampNeg) u.2.1) ∧ (skQ σ x y z = false → r = -1 ∧ u.2.1 = (M.2 13)) ∧ PQm (skQ σ x y z) N P.1 P.2 M.1 (M.2 14) u.1 u.2.2) → (fun (r : Int32) (M' : MS) => (r = skR σ x y z) ∧ MI (σ, skM σ N x y z, T, psP (skQ σ x y z) N P, C, I) M') r (u.1, updF (updF (M.2) 13 (u.2.1)) 14 (u.2.2)) := by
    rintro r ⟨u1, u2, u3⟩ ⟨g1, g2, h3⟩
    have hb : r = skR σ x y z ∧ SMr (skM σ N x y z) u2 := by
      unfold skR skM
      cases e : skQ σ x y z with
      | false =>
        obtain ⟨q1, q2⟩ := g2 e
        have q2 : u2 = M.2 13 := q2
        rw [if_neg (by decide), if_neg (by decide), q2]
        exact ⟨q1, hN⟩
      | true =>
        rw [if_pos rfl, if_pos rfl]
        exact g1 e
    exact ⟨hb.1, mT_v hT (h3.2.2 22 (by decide) (by decide)) rfl, mL_v hL (h3.2.2 1 (by decide) (by decide)) (h3.2.2 5 (by decide) (by decide)) (h3.2.2 8 (by decide) (by decide)) rfl rfl rfl rfl rfl rfl rfl rfl rfl, hb.2, mP_do hP h3 rfl, mC_v hC (h3.2.2 18 (by decide) (by decide)) rfl rfl rfl, hI⟩
  exact Ci.lift2 (W1' := MW G h q) (wr := [aI G (q 4) 10 (M.2 4), aI G (q 6) 8 (M.2 6), aI G (q 7) 8 (M.2 7), aI G (q 16) 34 (M.2 16), aZ G (q 17) 2 (M.2 17), aI G (q 19) 6 (M.2 19), aI G (q 20) 6 (M.2 20), aI G (q 21) 6 (M.2 21), aI G (q 23) 140 (M.2 23), aI G (q 29) 10 (M.2 29), aI G (q 30) 10 (M.2 30), aI G (q 31) 10 (M.2 31), aI G (q 33) 8 (M.2 33), aI G (q 34) 8 (M.2 34), aI G (q 36) 8 (M.2 36), aI G (q 37) 10 (M.2 37), aI G (q 38) 8 (M.2 38), aI G (q 39) 10 (M.2 39), aI G (q 40) 8 (M.2 40)]) (c_X8_sketches l G h M.1 q (M.2 2) (M.2 3) (M.2 4) (M.2 6) (M.2 7) (M.2 9) (M.2 10) (M.2 11) (M.2 12) σ (M.2 13) (M.2 14) (N) (P.1) (P.2) x y z (hL) (hP.1) (hN) (hP.2)) (fun u => (u.1, updF (updF (M.2) 13 (u.2.1)) 14 (u.2.2))) [0, 10, 11, 6, 1, 2, 7, 8, 9] [3, 4, 5, 12, 13, 14, 15, 16, 17, 18, 19, 20, 21, 22, 23, 24, 25, 26, 27] [19, 23, 24, 0, 1, 2, 22, 25, 26, 27, 20, 21, 3, 4, 5, 6, 7, 8, 9, 10, 11, 12, 13, 14, 15, 16, 17, 18] rfl (by decide) rfl (by decide) (by decide) (by decide) (fun _ => rfl) (fun r u hu => key r u hu)
set_option maxHeartbeats 4000000 in
set_option maxRecDepth 100000 in
theorem y_undo (l : Launch) (G : kG) (h : Nat) (q : Nat → Nat) (M : MS) (σ : PS) (N : NL) (T : TT) (P : PT) (C : CT) (I : IT) (hM : MI (σ, N, T, P, C, I) M) : Ci l G yX8_undo wsX8_undo rX8_undo [.ref h] (MW G h q M) (fun r M' => (r = unR P.1) ∧ MI (σ, unN N P, T, (P.1 - 1, P.2), C, I) M') (MW G h q) := by
  obtain ⟨hT, hL, hN, hP, hC, hI⟩ := hM
  have hT : mT T M := hT
  have hL : mL σ M := hL
  have hN : mN N M := hN
  have hP : mP P M := hP
  have hC : mC σ C M := hC
  have hI : mI I M := hI
  have key : ∀ (r : Int32) (u : (Nat → Int32) × (Nat → Int32)), (r = unR P.1 ∧ (0 < P.1 → SMr (P.2 (P.1 - 1)) u.2 ∧ u.1 15 = nI (P.1 - 1)) ∧ (P.1 = 0 → u.2 = (M.2 13) ∧ u.1 15 = M.1 15) ∧ (∀ k, ¬ k = 0 → ¬ k = 15 → u.1 k = M.1 k)) → (fun (r : Int32) (M' : MS) => (r = unR P.1) ∧ MI (σ, unN N P, T, (P.1 - 1, P.2), C, I) M') r (u.1, updF (M.2) 13 (u.2)) := by
    rintro r ⟨u1, u2⟩ ⟨h1, h2, h3, h4⟩
    have hU := hP.2.1
    by_cases c : P.1 = 0
    · obtain ⟨q1, q2⟩ := h3 c
      have q1 : u2 = M.2 13 := q1
      subst q1
      refine ⟨h1, mT_v hT (h4 22 (by decide) (by decide)) rfl, mL_v hL (h4 1 (by decide) (by decide)) (h4 5 (by decide) (by decide)) (h4 8 (by decide) (by decide)) rfl rfl rfl rfl rfl rfl rfl rfl rfl, ?_, ⟨q2.trans (hP.1.trans (by rw [show (P.1 - 1, P.2).1 = P.1 by show P.1 - 1 = P.1; omega])), by show P.1 - 1 ≤ 10; omega, fun i hi => absurd (show i < P.1 - 1 from hi) (by omega)⟩, mC_v hC (h4 18 (by decide) (by decide)) rfl rfl rfl, hI⟩
      show SMr (unN N P) (M.2 13)
      rw [unN, if_pos c]; exact hN
    · obtain ⟨g1, g2⟩ := h2 (by omega)
      refine ⟨h1, mT_v hT (h4 22 (by decide) (by decide)) rfl, mL_v hL (h4 1 (by decide) (by decide)) (h4 5 (by decide) (by decide)) (h4 8 (by decide) (by decide)) rfl rfl rfl rfl rfl rfl rfl rfl rfl, ?_, ⟨g2, by show P.1 - 1 ≤ 10; omega, fun i hi => hP.2.2 i (by have hi : i < P.1 - 1 := hi; omega)⟩, mC_v hC (h4 18 (by decide) (by decide)) rfl rfl rfl, hI⟩
      show SMr (unN N P) u2
      rw [unN, if_neg c]; exact g1
  exact Ci.lift2 (W1' := MW G h q) (wr := [aI G (q 2) 10 (M.2 2), aI G (q 3) 10 (M.2 3), aI G (q 4) 10 (M.2 4), aI G (q 6) 8 (M.2 6), aI G (q 7) 8 (M.2 7), aZ G (q 9) 64 (M.2 9), aI G (q 10) 64 (M.2 10), aI G (q 11) 640 (M.2 11), aI G (q 12) 640 (M.2 12), aI G (q 16) 34 (M.2 16), aZ G (q 17) 2 (M.2 17), aI G (q 19) 6 (M.2 19), aI G (q 20) 6 (M.2 20), aI G (q 21) 6 (M.2 21), aI G (q 23) 140 (M.2 23), aI G (q 29) 10 (M.2 29), aI G (q 30) 10 (M.2 30), aI G (q 31) 10 (M.2 31), aI G (q 33) 8 (M.2 33), aI G (q 34) 8 (M.2 34), aI G (q 36) 8 (M.2 36), aI G (q 37) 10 (M.2 37), aI G (q 38) 8 (M.2 38), aI G (q 39) 10 (M.2 39), aI G (q 40) 8 (M.2 40)]) (c_X8_undo l G h M.1 q (M.2 13) (M.2 14) (N) (P.1) (P.2) (hP.1) (hN) (hP.2)) (fun u => (u.1, updF (M.2) 13 (u.2))) [0, 10, 11] [1, 2, 3, 4, 5, 6, 7, 8, 9, 12, 13, 14, 15, 16, 17, 18, 19, 20, 21, 22, 23, 24, 25, 26, 27] [25, 0, 1, 2, 3, 4, 5, 6, 7, 8, 26, 27, 9, 10, 11, 12, 13, 14, 15, 16, 17, 18, 19, 20, 21, 22, 23, 24] rfl (by decide) rfl (by decide) (by decide) (by decide) (fun _ => rfl) (fun r u hu => key r u hu)
set_option maxHeartbeats 4000000 in
set_option maxRecDepth 100000 in
theorem y_clouds (l : Launch) (G : kG) (h : Nat) (q : Nat → Nat) (M : MS) (σ : PS) (N : NL) (T : TT) (P : PT) (C : CT) (I : IT) (x : Int32) (y : Int32) (z : Int32) (w : Int32) (hM : MI (σ, N, T, P, C, I) M) : Ci l G yX8_clouds wsX8_clouds rX8_clouds [.ref h, .int x, .int y, .int z, .int w] (MW G h q M) (fun r M' => (r = clR (cPk σ) C.1 x y z w) ∧ MI (σ, N, T, P, clN σ C x y z w, I) M') (MW G h q) := by
  obtain ⟨hT, hL, hN, hP, hC, hI⟩ := hM
  have hT : mT T M := hT
  have hL : mL σ M := hL
  have hN : mN N M := hN
  have hP : mP P M := hP
  have hC : mC σ C M := hC
  have hI : mI I M := hI
  have key : ∀ (r : Int32) (u : (Nat → Int32) × (Nat → Int32) × (Nat → Int32) × (Nat → Int32)), (r = clR (cPk σ) C.1 x y z w ∧ (clO (cPk σ) x y z w = true ∧ C.1 < 6 → CRep (C.1 + 1) (updN C.2.1 C.1 (ptN x y)) (updN C.2.2.1 C.1 z.toNatClampNeg) (updB C.2.2.2 C.1 (decide (w = 1))) (fun _ => u.1 18) u.2.1 u.2.2.1 u.2.2.2) ∧ (clO (cPk σ) x y z w = false ∨ ¬ C.1 < 6 → u.1 18 = M.1 18 ∧ u.2.1 = (M.2 19) ∧ u.2.2.1 = (M.2 20) ∧ u.2.2.2 = (M.2 21)) ∧ (∀ k, ¬ k = 0 → ¬ k = 18 → u.1 k = M.1 k)) → (fun (r : Int32) (M' : MS) => (r = clR (cPk σ) C.1 x y z w) ∧ MI (σ, N, T, P, clN σ C x y z w, I) M') r (u.1, updF (updF (updF (M.2) 19 (u.2.1)) 20 (u.2.2.1)) 21 (u.2.2.2)) := by
    rintro r ⟨u1, u2, u3, u4⟩ ⟨h1, h2, h3, h4⟩
    refine ⟨h1, mT_v hT (h4 22 (by decide) (by decide)) rfl, mL_v hL (h4 1 (by decide) (by decide)) (h4 5 (by decide) (by decide)) (h4 8 (by decide) (by decide)) rfl rfl rfl rfl rfl rfl rfl rfl rfl, hN, mP_v hP (h4 15 (by decide) (by decide)) rfl, ?_, hI⟩
    show mC σ (clN σ C x y z w) _
    by_cases c : clO (cPk σ) x y z w = true ∧ C.1 < 6
    · rw [clN, if_pos c]
      refine ⟨h2 c, fun k hk => ?_⟩
      have hpl : pPlace (cPk σ) x y = true := by have := c.1; rw [clO, Bool.and_eq_true] at this; exact this.1
      show updN C.2.1 C.1 (ptN x y) k < 64 ∧ cPk σ (updN C.2.1 C.1 (ptN x y) k) = 0
      by_cases d : k = C.1
      · rw [d, updN_s]; exact ptN_lt hpl
      · rw [updN_n d]; exact hC.2 k (by have hk : k < C.1 + 1 := hk; omega)
    · have hc : clO (cPk σ) x y z w = false ∨ ¬ C.1 < 6 := by
        cases e : clO (cPk σ) x y z w with
        | false => exact Or.inl rfl
        | true => exact Or.inr (fun q => c ⟨e, q⟩)
      obtain ⟨q1, q2, q3, q4⟩ := h3 hc
      rw [clN, if_neg c]
      exact mC_v hC q1 q2 q3 q4
  exact Ci.lift2 (W1' := MW G h q) (wr := [aI G (q 2) 10 (M.2 2), aI G (q 3) 10 (M.2 3), aI G (q 4) 10 (M.2 4), aI G (q 6) 8 (M.2 6), aI G (q 7) 8 (M.2 7), aI G (q 10) 64 (M.2 10), aI G (q 11) 640 (M.2 11), aI G (q 12) 640 (M.2 12), aI G (q 13) 17 (M.2 13), aI G (q 14) 170 (M.2 14), aI G (q 16) 34 (M.2 16), aZ G (q 17) 2 (M.2 17), aI G (q 23) 140 (M.2 23), aI G (q 29) 10 (M.2 29), aI G (q 30) 10 (M.2 30), aI G (q 31) 10 (M.2 31), aI G (q 33) 8 (M.2 33), aI G (q 34) 8 (M.2 34), aI G (q 36) 8 (M.2 36), aI G (q 37) 10 (M.2 37), aI G (q 38) 8 (M.2 38), aI G (q 39) 10 (M.2 39), aI G (q 40) 8 (M.2 40)]) (c_X8_clouds l G h M.1 q (M.2 2) (M.2 3) (M.2 4) (M.2 6) (M.2 7) (M.2 9) (M.2 10) (M.2 11) (M.2 12) σ (M.2 19) (M.2 20) (M.2 21) (C.1) (C.2.1) (C.2.2.1) (C.2.2.2) x y z w (hL) (hC.1)) (fun u => (u.1, updF (updF (updF (M.2) 19 (u.2.1)) 20 (u.2.2.1)) 21 (u.2.2.2))) [0, 6, 14, 15, 16] [1, 2, 3, 4, 5, 7, 8, 9, 10, 11, 12, 13, 17, 18, 19, 20, 21, 22, 23, 24, 25, 26, 27] [23, 0, 1, 2, 3, 4, 24, 5, 6, 7, 8, 9, 10, 11, 25, 26, 27, 12, 13, 14, 15, 16, 17, 18, 19, 20, 21, 22] rfl (by decide) rfl (by decide) (by decide) (by decide) (fun _ => rfl) (fun r u hu => key r u hu)
set_option maxHeartbeats 4000000 in
set_option maxRecDepth 100000 in
theorem y_keep (l : Launch) (G : kG) (h : Nat) (q : Nat → Nat) (M : MS) (σ : PS) (N : NL) (T : TT) (P : PT) (C : CT) (I : IT) (x : Int32) (hM : MI (σ, N, T, P, C, I) M) : Ci l G yX8_keep wsX8_keep rX8_keep [.ref h, .int x] (MW G h q M) (fun r M' => (r = (if imOk x = true then nI N.1 else -1)) ∧ MI (σ, N, T, P, C, kpN I N x) M') (MW G h q) := by
  obtain ⟨hT, hL, hN, hP, hC, hI⟩ := hM
  have hT : mT T M := hT
  have hL : mL σ M := hL
  have hN : mN N M := hN
  have hP : mP P M := hP
  have hC : mC σ C M := hC
  have hI : mI I M := hI
  obtain ⟨k0, hk0, hx0⟩ := im_ex x
  have key : ∀ (r : Int32) (u : (Nat → Int32) × (Nat → Int32)), (r = (if imOk x = true then nI N.1 else -1) ∧ (imOk x = true → (∀ k, k < 17 → u.1 (17 * k0 + k) = (M.2 13) k) ∧ (∀ i, i < 17 * k0 ∨ 17 * k0 + 17 ≤ i → u.1 i = (M.2 16) i) ∧ u.2 = upd (M.2 17) k0 1) ∧ (imOk x = false → u.1 = (M.2 16) ∧ u.2 = (M.2 17))) → (fun (r : Int32) (M' : MS) => (r = (if imOk x = true then nI N.1 else -1)) ∧ MI (σ, N, T, P, C, kpN I N x) M') r (upd M.1 0 0, updF (updF (M.2) 16 (u.1)) 17 (u.2)) := by
    rintro r ⟨u1, u2⟩ ⟨h1, h2, h3⟩
    refine ⟨h1, hT, hL, hN, hP, hC, ?_⟩
    show mI (kpN I N x) _
    cases e : imOk x with
    | false =>
      obtain ⟨q1, q2⟩ := h3 e
      have q1 : u1 = M.2 16 := q1
      have q2 : u2 = M.2 17 := q2
      subst q1 q2
      rw [kpN, if_neg (ne_t e)]
      exact hI
    | true =>
      obtain ⟨g1, g2, g3⟩ := h2 e
      have g3 : u2 = upd (M.2 17) k0 1 := g3
      rw [kpN, if_pos e, hx0 e, nI_clamp (by omega)]
      intro i hi
      show u2 i = b2i (updB I.1 k0 true i) ∧ (updB I.1 k0 true i = true → SMr (updNL I.2 k0 N i) (fun k => u1 (17 * i + k)))
      unfold updB updNL
      by_cases c : i = k0
      · rw [if_pos c, if_pos c, g3, c]
        exact ⟨pk_us, fun _ => hN.copy (fun k hk => g1 k hk)⟩
      · rw [if_neg c, if_neg c, g3, pk_un c]
        refine ⟨(hI i hi).1, fun q => ((hI i hi).2 q).copy (fun k hk => ?_)⟩
        exact g2 (17 * i + k) (by omega)
  exact Ci.lift2 (W1' := MW G h q) (wr := [aI G (q 2) 10 (M.2 2), aI G (q 3) 10 (M.2 3), aI G (q 4) 10 (M.2 4), aI G (q 6) 8 (M.2 6), aI G (q 7) 8 (M.2 7), aZ G (q 9) 64 (M.2 9), aI G (q 10) 64 (M.2 10), aI G (q 11) 640 (M.2 11), aI G (q 12) 640 (M.2 12), aI G (q 14) 170 (M.2 14), aI G (q 19) 6 (M.2 19), aI G (q 20) 6 (M.2 20), aI G (q 21) 6 (M.2 21), aI G (q 23) 140 (M.2 23), aI G (q 29) 10 (M.2 29), aI G (q 30) 10 (M.2 30), aI G (q 31) 10 (M.2 31), aI G (q 33) 8 (M.2 33), aI G (q 34) 8 (M.2 34), aI G (q 36) 8 (M.2 36), aI G (q 37) 10 (M.2 37), aI G (q 38) 8 (M.2 38), aI G (q 39) 10 (M.2 39), aI G (q 40) 8 (M.2 40)]) (c_X8_keep l G h M.1 q (M.2 13) (M.2 16) (M.2 17) (N) (k0) x (hN) (hk0) (hx0)) (fun u => (upd M.1 0 0, updF (updF (M.2) 16 (u.1)) 17 (u.2))) [0, 10, 12, 13] [1, 2, 3, 4, 5, 6, 7, 8, 9, 11, 14, 15, 16, 17, 18, 19, 20, 21, 22, 23, 24, 25, 26, 27] [24, 0, 1, 2, 3, 4, 5, 6, 7, 8, 25, 9, 26, 27, 10, 11, 12, 13, 14, 15, 16, 17, 18, 19, 20, 21, 22, 23] rfl (by decide) rfl (by decide) (by decide) (by decide) (fun _ => rfl) (fun r u hu => key r u hu)
set_option maxHeartbeats 4000000 in
set_option maxRecDepth 100000 in
theorem y_back (l : Launch) (G : kG) (h : Nat) (q : Nat → Nat) (M : MS) (σ : PS) (N : NL) (T : TT) (P : PT) (C : CT) (I : IT) (x : Int32) (hM : MI (σ, N, T, P, C, I) M) : Ci l G yX8_back wsX8_back rX8_back [.ref h, .int x] (MW G h q M) (fun r M' => (r = bkR I x) ∧ MI (σ, bkN I N x, T, bkP I P x, C, I) M') (MW G h q) := by
  obtain ⟨hT, hL, hN, hP, hC, hI⟩ := hM
  have hT : mT T M := hT
  have hL : mL σ M := hL
  have hN : mN N M := hN
  have hP : mP P M := hP
  have hC : mC σ C M := hC
  have hI : mI I M := hI
  obtain ⟨k0, hk0, hx0⟩ := im_ex x
  have key : ∀ (r : Int32) (u : (Nat → Int32) × (Nat → Int32)), (r = (if imOk x = true then (if (M.2 17) k0 = 0 then -2 else nI (I.2 k0).1) else -1) ∧ (imOk x = true ∧ ¬ (M.2 17) k0 = 0 → SMr (I.2 k0) u.2 ∧ u.1 15 = 0) ∧ (imOk x = false ∨ (M.2 17) k0 = 0 → u.2 = (M.2 13) ∧ u.1 15 = M.1 15) ∧ (∀ k, ¬ k = 0 → ¬ k = 15 → u.1 k = M.1 k)) → (fun (r : Int32) (M' : MS) => (r = bkR I x) ∧ MI (σ, bkN I N x, T, bkP I P x, C, I) M') r (u.1, updF (M.2) 13 (u.2)) := by
    rintro r ⟨u1, u2⟩ ⟨h1, h2, h3, h4⟩
    have hk9 : M.2 17 k0 = b2i (I.1 k0) := (hI k0 hk0).1
    cases eq : bkQ I x with
    | false =>
      have hz : imOk x = false ∨ M.2 17 k0 = 0 := by
        cases e : imOk x with
        | false => exact Or.inl rfl
        | true =>
          rw [bkQ, e, hx0 e, nI_clamp (by omega), Bool.true_and] at eq
          exact Or.inr (by rw [hk9, eq]; rfl)
      obtain ⟨q1, q2⟩ := h3 hz
      have q1 : u2 = M.2 13 := q1
      subst q1
      refine ⟨h1.trans ?_, mT_v hT (h4 22 (by decide) (by decide)) rfl, mL_v hL (h4 1 (by decide) (by decide)) (h4 5 (by decide) (by decide)) (h4 8 (by decide) (by decide)) rfl rfl rfl rfl rfl rfl rfl rfl rfl, ?_, ?_, mC_v hC (h4 18 (by decide) (by decide)) rfl rfl rfl, hI⟩
      · rw [bkR]
        cases e : imOk x with
        | false => rfl
        | true =>
          have ez := hz.resolve_left (ne_f e)
          rw [bkQ, e, hx0 e, nI_clamp (by omega), Bool.true_and] at eq
          rw [if_pos rfl, if_pos rfl, if_pos ez, hx0 e, nI_clamp (by omega), if_neg (ne_t eq)]
      · show SMr (bkN I N x) (M.2 13)
        rw [bkN, if_neg (ne_t eq)]; exact hN
      · show mP (bkP I P x) _
        rw [bkP, if_neg (ne_t eq)]; exact mP_v hP q2 rfl
    | true =>
      have e : imOk x = true := by
        cases e : imOk x with
        | true => rfl
        | false => rw [bkQ, e] at eq; cases eq
      have e2 : I.1 k0 = true := by rw [bkQ, e, hx0 e, nI_clamp (by omega), Bool.true_and] at eq; exact eq
      have ez : ¬ M.2 17 k0 = 0 := by rw [hk9, e2]; decide
      obtain ⟨g1, g2⟩ := h2 ⟨e, ez⟩
      refine ⟨h1.trans ?_, mT_v hT (h4 22 (by decide) (by decide)) rfl, mL_v hL (h4 1 (by decide) (by decide)) (h4 5 (by decide) (by decide)) (h4 8 (by decide) (by decide)) rfl rfl rfl rfl rfl rfl rfl rfl rfl, ?_, ?_, mC_v hC (h4 18 (by decide) (by decide)) rfl rfl rfl, hI⟩
      · rw [bkR, if_pos e, if_pos e, if_neg ez, hx0 e, nI_clamp (by omega), if_pos e2]
      · show SMr (bkN I N x) u2
        rw [bkN, if_pos eq, hx0 e, nI_clamp (by omega)]; exact g1
      · show mP (bkP I P x) _
        rw [bkP, if_pos eq]; exact ⟨g2, Nat.zero_le _, fun i hi => absurd hi (Nat.not_lt_zero i)⟩
  exact Ci.lift2 (W1' := MW G h q) (wr := [aI G (q 2) 10 (M.2 2), aI G (q 3) 10 (M.2 3), aI G (q 4) 10 (M.2 4), aI G (q 6) 8 (M.2 6), aI G (q 7) 8 (M.2 7), aZ G (q 9) 64 (M.2 9), aI G (q 10) 64 (M.2 10), aI G (q 11) 640 (M.2 11), aI G (q 12) 640 (M.2 12), aI G (q 14) 170 (M.2 14), aI G (q 19) 6 (M.2 19), aI G (q 20) 6 (M.2 20), aI G (q 21) 6 (M.2 21), aI G (q 23) 140 (M.2 23), aI G (q 29) 10 (M.2 29), aI G (q 30) 10 (M.2 30), aI G (q 31) 10 (M.2 31), aI G (q 33) 8 (M.2 33), aI G (q 34) 8 (M.2 34), aI G (q 36) 8 (M.2 36), aI G (q 37) 10 (M.2 37), aI G (q 38) 8 (M.2 38), aI G (q 39) 10 (M.2 39), aI G (q 40) 8 (M.2 40)]) (c_X8_back l G h M.1 q (M.2 13) (M.2 16) (M.2 17) (I.2 k0) (k0) x (fun hz => (hI k0 hk0).2 (by cases e : I.1 k0 with | true => rfl | false => exact absurd ((hI k0 hk0).1.trans (by rw [e]; rfl)) hz)) (hk0) (hx0)) (fun u => (u.1, updF (M.2) 13 (u.2))) [0, 10, 12, 13] [1, 2, 3, 4, 5, 6, 7, 8, 9, 11, 14, 15, 16, 17, 18, 19, 20, 21, 22, 23, 24, 25, 26, 27] [24, 0, 1, 2, 3, 4, 5, 6, 7, 8, 25, 9, 26, 27, 10, 11, 12, 13, 14, 15, 16, 17, 18, 19, 20, 21, 22, 23] rfl (by decide) rfl (by decide) (by decide) (by decide) (fun _ => rfl) (fun r u hu => key r u hu)
set_option maxHeartbeats 4000000 in
set_option maxRecDepth 100000 in
theorem y_land (l : Launch) (G : kG) (h : Nat) (q : Nat → Nat) (M : MS) (σ : PS) (N : NL) (T : TT) (P : PT) (C : CT) (I : IT) (hM : MI (σ, N, T, P, C, I) M) : Ci l G yX8_land wsX8_land rX8_land [.ref h] (MW G h q M) (fun r M' => ∃ RR, Prs T.2 T.1 0 0 PS0 RR ∧ r = prR RR ∧ MI (ldN (σ, N, T, P, C, I) RR) M') (MW G h q) := by
  obtain ⟨hT, hL, hN, hP, hC, hI⟩ := hM
  have hT : mT T M := hT
  have hL : mL σ M := hL
  have hN : mN N M := hN
  have hP : mP P M := hP
  have hC : mC σ C M := hC
  have hI : mI I M := hI
  obtain ⟨hT1, hT2, hT3⟩ := hT
  have key : ∀ (r : Int32) (u : (Nat → Int32) × (Nat → Int32) × (Nat → Int32) × (Nat → Int32) × (Nat → Int32) × (Nat → Int32) × (Nat → Int32) × (Nat → Int32) × (Nat → Int32) × (Nat → Int32) × (Nat → Int32) × (Nat → Int32) × (Nat → Int32) × (Nat → Int32) × (Nat → Int32) × (Nat → Int32) × (Nat → Int32)), (∃ RR, Prs (M.2 23) T.1 0 0 PS0 RR ∧ r = prR RR ∧ (RR.1.1 = true → LM RR.2 u.1 u.2.1 u.2.2.1 u.2.2.2.1 u.2.2.2.2.1 u.2.2.2.2.2.1 u.2.2.2.2.2.2.1 u.2.2.2.2.2.2.2.1 u.2.2.2.2.2.2.2.2.1 u.2.2.2.2.2.2.2.2.2.1 ∧ u.1 22 = 0 ∧ u.1 15 = 0 ∧ u.1 18 = 0 ∧ u.2.2.2.2.2.2.2.2.2.2.1 0 = 0 ∧ u.2.2.2.2.2.2.2.2.2.2.2.1 0 = 0 ∧ u.2.2.2.2.2.2.2.2.2.2.2.1 1 = 0) ∧ (RR.1.1 = false → u.2.1 = (M.2 2) ∧ u.2.2.1 = (M.2 3) ∧ u.2.2.2.1 = (M.2 4) ∧ u.2.2.2.2.1 = (M.2 6) ∧ u.2.2.2.2.2.1 = (M.2 7) ∧ u.2.2.2.2.2.2.1 = (M.2 9) ∧ u.2.2.2.2.2.2.2.1 = (M.2 10) ∧ u.2.2.2.2.2.2.2.2.1 = (M.2 11) ∧ u.2.2.2.2.2.2.2.2.2.1 = (M.2 12) ∧ u.2.2.2.2.2.2.2.2.2.2.1 = (M.2 13) ∧ u.2.2.2.2.2.2.2.2.2.2.2.1 = (M.2 17) ∧ (∀ k, ¬ k = 0 → ¬ k = 24 → ¬ k = 25 → ¬ k = 26 → ¬ k = 27 → ¬ k = 28 → ¬ k = 32 → ¬ k = 35 → u.1 k = M.1 k))) → (fun (r : Int32) (M' : MS) => ∃ RR, Prs T.2 T.1 0 0 PS0 RR ∧ r = prR RR ∧ MI (ldN (σ, N, T, P, C, I) RR) M') r (u.1, updF (updF (updF (updF (updF (updF (updF (updF (updF (updF (updF (updF (updF (updF (updF (updF (M.2) 2 (u.2.1)) 3 (u.2.2.1)) 4 (u.2.2.2.1)) 6 (u.2.2.2.2.1)) 7 (u.2.2.2.2.2.1)) 9 (u.2.2.2.2.2.2.1)) 10 (u.2.2.2.2.2.2.2.1)) 11 (u.2.2.2.2.2.2.2.2.1)) 12 (u.2.2.2.2.2.2.2.2.2.1)) 13 (u.2.2.2.2.2.2.2.2.2.2.1)) 17 (u.2.2.2.2.2.2.2.2.2.2.2.1)) 29 (u.2.2.2.2.2.2.2.2.2.2.2.2.1)) 30 (u.2.2.2.2.2.2.2.2.2.2.2.2.2.1)) 31 (u.2.2.2.2.2.2.2.2.2.2.2.2.2.2.1)) 33 (u.2.2.2.2.2.2.2.2.2.2.2.2.2.2.2.1)) 34 (u.2.2.2.2.2.2.2.2.2.2.2.2.2.2.2.2)) := by
    rintro r ⟨u0, u1, u2, u3, u4, u5, u6, u7, u8, u9, u10, u11, u12, u13, u14, u15, u16⟩ ⟨RR, p1, p2, p3, p4⟩
    refine ⟨RR, by rw [← hT2]; exact p1, p2, ?_⟩
    unfold ldN
    cases e : RR.1.1 with
    | true =>
      obtain ⟨g1, g2, g3, g4, g5, g6, g7⟩ := p3 e
      rw [if_pos rfl]
      refine ⟨⟨g2, hT2, okT_0⟩, g1, ⟨g5, Nat.zero_le _, fun k hk => absurd hk (Nat.not_lt_zero k)⟩, ⟨g3, Nat.zero_le _, fun i hi => absurd hi (Nat.not_lt_zero i)⟩, ⟨⟨g4, Nat.zero_le _, fun k hk => absurd hk (Nat.not_lt_zero k)⟩, fun k hk => absurd hk (Nat.not_lt_zero k)⟩, fun i hi => ⟨?_, fun q => by cases q⟩⟩
      rcases (show i = 0 ∨ i = 1 by omega) with rfl | rfl
      · exact g6
      · exact g7
    | false =>
      obtain ⟨g1, g2, g3, g4, g5, g6, g7, g8, g9, g10, g11, g12⟩ := p4 e
      have g1 : u1 = M.2 2 := g1
      have g2 : u2 = M.2 3 := g2
      have g3 : u3 = M.2 4 := g3
      have g4 : u4 = M.2 6 := g4
      have g5 : u5 = M.2 7 := g5
      have g6 : u6 = M.2 9 := g6
      have g7 : u7 = M.2 10 := g7
      have g8 : u8 = M.2 11 := g8
      have g9 : u9 = M.2 12 := g9
      have g10 : u10 = M.2 13 := g10
      have g11 : u11 = M.2 17 := g11
      subst g1 g2 g3 g4 g5 g6 g7 g8 g9 g10 g11
      rw [if_neg (by decide)]
      exact ⟨⟨(g12 22 (by decide) (by decide) (by decide) (by decide) (by decide) (by decide) (by decide) (by decide)).trans hT1, hT2, hT3⟩, mL_v hL (g12 1 (by decide) (by decide) (by decide) (by decide) (by decide) (by decide) (by decide) (by decide)) (g12 5 (by decide) (by decide) (by decide) (by decide) (by decide) (by decide) (by decide) (by decide)) (g12 8 (by decide) (by decide) (by decide) (by decide) (by decide) (by decide) (by decide) (by decide)) rfl rfl rfl rfl rfl rfl rfl rfl rfl, hN, mP_v hP (g12 15 (by decide) (by decide) (by decide) (by decide) (by decide) (by decide) (by decide) (by decide)) rfl, mC_v hC (g12 18 (by decide) (by decide) (by decide) (by decide) (by decide) (by decide) (by decide) (by decide)) rfl rfl rfl, hI⟩
  exact Ci.lift2 (W1' := MW G h q) (wr := [aI G (q 14) 170 (M.2 14), aI G (q 16) 34 (M.2 16), aI G (q 19) 6 (M.2 19), aI G (q 20) 6 (M.2 20), aI G (q 21) 6 (M.2 21), aI G (q 36) 8 (M.2 36), aI G (q 37) 10 (M.2 37), aI G (q 38) 8 (M.2 38), aI G (q 39) 10 (M.2 39), aI G (q 40) 8 (M.2 40)]) (c_X8_land l G h M.1 q (M.2 23) (M.2 2) (M.2 3) (M.2 4) (M.2 6) (M.2 7) (M.2 9) (M.2 10) (M.2 11) (M.2 12) (M.2 13) (M.2 17) (M.2 29) (M.2 30) (M.2 31) (M.2 33) (M.2 34) (T.1) (hT1) (hT3.1) (by rw [hT2]; exact hT3.2)) (fun u => (u.1, updF (updF (updF (updF (updF (updF (updF (updF (updF (updF (updF (updF (updF (updF (updF (updF (M.2) 2 (u.2.1)) 3 (u.2.2.1)) 4 (u.2.2.2.1)) 6 (u.2.2.2.2.1)) 7 (u.2.2.2.2.2.1)) 9 (u.2.2.2.2.2.2.1)) 10 (u.2.2.2.2.2.2.2.1)) 11 (u.2.2.2.2.2.2.2.2.1)) 12 (u.2.2.2.2.2.2.2.2.2.1)) 13 (u.2.2.2.2.2.2.2.2.2.2.1)) 17 (u.2.2.2.2.2.2.2.2.2.2.2.1)) 29 (u.2.2.2.2.2.2.2.2.2.2.2.2.1)) 30 (u.2.2.2.2.2.2.2.2.2.2.2.2.2.1)) 31 (u.2.2.2.2.2.2.2.2.2.2.2.2.2.2.1)) 33 (u.2.2.2.2.2.2.2.2.2.2.2.2.2.2.2.1)) 34 (u.2.2.2.2.2.2.2.2.2.2.2.2.2.2.2.2))) [0, 17, 1, 2, 3, 4, 5, 6, 7, 8, 9, 10, 13, 18, 19, 20, 21, 22] [11, 12, 14, 15, 16, 23, 24, 25, 26, 27] [10, 12, 13, 14, 15, 16, 17, 18, 19, 20, 21, 0, 1, 22, 2, 3, 4, 11, 23, 24, 25, 26, 27, 5, 6, 7, 8, 9] rfl (by decide) rfl (by decide) (by decide) (by decide) (fun _ => rfl) (fun r u hu => key r u hu)
