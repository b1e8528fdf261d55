def gall (xs ys : Nat → Int32) (pt p a b : Nat) : Int32 := gx xs pt p * (ys b - ys a) - gy ys pt p * (xs b - xs a)
def gfar (xs ys : Nat → Int32) (pt a b : Nat) : Int32 := gx xs pt a * (ys b - ys a) - gy ys pt a * (xs b - xs a)
def gpart (xs ys : Nat → Int32) (pt p a : Nat) : Int32 := gx xs pt a * gy ys pt p - gy ys pt a * gx xs pt p
def gridge0 (all far part ha hb hp : Int32) : Bool := !decide (far ≤ 0) && (!decide (all ≤ far) && (!decide (part < 0) && (decide (part ≤ all) && !decide (ha * all + (hb - ha) * part < hp * far))))
def gridge (xs ys hs : Nat → Int32) (pt p a b : Nat) : Bool :=
  if 0 ≤ gall xs ys pt p a b then gridge0 (gall xs ys pt p a b) (gfar xs ys pt a b) (gpart xs ys pt p a) (hs a) (hs b) (hs p)
  else gridge0 (-gall xs ys pt p a b) (-gfar xs ys pt a b) (-gpart xs ys pt p a) (hs a) (hs b) (hs p)
def gbear0 (dx dy : Int32) : Int32 := if iabs dx < iabs dy then (if dy = 0 then 0 else 16 + fdiv (-8 * dx) dy + (if 0 ≤ dy then 0 else 32)) else (if dx = 0 then 0 else fdiv (8 * dy) dx + (if 0 ≤ dx then 0 else 32))
def gbear (dx dy : Int32) : Int32 := if 0 ≤ gbear0 dx dy then gbear0 dx dy else gbear0 dx dy + 64
def gstand (xs ys hs : Nat → Int32) (pt p : Nat) : Int32 := if gway xs ys pt p = 0 then 0 else 12 * hs p / gway xs ys pt p
def ghalf (dx dy : Int32) : Bool := decide (dy < 0) || (decide (dy = 0) && !decide (0 ≤ dx))
def gahead (xs ys : Nat → Int32) (pt p q : Nat) : Bool :=
  if ghalf (gx xs pt p) (gy ys pt p) = ghalf (gx xs pt q) (gy ys pt q) then decide (0 < gturn xs ys pt p q) || (decide (gturn xs ys pt p q = 0) && !decide (gway xs ys pt q ≤ gway xs ys pt p))
  else !ghalf (gx xs pt p) (gy ys pt p)
def anyB (f : Nat → Bool) : Nat → Bool
  | 0 => false
  | n + 1 => anyB f n || f n
theorem anyB_no {f : Nat → Bool} : ∀ {n : Nat}, anyB f n = false ↔ ∀ k, k < n → f k = false
  | 0 => ⟨fun _ k h => absurd h (Nat.not_lt_zero k), fun _ => rfl⟩
  | n + 1 => by
    rw [anyB, Bool.or_eq_false_iff, anyB_no]
    exact ⟨fun h k hk => (Nat.lt_succ_iff_lt_or_eq.mp hk).elim (h.1 k) (fun e => e ▸ h.2), fun h => ⟨fun k hk => h k (Nat.lt_succ_of_lt hk), h n (Nat.lt_succ_self n)⟩⟩
theorem anyB_yes {f : Nat → Bool} {n k : Nat} (hk : k < n) (h : f k = true) : anyB f n = true := by
  cases e : anyB f n with
  | true => rfl
  | false => rw [anyB_no.mp e k hk] at h; cases h
theorem anyB_cong {f g : Nat → Bool} : ∀ {n : Nat}, (∀ k, k < n → f k = g k) → anyB f n = anyB g n
  | 0, _ => rfl
  | n + 1, h => by rw [anyB, anyB, anyB_cong (fun k hk => h k (Nat.lt_succ_of_lt hk)), h n (Nat.lt_succ_self n)]
def ghid (xs ys hs : Nat → Int32) (n : Nat) (fa sa : Nat → Nat) (mm pt p : Nat) : Bool := anyB (gpeak xs ys hs pt p) n || anyB (fun r => gridge xs ys hs pt p (fa r) (sa r)) mm
def gbits (f : Nat → Bool) : Nat → Int32
  | 0 => 0
  | n + 1 => if f n then gbits f n ||| (1 <<< (nI n &&& 31)) else gbits f n
def gvis (xs ys hs : Nat → Int32) (n : Nat) (fa sa : Nat → Nat) (mm : Nat) (pk : Nat → Int32) (pt : Nat) : Int32 := if pk pt = 0 then gbits (fun p => !ghid xs ys hs n fa sa mm pt p) n else 0
abbrev rX1_ridgeHides : Room := { frames := 1, cells := 0, slots := 0, locals := 22 }
set_option maxHeartbeats 4000000 in
set_option maxRecDepth 100000 in
theorem c_X1_ridgeHides (l : Launch) (G : kG) (h : Nat) (v : Nat → Int32) (q : Nat → Nat) (xs : Nat → Int32) (ys : Nat → Int32) (hs : Nat → Int32) (fs : Nat → Int32) (ss : Nat → Int32) (fa : Nat → Nat) (sa : Nat → Nat) (mm : Nat) (pt : Nat) (p : Nat) (rr : Nat) (hpt : pt < 64) (hp : p < 10) (hF : ∀ r, r < mm → fs r = nI (fa r) ∧ ss r = nI (sa r) ∧ fa r < 10 ∧ sa r < 10) (hm8 : mm ≤ 8) (hr : rr < mm) : Ri l G yX1_ridgeHides wsX1_ridgeHides rX1_ridgeHides [.ref h, .int (nI pt), .int (nI p), .int (nI rr)] [oB h 1 (oF1 v q), aI G (q 0) 10 xs, aI G (q 1) 10 ys, aI G (q 2) 10 hs, aI G (q 4) 8 fs, aI G (q 5) 8 ss] (fun r => r = b2i (gridge xs ys hs pt p (fa rr) (sa rr))) := by
  refine Ri.of (cc := cX1_ridgeHides) (maxL := 13) (by decide) rfl (Nat.le_of_ble_eq_true rfl) ?_
  intro pM eM sM mM bM tM cM Q hx hb hts hown hml hP hK hret ls hl
  have hown : sM.vm.findClass RX1 = some mM.cls := hown
  have hl : lv_has ls 13 [(0, .ref h), (1, .int (nI pt)), (2, .int (nI p)), (3, .int (nI rr))] := hl
  have hin1 : ∀ w ∈ u_ws RX1 TX1 11, w ∈ wsX1_ridgeHides := by decide +kernel
  have f21 := hts (.fieldLink RX1 21 "HorizonPeaks$Land" "firsts" "[I") (by decide +kernel)
  have f24 := hts (.fieldLink RX1 24 "HorizonPeaks$Land" "seconds" "[I") (by decide +kernel)
  have f9 := hts (.fieldLink RX1 9 "HorizonPeaks$Land" "xs" "[I") (by decide +kernel)
  have f15 := hts (.fieldLink RX1 15 "HorizonPeaks$Land" "ys" "[I") (by decide +kernel)
  have f18 := hts (.fieldLink RX1 18 "HorizonPeaks$Land" "highs" "[I") (by decide +kernel)
  obtain ⟨e1, e2, h1, h2⟩ := hF rr hr
  refine lv_aload_n hx hb dX1_ridgeHides_0 rfl (lv_at hl 0 rfl) ?_
  refine va_get (D := G.1) (ci := 1) (v := .ref (q 4)) (C := RX1) (T := TX1) (N := 11) hx hb hts hin1 hown hK.1 hP 0 rfl rfl 4 (by decide) f21 (fun _ h9 => h9) rfl dX1_ridgeHides_1 ?_
  refine lv_iload_n hx hb dX1_ridgeHides_4 rfl (lv_at hl 3 rfl) ?_
  refine al_i hx hb hK.1 hP 4 0 rfl rfl (j := rr) (by omega) (Nat.le_of_ble_eq_true rfl) dX1_ridgeHides_5 ?_
  refine top_i (y := nI (fa rr)) (e1) ?_
  refine lv_istore (lv' := [(4, .int (nI (fa rr))), (0, .ref h), (1, .int (nI pt)), (2, .int (nI p)), (3, .int (nI rr))]) hx hb dX1_ridgeHides_6 hl (by decide) rfl (fun ls hl => ?_)
  refine lv_aload_n hx hb dX1_ridgeHides_8 rfl (lv_at hl 1 rfl) ?_
  refine va_get (D := G.1) (ci := 1) (v := .ref (q 5)) (C := RX1) (T := TX1) (N := 11) hx hb hts hin1 hown hK.1 hP 0 rfl rfl 5 (by decide) f24 (fun _ h9 => h9) rfl dX1_ridgeHides_9 ?_
  refine lv_iload_n hx hb dX1_ridgeHides_12 rfl (lv_at hl 4 rfl) ?_
  refine al_i hx hb hK.1 hP 5 0 rfl rfl (j := rr) (by omega) (Nat.le_of_ble_eq_true rfl) dX1_ridgeHides_13 ?_
  refine top_i (y := nI (sa rr)) (e2) ?_
  refine lv_istore (lv' := [(5, .int (nI (sa rr))), (4, .int (nI (fa rr))), (0, .ref h), (1, .int (nI pt)), (2, .int (nI p)), (3, .int (nI rr))]) hx hb dX1_ridgeHides_14 hl (by decide) rfl (fun ls hl => ?_)
  refine lv_aload_n hx hb dX1_ridgeHides_16 rfl (lv_at hl 2 rfl) ?_
  refine lv_iload_n hx hb dX1_ridgeHides_17 rfl (lv_at hl 3 rfl) ?_
  refine lv_iload_n hx hb dX1_ridgeHides_18 rfl (lv_at hl 4 rfl) ?_
  refine rd_i (va_runV (As := [.int (nI pt), .int (nI p)]) (rest := []) ⟨hx, hb, hml, hown, hts⟩ (c_X1_rightOf l G h v q xs pt p (by assumption) (by assumption)) (cwV 2 hts gX1_ridgeHides_X1_rightOf rfl rfl rfl (by decide +kernel) ⟨Nat.le_of_ble_eq_true rfl, Nat.le_of_ble_eq_true rfl⟩) (rPre_V hK hP [0, 1] rfl 0 1 rfl rfl) rfl rfl hl.1 rfl (lv_room (Nat.le_of_ble_eq_true rfl)) dX1_ridgeHides_19 ⟨Nat.zero_le _, Nat.zero_le _⟩) (fun r_19 q_19 => ?_)
  obtain rfl : r_19 = gx xs pt p := q_19
  refine lv_istore (lv' := [(6, .int (gx xs pt p)), (5, .int (nI (sa rr))), (4, .int (nI (fa rr))), (0, .ref h), (1, .int (nI pt)), (2, .int (nI p)), (3, .int (nI rr))]) hx hb dX1_ridgeHides_22 hl (by decide) rfl (fun ls hl => ?_)
  refine lv_aload_n hx hb dX1_ridgeHides_24 rfl (lv_at hl 3 rfl) ?_
  refine lv_iload_n hx hb dX1_ridgeHides_25 rfl (lv_at hl 4 rfl) ?_
  refine lv_iload_n hx hb dX1_ridgeHides_26 rfl (lv_at hl 5 rfl) ?_
  refine rd_i (va_runV (As := [.int (nI pt), .int (nI p)]) (rest := []) ⟨hx, hb, hml, hown, hts⟩ (c_X1_upOf l G h v q ys pt p (by assumption) (by assumption)) (cwV 2 hts gX1_ridgeHides_X1_upOf rfl rfl rfl (by decide +kernel) ⟨Nat.le_of_ble_eq_true rfl, Nat.le_of_ble_eq_true rfl⟩) (rPre_V hK hP [0, 2] rfl 0 1 rfl rfl) rfl rfl hl.1 rfl (lv_room (Nat.le_of_ble_eq_true rfl)) dX1_ridgeHides_27 ⟨Nat.zero_le _, Nat.zero_le _⟩) (fun r_27 q_27 => ?_)
  obtain rfl : r_27 = gy ys pt p := q_27
  refine lv_istore (lv' := [(7, .int (gy ys pt p)), (6, .int (gx xs pt p)), (5, .int (nI (sa rr))), (4, .int (nI (fa rr))), (0, .ref h), (1, .int (nI pt)), (2, .int (nI p)), (3, .int (nI rr))]) hx hb dX1_ridgeHides_30 hl (by decide) rfl (fun ls hl => ?_)
  refine lv_aload_n hx hb dX1_ridgeHides_32 rfl (lv_at hl 4 rfl) ?_
  refine va_get (D := G.1) (ci := 1) (v := .ref (q 0)) (C := RX1) (T := TX1) (N := 11) hx hb hts hin1 hown hK.1 hP 0 rfl rfl 0 (by decide) f9 (fun _ h9 => h9) rfl dX1_ridgeHides_33 ?_
  refine lv_iload hx hb dX1_ridgeHides_36 (lv_at hl 2 rfl) ?_
  refine al_i hx hb hK.1 hP 1 0 rfl rfl (j := sa rr) (by omega) (Nat.le_of_ble_eq_true rfl) dX1_ridgeHides_38 ?_
  refine lv_aload_n hx hb dX1_ridgeHides_39 rfl (lv_at hl 4 rfl) ?_
  refine va_get (D := G.1) (ci := 1) (v := .ref (q 0)) (C := RX1) (T := TX1) (N := 11) hx hb hts hin1 hown hK.1 hP 0 rfl rfl 0 (by decide) f9 (fun _ h9 => h9) rfl dX1_ridgeHides_40 ?_
  refine lv_iload hx hb dX1_ridgeHides_43 (lv_at hl 3 rfl) ?_
  refine al_i hx hb hK.1 hP 1 0 rfl rfl (j := fa rr) (by omega) (Nat.le_of_ble_eq_true rfl) dX1_ridgeHides_45 ?_
  refine lv_isub hx hb dX1_ridgeHides_46 ?_
  refine lv_istore (lv' := [(8, .int ((xs (sa rr)) - (xs (fa rr)))), (7, .int (gy ys pt p)), (6, .int (gx xs pt p)), (5, .int (nI (sa rr))), (4, .int (nI (fa rr))), (0, .ref h), (1, .int (nI pt)), (2, .int (nI p)), (3, .int (nI rr))]) hx hb dX1_ridgeHides_47 hl (by decide) rfl (fun ls hl => ?_)
  refine lv_aload_n hx hb dX1_ridgeHides_49 rfl (lv_at hl 5 rfl) ?_
  refine va_get (D := G.1) (ci := 1) (v := .ref (q 1)) (C := RX1) (T := TX1) (N := 11) hx hb hts hin1 hown hK.1 hP 0 rfl rfl 1 (by decide) f15 (fun _ h9 => h9) rfl dX1_ridgeHides_50 ?_
  refine lv_iload hx hb dX1_ridgeHides_53 (lv_at hl 3 rfl) ?_
  refine al_i hx hb hK.1 hP 2 0 rfl rfl (j := sa rr) (by omega) (Nat.le_of_ble_eq_true rfl) dX1_ridgeHides_55 ?_
  refine lv_aload_n hx hb dX1_ridgeHides_56 rfl (lv_at hl 5 rfl) ?_
  refine va_get (D := G.1) (ci := 1) (v := .ref (q 1)) (C := RX1) (T := TX1) (N := 11) hx hb hts hin1 hown hK.1 hP 0 rfl rfl 1 (by decide) f15 (fun _ h9 => h9) rfl dX1_ridgeHides_57 ?_
  refine lv_iload hx hb dX1_ridgeHides_60 (lv_at hl 4 rfl) ?_
  refine al_i hx hb hK.1 hP 2 0 rfl rfl (j := fa rr) (by omega) (Nat.le_of_ble_eq_true rfl) dX1_ridgeHides_62 ?_
  refine lv_isub hx hb dX1_ridgeHides_63 ?_
  refine lv_istore (lv' := [(9, .int ((ys (sa rr)) - (ys (fa rr)))), (8, .int ((xs (sa rr)) - (xs (fa rr)))), (7, .int (gy ys pt p)), (6, .int (gx xs pt p)), (5, .int (nI (sa rr))), (4, .int (nI (fa rr))), (0, .ref h), (1, .int (nI pt)), (2, .int (nI p)), (3, .int (nI rr))]) hx hb dX1_ridgeHides_64 hl (by decide) rfl (fun ls hl => ?_)
  refine lv_iload hx hb dX1_ridgeHides_66 (lv_at hl 3 rfl) ?_
  refine lv_iload hx hb dX1_ridgeHides_68 (lv_at hl 0 rfl) ?_
  refine lv_imul hx hb dX1_ridgeHides_70 ?_
  refine lv_iload hx hb dX1_ridgeHides_71 (lv_at hl 2 rfl) ?_
  refine lv_iload hx hb dX1_ridgeHides_73 (lv_at hl 1 rfl) ?_
  refine lv_imul hx hb dX1_ridgeHides_75 ?_
  refine lv_isub hx hb dX1_ridgeHides_76 ?_
  refine top_i (y := gall xs ys pt p (fa rr) (sa rr)) (rfl) ?_
  refine lv_istore (lv' := [(10, .int (gall xs ys pt p (fa rr) (sa rr))), (9, .int ((ys (sa rr)) - (ys (fa rr)))), (8, .int ((xs (sa rr)) - (xs (fa rr)))), (7, .int (gy ys pt p)), (6, .int (gx xs pt p)), (5, .int (nI (sa rr))), (4, .int (nI (fa rr))), (0, .ref h), (1, .int (nI pt)), (2, .int (nI p)), (3, .int (nI rr))]) hx hb dX1_ridgeHides_77 hl (by decide) rfl (fun ls hl => ?_)
  refine lv_aload_n hx hb dX1_ridgeHides_79 rfl (lv_at hl 7 rfl) ?_
  refine lv_iload_n hx hb dX1_ridgeHides_80 rfl (lv_at hl 8 rfl) ?_
  refine lv_iload hx hb dX1_ridgeHides_81 (lv_at hl 6 rfl) ?_
  refine rd_i (va_runV (As := [.int (nI pt), .int (nI (fa rr))]) (rest := []) ⟨hx, hb, hml, hown, hts⟩ (c_X1_rightOf l G h v q xs pt (fa rr) (by assumption) (by assumption)) (cwV 2 hts gX1_ridgeHides_X1_rightOf rfl rfl rfl (by decide +kernel) ⟨Nat.le_of_ble_eq_true rfl, Nat.le_of_ble_eq_true rfl⟩) (rPre_V hK hP [0, 1] rfl 0 1 rfl rfl) rfl rfl hl.1 rfl (lv_room (Nat.le_of_ble_eq_true rfl)) dX1_ridgeHides_83 ⟨Nat.zero_le _, Nat.zero_le _⟩) (fun r_83 q_83 => ?_)
  obtain rfl : r_83 = gx xs pt (fa rr) := q_83
  refine lv_iload hx hb dX1_ridgeHides_86 (lv_at hl 1 rfl) ?_
  refine lv_imul hx hb dX1_ridgeHides_88 ?_
  refine lv_aload_n hx hb dX1_ridgeHides_89 rfl (lv_at hl 7 rfl) ?_
  refine lv_iload_n hx hb dX1_ridgeHides_90 rfl (lv_at hl 8 rfl) ?_
  refine lv_iload hx hb dX1_ridgeHides_91 (lv_at hl 6 rfl) ?_
  refine rd_i (va_runV (As := [.int (nI pt), .int (nI (fa rr))]) (rest := [.int ((gx xs pt (fa rr)) * ((ys (sa rr)) - (ys (fa rr))))]) ⟨hx, hb, hml, hown, hts⟩ (c_X1_upOf l G h v q ys pt (fa rr) (by assumption) (by assumption)) (cwV 2 hts gX1_ridgeHides_X1_upOf rfl rfl rfl (by decide +kernel) ⟨Nat.le_of_ble_eq_true rfl, Nat.le_of_ble_eq_true rfl⟩) (rPre_V hK hP [0, 2] rfl 0 1 rfl rfl) rfl rfl hl.1 rfl (lv_room (Nat.le_of_ble_eq_true rfl)) dX1_ridgeHides_93 ⟨Nat.zero_le _, Nat.zero_le _⟩) (fun r_93 q_93 => ?_)
  obtain rfl : r_93 = gy ys pt (fa rr) := q_93
  refine lv_iload hx hb dX1_ridgeHides_96 (lv_at hl 2 rfl) ?_
  refine lv_imul hx hb dX1_ridgeHides_98 ?_
  refine lv_isub hx hb dX1_ridgeHides_99 ?_
  refine top_i (y := gfar xs ys pt (fa rr) (sa rr)) (rfl) ?_
  refine lv_istore (lv' := [(11, .int (gfar xs ys pt (fa rr) (sa rr))), (10, .int (gall xs ys pt p (fa rr) (sa rr))), (9, .int ((ys (sa rr)) - (ys (fa rr)))), (8, .int ((xs (sa rr)) - (xs (fa rr)))), (7, .int (gy ys pt p)), (6, .int (gx xs pt p)), (5, .int (nI (sa rr))), (4, .int (nI (fa rr))), (0, .ref h), (1, .int (nI pt)), (2, .int (nI p)), (3, .int (nI rr))]) hx hb dX1_ridgeHides_100 hl (by decide) rfl (fun ls hl => ?_)
  refine lv_aload_n hx hb dX1_ridgeHides_102 rfl (lv_at hl 8 rfl) ?_
  refine lv_iload_n hx hb dX1_ridgeHides_103 rfl (lv_at hl 9 rfl) ?_
  refine lv_iload hx hb dX1_ridgeHides_104 (lv_at hl 7 rfl) ?_
  refine rd_i (va_runV (As := [.int (nI pt), .int (nI (fa rr))]) (rest := []) ⟨hx, hb, hml, hown, hts⟩ (c_X1_rightOf l G h v q xs pt (fa rr) (by assumption) (by assumption)) (cwV 2 hts gX1_ridgeHides_X1_rightOf rfl rfl rfl (by decide +kernel) ⟨Nat.le_of_ble_eq_true rfl, Nat.le_of_ble_eq_true rfl⟩) (rPre_V hK hP [0, 1] rfl 0 1 rfl rfl) rfl rfl hl.1 rfl (lv_room (Nat.le_of_ble_eq_true rfl)) dX1_ridgeHides_106 ⟨Nat.zero_le _, Nat.zero_le _⟩) (fun r_106 q_106 => ?_)
  obtain rfl : r_106 = gx xs pt (fa rr) := q_106
  refine lv_iload hx hb dX1_ridgeHides_109 (lv_at hl 4 rfl) ?_
  refine lv_imul hx hb dX1_ridgeHides_111 ?_
  refine lv_aload_n hx hb dX1_ridgeHides_112 rfl (lv_at hl 8 rfl) ?_
  refine lv_iload_n hx hb dX1_ridgeHides_113 rfl (lv_at hl 9 rfl) ?_
  refine lv_iload hx hb dX1_ridgeHides_114 (lv_at hl 7 rfl) ?_
  refine rd_i (va_runV (As := [.int (nI pt), .int (nI (fa rr))]) (rest := [.int ((gx xs pt (fa rr)) * (gy ys pt p))]) ⟨hx, hb, hml, hown, hts⟩ (c_X1_upOf l G h v q ys pt (fa rr) (by assumption) (by assumption)) (cwV 2 hts gX1_ridgeHides_X1_upOf rfl rfl rfl (by decide +kernel) ⟨Nat.le_of_ble_eq_true rfl, Nat.le_of_ble_eq_true rfl⟩) (rPre_V hK hP [0, 2] rfl 0 1 rfl rfl) rfl rfl hl.1 rfl (lv_room (Nat.le_of_ble_eq_true rfl)) dX1_ridgeHides_116 ⟨Nat.zero_le _, Nat.zero_le _⟩) (fun r_116 q_116 => ?_)
  obtain rfl : r_116 = gy ys pt (fa rr) := q_116
  refine lv_iload hx hb dX1_ridgeHides_119 (lv_at hl 5 rfl) ?_
  refine lv_imul hx hb dX1_ridgeHides_121 ?_
  refine lv_isub hx hb dX1_ridgeHides_122 ?_
  refine top_i (y := gpart xs ys pt p (fa rr)) (rfl) ?_
  refine lv_istore (lv' := [(12, .int (gpart xs ys pt p (fa rr))), (11, .int (gfar xs ys pt (fa rr) (sa rr))), (10, .int (gall xs ys pt p (fa rr) (sa rr))), (9, .int ((ys (sa rr)) - (ys (fa rr)))), (8, .int ((xs (sa rr)) - (xs (fa rr)))), (7, .int (gy ys pt p)), (6, .int (gx xs pt p)), (5, .int (nI (sa rr))), (4, .int (nI (fa rr))), (0, .ref h), (1, .int (nI pt)), (2, .int (nI p)), (3, .int (nI rr))]) hx hb dX1_ridgeHides_123 hl (by decide) rfl (fun ls hl => ?_)
  refine lv_iload hx hb dX1_ridgeHides_125 (lv_at hl 2 rfl) ?_
  refine lv_if_ge (tgt := 145) hx hb dX1_ridgeHides_127 (by decide) (fun c_127 => ?_) (fun c_127 => ?_)
  · refine lv_iload hx hb dX1_ridgeHides_145 (lv_at hl 1 rfl) ?_
    refine lv_if_le (tgt := 169) hx hb dX1_ridgeHides_147 (by decide) (fun c_147 => ?_) (fun c_147 => ?_)
    · refine lv_iconst (v := 0) hx hb dX1_ridgeHides_169 (by decide) ?_
      exact hret _ _ _ (by simp [b2i, gridge, gridge0, c_127, c_147]) (rfl) dX1_ridgeHides_170
    · refine lv_iload hx hb dX1_ridgeHides_150 (lv_at hl 1 rfl) ?_
      refine lv_iload hx hb dX1_ridgeHides_152 (lv_at hl 2 rfl) ?_
      refine lv_icmp_ge (tgt := 169) hx hb dX1_ridgeHides_154 (by decide) (fun c_154 => ?_) (fun c_154 => ?_)
      · refine lv_iconst (v := 0) hx hb dX1_ridgeHides_169 (by decide) ?_
        exact hret _ _ _ (by simp [b2i, gridge, gridge0, c_127, c_147, c_154]) (rfl) dX1_ridgeHides_170
      · refine lv_iload hx hb dX1_ridgeHides_157 (lv_at hl 0 rfl) ?_
        refine lv_if_lt (tgt := 169) hx hb dX1_ridgeHides_159 (by decide) (fun c_159 => ?_) (fun c_159 => ?_)
        · refine lv_iconst (v := 0) hx hb dX1_ridgeHides_169 (by decide) ?_
          exact hret _ _ _ (by simp [b2i, gridge, gridge0, c_127, c_147, c_154, c_159]) (rfl) dX1_ridgeHides_170
        · refine lv_iload hx hb dX1_ridgeHides_162 (lv_at hl 0 rfl) ?_
          refine lv_iload hx hb dX1_ridgeHides_164 (lv_at hl 2 rfl) ?_
          refine lv_icmp_le (tgt := 171) hx hb dX1_ridgeHides_166 (by decide) (fun c_166 => ?_) (fun c_166 => ?_)
          · refine lv_aload_n hx hb dX1_ridgeHides_171 rfl (lv_at hl 9 rfl) ?_
            refine va_get (D := G.1) (ci := 1) (v := .ref (q 2)) (C := RX1) (T := TX1) (N := 11) hx hb hts hin1 hown hK.1 hP 0 rfl rfl 2 (by decide) f18 (fun _ h9 => h9) rfl dX1_ridgeHides_172 ?_
            refine lv_iload hx hb dX1_ridgeHides_175 (lv_at hl 8 rfl) ?_
            refine al_i hx hb hK.1 hP 3 0 rfl rfl (j := fa rr) (by omega) (Nat.le_of_ble_eq_true rfl) dX1_ridgeHides_177 ?_
            refine lv_iload hx hb dX1_ridgeHides_178 (lv_at hl 2 rfl) ?_
            refine lv_imul hx hb dX1_ridgeHides_180 ?_
            refine lv_aload_n hx hb dX1_ridgeHides_181 rfl (lv_at hl 9 rfl) ?_
            refine va_get (D := G.1) (ci := 1) (v := .ref (q 2)) (C := RX1) (T := TX1) (N := 11) hx hb hts hin1 hown hK.1 hP 0 rfl rfl 2 (by decide) f18 (fun _ h9 => h9) rfl dX1_ridgeHides_182 ?_
            refine lv_iload hx hb dX1_ridgeHides_185 (lv_at hl 7 rfl) ?_
            refine al_i hx hb hK.1 hP 3 0 rfl rfl (j := sa rr) (by omega) (Nat.le_of_ble_eq_true rfl) dX1_ridgeHides_187 ?_
            refine lv_aload_n hx hb dX1_ridgeHides_188 rfl (lv_at hl 9 rfl) ?_
            refine va_get (D := G.1) (ci := 1) (v := .ref (q 2)) (C := RX1) (T := TX1) (N := 11) hx hb hts hin1 hown hK.1 hP 0 rfl rfl 2 (by decide) f18 (fun _ h9 => h9) rfl dX1_ridgeHides_189 ?_
            refine lv_iload hx hb dX1_ridgeHides_192 (lv_at hl 8 rfl) ?_
            refine al_i hx hb hK.1 hP 3 0 rfl rfl (j := fa rr) (by omega) (Nat.le_of_ble_eq_true rfl) dX1_ridgeHides_194 ?_
            refine lv_isub hx hb dX1_ridgeHides_195 ?_
            refine lv_iload hx hb dX1_ridgeHides_196 (lv_at hl 0 rfl) ?_
            refine lv_imul hx hb dX1_ridgeHides_198 ?_
            refine lv_iadd hx hb dX1_ridgeHides_199 ?_
            refine lv_aload_n hx hb dX1_ridgeHides_200 rfl (lv_at hl 9 rfl) ?_
            refine va_get (D := G.1) (ci := 1) (v := .ref (q 2)) (C := RX1) (T := TX1) (N := 11) hx hb hts hin1 hown hK.1 hP 0 rfl rfl 2 (by decide) f18 (fun _ h9 => h9) rfl dX1_ridgeHides_201 ?_
            refine lv_iload_n hx hb dX1_ridgeHides_204 rfl (lv_at hl 11 rfl) ?_
            refine al_i hx hb hK.1 hP 3 0 rfl rfl (j := p) (by omega) (Nat.le_of_ble_eq_true rfl) dX1_ridgeHides_205 ?_
            refine lv_iload hx hb dX1_ridgeHides_206 (lv_at hl 1 rfl) ?_
            refine lv_imul hx hb dX1_ridgeHides_208 ?_
            refine lv_icmp_lt (tgt := 216) hx hb dX1_ridgeHides_209 (by decide) (fun c_209 => ?_) (fun c_209 => ?_)
            · refine lv_iconst (v := 0) hx hb dX1_ridgeHides_216 (by decide) ?_
              exact hret _ _ _ (by simp [b2i, gridge, gridge0, c_127, c_147, c_154, c_159, c_166, c_209]) (rfl) dX1_ridgeHides_217
            · refine lv_iconst (v := 1) hx hb dX1_ridgeHides_212 (by decide) ?_
              refine lv_goto (tgt := 217) hx hb dX1_ridgeHides_213 (by decide) ?_
              exact hret _ _ _ (by simp [b2i, gridge, gridge0, c_127, c_147, c_154, c_159, c_166, c_209]) (rfl) dX1_ridgeHides_217
          · refine lv_iconst (v := 0) hx hb dX1_ridgeHides_169 (by decide) ?_
            exact hret _ _ _ (by simp [b2i, gridge, gridge0, c_127, c_147, c_154, c_159, c_166]) (rfl) dX1_ridgeHides_170
  · refine lv_iload hx hb dX1_ridgeHides_130 (lv_at hl 2 rfl) ?_
    refine lv_ineg hx hb dX1_ridgeHides_132 ?_
    refine lv_istore (lv' := [(10, .int (-(gall xs ys pt p (fa rr) (sa rr)))), (12, .int (gpart xs ys pt p (fa rr))), (11, .int (gfar xs ys pt (fa rr) (sa rr))), (9, .int ((ys (sa rr)) - (ys (fa rr)))), (8, .int ((xs (sa rr)) - (xs (fa rr)))), (7, .int (gy ys pt p)), (6, .int (gx xs pt p)), (5, .int (nI (sa rr))), (4, .int (nI (fa rr))), (0, .ref h), (1, .int (nI pt)), (2, .int (nI p)), (3, .int (nI rr))]) hx hb dX1_ridgeHides_133 hl (by decide) rfl (fun ls hl => ?_)
    refine lv_iload hx hb dX1_ridgeHides_135 (lv_at hl 2 rfl) ?_
    refine lv_ineg hx hb dX1_ridgeHides_137 ?_
    refine lv_istore (lv' := [(11, .int (-(gfar xs ys pt (fa rr) (sa rr)))), (10, .int (-(gall xs ys pt p (fa rr) (sa rr)))), (12, .int (gpart xs ys pt p (fa rr))), (9, .int ((ys (sa rr)) - (ys (fa rr)))), (8, .int ((xs (sa rr)) - (xs (fa rr)))), (7, .int (gy ys pt p)), (6, .int (gx xs pt p)), (5, .int (nI (sa rr))), (4, .int (nI (fa rr))), (0, .ref h), (1, .int (nI pt)), (2, .int (nI p)), (3, .int (nI rr))]) hx hb dX1_ridgeHides_138 hl (by decide) rfl (fun ls hl => ?_)
    refine lv_iload hx hb dX1_ridgeHides_140 (lv_at hl 2 rfl) ?_
    refine lv_ineg hx hb dX1_ridgeHides_142 ?_
    refine lv_istore (lv' := [(12, .int (-(gpart xs ys pt p (fa rr)))), (11, .int (-(gfar xs ys pt (fa rr) (sa rr)))), (10, .int (-(gall xs ys pt p (fa rr) (sa rr)))), (9, .int ((ys (sa rr)) - (ys (fa rr)))), (8, .int ((xs (sa rr)) - (xs (fa rr)))), (7, .int (gy ys pt p)), (6, .int (gx xs pt p)), (5, .int (nI (sa rr))), (4, .int (nI (fa rr))), (0, .ref h), (1, .int (nI pt)), (2, .int (nI p)), (3, .int (nI rr))]) hx hb dX1_ridgeHides_143 hl (by decide) rfl (fun ls hl => ?_)
    refine lv_iload hx hb dX1_ridgeHides_145 (lv_at hl 1 rfl) ?_
    refine lv_if_le (tgt := 169) hx hb dX1_ridgeHides_147 (by decide) (fun c_147 => ?_) (fun c_147 => ?_)
    · refine lv_iconst (v := 0) hx hb dX1_ridgeHides_169 (by decide) ?_
      exact hret _ _ _ (by simp [b2i, gridge, gridge0, c_127, c_147]) (rfl) dX1_ridgeHides_170
    · refine lv_iload hx hb dX1_ridgeHides_150 (lv_at hl 1 rfl) ?_
      refine lv_iload hx hb dX1_ridgeHides_152 (lv_at hl 2 rfl) ?_
      refine lv_icmp_ge (tgt := 169) hx hb dX1_ridgeHides_154 (by decide) (fun c_154 => ?_) (fun c_154 => ?_)
      · refine lv_iconst (v := 0) hx hb dX1_ridgeHides_169 (by decide) ?_
        exact hret _ _ _ (by simp [b2i, gridge, gridge0, c_127, c_147, c_154]) (rfl) dX1_ridgeHides_170
      · refine lv_iload hx hb dX1_ridgeHides_157 (lv_at hl 0 rfl) ?_
        refine lv_if_lt (tgt := 169) hx hb dX1_ridgeHides_159 (by decide) (fun c_159 => ?_) (fun c_159 => ?_)
        · refine lv_iconst (v := 0) hx hb dX1_ridgeHides_169 (by decide) ?_
          exact hret _ _ _ (by simp [b2i, gridge, gridge0, c_127, c_147, c_154, c_159]) (rfl) dX1_ridgeHides_170
        · refine lv_iload hx hb dX1_ridgeHides_162 (lv_at hl 0 rfl) ?_
          refine lv_iload hx hb dX1_ridgeHides_164 (lv_at hl 2 rfl) ?_
          refine lv_icmp_le (tgt := 171) hx hb dX1_ridgeHides_166 (by decide) (fun c_166 => ?_) (fun c_166 => ?_)
          · refine lv_aload_n hx hb dX1_ridgeHides_171 rfl (lv_at hl 9 rfl) ?_
            refine va_get (D := G.1) (ci := 1) (v := .ref (q 2)) (C := RX1) (T := TX1) (N := 11) hx hb hts hin1 hown hK.1 hP 0 rfl rfl 2 (by decide) f18 (fun _ h9 => h9) rfl dX1_ridgeHides_172 ?_
            refine lv_iload hx hb dX1_ridgeHides_175 (lv_at hl 8 rfl) ?_
            refine al_i hx hb hK.1 hP 3 0 rfl rfl (j := fa rr) (by omega) (Nat.le_of_ble_eq_true rfl) dX1_ridgeHides_177 ?_
            refine lv_iload hx hb dX1_ridgeHides_178 (lv_at hl 2 rfl) ?_
            refine lv_imul hx hb dX1_ridgeHides_180 ?_
            refine lv_aload_n hx hb dX1_ridgeHides_181 rfl (lv_at hl 9 rfl) ?_
            refine va_get (D := G.1) (ci := 1) (v := .ref (q 2)) (C := RX1) (T := TX1) (N := 11) hx hb hts hin1 hown hK.1 hP 0 rfl rfl 2 (by decide) f18 (fun _ h9 => h9) rfl dX1_ridgeHides_182 ?_
            refine lv_iload hx hb dX1_ridgeHides_185 (lv_at hl 7 rfl) ?_
            refine al_i hx hb hK.1 hP 3 0 rfl rfl (j := sa rr) (by omega) (Nat.le_of_ble_eq_true rfl) dX1_ridgeHides_187 ?_
            refine lv_aload_n hx hb dX1_ridgeHides_188 rfl (lv_at hl 9 rfl) ?_
            refine va_get (D := G.1) (ci := 1) (v := .ref (q 2)) (C := RX1) (T := TX1) (N := 11) hx hb hts hin1 hown hK.1 hP 0 rfl rfl 2 (by decide) f18 (fun _ h9 => h9) rfl dX1_ridgeHides_189 ?_
            refine lv_iload hx hb dX1_ridgeHides_192 (lv_at hl 8 rfl) ?_
            refine al_i hx hb hK.1 hP 3 0 rfl rfl (j := fa rr) (by omega) (Nat.le_of_ble_eq_true rfl) dX1_ridgeHides_194 ?_
            refine lv_isub hx hb dX1_ridgeHides_195 ?_
            refine lv_iload hx hb dX1_ridgeHides_196 (lv_at hl 0 rfl) ?_
            refine lv_imul hx hb dX1_ridgeHides_198 ?_
            refine lv_iadd hx hb dX1_ridgeHides_199 ?_
            refine lv_aload_n hx hb dX1_ridgeHides_200 rfl (lv_at hl 9 rfl) ?_
            refine va_get (D := G.1) (ci := 1) (v := .ref (q 2)) (C := RX1) (T := TX1) (N := 11) hx hb hts hin1 hown hK.1 hP 0 rfl rfl 2 (by decide) f18 (fun _ h9 => h9) rfl dX1_ridgeHides_201 ?_
            refine lv_iload_n hx hb dX1_ridgeHides_204 rfl (lv_at hl 11 rfl) ?_
            refine al_i hx hb hK.1 hP 3 0 rfl rfl (j := p) (by omega) (Nat.le_of_ble_eq_true rfl) dX1_ridgeHides_205 ?_
            refine lv_iload hx hb dX1_ridgeHides_206 (lv_at hl 1 rfl) ?_
            refine lv_imul hx hb dX1_ridgeHides_208 ?_
            refine lv_icmp_lt (tgt := 216) hx hb dX1_ridgeHides_209 (by decide) (fun c_209 => ?_) (fun c_209 => ?_)
            · refine lv_iconst (v := 0) hx hb dX1_ridgeHides_216 (by decide) ?_
              exact hret _ _ _ (by simp [b2i, gridge, gridge0, c_127, c_147, c_154, c_159, c_166, c_209]) (rfl) dX1_ridgeHides_217
            · refine lv_iconst (v := 1) hx hb dX1_ridgeHides_212 (by decide) ?_
              refine lv_goto (tgt := 217) hx hb dX1_ridgeHides_213 (by decide) ?_
              exact hret _ _ _ (by simp [b2i, gridge, gridge0, c_127, c_147, c_154, c_159, c_166, c_209]) (rfl) dX1_ridgeHides_217
          · refine lv_iconst (v := 0) hx hb dX1_ridgeHides_169 (by decide) ?_
            exact hret _ _ _ (by simp [b2i, gridge, gridge0, c_127, c_147, c_154, c_159, c_166]) (rfl) dX1_ridgeHides_170

abbrev rX1_bearingFrom : Room := { frames := 1, cells := 0, slots := 0, locals := 22 }
set_option maxHeartbeats 4000000 in
set_option maxRecDepth 100000 in
theorem c_X1_bearingFrom (l : Launch) (G : kG) (h : Nat) (v : Nat → Int32) (q : Nat → Nat) (xs : Nat → Int32) (ys : Nat → Int32) (pt : Nat) (p : Nat) (hpt : pt < 64) (hp : p < 10) : Ri l G yX1_bearingFrom wsX1_bearingFrom rX1_bearingFrom [.ref h, .int (nI pt), .int (nI p)] [oB h 1 (oF1 v q), aI G (q 0) 10 xs, aI G (q 1) 10 ys] (fun r => r = gbear (gx xs pt p) (gy ys pt p)) := by
  refine Ri.of (cc := cX1_bearingFrom) (maxL := 6) (by decide) rfl (Nat.le_of_ble_eq_true rfl) ?_
  intro pM eM sM mM bM tM cM Q hx hb hts hown hml hP hK hret ls hl
  have hown : sM.vm.findClass RX1 = some mM.cls := hown
  have hl : lv_has ls 6 [(0, .ref h), (1, .int (nI pt)), (2, .int (nI p))] := hl
  refine lv_aload_n hx hb dX1_bearingFrom_0 rfl (lv_at hl 0 rfl) ?_
  refine lv_iload_n hx hb dX1_bearingFrom_1 rfl (lv_at hl 1 rfl) ?_
  refine lv_iload_n hx hb dX1_bearingFrom_2 rfl (lv_at hl 2 rfl) ?_
  refine rd_i (va_runV (As := [.int (nI pt), .int (nI p)]) (rest := []) ⟨hx, hb, hml, hown, hts⟩ (c_X1_rightOf l G h v q xs pt p (by assumption) (by assumption)) (cwV 2 hts gX1_bearingFrom_X1_rightOf rfl rfl rfl (by decide +kernel) ⟨Nat.le_of_ble_eq_true rfl, Nat.le_of_ble_eq_true rfl⟩) (rPre_V hK hP [0, 1] rfl 0 1 rfl rfl) rfl rfl hl.1 rfl (lv_room (Nat.le_of_ble_eq_true rfl)) dX1_bearingFrom_3 ⟨Nat.zero_le _, Nat.zero_le _⟩) (fun r_3 q_3 => ?_)
  obtain rfl : r_3 = gx xs pt p := q_3
  refine lv_istore_n (lv' := [(3, .int (gx xs pt p)), (0, .ref h), (1, .int (nI pt)), (2, .int (nI p))]) hx hb dX1_bearingFrom_6 rfl hl (by decide) rfl (fun ls hl => ?_)
  refine lv_aload_n hx hb dX1_bearingFrom_7 rfl (lv_at hl 1 rfl) ?_
  refine lv_iload_n hx hb dX1_bearingFrom_8 rfl (lv_at hl 2 rfl) ?_
  refine lv_iload_n hx hb dX1_bearingFrom_9 rfl (lv_at hl 3 rfl) ?_
  refine rd_i (va_runV (As := [.int (nI pt), .int (nI p)]) (rest := []) ⟨hx, hb, hml, hown, hts⟩ (c_X1_upOf l G h v q ys pt p (by assumption) (by assumption)) (cwV 2 hts gX1_bearingFrom_X1_upOf rfl rfl rfl (by decide +kernel) ⟨Nat.le_of_ble_eq_true rfl, Nat.le_of_ble_eq_true rfl⟩) (rPre_V hK hP [0, 2] rfl 0 1 rfl rfl) rfl rfl hl.1 rfl (lv_room (Nat.le_of_ble_eq_true rfl)) dX1_bearingFrom_10 ⟨Nat.zero_le _, Nat.zero_le _⟩) (fun r_10 q_10 => ?_)
  obtain rfl : r_10 = gy ys pt p := q_10
  refine lv_istore (lv' := [(4, .int (gy ys pt p)), (3, .int (gx xs pt p)), (0, .ref h), (1, .int (nI pt)), (2, .int (nI p))]) hx hb dX1_bearingFrom_13 hl (by decide) rfl (fun ls hl => ?_)
  refine lv_iconst (v := 0) hx hb dX1_bearingFrom_15 (by decide) ?_
  refine lv_istore (lv' := [(5, .int 0), (4, .int (gy ys pt p)), (3, .int (gx xs pt p)), (0, .ref h), (1, .int (nI pt)), (2, .int (nI p))]) hx hb dX1_bearingFrom_16 hl (by decide) rfl (fun ls hl => ?_)
  refine lv_iload_n hx hb dX1_bearingFrom_18 rfl (lv_at hl 2 rfl) ?_
  refine va_mabs hx hb (hml.trans hl.1.symm) hown (hts (.methodLink RX1 76 Lib.Math.abs.name) (by decide +kernel)) (hts (.static Lib.Math.abs.name) (by decide +kernel)) (hts (.initialized "java/lang/Math") (by decide +kernel)) (hts (.code Lib.Math.abs.name Lib.Math.abs.code 1 (some .int)) (by decide +kernel)) (Nat.le_of_ble_eq_true rfl) (Nat.le_of_ble_eq_true rfl) (Nat.zero_le _) (Nat.zero_le _) dX1_bearingFrom_19 ?_
  refine top_i (y := iabs (gx xs pt p)) rfl ?_
  refine lv_iload hx hb dX1_bearingFrom_22 (lv_at hl 1 rfl) ?_
  refine va_mabs hx hb (hml.trans hl.1.symm) hown (hts (.methodLink RX1 76 Lib.Math.abs.name) (by decide +kernel)) (hts (.static Lib.Math.abs.name) (by decide +kernel)) (hts (.initialized "java/lang/Math") (by decide +kernel)) (hts (.code Lib.Math.abs.name Lib.Math.abs.code 1 (some .int)) (by decide +kernel)) (Nat.le_of_ble_eq_true rfl) (Nat.le_of_ble_eq_true rfl) (Nat.zero_le _) (Nat.zero_le _) dX1_bearingFrom_24 ?_
  refine top_i (y := iabs (gy ys pt p)) rfl ?_
  refine lv_icmp_lt (tgt := 59) hx hb dX1_bearingFrom_27 (by decide) (fun c_27 => ?_) (fun c_27 => ?_)
  · refine lv_iload hx hb dX1_bearingFrom_59 (lv_at hl 1 rfl) ?_
    refine lv_if_eq (tgt := 90) hx hb dX1_bearingFrom_61 (by decide) (fun c_61 => ?_) (fun c_61 => ?_)
    · refine lv_iload hx hb dX1_bearingFrom_90 (lv_at hl 0 rfl) ?_
      refine lv_if_ge (tgt := 103) hx hb dX1_bearingFrom_92 (by decide) (fun c_92 => ?_) (fun c_92 => ?_)
      · refine lv_iload hx hb dX1_bearingFrom_103 (lv_at hl 0 rfl) ?_
        exact hret _ _ _ (by unfold gbear gbear0; (repeat' split) <;> first | rfl | contradiction) (rfl) dX1_bearingFrom_105
      · refine lv_iload hx hb dX1_bearingFrom_95 (lv_at hl 0 rfl) ?_
        refine lv_bipush (v := 64) hx hb dX1_bearingFrom_97 (by decide) ?_
        refine lv_iadd hx hb dX1_bearingFrom_99 ?_
        refine lv_goto (tgt := 105) hx hb dX1_bearingFrom_100 (by decide) ?_
        exact hret _ _ _ (by unfold gbear gbear0; (repeat' split) <;> first | rfl | contradiction) (rfl) dX1_bearingFrom_105
    · refine lv_bipush (v := 16) hx hb dX1_bearingFrom_64 (by decide) ?_
      refine lv_bipush (v := -8) hx hb dX1_bearingFrom_66 (by decide) ?_
      refine lv_iload_n hx hb dX1_bearingFrom_68 rfl (lv_at hl 2 rfl) ?_
      refine lv_imul hx hb dX1_bearingFrom_69 ?_
      refine lv_iload hx hb dX1_bearingFrom_70 (lv_at hl 1 rfl) ?_
      refine rd_i (va_runS (As := [.int ((-8) * (gx xs pt p)), .int (gy ys pt p)]) (rest := [.int 16]) ⟨hx, hb, hml, hown, hts⟩ (c_J9_floorDiv_7cf53 l G ((-8) * (gx xs pt p)) (gy ys pt p) (c_61)) (va_cwS 2 hts gX1_bearingFrom_J9_floorDiv_7cf53 rfl rfl rfl (by decide +kernel) ⟨Nat.le_of_ble_eq_true rfl, Nat.le_of_ble_eq_true rfl⟩) (rPre_S hK hP [] rfl) rfl rfl hl.1 rfl (lv_room (Nat.le_of_ble_eq_true rfl)) dX1_bearingFrom_72 ⟨Nat.zero_le _, Nat.zero_le _⟩) (fun r_72 q_72 => ?_)
      obtain rfl : r_72 = fdiv ((-8) * (gx xs pt p)) (gy ys pt p) := q_72
      refine lv_iadd hx hb dX1_bearingFrom_75 ?_
      refine lv_iload hx hb dX1_bearingFrom_76 (lv_at hl 1 rfl) ?_
      refine lv_if_ge (tgt := 86) hx hb dX1_bearingFrom_78 (by decide) (fun c_78 => ?_) (fun c_78 => ?_)
      · refine lv_iconst (v := 0) hx hb dX1_bearingFrom_86 (by decide) ?_
        refine lv_iadd hx hb dX1_bearingFrom_87 ?_
        refine lv_istore (lv' := [(5, .int ((16 + (fdiv ((-8) * (gx xs pt p)) (gy ys pt p))) + 0)), (4, .int (gy ys pt p)), (3, .int (gx xs pt p)), (0, .ref h), (1, .int (nI pt)), (2, .int (nI p))]) hx hb dX1_bearingFrom_88 hl (by decide) rfl (fun ls hl => ?_)
        refine lv_iload hx hb dX1_bearingFrom_90 (lv_at hl 0 rfl) ?_
        refine lv_if_ge (tgt := 103) hx hb dX1_bearingFrom_92 (by decide) (fun c_92 => ?_) (fun c_92 => ?_)
        · refine lv_iload hx hb dX1_bearingFrom_103 (lv_at hl 0 rfl) ?_
          exact hret _ _ _ (by unfold gbear gbear0; (repeat' split) <;> first | rfl | contradiction) (rfl) dX1_bearingFrom_105
        · refine lv_iload hx hb dX1_bearingFrom_95 (lv_at hl 0 rfl) ?_
          refine lv_bipush (v := 64) hx hb dX1_bearingFrom_97 (by decide) ?_
          refine lv_iadd hx hb dX1_bearingFrom_99 ?_
          refine lv_goto (tgt := 105) hx hb dX1_bearingFrom_100 (by decide) ?_
          exact hret _ _ _ (by unfold gbear gbear0; (repeat' split) <;> first | rfl | contradiction) (rfl) dX1_bearingFrom_105
      · refine lv_bipush (v := 32) hx hb dX1_bearingFrom_81 (by decide) ?_
        refine lv_goto (tgt := 87) hx hb dX1_bearingFrom_83 (by decide) ?_
        refine lv_iadd hx hb dX1_bearingFrom_87 ?_
        refine lv_istore (lv' := [(5, .int ((16 + (fdiv ((-8) * (gx xs pt p)) (gy ys pt p))) + 32)), (4, .int (gy ys pt p)), (3, .int (gx xs pt p)), (0, .ref h), (1, .int (nI pt)), (2, .int (nI p))]) hx hb dX1_bearingFrom_88 hl (by decide) rfl (fun ls hl => ?_)
        refine lv_iload hx hb dX1_bearingFrom_90 (lv_at hl 0 rfl) ?_
        refine lv_if_ge (tgt := 103) hx hb dX1_bearingFrom_92 (by decide) (fun c_92 => ?_) (fun c_92 => ?_)
        · refine lv_iload hx hb dX1_bearingFrom_103 (lv_at hl 0 rfl) ?_
          exact hret _ _ _ (by unfold gbear gbear0; (repeat' split) <;> first | rfl | contradiction) (rfl) dX1_bearingFrom_105
        · refine lv_iload hx hb dX1_bearingFrom_95 (lv_at hl 0 rfl) ?_
          refine lv_bipush (v := 64) hx hb dX1_bearingFrom_97 (by decide) ?_
          refine lv_iadd hx hb dX1_bearingFrom_99 ?_
          refine lv_goto (tgt := 105) hx hb dX1_bearingFrom_100 (by decide) ?_
          exact hret _ _ _ (by unfold gbear gbear0; (repeat' split) <;> first | rfl | contradiction) (rfl) dX1_bearingFrom_105
  · refine lv_iload_n hx hb dX1_bearingFrom_30 rfl (lv_at hl 2 rfl) ?_
    refine lv_if_eq (tgt := 90) hx hb dX1_bearingFrom_31 (by decide) (fun c_31 => ?_) (fun c_31 => ?_)
    · refine lv_iload hx hb dX1_bearingFrom_90 (lv_at hl 0 rfl) ?_
      refine lv_if_ge (tgt := 103) hx hb dX1_bearingFrom_92 (by decide) (fun c_92 => ?_) (fun c_92 => ?_)
      · refine lv_iload hx hb dX1_bearingFrom_103 (lv_at hl 0 rfl) ?_
        exact hret _ _ _ (by unfold gbear gbear0; (repeat' split) <;> first | rfl | contradiction) (rfl) dX1_bearingFrom_105
      · refine lv_iload hx hb dX1_bearingFrom_95 (lv_at hl 0 rfl) ?_
        refine lv_bipush (v := 64) hx hb dX1_bearingFrom_97 (by decide) ?_
        refine lv_iadd hx hb dX1_bearingFrom_99 ?_
        refine lv_goto (tgt := 105) hx hb dX1_bearingFrom_100 (by decide) ?_
        exact hret _ _ _ (by unfold gbear gbear0; (repeat' split) <;> first | rfl | contradiction) (rfl) dX1_bearingFrom_105
    · refine lv_bipush (v := 8) hx hb dX1_bearingFrom_34 (by decide) ?_
      refine lv_iload hx hb dX1_bearingFrom_36 (lv_at hl 1 rfl) ?_
      refine lv_imul hx hb dX1_bearingFrom_38 ?_
      refine lv_iload_n hx hb dX1_bearingFrom_39 rfl (lv_at hl 2 rfl) ?_
      refine rd_i (va_runS (As := [.int (8 * (gy ys pt p)), .int (gx xs pt p)]) (rest := []) ⟨hx, hb, hml, hown, hts⟩ (c_J9_floorDiv_7cf53 l G (8 * (gy ys pt p)) (gx xs pt p) (c_31)) (va_cwS 2 hts gX1_bearingFrom_J9_floorDiv_7cf53 rfl rfl rfl (by decide +kernel) ⟨Nat.le_of_ble_eq_true rfl, Nat.le_of_ble_eq_true rfl⟩) (rPre_S hK hP [] rfl) rfl rfl hl.1 rfl (lv_room (Nat.le_of_ble_eq_true rfl)) dX1_bearingFrom_40 ⟨Nat.zero_le _, Nat.zero_le _⟩) (fun r_40 q_40 => ?_)
      obtain rfl : r_40 = fdiv (8 * (gy ys pt p)) (gx xs pt p) := q_40
      refine lv_iload_n hx hb dX1_bearingFrom_43 rfl (lv_at hl 2 rfl) ?_
      refine lv_if_ge (tgt := 52) hx hb dX1_bearingFrom_44 (by decide) (fun c_44 => ?_) (fun c_44 => ?_)
      · refine lv_iconst (v := 0) hx hb dX1_bearingFrom_52 (by decide) ?_
        refine lv_iadd hx hb dX1_bearingFrom_53 ?_
        refine lv_istore (lv' := [(5, .int ((fdiv (8 * (gy ys pt p)) (gx xs pt p)) + 0)), (4, .int (gy ys pt p)), (3, .int (gx xs pt p)), (0, .ref h), (1, .int (nI pt)), (2, .int (nI p))]) hx hb dX1_bearingFrom_54 hl (by decide) rfl (fun ls hl => ?_)
        refine lv_goto (tgt := 90) hx hb dX1_bearingFrom_56 (by decide) ?_
        refine lv_iload hx hb dX1_bearingFrom_90 (lv_at hl 0 rfl) ?_
        refine lv_if_ge (tgt := 103) hx hb dX1_bearingFrom_92 (by decide) (fun c_92 => ?_) (fun c_92 => ?_)
        · refine lv_iload hx hb dX1_bearingFrom_103 (lv_at hl 0 rfl) ?_
          exact hret _ _ _ (by unfold gbear gbear0; (repeat' split) <;> first | rfl | contradiction) (rfl) dX1_bearingFrom_105
        · refine lv_iload hx hb dX1_bearingFrom_95 (lv_at hl 0 rfl) ?_
          refine lv_bipush (v := 64) hx hb dX1_bearingFrom_97 (by decide) ?_
          refine lv_iadd hx hb dX1_bearingFrom_99 ?_
          refine lv_goto (tgt := 105) hx hb dX1_bearingFrom_100 (by decide) ?_
          exact hret _ _ _ (by unfold gbear gbear0; (repeat' split) <;> first | rfl | contradiction) (rfl) dX1_bearingFrom_105
      · refine lv_bipush (v := 32) hx hb dX1_bearingFrom_47 (by decide) ?_
        refine lv_goto (tgt := 53) hx hb dX1_bearingFrom_49 (by decide) ?_
        refine lv_iadd hx hb dX1_bearingFrom_53 ?_
        refine lv_istore (lv' := [(5, .int ((fdiv (8 * (gy ys pt p)) (gx xs pt p)) + 32)), (4, .int (gy ys pt p)), (3, .int (gx xs pt p)), (0, .ref h), (1, .int (nI pt)), (2, .int (nI p))]) hx hb dX1_bearingFrom_54 hl (by decide) rfl (fun ls hl => ?_)
        refine lv_goto (tgt := 90) hx hb dX1_bearingFrom_56 (by decide) ?_
        refine lv_iload hx hb dX1_bearingFrom_90 (lv_at hl 0 rfl) ?_
        refine lv_if_ge (tgt := 103) hx hb dX1_bearingFrom_92 (by decide) (fun c_92 => ?_) (fun c_92 => ?_)
        · refine lv_iload hx hb dX1_bearingFrom_103 (lv_at hl 0 rfl) ?_
          exact hret _ _ _ (by unfold gbear gbear0; (repeat' split) <;> first | rfl | contradiction) (rfl) dX1_bearingFrom_105
        · refine lv_iload hx hb dX1_bearingFrom_95 (lv_at hl 0 rfl) ?_
          refine lv_bipush (v := 64) hx hb dX1_bearingFrom_97 (by decide) ?_
          refine lv_iadd hx hb dX1_bearingFrom_99 ?_
          refine lv_goto (tgt := 105) hx hb dX1_bearingFrom_100 (by decide) ?_
          exact hret _ _ _ (by unfold gbear gbear0; (repeat' split) <;> first | rfl | contradiction) (rfl) dX1_bearingFrom_105

abbrev rX1_heightFrom : Room := { frames := 2, cells := 0, slots := 0, locals := 44 }
set_option maxHeartbeats 4000000 in
set_option maxRecDepth 100000 in
theorem c_X1_heightFrom (l : Launch) (G : kG) (h : Nat) (v : Nat → Int32) (q : Nat → Nat) (xs : Nat → Int32) (ys : Nat → Int32) (hs : Nat → Int32) (pt : Nat) (p : Nat) (hpt : pt < 64) (hp : p < 10) : Ri l G yX1_heightFrom wsX1_heightFrom rX1_heightFrom [.ref h, .int (nI pt), .int (nI p)] [oB h 1 (oF1 v q), aI G (q 0) 10 xs, aI G (q 1) 10 ys, aI G (q 2) 10 hs] (fun r => r = gstand xs ys hs pt p) := by
  refine Ri.of (cc := cX1_heightFrom) (maxL := 4) (by decide) rfl (Nat.le_of_ble_eq_true rfl) ?_
  intro pM eM sM mM bM tM cM Q hx hb hts hown hml hP hK hret ls hl
  have hown : sM.vm.findClass RX1 = some mM.cls := hown
  have hl : lv_has ls 4 [(0, .ref h), (1, .int (nI pt)), (2, .int (nI p))] := hl
  have hin1 : ∀ w ∈ u_ws RX1 TX1 11, w ∈ wsX1_heightFrom := by decide +kernel
  have f18 := hts (.fieldLink RX1 18 "HorizonPeaks$Land" "highs" "[I") (by decide +kernel)
  refine lv_aload_n hx hb dX1_heightFrom_0 rfl (lv_at hl 0 rfl) ?_
  refine lv_iload_n hx hb dX1_heightFrom_1 rfl (lv_at hl 1 rfl) ?_
  refine lv_iload_n hx hb dX1_heightFrom_2 rfl (lv_at hl 2 rfl) ?_
  refine rd_i (va_runV (As := [.int (nI pt), .int (nI p)]) (rest := []) ⟨hx, hb, hml, hown, hts⟩ (c_X1_reach l G h v q xs ys pt p (by assumption) (by assumption)) (cwV 2 hts gX1_heightFrom_X1_reach rfl rfl rfl (by decide +kernel) ⟨Nat.le_of_ble_eq_true rfl, Nat.le_of_ble_eq_true rfl⟩) (rPre_V hK hP [0, 1, 2] rfl 0 1 rfl rfl) rfl rfl hl.1 rfl (lv_room (Nat.le_of_ble_eq_true rfl)) dX1_heightFrom_3 ⟨Nat.zero_le _, Nat.zero_le _⟩) (fun r_3 q_3 => ?_)
  obtain rfl : r_3 = gway xs ys pt p := q_3
  refine lv_istore_n (lv' := [(3, .int (gway xs ys pt p)), (0, .ref h), (1, .int (nI pt)), (2, .int (nI p))]) hx hb dX1_heightFrom_6 rfl hl (by decide) rfl (fun ls hl => ?_)
  refine lv_iload_n hx hb dX1_heightFrom_7 rfl (lv_at hl 0 rfl) ?_
  refine lv_if_ne (tgt := 15) hx hb dX1_heightFrom_8 (by decide) (fun c_8 => ?_) (fun c_8 => ?_)
  · refine lv_bipush (v := 12) hx hb dX1_heightFrom_15 (by decide) ?_
    refine lv_aload_n hx hb dX1_heightFrom_17 rfl (lv_at hl 1 rfl) ?_
    refine va_get (D := G.1) (ci := 1) (v := .ref (q 2)) (C := RX1) (T := TX1) (N := 11) hx hb hts hin1 hown hK.1 hP 0 rfl rfl 2 (by decide) f18 (fun _ h9 => h9) rfl dX1_heightFrom_18 ?_
    refine lv_iload_n hx hb dX1_heightFrom_21 rfl (lv_at hl 3 rfl) ?_
    refine al_i hx hb hK.1 hP 3 0 rfl rfl (j := p) (by omega) (Nat.le_of_ble_eq_true rfl) dX1_heightFrom_22 ?_
    refine lv_imul hx hb dX1_heightFrom_23 ?_
    refine lv_iload_n hx hb dX1_heightFrom_24 rfl (lv_at hl 0 rfl) ?_
    refine lv_idiv hx hb dX1_heightFrom_25 (c_8) ?_
    exact hret _ _ _ (by simp [gstand, c_8]) (rfl) dX1_heightFrom_26
  · refine lv_iconst (v := 0) hx hb dX1_heightFrom_11 (by decide) ?_
    refine lv_goto (tgt := 26) hx hb dX1_heightFrom_12 (by decide) ?_
    exact hret _ _ _ (by simp [gstand, c_8]) (rfl) dX1_heightFrom_26

abbrev rX1_isInSecondHalf : Room := { frames := 1, cells := 0, slots := 0, locals := 22 }
set_option maxHeartbeats 4000000 in
set_option maxRecDepth 100000 in
theorem c_X1_isInSecondHalf (l : Launch) (G : kG) (h : Nat) (v : Nat → Int32) (q : Nat → Nat) (xs : Nat → Int32) (ys : Nat → Int32) (pt : Nat) (p : Nat) (hpt : pt < 64) (hp : p < 10) : Ri l G yX1_isInSecondHalf wsX1_isInSecondHalf rX1_isInSecondHalf [.ref h, .int (nI pt), .int (nI p)] [oB h 1 (oF1 v q), aI G (q 0) 10 xs, aI G (q 1) 10 ys] (fun r => r = b2i (ghalf (gx xs pt p) (gy ys pt p))) := by
  refine Ri.of (cc := cX1_isInSecondHalf) (maxL := 4) (by decide) rfl (Nat.le_of_ble_eq_true rfl) ?_
  intro pM eM sM mM bM tM cM Q hx hb hts hown hml hP hK hret ls hl
  have hown : sM.vm.findClass RX1 = some mM.cls := hown
  have hl : lv_has ls 4 [(0, .ref h), (1, .int (nI pt)), (2, .int (nI p))] := hl
  refine lv_aload_n hx hb dX1_isInSecondHalf_0 rfl (lv_at hl 0 rfl) ?_
  refine lv_iload_n hx hb dX1_isInSecondHalf_1 rfl (lv_at hl 1 rfl) ?_
  refine lv_iload_n hx hb dX1_isInSecondHalf_2 rfl (lv_at hl 2 rfl) ?_
  refine rd_i (va_runV (As := [.int (nI pt), .int (nI p)]) (rest := []) ⟨hx, hb, hml, hown, hts⟩ (c_X1_upOf l G h v q ys pt p (by assumption) (by assumption)) (cwV 2 hts gX1_isInSecondHalf_X1_upOf rfl rfl rfl (by decide +kernel) ⟨Nat.le_of_ble_eq_true rfl, Nat.le_of_ble_eq_true rfl⟩) (rPre_V hK hP [0, 2] rfl 0 1 rfl rfl) rfl rfl hl.1 rfl (lv_room (Nat.le_of_ble_eq_true rfl)) dX1_isInSecondHalf_3 ⟨Nat.zero_le _, Nat.zero_le _⟩) (fun r_3 q_3 => ?_)
  obtain rfl : r_3 = gy ys pt p := q_3
  refine lv_istore_n (lv' := [(3, .int (gy ys pt p)), (0, .ref h), (1, .int (nI pt)), (2, .int (nI p))]) hx hb dX1_isInSecondHalf_6 rfl hl (by decide) rfl (fun ls hl => ?_)
  refine lv_iload_n hx hb dX1_isInSecondHalf_7 rfl (lv_at hl 0 rfl) ?_
  refine lv_if_lt (tgt := 24) hx hb dX1_isInSecondHalf_8 (by decide) (fun c_8 => ?_) (fun c_8 => ?_)
  · refine lv_iconst (v := 1) hx hb dX1_isInSecondHalf_24 (by decide) ?_
    refine lv_goto (tgt := 29) hx hb dX1_isInSecondHalf_25 (by decide) ?_
    exact hret _ _ _ (by simp [b2i, ghalf, c_8]) (rfl) dX1_isInSecondHalf_29
  · refine lv_iload_n hx hb dX1_isInSecondHalf_11 rfl (lv_at hl 0 rfl) ?_
    refine lv_if_ne (tgt := 28) hx hb dX1_isInSecondHalf_12 (by decide) (fun c_12 => ?_) (fun c_12 => ?_)
    · refine lv_iconst (v := 0) hx hb dX1_isInSecondHalf_28 (by decide) ?_
      exact hret _ _ _ (by simp [b2i, ghalf, c_8, c_12]) (rfl) dX1_isInSecondHalf_29
    · refine lv_aload_n hx hb dX1_isInSecondHalf_15 rfl (lv_at hl 1 rfl) ?_
      refine lv_iload_n hx hb dX1_isInSecondHalf_16 rfl (lv_at hl 2 rfl) ?_
      refine lv_iload_n hx hb dX1_isInSecondHalf_17 rfl (lv_at hl 3 rfl) ?_
      refine rd_i (va_runV (As := [.int (nI pt), .int (nI p)]) (rest := []) ⟨hx, hb, hml, hown, hts⟩ (c_X1_rightOf l G h v q xs pt p (by assumption) (by assumption)) (cwV 2 hts gX1_isInSecondHalf_X1_rightOf rfl rfl rfl (by decide +kernel) ⟨Nat.le_of_ble_eq_true rfl, Nat.le_of_ble_eq_true rfl⟩) (rPre_V hK hP [0, 1] rfl 0 1 rfl rfl) rfl rfl hl.1 rfl (lv_room (Nat.le_of_ble_eq_true rfl)) dX1_isInSecondHalf_18 ⟨Nat.zero_le _, Nat.zero_le _⟩) (fun r_18 q_18 => ?_)
      obtain rfl : r_18 = gx xs pt p := q_18
      refine lv_if_ge (tgt := 28) hx hb dX1_isInSecondHalf_21 (by decide) (fun c_21 => ?_) (fun c_21 => ?_)
      · refine lv_iconst (v := 0) hx hb dX1_isInSecondHalf_28 (by decide) ?_
        exact hret _ _ _ (by simp [b2i, ghalf, c_8, c_12, c_21]) (rfl) dX1_isInSecondHalf_29
      · refine lv_iconst (v := 1) hx hb dX1_isInSecondHalf_24 (by decide) ?_
        refine lv_goto (tgt := 29) hx hb dX1_isInSecondHalf_25 (by decide) ?_
        exact hret _ _ _ (by simp [b2i, ghalf, c_8, c_12, c_21]) (rfl) dX1_isInSecondHalf_29

abbrev rX1_isAhead : Room := { frames := 2, cells := 0, slots := 0, locals := 45 }
set_option maxHeartbeats 4000000 in
set_option maxRecDepth 100000 in
theorem c_X1_isAhead (l : Launch) (G : kG) (h : Nat) (v : Nat → Int32) (q : Nat → Nat) (xs : Nat → Int32) (ys : Nat → Int32) (pt : Nat) (p : Nat) (p2 : Nat) (hpt : pt < 64) (hp : p < 10) (hp2 : p2 < 10) : Ri l G yX1_isAhead wsX1_isAhead rX1_isAhead [.ref h, .int (nI pt), .int (nI p), .int (nI p2)] [oB h 1 (oF1 v q), aI G (q 0) 10 xs, aI G (q 1) 10 ys] (fun r => r = b2i (gahead xs ys pt p p2)) := by
  refine Ri.of (cc := cX1_isAhead) (maxL := 6) (by decide) rfl (Nat.le_of_ble_eq_true rfl) ?_
  intro pM eM sM mM bM tM cM Q hx hb hts hown hml hP hK hret ls hl
  have hown : sM.vm.findClass RX1 = some mM.cls := hown
  have hl : lv_has ls 6 [(0, .ref h), (1, .int (nI pt)), (2, .int (nI p)), (3, .int (nI p2))] := hl
  refine lv_aload_n hx hb dX1_isAhead_0 rfl (lv_at hl 0 rfl) ?_
  refine lv_iload_n hx hb dX1_isAhead_1 rfl (lv_at hl 1 rfl) ?_
  refine lv_iload_n hx hb dX1_isAhead_2 rfl (lv_at hl 2 rfl) ?_
  refine rd_i (va_runV (As := [.int (nI pt), .int (nI p)]) (rest := []) ⟨hx, hb, hml, hown, hts⟩ (c_X1_isInSecondHalf l G h v q xs ys pt p (by assumption) (by assumption)) (cwV 2 hts gX1_isAhead_X1_isInSecondHalf rfl rfl rfl (by decide +kernel) ⟨Nat.le_of_ble_eq_true rfl, Nat.le_of_ble_eq_true rfl⟩) (rPre_V hK hP [0, 1, 2] rfl 0 1 rfl rfl) rfl rfl hl.1 rfl (lv_room (Nat.le_of_ble_eq_true rfl)) dX1_isAhead_3 ⟨Nat.zero_le _, Nat.zero_le _⟩) (fun r_3 q_3 => ?_)
  obtain rfl : r_3 = b2i (ghalf (gx xs pt p) (gy ys pt p)) := q_3
  refine lv_istore (lv' := [(4, .int (b2i (ghalf (gx xs pt p) (gy ys pt p)))), (0, .ref h), (1, .int (nI pt)), (2, .int (nI p)), (3, .int (nI p2))]) hx hb dX1_isAhead_6 hl (by decide) rfl (fun ls hl => ?_)
  refine lv_iload hx hb dX1_isAhead_8 (lv_at hl 0 rfl) ?_
  refine lv_aload_n hx hb dX1_isAhead_10 rfl (lv_at hl 1 rfl) ?_
  refine lv_iload_n hx hb dX1_isAhead_11 rfl (lv_at hl 2 rfl) ?_
  refine lv_iload_n hx hb dX1_isAhead_12 rfl (lv_at hl 4 rfl) ?_
  refine rd_i (va_runV (As := [.int (nI pt), .int (nI p2)]) (rest := [.int (b2i (ghalf (gx xs pt p) (gy ys pt p)))]) ⟨hx, hb, hml, hown, hts⟩ (c_X1_isInSecondHalf l G h v q xs ys pt p2 (by assumption) (by assumption)) (cwV 2 hts gX1_isAhead_X1_isInSecondHalf rfl rfl rfl (by decide +kernel) ⟨Nat.le_of_ble_eq_true rfl, Nat.le_of_ble_eq_true rfl⟩) (rPre_V hK hP [0, 1, 2] rfl 0 1 rfl rfl) rfl rfl hl.1 rfl (lv_room (Nat.le_of_ble_eq_true rfl)) dX1_isAhead_13 ⟨Nat.zero_le _, Nat.zero_le _⟩) (fun r_13 q_13 => ?_)
  obtain rfl : r_13 = b2i (ghalf (gx xs pt p2) (gy ys pt p2)) := q_13
  refine lv_icmp_eq (tgt := 30) hx hb dX1_isAhead_16 (by decide) (fun c_16 => ?_) (fun c_16 => ?_)
  · have c_16 := b2i_inj.mp c_16
    refine lv_aload_n hx hb dX1_isAhead_30 rfl (lv_at hl 1 rfl) ?_
    refine lv_iload_n hx hb dX1_isAhead_31 rfl (lv_at hl 2 rfl) ?_
    refine lv_iload_n hx hb dX1_isAhead_32 rfl (lv_at hl 3 rfl) ?_
    refine lv_iload_n hx hb dX1_isAhead_33 rfl (lv_at hl 4 rfl) ?_
    refine rd_i (va_runV (As := [.int (nI pt), .int (nI p), .int (nI p2)]) (rest := []) ⟨hx, hb, hml, hown, hts⟩ (c_X1_turnLeft l G h v q xs ys pt p p2 (by assumption) (by assumption) (by assumption)) (cwV 3 hts gX1_isAhead_X1_turnLeft rfl rfl rfl (by decide +kernel) ⟨Nat.le_of_ble_eq_true rfl, Nat.le_of_ble_eq_true rfl⟩) (rPre_V hK hP [0, 1, 2] rfl 0 1 rfl rfl) rfl rfl hl.1 rfl (lv_room (Nat.le_of_ble_eq_true rfl)) dX1_isAhead_34 ⟨Nat.zero_le _, Nat.zero_le _⟩) (fun r_34 q_34 => ?_)
    obtain rfl : r_34 = gturn xs ys pt p p2 := q_34
    refine lv_istore (lv' := [(5, .int (gturn xs ys pt p p2)), (4, .int (b2i (ghalf (gx xs pt p) (gy ys pt p)))), (0, .ref h), (1, .int (nI pt)), (2, .int (nI p)), (3, .int (nI p2))]) hx hb dX1_isAhead_37 hl (by decide) rfl (fun ls hl => ?_)
    refine lv_iload hx hb dX1_isAhead_39 (lv_at hl 0 rfl) ?_
    refine lv_if_gt (tgt := 64) hx hb dX1_isAhead_41 (by decide) (fun c_41 => ?_) (fun c_41 => ?_)
    · refine lv_iconst (v := 1) hx hb dX1_isAhead_64 (by decide) ?_
      refine lv_goto (tgt := 69) hx hb dX1_isAhead_65 (by decide) ?_
      exact hret _ _ _ (by rw [gahead, if_pos c_16]; simp [b2i, c_16, c_41]) (rfl) dX1_isAhead_69
    · refine lv_iload hx hb dX1_isAhead_44 (lv_at hl 0 rfl) ?_
      refine lv_if_ne (tgt := 68) hx hb dX1_isAhead_46 (by decide) (fun c_46 => ?_) (fun c_46 => ?_)
      · refine lv_iconst (v := 0) hx hb dX1_isAhead_68 (by decide) ?_
        exact hret _ _ _ (by rw [gahead, if_pos c_16]; simp [b2i, c_16, c_41, c_46]) (rfl) dX1_isAhead_69
      · refine lv_aload_n hx hb dX1_isAhead_49 rfl (lv_at hl 2 rfl) ?_
        refine lv_iload_n hx hb dX1_isAhead_50 rfl (lv_at hl 3 rfl) ?_
        refine lv_iload_n hx hb dX1_isAhead_51 rfl (lv_at hl 4 rfl) ?_
        refine rd_i (va_runV (As := [.int (nI pt), .int (nI p)]) (rest := []) ⟨hx, hb, hml, hown, hts⟩ (c_X1_reach l G h v q xs ys pt p (by assumption) (by assumption)) (cwV 2 hts gX1_isAhead_X1_reach rfl rfl rfl (by decide +kernel) ⟨Nat.le_of_ble_eq_true rfl, Nat.le_of_ble_eq_true rfl⟩) (rPre_V hK hP [0, 1, 2] rfl 0 1 rfl rfl) rfl rfl hl.1 rfl (lv_room (Nat.le_of_ble_eq_true rfl)) dX1_isAhead_52 ⟨Nat.zero_le _, Nat.zero_le _⟩) (fun r_52 q_52 => ?_)
        obtain rfl : r_52 = gway xs ys pt p := q_52
        refine lv_aload_n hx hb dX1_isAhead_55 rfl (lv_at hl 2 rfl) ?_
        refine lv_iload_n hx hb dX1_isAhead_56 rfl (lv_at hl 3 rfl) ?_
        refine lv_iload_n hx hb dX1_isAhead_57 rfl (lv_at hl 5 rfl) ?_
        refine rd_i (va_runV (As := [.int (nI pt), .int (nI p2)]) (rest := [.int (gway xs ys pt p)]) ⟨hx, hb, hml, hown, hts⟩ (c_X1_reach l G h v q xs ys pt p2 (by assumption) (by assumption)) (cwV 2 hts gX1_isAhead_X1_reach rfl rfl rfl (by decide +kernel) ⟨Nat.le_of_ble_eq_true rfl, Nat.le_of_ble_eq_true rfl⟩) (rPre_V hK hP [0, 1, 2] rfl 0 1 rfl rfl) rfl rfl hl.1 rfl (lv_room (Nat.le_of_ble_eq_true rfl)) dX1_isAhead_58 ⟨Nat.zero_le _, Nat.zero_le _⟩) (fun r_58 q_58 => ?_)
        obtain rfl : r_58 = gway xs ys pt p2 := q_58
        refine lv_icmp_ge (tgt := 68) hx hb dX1_isAhead_61 (by decide) (fun c_61 => ?_) (fun c_61 => ?_)
        · refine lv_iconst (v := 0) hx hb dX1_isAhead_68 (by decide) ?_
          exact hret _ _ _ (by rw [gahead, if_pos c_16]; simp [b2i, c_16, c_41, c_46, c_61]) (rfl) dX1_isAhead_69
        · refine lv_iconst (v := 1) hx hb dX1_isAhead_64 (by decide) ?_
          refine lv_goto (tgt := 69) hx hb dX1_isAhead_65 (by decide) ?_
          exact hret _ _ _ (by rw [gahead, if_pos c_16]; simp [b2i, c_16, c_41, c_46, c_61]) (rfl) dX1_isAhead_69
  · have c_16 : ¬ ghalf (gx xs pt p) (gy ys pt p) = ghalf (gx xs pt p2) (gy ys pt p2) := fun h => c_16 (b2i_inj.mpr h)
    refine lv_iload hx hb dX1_isAhead_19 (lv_at hl 0 rfl) ?_
    refine lv_if_ne (tgt := 28) hx hb dX1_isAhead_21 (by decide) (fun c_21 => ?_) (fun c_21 => ?_)
    · have c_21 : (ghalf (gx xs pt p) (gy ys pt p)) = true := b2i_n0.mp c_21
      refine lv_iconst (v := 0) hx hb dX1_isAhead_28 (by decide) ?_
      exact hret _ _ _ (by rw [gahead, if_neg c_16, c_21]; rfl) (rfl) dX1_isAhead_29
    · have c_21 : (ghalf (gx xs pt p) (gy ys pt p)) = false := b2i_0.mp c_21
      refine lv_iconst (v := 1) hx hb dX1_isAhead_24 (by decide) ?_
      refine lv_goto (tgt := 29) hx hb dX1_isAhead_25 (by decide) ?_
      exact hret _ _ _ (by rw [gahead, if_neg c_16, c_21]; rfl) (rfl) dX1_isAhead_29

abbrev rX1_isHidden : Room := { frames := 4, cells := 0, slots := 0, locals := 94 }
set_option maxHeartbeats 4000000 in
set_option maxRecDepth 100000 in
theorem c_X1_isHidden (l : Launch) (G : kG) (h : Nat) (v : Nat → Int32) (q : Nat → Nat) (xs : Nat → Int32) (ys : Nat → Int32) (hs : Nat → Int32) (fs : Nat → Int32) (ss : Nat → Int32) (fa : Nat → Nat) (sa : Nat → Nat) (n : Nat) (mm : Nat) (pt : Nat) (p : Nat) (hpt : pt < 64) (hp : p < 10) (hv : v 3 = nI n) (hn : n ≤ 10) (hw : v 6 = nI mm) (hF : ∀ r, r < mm → fs r = nI (fa r) ∧ ss r = nI (sa r) ∧ fa r < 10 ∧ sa r < 10) (hm8 : mm ≤ 8) : Ri l G yX1_isHidden wsX1_isHidden rX1_isHidden [.ref h, .int (nI pt), .int (nI p)] [oB h 1 (oF1 v q), aI G (q 0) 10 xs, aI G (q 1) 10 ys, aI G (q 2) 10 hs, aI G (q 4) 8 fs, aI G (q 5) 8 ss] (fun r => r = b2i (ghid xs ys hs n fa sa mm pt p)) := by
  refine Ri.of (cc := cX1_isHidden) (maxL := 4) (by decide) rfl (Nat.le_of_ble_eq_true rfl) ?_
  intro pM eM sM mM bM tM cM Q hx hb hts hown hml hP hK hret ls hl
  have hown : sM.vm.findClass RX1 = some mM.cls := hown
  have hl : lv_has ls 4 [(0, .ref h), (1, .int (nI pt)), (2, .int (nI p))] := hl
  have hin1 : ∀ w ∈ u_ws RX1 TX1 11, w ∈ wsX1_isHidden := by decide +kernel
  have f41 := hts (.fieldLink RX1 41 "HorizonPeaks$Land" "peaks" "I") (by decide +kernel)
  have f44 := hts (.fieldLink RX1 44 "HorizonPeaks$Land" "ridges" "I") (by decide +kernel)
  refine lv_iconst (v := 0) hx hb dX1_isHidden_0 (by decide) ?_
  refine lv_istore_n (lv' := [(3, .int 0), (0, .ref h), (1, .int (nI pt)), (2, .int (nI p))]) hx hb dX1_isHidden_1 rfl hl (by decide) rfl (fun ls hl => ?_)
  have loop_2 : ∀ (nF : Nat) (k : Nat), (n - k) < nF → (k ≤ n) → (∀ j, j < k → gpeak xs ys hs pt p j = false) → ∀ (ls : Array Slot), lv_has ls 4 [(3, .int (nI k)), (0, .ref h), (1, .int (nI pt)), (2, .int (nI p))] → W pM l eM rX1_isHidden sM mM [.ref h, .int (nI pt), .int (nI p)].toArray bM tM cM sM.heap [] 0 0 Q (F0 mM 2 ls []) := by
    intro nF
    induction nF with
    | zero => intro k hmF; exact absurd hmF (Nat.not_lt_zero _)
    | succ nF ih2 =>
      intro k hmF hk hi ls hl
      refine lv_iload_n hx hb dX1_isHidden_2 rfl (lv_at hl 0 rfl) ?_
      refine lv_aload_n hx hb dX1_isHidden_3 rfl (lv_at hl 1 rfl) ?_
      refine va_get (D := G.1) (ci := 1) (v := .int (v 3)) (C := RX1) (T := TX1) (N := 11) hx hb hts hin1 hown hK.1 hP 0 rfl rfl 3 (by decide) f41 (fun _ h9 => h9) rfl dX1_isHidden_4 ?_
      refine top_i (y := nI n) (hv) ?_
      refine lv_icmp_ge (tgt := 28) hx hb dX1_isHidden_7 (by decide) (fun c_7 => ?_) (fun c_7 => ?_)
      · have c_7 : n ≤ k := (c_le (a := n) (b := k) rfl rfl (by omega) (by omega)).mp c_7
        refine lv_iconst (v := 0) hx hb dX1_isHidden_28 (by decide) ?_
        refine lv_istore_n (lv' := [(3, .int 0), (0, .ref h), (1, .int (nI pt)), (2, .int (nI p))]) hx hb dX1_isHidden_29 rfl hl (by decide) rfl (fun ls hl => ?_)
        have loop_30 : ∀ (nF : Nat) (k2 : Nat), (mm - k2) < nF → (k2 ≤ mm) → (∀ j, j < k2 → gridge xs ys hs pt p (fa j) (sa j) = false) → ∀ (ls : Array Slot), lv_has ls 4 [(3, .int (nI k2)), (0, .ref h), (1, .int (nI pt)), (2, .int (nI p))] → W pM l eM rX1_isHidden sM mM [.ref h, .int (nI pt), .int (nI p)].toArray bM tM cM sM.heap [] 0 0 Q (F0 mM 30 ls []) := by
          intro nF
          induction nF with
          | zero => intro k2 hmF; exact absurd hmF (Nat.not_lt_zero _)
          | succ nF ih30 =>
            intro k2 hmF hk2 hi2 ls hl
            refine lv_iload_n hx hb dX1_isHidden_30 rfl (lv_at hl 0 rfl) ?_
            refine lv_aload_n hx hb dX1_isHidden_31 rfl (lv_at hl 1 rfl) ?_
            refine va_get (D := G.1) (ci := 1) (v := .int (v 6)) (C := RX1) (T := TX1) (N := 11) hx hb hts hin1 hown hK.1 hP 0 rfl rfl 6 (by decide) f44 (fun _ h9 => h9) rfl dX1_isHidden_32 ?_
            refine top_i (y := nI mm) (hw) ?_
            refine lv_icmp_ge (tgt := 56) hx hb dX1_isHidden_35 (by decide) (fun c_35 => ?_) (fun c_35 => ?_)
            · have c_35 : mm ≤ k2 := (c_le (a := mm) (b := k2) rfl rfl (by omega) (by omega)).mp c_35
              refine lv_iconst (v := 0) hx hb dX1_isHidden_56 (by decide) ?_
              exact hret _ _ _ (by rw [ghid, anyB_no.mpr (fun j hj => hi j (by omega)), anyB_no.mpr (fun j hj => hi2 j (by omega))]; rfl) (rfl) dX1_isHidden_57
            · have c_35 : ¬ mm ≤ k2 := fun hne => c_35 ((c_le (a := mm) (b := k2) rfl rfl (by omega) (by omega)).mpr hne)
              refine lv_aload_n hx hb dX1_isHidden_38 rfl (lv_at hl 1 rfl) ?_
              refine lv_iload_n hx hb dX1_isHidden_39 rfl (lv_at hl 2 rfl) ?_
              refine lv_iload_n hx hb dX1_isHidden_40 rfl (lv_at hl 3 rfl) ?_
              refine lv_iload_n hx hb dX1_isHidden_41 rfl (lv_at hl 0 rfl) ?_
              refine rd_i (va_runV (As := [.int (nI pt), .int (nI p), .int (nI k2)]) (rest := []) ⟨hx, hb, hml, hown, hts⟩ (c_X1_ridgeHides l G h v q xs ys hs fs ss fa sa mm pt p k2 (hpt) (hp) (hF) (hm8) (by omega)) (cwV 3 hts gX1_isHidden_X1_ridgeHides rfl rfl rfl (by decide +kernel) ⟨Nat.le_of_ble_eq_true rfl, Nat.le_of_ble_eq_true rfl⟩) (rPre_V hK hP [0, 1, 2, 3, 4, 5] rfl 0 1 rfl rfl) rfl rfl hl.1 rfl (lv_room (Nat.le_of_ble_eq_true rfl)) dX1_isHidden_42 ⟨Nat.zero_le _, Nat.zero_le _⟩) (fun r_42 q_42 => ?_)
              obtain rfl : r_42 = b2i (gridge xs ys hs pt p (fa k2) (sa k2)) := q_42
              refine lv_if_eq (tgt := 50) hx hb dX1_isHidden_45 (by decide) (fun c_45 => ?_) (fun c_45 => ?_)
              · have c_45 : (gridge xs ys hs pt p (fa k2) (sa k2)) = false := b2i_0.mp c_45
                refine lv_iinc (v := nI (k2 + 1)) (lv' := [(3, .int (nI (k2 + 1))), (0, .ref h), (1, .int (nI pt)), (2, .int (nI p))]) hx hb dX1_isHidden_50 hl (k := 0) rfl (inc_nI _ 1) (by decide) rfl (fun ls hl => ?_)
                refine lv_goto (tgt := 30) hx hb dX1_isHidden_53 (by decide) ?_
                exact ih30 (k2 + 1) (by omega) (by omega) (fun j h => (Nat.lt_succ_iff_lt_or_eq.mp h).elim (hi2 j) (fun e => e ▸ c_45)) _ (lv_sub hl [0, 1, 2, 3] rfl)
              · have c_45 : (gridge xs ys hs pt p (fa k2) (sa k2)) = true := b2i_n0.mp c_45
                refine lv_iconst (v := 1) hx hb dX1_isHidden_48 (by decide) ?_
                exact hret _ _ _ (by rw [ghid, anyB_yes (f := fun r => gridge xs ys hs pt p (fa r) (sa r)) (k := k2) (by omega) c_45, Bool.or_true]; rfl) (rfl) dX1_isHidden_49
        exact loop_30 _ 0 (Nat.lt_succ_self _) (Nat.zero_le _) (fun j h => absurd h (Nat.not_lt_zero j)) _ (lv_sub hl [0, 1, 2, 3] rfl)
      · have c_7 : ¬ n ≤ k := fun hne => c_7 ((c_le (a := n) (b := k) rfl rfl (by omega) (by omega)).mpr hne)
        refine lv_aload_n hx hb dX1_isHidden_10 rfl (lv_at hl 1 rfl) ?_
        refine lv_iload_n hx hb dX1_isHidden_11 rfl (lv_at hl 2 rfl) ?_
        refine lv_iload_n hx hb dX1_isHidden_12 rfl (lv_at hl 3 rfl) ?_
        refine lv_iload_n hx hb dX1_isHidden_13 rfl (lv_at hl 0 rfl) ?_
        refine rd_i (va_runV (As := [.int (nI pt), .int (nI p), .int (nI k)]) (rest := []) ⟨hx, hb, hml, hown, hts⟩ (c_X1_peakHides l G h v q xs ys hs pt p k (hpt) (hp) (by omega)) (cwV 3 hts gX1_isHidden_X1_peakHides rfl rfl rfl (by decide +kernel) ⟨Nat.le_of_ble_eq_true rfl, Nat.le_of_ble_eq_true rfl⟩) (rPre_V hK hP [0, 1, 2, 3] rfl 0 1 rfl rfl) rfl rfl hl.1 rfl (lv_room (Nat.le_of_ble_eq_true rfl)) dX1_isHidden_14 ⟨Nat.zero_le _, Nat.zero_le _⟩) (fun r_14 q_14 => ?_)
        obtain rfl : r_14 = b2i (gpeak xs ys hs pt p k) := q_14
        refine lv_if_eq (tgt := 22) hx hb dX1_isHidden_17 (by decide) (fun c_17 => ?_) (fun c_17 => ?_)
        · have c_17 : (gpeak xs ys hs pt p k) = false := b2i_0.mp c_17
          refine lv_iinc (v := nI (k + 1)) (lv' := [(3, .int (nI (k + 1))), (0, .ref h), (1, .int (nI pt)), (2, .int (nI p))]) hx hb dX1_isHidden_22 hl (k := 0) rfl (inc_nI _ 1) (by decide) rfl (fun ls hl => ?_)
          refine lv_goto (tgt := 2) hx hb dX1_isHidden_25 (by decide) ?_
          exact ih2 (k + 1) (by omega) (by omega) (fun j h => (Nat.lt_succ_iff_lt_or_eq.mp h).elim (hi j) (fun e => e ▸ c_17)) _ (lv_sub hl [0, 1, 2, 3] rfl)
        · have c_17 : (gpeak xs ys hs pt p k) = true := b2i_n0.mp c_17
          refine lv_iconst (v := 1) hx hb dX1_isHidden_20 (by decide) ?_
          exact hret _ _ _ (by rw [ghid, anyB_yes (k := k) (by omega) c_17]; rfl) (rfl) dX1_isHidden_21
  exact loop_2 _ 0 (Nat.lt_succ_self _) (Nat.zero_le _) (fun j h => absurd h (Nat.not_lt_zero j)) _ (lv_sub hl [0, 1, 2, 3] rfl)

abbrev rX1_survey : Room := { frames := 5, cells := 0, slots := 0, locals := 117 }
set_option maxHeartbeats 4000000 in
set_option maxRecDepth 100000 in
theorem c_X1_survey (l : Launch) (G : kG) (h : Nat) (v : Nat → Int32) (q : Nat → Nat) (xs : Nat → Int32) (ys : Nat → Int32) (hs : Nat → Int32) (fs : Nat → Int32) (ss : Nat → Int32) (pk : Nat → Int32) (vis : Nat → Int32) (fa : Nat → Nat) (sa : Nat → Nat) (n : Nat) (mm : Nat) (hv : v 3 = nI n) (hn : n ≤ 10) (hw : v 6 = nI mm) (hF : ∀ r, r < mm → fs r = nI (fa r) ∧ ss r = nI (sa r) ∧ fa r < 10 ∧ sa r < 10) (hm8 : mm ≤ 8) : Cv l G yX1_survey wsX1_survey rX1_survey [.ref h] [oB h 1 (oF1 v q), aI G (q 0) 10 xs, aI G (q 1) 10 ys, aI G (q 2) 10 hs, aI G (q 4) 8 fs, aI G (q 5) 8 ss, aZ G (q 8) 64 pk, aI G (q 9) 64 vis] (fun (u : Nat → Int32) => ∀ i, i < 64 → u i = gvis xs ys hs n fa sa mm pk i) (fun u => [oB h 1 (oF1 v q), aI G (q 0) 10 xs, aI G (q 1) 10 ys, aI G (q 2) 10 hs, aI G (q 4) 8 fs, aI G (q 5) 8 ss, aZ G (q 8) 64 pk, aI G (q 9) 64 u]) 0 0 := by
  refine Cv.of (cc := cX1_survey) (maxL := 3) (by decide) rfl (Nat.le_of_ble_eq_true rfl) ?_
  intro pM eM sM mM bM tM cM Q A hx hb hts hown hml hnm hA hK hP hD hS hret ls hl
  have hown : sM.vm.findClass RX1 = some mM.cls := hown
  have hl : lv_has ls 3 [(0, .ref h)] := hl
  have hin1 : ∀ w ∈ u_ws RX1 TX1 11, w ∈ wsX1_survey := by decide +kernel
  have f35 := hts (.fieldLink RX1 35 "HorizonPeaks$Land" "inSight" "[I") (by decide +kernel)
  have f41 := hts (.fieldLink RX1 41 "HorizonPeaks$Land" "peaks" "I") (by decide +kernel)
  have f31 := hts (.fieldLink RX1 31 "HorizonPeaks$Land" "peakAt" "[Z") (by decide +kernel)
  refine lv_iconst (v := 0) hx hb dX1_survey_0 (by decide) ?_
  refine lv_istore_n (lv' := [(1, .int 0), (0, .ref h)]) hx hb dX1_survey_1 rfl hl (by decide) rfl (fun ls hl => ?_)
  have loop_2 : ∀ (nF : Nat) (k : Nat) (f : Nat → Int32), (64 - k) < nF → (k ≤ 64) → (∀ i, i < k → f i = gvis xs ys hs n fa sa mm pk i) → ∀ (H : Heap) (locs : List Loc), va_P G.1 vwCl [oB h 1 (oF1 v q), aI G (q 0) 10 xs, aI G (q 1) 10 ys, aI G (q 2) 10 hs, aI G (q 4) 8 fs, aI G (q 5) 8 ss, aZ G (q 8) 64 pk, aI G (q 9) 64 f] H → va_D A [oB h 1 (oF1 v q), aI G (q 0) 10 xs, aI G (q 1) 10 ys, aI G (q 2) 10 hs, aI G (q 4) 8 fs, aI G (q 5) 8 ss, aZ G (q 8) 64 pk, aI G (q 9) 64 f] → va_S A sM.heap H locs → ∀ (ls : Array Slot), lv_has ls 3 [(1, .int (nI k)), (0, .ref h)] → W pM l eM rX1_survey sM mM [.ref h].toArray bM tM cM H locs 0 0 Q (F0 mM 2 ls []) := by
    intro nF
    induction nF with
    | zero => intro k f hmF; exact absurd hmF (Nat.not_lt_zero _)
    | succ nF ih2 =>
      intro k f hmF hk hi H locs hP hD hS ls hl
      refine lv_iload_n hx hb dX1_survey_2 rfl (lv_at hl 0 rfl) ?_
      refine lv_bipush (v := 64) hx hb dX1_survey_3 (by decide) ?_
      refine lv_icmp_ge (tgt := 67) hx hb dX1_survey_5 (by decide) (fun c_5 => ?_) (fun c_5 => ?_)
      · have c_5 : 64 ≤ k := (c_le (a := 64) (b := k) rfl rfl (by omega) (by omega)).mp c_5
        exact hret f _ _ _ _ (fun i h => hi i (by omega)) hP hD hS dX1_survey_67
      · have c_5 : ¬ 64 ≤ k := fun hne => c_5 ((c_le (a := 64) (b := k) rfl rfl (by omega) (by omega)).mpr hne)
        refine lv_aload_n hx hb dX1_survey_8 rfl (lv_at hl 1 rfl) ?_
        refine va_get (D := G.1) (ci := 1) (v := .ref (q 9)) (C := RX1) (T := TX1) (N := 11) hx hb hts hin1 hown hK.1 hP 0 rfl rfl 9 (by decide) f35 (fun _ h9 => h9) rfl dX1_survey_9 ?_
        refine lv_iload_n hx hb dX1_survey_12 rfl (lv_at hl 0 rfl) ?_
        refine lv_iconst (v := 0) hx hb dX1_survey_13 (by decide) ?_
        refine as_i hx hb hK.1 hP hD hS 7 0 rfl rfl (j := k) (by omega) (Nat.le_of_ble_eq_true rfl) dX1_survey_14 (fun H locs hP hD hS => ?_)
        have hP : va_P G.1 vwCl [oB h 1 (oF1 v q), aI G (q 0) 10 xs, aI G (q 1) 10 ys, aI G (q 2) 10 hs, aI G (q 4) 8 fs, aI G (q 5) 8 ss, aZ G (q 8) 64 pk, aI G (q 9) 64 (upd f k 0)] H := hP
        have hD : va_D A [oB h 1 (oF1 v q), aI G (q 0) 10 xs, aI G (q 1) 10 ys, aI G (q 2) 10 hs, aI G (q 4) 8 fs, aI G (q 5) 8 ss, aZ G (q 8) 64 pk, aI G (q 9) 64 (upd f k 0)] := hD
        refine lv_iconst (v := 0) hx hb dX1_survey_15 (by decide) ?_
        refine lv_istore_n (lv' := [(2, .int 0), (1, .int (nI k)), (0, .ref h)]) hx hb dX1_survey_16 rfl hl (by decide) rfl (fun ls hl => ?_)
        have loop_17 : ∀ (nF : Nat) (j : Nat) (g : Nat → Int32), (n - j) < nF → (j ≤ n) → (∀ i, i < k → g i = gvis xs ys hs n fa sa mm pk i) → (g k = gbits (fun p => !ghid xs ys hs n fa sa mm k p) j) → (pk k = 0 ∨ j = 0) → ∀ (H : Heap) (locs : List Loc), va_P G.1 vwCl [oB h 1 (oF1 v q), aI G (q 0) 10 xs, aI G (q 1) 10 ys, aI G (q 2) 10 hs, aI G (q 4) 8 fs, aI G (q 5) 8 ss, aZ G (q 8) 64 pk, aI G (q 9) 64 g] H → va_D A [oB h 1 (oF1 v q), aI G (q 0) 10 xs, aI G (q 1) 10 ys, aI G (q 2) 10 hs, aI G (q 4) 8 fs, aI G (q 5) 8 ss, aZ G (q 8) 64 pk, aI G (q 9) 64 g] → va_S A sM.heap H locs → ∀ (ls : Array Slot), lv_has ls 3 [(2, .int (nI j)), (1, .int (nI k)), (0, .ref h)] → W pM l eM rX1_survey sM mM [.ref h].toArray bM tM cM H locs 0 0 Q (F0 mM 17 ls []) := by
          intro nF
          induction nF with
          | zero => intro j g hmF; exact absurd hmF (Nat.not_lt_zero _)
          | succ nF ih17 =>
            intro j g hmF hj hg hb2 hb0 H locs hP hD hS ls hl
            refine lv_iload_n hx hb dX1_survey_17 rfl (lv_at hl 0 rfl) ?_
            refine lv_aload_n hx hb dX1_survey_18 rfl (lv_at hl 2 rfl) ?_
            refine va_get (D := G.1) (ci := 1) (v := .int (v 3)) (C := RX1) (T := TX1) (N := 11) hx hb hts hin1 hown hK.1 hP 0 rfl rfl 3 (by decide) f41 (fun _ h9 => h9) rfl dX1_survey_19 ?_
            refine top_i (y := nI n) (hv) ?_
            refine lv_icmp_ge (tgt := 61) hx hb dX1_survey_22 (by decide) (fun c_22 => ?_) (fun c_22 => ?_)
            · have c_22 : n ≤ j := (c_le (a := n) (b := j) rfl rfl (by omega) (by omega)).mp c_22
              refine lv_iinc (v := nI (k + 1)) (lv' := [(1, .int (nI (k + 1))), (2, .int (nI j)), (0, .ref h)]) hx hb dX1_survey_61 hl (k := 1) rfl (inc_nI _ 1) (by decide) rfl (fun ls hl => ?_)
              refine lv_goto (tgt := 2) hx hb dX1_survey_64 (by decide) ?_
              exact ih2 (k + 1) g (by omega) (by omega) (fun i h => (Nat.lt_succ_iff_lt_or_eq.mp h).elim (hg i) (fun e => by rw [e, hb2, gvis, show j = n by omega]; exact hb0.elim (fun h0 => by rw [if_pos h0]) (fun h0 => by rw [show n = 0 by omega]; simp [gbits]))) _ _ hP hD hS _ (lv_sub hl [0, 2] rfl)
            · have c_22 : ¬ n ≤ j := fun hne => c_22 ((c_le (a := n) (b := j) rfl rfl (by omega) (by omega)).mpr hne)
              refine lv_aload_n hx hb dX1_survey_25 rfl (lv_at hl 2 rfl) ?_
              refine va_get (D := G.1) (ci := 1) (v := .ref (q 8)) (C := RX1) (T := TX1) (N := 11) hx hb hts hin1 hown hK.1 hP 0 rfl rfl 8 (by decide) f31 (fun _ h9 => h9) rfl dX1_survey_26 ?_
              refine lv_iload_n hx hb dX1_survey_29 rfl (lv_at hl 1 rfl) ?_
              refine al_z hx hb hK.1 hP 6 2 rfl rfl (j := k) (by omega) (Nat.le_of_ble_eq_true rfl) dX1_survey_30 ?_
              refine lv_if_ne (tgt := 61) hx hb dX1_survey_31 (by decide) (fun c_31 => ?_) (fun c_31 => ?_)
              · refine lv_iinc (v := nI (k + 1)) (lv' := [(1, .int (nI (k + 1))), (2, .int (nI j)), (0, .ref h)]) hx hb dX1_survey_61 hl (k := 1) rfl (inc_nI _ 1) (by decide) rfl (fun ls hl => ?_)
                refine lv_goto (tgt := 2) hx hb dX1_survey_64 (by decide) ?_
                exact ih2 (k + 1) g (by omega) (by omega) (fun i h => (Nat.lt_succ_iff_lt_or_eq.mp h).elim (hg i) (fun e => by rw [e, hb2, gvis, if_neg c_31, hb0.resolve_left c_31]; rfl)) _ _ hP hD hS _ (lv_sub hl [0, 2] rfl)
              · refine lv_aload_n hx hb dX1_survey_34 rfl (lv_at hl 2 rfl) ?_
                refine lv_iload_n hx hb dX1_survey_35 rfl (lv_at hl 1 rfl) ?_
                refine lv_iload_n hx hb dX1_survey_36 rfl (lv_at hl 0 rfl) ?_
                refine rd_i (va_runV (As := [.int (nI k), .int (nI j)]) (rest := []) ⟨hx, hb, hml, hown, hts⟩ (c_X1_isHidden l G h v q xs ys hs fs ss fa sa n mm k j (by omega) (by omega) (hv) (hn) (hw) (hF) (hm8)) (cwV 2 hts gX1_survey_X1_isHidden rfl rfl rfl (by decide +kernel) ⟨Nat.le_of_ble_eq_true rfl, Nat.le_of_ble_eq_true rfl⟩) (rPre_V hK hP [0, 1, 2, 3, 4, 5] rfl 0 1 rfl rfl) rfl rfl hl.1 rfl (lv_room (Nat.le_of_ble_eq_true rfl)) dX1_survey_37 ⟨Nat.zero_le _, Nat.zero_le _⟩) (fun r_37 q_37 => ?_)
                obtain rfl : r_37 = b2i (ghid xs ys hs n fa sa mm k j) := q_37
                refine lv_if_ne (tgt := 55) hx hb dX1_survey_40 (by decide) (fun c_40 => ?_) (fun c_40 => ?_)
                · have c_40 : (ghid xs ys hs n fa sa mm k j) = true := b2i_n0.mp c_40
                  refine lv_iinc (v := nI (j + 1)) (lv' := [(2, .int (nI (j + 1))), (1, .int (nI k)), (0, .ref h)]) hx hb dX1_survey_55 hl (k := 0) rfl (inc_nI _ 1) (by decide) rfl (fun ls hl => ?_)
                  refine lv_goto (tgt := 17) hx hb dX1_survey_58 (by decide) ?_
                  exact ih17 (j + 1) g (by omega) (by omega) (hg) (by rw [gbits, c_40]; exact hb2) (Or.inl c_31) _ _ hP hD hS _ (lv_sub hl [0, 1, 2] rfl)
                · have c_40 : (ghid xs ys hs n fa sa mm k j) = false := b2i_0.mp c_40
                  refine lv_aload_n hx hb dX1_survey_43 rfl (lv_at hl 2 rfl) ?_
                  refine va_get (D := G.1) (ci := 1) (v := .ref (q 9)) (C := RX1) (T := TX1) (N := 11) hx hb hts hin1 hown hK.1 hP 0 rfl rfl 9 (by decide) f35 (fun _ h9 => h9) rfl dX1_survey_44 ?_
                  refine lv_iload_n hx hb dX1_survey_47 rfl (lv_at hl 1 rfl) ?_
                  refine lv_dup2_11 hx hb dX1_survey_48 rfl rfl ?_
                  refine al_i hx hb hK.1 hP 7 0 rfl rfl (j := k) (by omega) (Nat.le_of_ble_eq_true rfl) dX1_survey_49 ?_
                  refine lv_iconst (v := 1) hx hb dX1_survey_50 (by decide) ?_
                  refine lv_iload_n hx hb dX1_survey_51 rfl (lv_at hl 0 rfl) ?_
                  refine lv_ishl hx hb dX1_survey_52 ?_
                  refine lv_ior hx hb dX1_survey_53 ?_
                  refine as_i hx hb hK.1 hP hD hS 7 0 rfl rfl (j := k) (by omega) (Nat.le_of_ble_eq_true rfl) dX1_survey_54 (fun H locs hP hD hS => ?_)
                  have hP : va_P G.1 vwCl [oB h 1 (oF1 v q), aI G (q 0) 10 xs, aI G (q 1) 10 ys, aI G (q 2) 10 hs, aI G (q 4) 8 fs, aI G (q 5) 8 ss, aZ G (q 8) 64 pk, aI G (q 9) 64 (upd g k ((g k) ||| (1 <<< ((nI j) &&& 31))))] H := hP
                  have hD : va_D A [oB h 1 (oF1 v q), aI G (q 0) 10 xs, aI G (q 1) 10 ys, aI G (q 2) 10 hs, aI G (q 4) 8 fs, aI G (q 5) 8 ss, aZ G (q 8) 64 pk, aI G (q 9) 64 (upd g k ((g k) ||| (1 <<< ((nI j) &&& 31))))] := hD
                  refine lv_iinc (v := nI (j + 1)) (lv' := [(2, .int (nI (j + 1))), (1, .int (nI k)), (0, .ref h)]) hx hb dX1_survey_55 hl (k := 0) rfl (inc_nI _ 1) (by decide) rfl (fun ls hl => ?_)
                  refine lv_goto (tgt := 17) hx hb dX1_survey_58 (by decide) ?_
                  exact ih17 (j + 1) (upd g k ((g k) ||| (1 <<< ((nI j) &&& 31)))) (by omega) (by omega) (fun i h => by rw [pk_un (by omega)]; exact hg i h) (by rw [pk_us, gbits, c_40, hb2]; rfl) (Or.inl c_31) _ _ hP hD hS _ (lv_sub hl [0, 1, 2] rfl)
        exact loop_17 _ 0 (upd f k 0) (Nat.lt_succ_self _) (Nat.zero_le _) (fun i h => by rw [pk_un (by omega)]; exact hi i h) (pk_us) (Or.inr rfl) _ _ hP hD hS _ (lv_sub hl [0, 1, 2] rfl)
  exact loop_2 _ 0 vis (Nat.lt_succ_self _) (Nat.zero_le _) (fun j h => absurd h (Nat.not_lt_zero j)) _ _ hP hD hS _ (lv_sub hl [0, 1] rfl)
