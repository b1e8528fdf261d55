/-! the law's loop and its start -/
theorem lp_lt {L i : Nat} (hL : L ≤ 3072) (hi : i ≤ 4000) (h : ¬ nI L - 6 < nI i) : i + 6 ≤ L := by
  rw [Int32.lt_iff_toInt_lt, show (6 : Int32) = nI 6 from rfl, off_eq L 6 (by omega) (by omega), nI_toInt (by omega)] at h
  omega
set_option maxHeartbeats 4000000 in
set_option maxRecDepth 100000 in
theorem law_loop {p : Program} {l : Launch} {e : Env} {s : State} {m : MethodId} {below : List Frame} {meth : Method} {c : Code} {b L : Nat} {xs : Nat → Int32} {G : kG} {hA : Nat} {a : Nat → Nat} {hM : Nat} {q : Nat → Nat} (hL : L ≤ 3072) (C0 : lw_At p s m meth c b L xs) (hK : kk G s) : ∀ (n i : Nat), i ≤ L → L + 1 ≤ i + n → LG p l e s m below meth c b G hA a hM q i (lw_Z below #[Value.ref b] s) 18 := by
  obtain ⟨hx, hb, hr, hml, hown, hts0, hX, hbl, hlocks, hgv⟩ := id C0
  have hbA : ¬ (fun q : Nat => s.heap.size ≤ q) b := Nat.not_le.mpr hbl
  intro n
  induction n with
  | zero => intro i h1 h2; exact absurd h2 (by omega)
  | succ n ih =>
    intro i hi0 hin A X M H locs ls hXI hMI hP hD hS hl
    refine lv_iload_n hx hb dL_law_18 rfl (lv_at hl 3 rfl) ?_
    refine lv_aload_n hx hb dL_law_19 rfl (lv_at hl 0 rfl) ?_
    refine va_slen hx hb hX hbl hbA hS dL_law_20 ?_
    refine top_i (y := nI L) rfl ?_
    refine lv_bipush (v := 6) hx hb dL_law_21 (by decide) ?_
    refine lv_isub hx hb dL_law_23 ?_
    refine lv_icmp_gt (tgt := 990) hx hb dL_law_24 (by decide) (fun c9 => ?_) (fun c9 => ?_)
    · refine lv_iconst (v := 1) hx hb dL_law_990 (by decide) ?_
      refine va_forget (fun q hq => hS.2.2 q hq) ?_
      refine W.widen (k := 600000) (n := 7302250) (Nat.le_of_ble_eq_true rfl) (Nat.le_of_ble_eq_true rfl) ?_
      exact lw_ret hx hb hr hlocks dL_law_991
    · have hi : i + 6 ≤ L := lp_lt hL (by omega) c9
      have K : LG p l e s m below meth c b G hA a hM q i (lw_Z below #[Value.ref b] s) 984 := by
        intro A X M H locs ls hXI hMI hP hD hS hl
        refine lv_iinc (v := nI (i + 6)) (lv' := [(3, .int (nI (i + 6))), (0, .ref b), (1, .ref hA), (2, .ref hM)]) hx hb dL_law_984 hl (k := 3) rfl (inc_nI _ 6) (by decide) rfl (fun ls hl => ?_)
        refine lv_goto (tgt := 18) hx hb dL_law_987 (by decide) ?_
        exact ih (i + 6) hi (by omega) A X M _ _ _ hXI hMI hP hD hS (lv_sub hl [1, 2, 3, 0] rfl)
      refine lv_aload_n hx hb dL_law_27 rfl (lv_at hl 0 rfl) ?_
      refine lv_iload_n hx hb dL_law_28 rfl (lv_at hl 3 rfl) ?_
      refine va_sld hx hb hX hbl hbA hS (vp_in_nI (by omega) (by omega)) dL_law_29 ?_
      refine lv_bipush (v := 31) hx hb dL_law_30 (by decide) ?_
      refine lv_iand hx hb dL_law_32 ?_
      generalize (xs (nI i).toNatClampNeg &&& 31) = z
      rcases sw28 z with rfl | rfl | rfl | rfl | rfl | rfl | rfl | rfl | rfl | rfl | rfl | rfl | rfl | rfl | rfl | rfl | rfl | rfl | rfl | rfl | rfl | rfl | rfl | rfl | rfl | rfl | rfl | rfl | c8
      · refine lv_tableIn (off := 127) (tgt := 160) hx hb dL_law_33 (by decide) (by decide) rfl (by decide) ?_
        exact lc_type C0 hK hi hL K A X M _ _ _ hXI hMI hP hD hS hl
      · refine lv_tableIn (off := 150) (tgt := 183) hx hb dL_law_33 (by decide) (by decide) rfl (by decide) ?_
        exact lc_clear C0 hK hi hL K A X M _ _ _ hXI hMI hP hD hS hl
      · refine lv_tableIn (off := 163) (tgt := 196) hx hb dL_law_33 (by decide) (by decide) rfl (by decide) ?_
        exact lc_land C0 hK hi hL K A X M _ _ _ hXI hMI hP hD hS hl
      · refine lv_tableIn (off := 176) (tgt := 209) hx hb dL_law_33 (by decide) (by decide) rfl (by decide) ?_
        exact lc_peak C0 hK hi hL K A X M _ _ _ hXI hMI hP hD hS hl
      · refine lv_tableIn (off := 209) (tgt := 242) hx hb dL_law_33 (by decide) (by decide) rfl (by decide) ?_
        exact lc_ridge C0 hK hi hL K A X M _ _ _ hXI hMI hP hD hS hl
      · refine lv_tableIn (off := 242) (tgt := 275) hx hb dL_law_33 (by decide) (by decide) rfl (by decide) ?_
        exact lc_notes C0 hK hi hL K A X M _ _ _ hXI hMI hP hD hS hl
      · refine lv_tableIn (off := 275) (tgt := 308) hx hb dL_law_33 (by decide) (by decide) rfl (by decide) ?_
        exact lc_erases C0 hK hi hL K A X M _ _ _ hXI hMI hP hD hS hl
      · refine lv_tableIn (off := 298) (tgt := 331) hx hb dL_law_33 (by decide) (by decide) rfl (by decide) ?_
        exact lc_mends C0 hK hi hL K A X M _ _ _ hXI hMI hP hD hS hl
      · refine lv_tableIn (off := 341) (tgt := 374) hx hb dL_law_33 (by decide) (by decide) rfl (by decide) ?_
        exact lc_sketches C0 hK hi hL K A X M _ _ _ hXI hMI hP hD hS hl
      · refine lv_tableIn (off := 384) (tgt := 417) hx hb dL_law_33 (by decide) (by decide) rfl (by decide) ?_
        exact lc_undo C0 hK hi hL K A X M _ _ _ hXI hMI hP hD hS hl
      · refine lv_tableIn (off := 397) (tgt := 430) hx hb dL_law_33 (by decide) (by decide) rfl (by decide) ?_
        exact lc_seen C0 hK hi hL K A X M _ _ _ hXI hMI hP hD hS hl
      · refine lv_tableIn (off := 440) (tgt := 473) hx hb dL_law_33 (by decide) (by decide) rfl (by decide) ?_
        exact lc_bearing C0 hK hi hL K A X M _ _ _ hXI hMI hP hD hS hl
      · refine lv_tableIn (off := 483) (tgt := 516) hx hb dL_law_33 (by decide) (by decide) rfl (by decide) ?_
        exact lc_stands C0 hK hi hL K A X M _ _ _ hXI hMI hP hD hS hl
      · refine lv_tableIn (off := 526) (tgt := 559) hx hb dL_law_33 (by decide) (by decide) rfl (by decide) ?_
        exact lc_panorama C0 hK hi hL K A X M _ _ _ hXI hMI hP hD hS hl
      · refine lv_tableIn (off := 569) (tgt := 602) hx hb dL_law_33 (by decide) (by decide) rfl (by decide) ?_
        exact lc_notch C0 hK hi hL K A X M _ _ _ hXI hMI hP hD hS hl
      · refine lv_tableIn (off := 602) (tgt := 635) hx hb dL_law_33 (by decide) (by decide) rfl (by decide) ?_
        exact lc_fits C0 hK hi hL K A X M _ _ _ hXI hMI hP hD hS hl
      · refine lv_tableIn (off := 665) (tgt := 698) hx hb dL_law_33 (by decide) (by decide) rfl (by decide) ?_
        exact lc_score C0 hK hi hL K A X M _ _ _ hXI hMI hP hD hS hl
      · refine lv_tableIn (off := 708) (tgt := 741) hx hb dL_law_33 (by decide) (by decide) rfl (by decide) ?_
        exact lc_wholes C0 hK hi hL K A X M _ _ _ hXI hMI hP hD hS hl
      · refine lv_tableIn (off := 721) (tgt := 754) hx hb dL_law_33 (by decide) (by decide) rfl (by decide) ?_
        exact lc_whole C0 hK hi hL K A X M _ _ _ hXI hMI hP hD hS hl
      · refine lv_tableIn (off := 754) (tgt := 787) hx hb dL_law_33 (by decide) (by decide) rfl (by decide) ?_
        exact lc_best C0 hK hi hL K A X M _ _ _ hXI hMI hP hD hS hl
      · refine lv_tableIn (off := 777) (tgt := 810) hx hb dL_law_33 (by decide) (by decide) rfl (by decide) ?_
        exact lc_doubt C0 hK hi hL K A X M _ _ _ hXI hMI hP hD hS hl
      · refine lv_tableIn (off := 790) (tgt := 823) hx hb dL_law_33 (by decide) (by decide) rfl (by decide) ?_
        exact lc_odd C0 hK hi hL K A X M _ _ _ hXI hMI hP hD hS hl
      · refine lv_tableIn (off := 803) (tgt := 836) hx hb dL_law_33 (by decide) (by decide) rfl (by decide) ?_
        exact lc_clouds C0 hK hi hL K A X M _ _ _ hXI hMI hP hD hS hl
      · refine lv_tableIn (off := 856) (tgt := 889) hx hb dL_law_33 (by decide) (by decide) rfl (by decide) ?_
        exact lc_forget C0 hK hi hL K A X M _ _ _ hXI hMI hP hD hS hl
      · refine lv_tableIn (off := 869) (tgt := 902) hx hb dL_law_33 (by decide) (by decide) rfl (by decide) ?_
        exact lc_unseen C0 hK hi hL K A X M _ _ _ hXI hMI hP hD hS hl
      · refine lv_tableIn (off := 882) (tgt := 915) hx hb dL_law_33 (by decide) (by decide) rfl (by decide) ?_
        exact lc_keep C0 hK hi hL K A X M _ _ _ hXI hMI hP hD hS hl
      · refine lv_tableIn (off := 905) (tgt := 938) hx hb dL_law_33 (by decide) (by decide) rfl (by decide) ?_
        exact lc_back C0 hK hi hL K A X M _ _ _ hXI hMI hP hD hS hl
      · refine lv_tableIn (off := 928) (tgt := 961) hx hb dL_law_33 (by decide) (by decide) rfl (by decide) ?_
        exact lc_count C0 hK hi hL K A X M _ _ _ hXI hMI hP hD hS hl
      · refine lv_tableOut (tgt := 984) hx hb dL_law_33 c8 (by decide) ?_
        exact K A X M _ _ _ hXI hMI hP hD hS hl
